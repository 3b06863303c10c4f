theorem upR_n {S : Mm} {o o' : Nat} {g : Nat → Int32} (h : o' ≠ o) : upR S o g o' = S o' := by simp [upR, h]
theorem upR_s {S : Mm} {o : Nat} {g : Nat → Int32} : upR S o g o = g := by simp [upR]
set_option maxRecDepth 100000 in
theorem d_X10_sample_hh1 (S : Mm) (L : Int64)  (K : Int) (hD : iD S K) : vp_in (S 0 25) 8 := by
  exact hD.2.2.1
set_option maxRecDepth 100000 in
theorem d_X10_sample_hh2 (S : Mm) (L : Int64)  (K : Int) (hD : iD S K) : iV (fX10_goOnTracks S) (0 : Int32).toNatClampNeg := by
  exact (gt_iD hD).1 _ (by decide)
set_option maxRecDepth 100000 in
theorem d_X10_sample_hh3 (S : Mm) (L : Int64)  (K : Int) (hD : iD S K) : ∀ i, i < 4 → iJ (fX10_goOnTracks S) i := by
  exact (gt_iD hD).2.1
set_option maxRecDepth 100000 in
theorem d_X10_sample_hh4 (S : Mm) (L : Int64)  (K : Int) (hD : iD S K) : iV (fX10_gives (fX10_goOnTracks S) (0 : Int32)) (1 : Int32).toNatClampNeg := by
  exact (gv_iD (p := 0) (vp_in_lit (by decide)) (gt_iD hD)).1 _ (by decide)
set_option maxRecDepth 100000 in
theorem d_X10_sample_hh5 (S : Mm) (L : Int64)  (K : Int) (hD : iD S K) : ∀ i, i < 4 → iJ (fX10_gives (fX10_goOnTracks S) (0 : Int32)) i := by
  exact (gv_iD (p := 0) (vp_in_lit (by decide)) (gt_iD hD)).2.1
set_option maxRecDepth 100000 in
theorem d_X10_sample_hh6 (S : Mm) (L : Int64)  (K : Int) (hD : iD S K) : iV (fX10_gives (fX10_gives (fX10_goOnTracks S) (0 : Int32)) (1 : Int32)) (2 : Int32).toNatClampNeg := by
  exact (gv_iD (p := 1) (vp_in_lit (by decide)) (gv_iD (p := 0) (vp_in_lit (by decide)) (gt_iD hD))).1 _ (by decide)
set_option maxRecDepth 100000 in
theorem d_X10_sample_hh7 (S : Mm) (L : Int64)  (K : Int) (hD : iD S K) : ∀ i, i < 4 → iJ (fX10_gives (fX10_gives (fX10_goOnTracks S) (0 : Int32)) (1 : Int32)) i := by
  exact (gv_iD (p := 1) (vp_in_lit (by decide)) (gv_iD (p := 0) (vp_in_lit (by decide)) (gt_iD hD))).2.1
set_option maxRecDepth 100000 in
theorem d_X10_sample_hh8 (S : Mm) (L : Int64)  (K : Int) (hD : iD S K) : iV (mX10_sample_2 S L) (3 : Int32).toNatClampNeg := by
  unfold mX10_sample_2
  exact (gv_iD (p := 2) (vp_in_lit (by decide)) (gv_iD (p := 1) (vp_in_lit (by decide)) (gv_iD (p := 0) (vp_in_lit (by decide)) (gt_iD hD)))).1 _ (by decide)
set_option maxRecDepth 100000 in
theorem d_X10_sample_hh9 (S : Mm) (L : Int64)  (K : Int) (hD : iD S K) : ∀ i, i < 4 → iJ (mX10_sample_2 S L) i := by
  unfold mX10_sample_2
  exact (gv_iD (p := 2) (vp_in_lit (by decide)) (gv_iD (p := 1) (vp_in_lit (by decide)) (gv_iD (p := 0) (vp_in_lit (by decide)) (gt_iD hD)))).2.1
set_option maxRecDepth 100000 in
theorem d_X10_sample_hh10 (S : Mm) (L : Int64)  (K : Int) (hD : iD S K) : ¬ ((fX10_gives (mX10_sample_2 S L) (3 : Int32)) 0 16 ≤ 0) → ¬ ((fX10_gives (mX10_sample_2 S L) (3 : Int32)) 0 16) - 1 < 0 := by
  intro h
  have hL : rg ((fX10_gives (mX10_sample_2 S L) (3 : Int32)) 0 16) 0 200 := (gv_iD (p := 3) (vp_in_lit (by decide)) (gv_iD (p := 2) (vp_in_lit (by decide)) (gv_iD (p := 1) (vp_in_lit (by decide)) (gv_iD (p := 0) (vp_in_lit (by decide)) (gt_iD hD))))).2.2.2.1
  exact (len_ok hL h).1
set_option maxRecDepth 100000 in
theorem d_X10_sample_hh11 (S : Mm) (L : Int64)  (K : Int) (hD : iD S K) : ¬ ((fX10_gives (mX10_sample_2 S L) (3 : Int32)) 0 16 ≤ 0) → (1 : Int32).toNatClampNeg + (((fX10_gives (mX10_sample_2 S L) (3 : Int32)) 0 16) - 1).toNatClampNeg ≤ 200 := by
  intro h
  have hL : rg ((fX10_gives (mX10_sample_2 S L) (3 : Int32)) 0 16) 0 200 := (gv_iD (p := 3) (vp_in_lit (by decide)) (gv_iD (p := 2) (vp_in_lit (by decide)) (gv_iD (p := 1) (vp_in_lit (by decide)) (gv_iD (p := 0) (vp_in_lit (by decide)) (gt_iD hD))))).2.2.2.1
  exact (len_ok hL h).2.1
set_option maxRecDepth 100000 in
theorem d_X10_sample_hh12 (S : Mm) (L : Int64)  (K : Int) (hD : iD S K) : ¬ ((fX10_gives (mX10_sample_2 S L) (3 : Int32)) 0 16 ≤ 0) → (0 : Int32).toNatClampNeg + (((fX10_gives (mX10_sample_2 S L) (3 : Int32)) 0 16) - 1).toNatClampNeg ≤ 200 := by
  intro h
  have hL : rg ((fX10_gives (mX10_sample_2 S L) (3 : Int32)) 0 16) 0 200 := (gv_iD (p := 3) (vp_in_lit (by decide)) (gv_iD (p := 2) (vp_in_lit (by decide)) (gv_iD (p := 1) (vp_in_lit (by decide)) (gv_iD (p := 0) (vp_in_lit (by decide)) (gt_iD hD))))).2.2.2.1
  exact (len_ok hL h).2.2.1
set_option maxRecDepth 100000 in
theorem d_X10_sample_hh13 (S : Mm) (L : Int64)  (K : Int) (hD : iD S K) : ¬ ((fX10_gives (mX10_sample_2 S L) (3 : Int32)) 0 16 ≤ 0) → vp_in (((mX10_sample_5 S L) 0 16) - 1) 200 := by
  intro h
  have hL : rg ((fX10_gives (mX10_sample_2 S L) (3 : Int32)) 0 16) 0 200 := (gv_iD (p := 3) (vp_in_lit (by decide)) (gv_iD (p := 2) (vp_in_lit (by decide)) (gv_iD (p := 1) (vp_in_lit (by decide)) (gv_iD (p := 0) (vp_in_lit (by decide)) (gt_iD hD))))).2.2.2.1
  have e : (mX10_sample_5 S L) 0 16 = (fX10_gives (mX10_sample_2 S L) (3 : Int32)) 0 16 := by
    unfold mX10_sample_5
    rw [upR_n (by decide)]
  rw [e]
  exact (len_ok hL h).2.2.2
theorem c1_X10_sample (l : Launch) (G : va_G) (cA : ClassId) (zq n : Nat) (hn : 18 ≤ n) (a : Nat → Nat) (ha : apart n a) (S : Mm) (L : Int64) (sz : Nat)   (K : Int) (hD : iD S K) : Met l yX10_sample wsX10_sample ({ frames := 3, cells := 4, slots := 48, locals := 73 } : Room) (va_Pc [.ref (a 0)] (gI G cA zq n a (cD a cA) S L sz)) (gQi (rX10_sample S L) G n a (cD a cA) (fX10_sample S L) (lX10_sample S L) sz) 4 48 (mA n a sz) :=
  c_X10_sample l G cA zq n hn a ha S L sz   (d_X10_sample_hh1 S L  K hD) (d_X10_sample_hh2 S L  K hD) (d_X10_sample_hh3 S L  K hD) (d_X10_sample_hh4 S L  K hD) (d_X10_sample_hh5 S L  K hD) (d_X10_sample_hh6 S L  K hD) (d_X10_sample_hh7 S L  K hD) (d_X10_sample_hh8 S L  K hD) (d_X10_sample_hh9 S L  K hD) (d_X10_sample_hh10 S L  K hD) (d_X10_sample_hh11 S L  K hD) (d_X10_sample_hh12 S L  K hD) (d_X10_sample_hh13 S L  K hD)

theorem s4_iD {S : Mm} {L : Int64} {K : Int} (hD : iD S K) : iD (fX10_gives (mX10_sample_2 S L) (3 : Int32)) K :=
  gv_iD (p := 3) (vp_in_lit (by decide)) (gv_iD (p := 2) (vp_in_lit (by decide)) (gv_iD (p := 1) (vp_in_lit (by decide)) (gv_iD (p := 0) (vp_in_lit (by decide)) (gt_iD hD))))
/-- a sample leaves the rows but the desk's own, the gates, the delay, what was heard -/
theorem s9_fr {S : Mm} {L : Int64} {o : Nat} (h14 : o ≠ 14) : jX10_sample_9 S L o = fX10_gives (mX10_sample_2 S L) (3 : Int32) o := by
  unfold jX10_sample_9
  split
  · rfl
  · unfold mX10_sample_7 mX10_sample_5
    rw [up2_n h14, upR_n h14]
theorem s19_fr {S : Mm} {L : Int64} {o : Nat} (h0 : o ≠ 0) (h17 : o ≠ 17) : mX10_sample_19 S L o = jX10_sample_9 S L o := by
  unfold mX10_sample_19 mX10_sample_18 mX10_sample_17 mX10_sample_14 mX10_sample_12
  rw [up2_n h17, upR_n h17, up2_n h0, up2_n h0, up2_n h0, up2_n h0]
theorem s19_0 {S : Mm} {L : Int64} {k : Nat} (h30 : k ≠ 30) (h31 : k ≠ 31) (h32 : k ≠ 32) (h33 : k ≠ 33) : mX10_sample_19 S L 0 k = jX10_sample_9 S L 0 k := by
  unfold mX10_sample_19 mX10_sample_18 mX10_sample_17
  rw [up2_n (by decide), upR_n (by decide), up2_k h30, up2_k h31]
  unfold mX10_sample_14
  rw [up2_k h33]
  unfold mX10_sample_12
  rw [up2_k h32]
theorem s21_fr {S : Mm} {L : Int64} {o : Nat} (h12 : o ≠ 12) : jX10_sample_21 S L o = up2 (mX10_sample_19 S L) 0 28 (((mX10_sample_19 S L) 0 28) + 1) o := by
  unfold jX10_sample_21 mX10_sample_20
  split
  · rfl
  · rw [up2_n h12]
theorem s27_fr {S : Mm} {L : Int64} {o : Nat} (h12 : o ≠ 12) : jX10_sample_27 S L o = up2 (mX10_sample_19 S L) 0 28 (((mX10_sample_19 S L) 0 28) + 1) o := by
  have e23 : jX10_sample_23 S L o = jX10_sample_21 S L o := by
    unfold jX10_sample_23 mX10_sample_22
    split
    · rfl
    · rw [up2_n h12]
  have e25 : jX10_sample_25 S L o = jX10_sample_23 S L o := by
    unfold jX10_sample_25 mX10_sample_24
    split
    · rfl
    · rw [up2_n h12]
  unfold jX10_sample_27 mX10_sample_26
  split
  · rw [e25, e23, s21_fr h12]
  · rw [up2_n h12, e25, e23, s21_fr h12]
theorem iD_mk {S S' : Mm} {K K' : Int} (h : iD S K) (hf : ∀ o, o = 2 ∨ o = 5 ∨ o = 6 ∨ o = 8 ∨ o = 9 ∨ o = 15 ∨ o = 16 → S' o = S o) (h25 : vp_in (S' 0 25) 8) (h16 : rg (S' 0 16) 0 200) (h28 : rg (S' 0 28) 0 K') : iD S' K' := by
  obtain ⟨hV, hI, -, -, -, ht, hw⟩ := h
  refine ⟨fun v hv => ?_, fun i hi => iJ_fr (hf 2 (by decide)) (hI i hi), h25, h16, h28, ?_, ?_⟩
  · have q := hV v hv
    unfold iV at q ⊢
    rw [hf 5 (by decide), hf 6 (by decide), hf 8 (by decide), hf 9 (by decide)]
    exact q
  · rw [hf 15 (by decide)]; exact ht
  · rw [hf 16 (by decide)]; exact hw
theorem rg_step {x : Int32} (h : vp_in x 8) : vp_in ((x + 1) - (x + 1) / 8 * 8) 8 := by
  obtain ⟨i, hi, e⟩ := vp_in_of h (by decide)
  rw [e, nI_1, show (8 : Int32) = nI 8 from rfl, pk_rem (by omega) (by decide) (by decide)]
  exact vp_in_nI (Nat.mod_lt _ (by decide)) (by decide)
theorem s27_iD {S : Mm} {L : Int64} {K : Int} (h : iD S K) (hK : K < 2000000000) : iD (jX10_sample_27 S L) (K + 1) := by
  obtain ⟨hV, hI, h25, h16, h28, ht, hw⟩ := s4_iD (L := L) h
  have f : ∀ o, o ≠ 0 → o ≠ 12 → o ≠ 14 → o ≠ 17 → jX10_sample_27 S L o = fX10_gives (mX10_sample_2 S L) (3 : Int32) o := fun o h0 h12 h14 h17 => by
    rw [s27_fr h12, up2_n h0, s19_fr h0 h17, s9_fr h14]
  have f0 : ∀ k, k ≠ 28 → k ≠ 30 → k ≠ 31 → k ≠ 32 → k ≠ 33 → jX10_sample_27 S L 0 k = fX10_gives (mX10_sample_2 S L) (3 : Int32) 0 k := fun k h28 h30 h31 h32 h33 => by
    rw [s27_fr (by decide), up2_k h28, s19_0 h30 h31 h32 h33, s9_fr (by decide)]
  refine ⟨fun v hv => ?_, fun i hi => iJ_fr (f 2 (by decide) (by decide) (by decide) (by decide)) (hI i hi), ?_, ?_, ?_, ?_, ?_⟩
  · have q := hV v hv
    unfold iV at q ⊢
    rw [f 5 (by decide) (by decide) (by decide) (by decide), f 6 (by decide) (by decide) (by decide) (by decide), f 8 (by decide) (by decide) (by decide) (by decide), f 9 (by decide) (by decide) (by decide) (by decide)]
    exact q
  · rw [f0 25 (by decide) (by decide) (by decide) (by decide) (by decide)]; exact h25
  · rw [f0 16 (by decide) (by decide) (by decide) (by decide) (by decide)]; exact h16
  · rw [s27_fr (by decide), up2_s]
    show rg (upd _ 28 _ 28) 0 (K + 1)
    rw [show ∀ (g : Nat → Int32) (x : Int32), upd g 28 x 28 = x from fun g x => by simp [upd], s19_0 (by decide) (by decide) (by decide) (by decide), s9_fr (by decide)]
    have h1 : rg (1 : Int32) 1 1 := by unfold rg; decide
    exact rg_w (rg_add h28 h1 (by omega) (by omega)).1 (by omega) (by omega)
  · rw [f 15 (by decide) (by decide) (by decide) (by decide)]; exact ht
  · rw [f 16 (by decide) (by decide) (by decide) (by decide)]; exact hw
theorem sm_iD {S : Mm} {L : Int64} {K : Int} (h : iD S K) (hK : K < 2000000000) : iD (fX10_sample S L) (K + 1) := by
  have h27 := s27_iD (L := L) h hK
  unfold fX10_sample
  split
  · exact h27
  split
  · unfold mX10_sample_29 mX10_sample_28
    have ha := iD_0 (k := 26) (x := ((jX10_sample_27 S L) 0 26) + 1) h27 (by decide) (by decide) (by decide)
    have hb := iD_0 (k := 26) (x := 0) ha (by decide) (by decide) (by decide)
    refine iD_mk hb (fun o ho => up2_n (by omega)) ?_ ?_ ?_
    · rw [up2_s, show ∀ (g : Nat → Int32) (x : Int32), upd g 25 x 25 = x from fun g x => by simp [upd]]
      exact rg_step hb.2.2.1
    · rw [up2_k (by decide)]; exact hb.2.2.2.1
    · rw [up2_k (by decide)]; exact hb.2.2.2.2.1
  · exact iD_0 h27 (by decide) (by decide) (by decide)
