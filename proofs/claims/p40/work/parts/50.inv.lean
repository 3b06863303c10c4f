/-! voices stay within their limits -/
def VI (S : Mm) (o : Nat) : Prop := vp_in (S o 0) 5 ∧ rg (S o 1) 0 1000000 ∧ (S o 0 = 0 → S o 1 = 0) ∧ rg (S o 5) 0 65535 ∧ rg (S o 6) 0 65535 ∧ rg (S o 7) (-4000) 4000 ∧ rg (S o 8) (-4000) 4000
def JI1 (S : Mm) (i : Nat) : Prop := rg (S i 4) 1 400 ∧ rg (S i 5) 1 400 ∧ rg (S i 6) 0 1000 ∧ rg (S i 7) 1 400
def JI (S : Mm) : Prop := ∀ i, 14 ≤ i → i < 18 → JI1 S i
def VS (S : Mm) : Prop := ∀ v, v < 4 → VI S (22 + v)
def Tr (s t : Int32) : Prop := t = s ∨ (s = 1 ∧ t = 2) ∨ (s = 2 ∧ t = 3) ∨ (s = 4 ∧ t = 0)
theorem VI_row {S S' : Mm} {o : Nat} (h : S' o = S o) (hv : VI S o) : VI S' o := by
  unfold VI
  rw [h]
  exact hv
theorem JI_fr {S S' : Mm} (h : ∀ i, 14 ≤ i → i < 18 → S' i = S i) (hj : JI S) : JI S' := by
  intro i h1 h2
  unfold JI1
  rw [h i h1 h2]
  exact hj i h1 h2
theorem VI_k {S S' : Mm} {o : Nat} (h : ∀ k, k ≠ 9 → S' o k = S o k) (hv : VI S o) : VI S' o := by
  unfold VI
  rw [h 0 (by decide), h 1 (by decide), h 5 (by decide), h 6 (by decide), h 7 (by decide), h 8 (by decide)]
  exact hv
theorem rg_z {a b : Int} (h1 : a ≤ 0) (h2 : 0 ≤ b) : rg (0 : Int32) a b := by
  have e : (0 : Int32).toInt = 0 := by decide
  exact ⟨by rw [e]; exact h1, by rw [e]; exact h2⟩
theorem kept_rg {x c : Int32} {C : Int} (hc : c.toInt = C) (h0 : 0 ≤ C) : rg (rX9_kept x c) (-C) C := by
  have h1 : C < 2147483648 := by
    have := Int32.toInt_lt c
    omega
  have hn : (-c).toInt = -C := by
    rw [Int32.toInt_neg, hc]
    exact bm (by omega) (by omega)
  unfold rX9_kept rg
  by_cases a : x < c
  · rw [if_pos a]
    rw [Int32.lt_iff_toInt_lt, hc] at a
    by_cases b : -c < x
    · rw [if_pos b]
      rw [Int32.lt_iff_toInt_lt, hn] at b
      omega
    · rw [if_neg b, hn]
      omega
  · rw [if_neg a]
    by_cases b : -c < c
    · rw [if_pos b, hc]
      omega
    · rw [if_neg b, hn]
      omega
theorem xr_nn (x : Int32) : 0 ≤ x ^^^ 65536 ↔ 0 ≤ x.toInt := by
  rw [Int32.le_iff_toInt_le]
  have e0 : (0 : Int32).toInt = 0 := by decide
  rw [e0]
  have h1 : (x ^^^ 65536).toBitVec.msb = x.toBitVec.msb := by
    rw [Int32.toBitVec_xor, BitVec.msb_xor]
    have : (65536 : Int32).toBitVec.msb = false := by decide
    rw [this, Bool.xor_false]
  rw [BitVec.msb_eq_toInt, BitVec.msb_eq_toInt] at h1
  have h2 := decide_eq_decide.mp h1
  show 0 ≤ (x ^^^ 65536).toBitVec.toInt ↔ 0 ≤ x.toBitVec.toInt
  omega
theorem rem65 (x : Int32) : (0 ≤ x.toInt → rg (x - x / 65536 * 65536) 0 65535) ∧ (x.toInt < 0 → rg (x - x / 65536 * 65536) (-65535) 0) := by
  have e6 : (65536 : Int32).toInt = 65536 := by decide
  have hb1 : x.toInt < 2147483648 := Int32.toInt_lt x
  have hb2 : -2147483648 ≤ x.toInt := Int32.le_toInt x
  have ed : (x / 65536).toInt = x.toInt.tdiv 65536 := by
    rw [Int32.toInt_div_of_ne_right _ _ (by decide), e6]
  have key : ∀ d : Int, x.toInt.tdiv 65536 = d → -65536 < x.toInt - d * 65536 → x.toInt - d * 65536 < 65536 → -2147483648 ≤ d * 65536 → d * 65536 < 2147483648 → (x - x / 65536 * 65536).toInt = x.toInt - d * 65536 := by
    intro d hd k1 k2 k3 k4
    have em : (x / 65536 * 65536).toInt = d * 65536 := by
      rw [Int32.toInt_mul, ed, hd, e6]
      exact bm k3 k4
    rw [Int32.toInt_sub, em]
    exact bm (by omega) (by omega)
  refine ⟨fun h => ?_, fun h => ?_⟩
  · have e1 : x.toInt.tdiv 65536 = x.toInt / 65536 := Int.tdiv_eq_ediv_of_nonneg h
    have e2 := key _ e1 (by omega) (by omega) (by omega) (by omega)
    unfold rg
    rw [e2]
    omega
  · have e1 : x.toInt.tdiv 65536 = -((-x.toInt) / 65536) := by
      have := Int.neg_tdiv (a := -x.toInt) (b := 65536)
      rw [Int.neg_neg] at this
      rw [this, Int.tdiv_eq_ediv_of_nonneg (by omega)]
    have e2 := key _ e1 (by omega) (by omega) (by omega) (by omega)
    unfold rg
    rw [e2]
    omega
theorem fm_rg (x : Int32) : rg (rJ9_floorMod_7cf53 x 65536) 0 65535 := by
  unfold rJ9_floorMod_7cf53
  by_cases a : 0 ≤ x ^^^ 65536
  · rw [if_pos a]
    exact (rem65 x).1 ((xr_nn x).mp a)
  · rw [if_neg a]
    have h := (rem65 x).2 (by
      have := mt (xr_nn x).mpr a
      omega)
    by_cases b : x - x / 65536 * 65536 = 0
    · rw [if_pos b, b]
      exact rg_z (by decide) (by decide)
    · rw [if_neg b]
      have hz : ¬ (x - x / 65536 * 65536).toInt = 0 := fun q => b (Int32.toInt_inj.mp (q.trans (by decide)))
      have e6 : (65536 : Int32).toInt = 65536 := by decide
      generalize x - x / 65536 * 65536 = y at h hz
      have h6 : rg (65536 : Int32) 65536 65536 := ⟨by rw [e6]; decide, by rw [e6]; decide⟩
      obtain ⟨-, e⟩ := rg_add h h6 (by decide) (by decide)
      unfold rg at h ⊢
      rw [e, e6]
      omega
theorem dv_rg {x y : Int32} {A B : Int} (hx : rg x 0 A) (hy : rg y 1 B) : rg (x / y) 0 A := by
  unfold rg at hx hy ⊢
  have hne : y ≠ -1 := by
    intro q
    rw [q] at hy
    have : (-1 : Int32).toInt = -1 := by decide
    omega
  rw [Int32.toInt_div_of_ne_right _ _ hne, Int.tdiv_eq_ediv_of_nonneg hx.1]
  refine ⟨Int.ediv_nonneg hx.1 (by omega), ?_⟩
  have := Int.ediv_le_self y.toInt hx.1
  omega
theorem rg_c {c : Int32} {C : Int} (h : c.toInt = C) : rg c C C := ⟨by rw [h]; exact Int.le_refl _, by rw [h]; exact Int.le_refl _⟩
theorem LV_ok {s l a b c d : Int32} (hs : s = 1 ∨ s = 2 ∨ s = 3 ∨ s = 4) (hl : rg l 0 1000000) (ha : rg a 1 400) (hb : rg b 1 400) (hc : rg c 0 1000) (hd : rg d 1 400) : rg (LV s l a b c d).2 0 1000000 ∧ ((LV s l a b c d).1 = 0 → (LV s l a b c d).2 = 0) ∧ Tr s (LV s l a b c d).1 := by
  have eM : (1000000 : Int32).toInt = 1000000 := by decide
  have e1 : (1 : Int32).toInt = 1 := by decide
  have eK : (1000 : Int32).toInt = 1000 := by decide
  have e0 : (0 : Int32).toInt = 0 := by decide
  have hM := rg_c eM
  have hM0 : rg (1000000 : Int32) 0 1000000 := rg_w hM (by decide) (by decide)
  have eh : (1000 * c).toInt = 1000 * c.toInt := by
    rw [Int32.toInt_mul, eK]
    unfold rg at hc
    exact bm (by omega) (by omega)
  have hh : rg (1000 * c) 0 1000000 := by
    unfold rg at hc ⊢
    omega
  unfold LV
  rcases hs with rfl | rfl | rfl | rfl
  · rw [if_pos rfl]
    have hq := dv_rg hM0 ha
    obtain ⟨-, e⟩ := rg_add hl hq (by decide) (by decide)
    by_cases k : l + 1000000 / a < 1000000
    · rw [if_pos k]
      rw [Int32.lt_iff_toInt_lt, eM] at k
      refine ⟨?_, fun q => absurd (show (1 : Int32) = 0 from q) (by decide), Or.inl rfl⟩
      dsimp only
      unfold rg at hl hq ⊢
      omega
    · rw [if_neg k]
      exact ⟨hM0, fun q => absurd (show (2 : Int32) = 0 from q) (by decide), Or.inr (Or.inl ⟨rfl, rfl⟩)⟩
  · rw [if_neg (by decide), if_pos rfl]
    have hr : rg (1000000 - 1000 * c) 0 1000000 := rg_w (rg_sub hM hh (by decide) (by decide)).1 (by decide) (by decide)
    have hq := dv_rg hr hb
    obtain ⟨h2, e2⟩ := rg_add hq (rg_c e1) (by decide) (by decide)
    obtain ⟨h3, e3⟩ := rg_sub hl h2 (by decide) (by decide)
    by_cases k : 1000 * c < l - ((1000000 - 1000 * c) / b + 1)
    · rw [if_pos k]
      rw [Int32.lt_iff_toInt_lt] at k
      refine ⟨?_, fun q => absurd (show (2 : Int32) = 0 from q) (by decide), Or.inl rfl⟩
      dsimp only
      unfold rg at hl hq hh ⊢
      omega
    · rw [if_neg k]
      exact ⟨hh, fun q => absurd (show (3 : Int32) = 0 from q) (by decide), Or.inr (Or.inr (Or.inl ⟨rfl, rfl⟩))⟩
  · rw [if_neg (by decide), if_neg (by decide), if_pos rfl]
    exact ⟨hh, fun q => absurd (show (3 : Int32) = 0 from q) (by decide), Or.inl rfl⟩
  · rw [if_neg (by decide), if_neg (by decide), if_neg (by decide)]
    have hq := dv_rg hM0 hd
    obtain ⟨-, e⟩ := rg_sub hl hq (by decide) (by decide)
    by_cases k : 0 < l - 1000000 / d
    · rw [if_pos k]
      rw [Int32.lt_iff_toInt_lt, e0] at k
      refine ⟨?_, fun q => absurd (show (4 : Int32) = 0 from q) (by decide), Or.inl rfl⟩
      dsimp only
      unfold rg at hl hq ⊢
      omega
    · rw [if_neg k]
      exact ⟨rg_z (by decide) (by decide), fun _ => rfl, Or.inr (Or.inr (Or.inr ⟨rfl, rfl⟩))⟩
theorem rg_nz {x : Int32} {b : Int} (h : rg x 1 b) : ¬ x = 0 := by
  intro q
  rw [q] at h
  have e0 : (0 : Int32).toInt = 0 := by decide
  have := h.1
  omega
theorem VI_give {S : Mm} {o o1 : Nat} {c : Int32} (hv : VI S o) (hj : JI1 S o1) (hne : o1 ≠ o) : VI (fX7_give S o o1 c) o ∧ Tr (S o 0) (fX7_give S o o1 c o 0) := by
  by_cases h0 : S o 0 = 0
  · have e : fX7_give S o o1 c = S := by
      unfold fX7_give
      rw [ml_0 h0, if_pos h0]
    rw [e]
    exact ⟨hv, Or.inl rfl⟩
  · have hs : S o 0 = 1 ∨ S o 0 = 2 ∨ S o 0 = 3 ∨ S o 0 = 4 := (st_cases hv.1).resolve_left h0
    have hm := ml_LV (o1 := o1) (rg_nz hj.1) (rg_nz hj.2.1) (rg_nz hj.2.2.2) hs
    obtain ⟨k1, k2, k3⟩ := LV_ok hs hv.2.1 hj.1 hj.2.1 hj.2.2.1 hj.2.2.2
    have k0 := LV_st (l := S o 1) (a := S o1 4) (b := S o1 5) (c := S o1 6) (d := S o1 7) hs
    have m0 : fX7_moveLevel S o o1 o 0 = (LV (S o 0) (S o 1) (S o1 4) (S o1 5) (S o1 6) (S o1 7)).1 := congrArg Prod.fst hm
    have m1 : fX7_moveLevel S o o1 o 1 = (LV (S o 0) (S o 1) (S o1 4) (S o1 5) (S o1 6) (S o1 7)).2 := congrArg Prod.snd hm
    rw [← m0, ← m1] at k2
    rw [← m0] at k0 k3
    rw [← m1] at k1
    by_cases hU : fX7_moveLevel S o o1 o 0 = 0
    · have e : fX7_give S o o1 c = fX7_moveLevel S o o1 := by
        unfold fX7_give
        rw [if_pos hU]
      rw [e]
      refine ⟨⟨k0, k1, k2, ?_, ?_, ?_, ?_⟩, k3⟩
      · rw [mlv_k (by decide) (by decide)]; exact hv.2.2.2.1
      · rw [mlv_k (by decide) (by decide)]; exact hv.2.2.2.2.1
      · rw [mlv_k (by decide) (by decide)]; exact hv.2.2.2.2.2.1
      · rw [mlv_k (by decide) (by decide)]; exact hv.2.2.2.2.2.2
    · have e : fX7_give S o o1 c = mX7_give_1 S o o1 c := by
        unfold fX7_give
        rw [if_neg hU]
      have e0 : mX7_give_1 S o o1 c o 0 = fX7_moveLevel S o o1 o 0 := by
        unfold mX7_give_1
        rw [fl_k (by decide) (by decide), os_k (by decide) (by decide)]
      have e1 : mX7_give_1 S o o1 c o 1 = fX7_moveLevel S o o1 o 1 := by
        unfold mX7_give_1
        rw [fl_k (by decide) (by decide), os_k (by decide) (by decide)]
      rw [e]
      refine ⟨⟨by rw [e0]; exact k0, by rw [e1]; exact k1, by rw [e0, e1]; exact k2, ?_, ?_, ?_, ?_⟩, by rw [e0]; exact k3⟩
      · unfold mX7_give_1
        rw [fl_k (by decide) (by decide), cg_p1]
        exact fm_rg _
      · unfold mX7_give_1
        rw [fl_k (by decide) (by decide), cg_p2 hne]
        exact fm_rg _
      · unfold mX7_give_1
        rw [cg_f1 hne]
        exact kept_rg (by decide) (by decide)
      · unfold mX7_give_1
        rw [cg_f2 hne]
        exact kept_rg (by decide) (by decide)
/-! the stage -/
def cgS (s g : Int32) : Int32 := if g = 0 then (if s = 0 then s else 4) else s
theorem VI_cg {S : Mm} {o : Nat} (hv : VI S o) : VI (fX7_closeGate S o) o ∧ fX7_closeGate S o o 0 = cgS (S o 0) (S o 9) := by
  unfold fX7_closeGate cgS
  by_cases h : S o 9 = 0
  · rw [if_pos h, if_pos h]
    by_cases h0 : S o 0 = 0
    · have e : fX7_release S o = S := by
        unfold fX7_release
        rw [if_pos h0]
      rw [e, if_pos h0]
      exact ⟨VI_k (fun k hk => up2_k hk o) hv, up2_k (by decide) o⟩
    · have e : fX7_release S o = up2 S o 0 4 := by
        unfold fX7_release
        rw [if_neg h0]
      rw [e, if_neg h0]
      have e0 : up2 (up2 S o 0 4) o 9 (-1) o 0 = 4 := by rw [up2_k (by decide), up2_h]
      have ek : ∀ k, k ≠ 0 → k ≠ 9 → up2 (up2 S o 0 4) o 9 (-1) o k = S o k := fun k h1 h2 => by rw [up2_k h2, up2_k h1]
      refine ⟨?_, e0⟩
      unfold VI
      rw [e0, ek 1 (by decide) (by decide), ek 5 (by decide) (by decide), ek 6 (by decide) (by decide), ek 7 (by decide) (by decide), ek 8 (by decide) (by decide)]
      exact ⟨by unfold vp_in; decide, hv.2.1, fun q => absurd q (by decide), hv.2.2.2⟩
  · rw [if_neg h, if_neg h]
    exact ⟨hv, rfl⟩
theorem vo0 : rX6_voiceOf 18 (0 : Int32) = 22 := rfl
theorem vo1 : rX6_voiceOf 18 (1 : Int32) = 23 := rfl
theorem vo2 : rX6_voiceOf 18 (2 : Int32) = 24 := rfl
theorem vo3 : rX6_voiceOf 18 (3 : Int32) = 25 := rfl
theorem v4c {P : Nat → Prop} (h0 : P 0) (h1 : P 1) (h2 : P 2) (h3 : P 3) : ∀ v, v < 4 → P v := by
  intro v hv
  rcases v4 hv with rfl | rfl | rfl | rfl
  · exact h0
  · exact h1
  · exact h2
  · exact h3
theorem cg_row {S S' : Mm} {o : Nat} (h : S' o = S o) : fX7_closeGate S' o o = fX7_closeGate S o o := by
  unfold fX7_closeGate fX7_release
  rw [h]
  split
  · split
    · rw [up2_s, up2_s, h]
    · rw [up2_s, up2_s, up2_s, up2_s, h]
  · exact h
theorem cgs_v {S : Mm} : ∀ v, v < 4 → fX6_closeGates S 18 (22 + v) = fX7_closeGate S (22 + v) (22 + v) := by
  unfold fX6_closeGates mX6_closeGates_2 mX6_closeGates_1
  rw [vo0, vo1, vo2, vo3]
  refine v4c ?_ ?_ ?_ ?_
  · show fX7_closeGate _ 25 22 = fX7_closeGate S 22 22
    rw [cgt_n (by decide), cgt_n (by decide), cgt_n (by decide)]
  · show fX7_closeGate _ 25 23 = fX7_closeGate S 23 23
    rw [cgt_n (by decide), cgt_n (by decide)]
    exact cg_row (cgt_n (by decide))
  · show fX7_closeGate _ 25 24 = fX7_closeGate S 24 24
    rw [cgt_n (by decide)]
    exact cg_row ((cgt_n (by decide)).trans (cgt_n (by decide)))
  · show fX7_closeGate _ 25 25 = fX7_closeGate S 25 25
    exact cg_row ((cgt_n (by decide)).trans ((cgt_n (by decide)).trans (cgt_n (by decide))))
theorem VS_cgs {S : Mm} (h : VS S) : VS (fX6_closeGates S 18) ∧ ∀ v, v < 4 → fX6_closeGates S 18 (22 + v) 0 = cgS (S (22 + v) 0) (S (22 + v) 9) := by
  refine ⟨fun v hv => ?_, fun v hv => ?_⟩
  · exact VI_row (cgs_v v hv) (VI_cg (h v hv)).1
  · rw [cgs_v v hv]
    exact (VI_cg (h v hv)).2
theorem VS_fr {S S' : Mm} (h : VS S) (hS : ∀ o, 22 ≤ o → o < 26 → S' o = S o) : VS S' := fun v hv => VI_row (hS _ (by omega) (by omega)) (h v hv)
theorem VS_start {S : Mm} {p1 p2 p3 p4 : Int32} (h : VS S) : VS (fX6_startNote S 18 p1 p2 p3 p4) := by
  intro v hv
  have hw := vo_in (p := rX6_voiceToTake S 18)
  have h2 : ∀ o, o ≠ 18 → mX6_startNote_2 S 18 p1 p2 p3 p4 o = S o := by
    intro o ho
    unfold mX6_startNote_2 jX6_startNote_1
    rw [up2_n ho]
    split
    · rfl
    · rw [up2_n ho]
  unfold fX6_startNote mX6_startNote_3
  by_cases e : 22 + v = rX6_voiceOf 18 (rX6_voiceToTake S 18)
  · rw [← e]
    obtain ⟨r0, r1, -, -, -, r5, r6, r7, r8, -⟩ := st_row (U := mX6_startNote_2 S 18 p1 p2 p3 p4) (o := 22 + v) (p1 := p1) (p2 := p2) (p3 := p3) (p4 := p4) (p5 := mX6_startNote_2 S 18 p1 p2 p3 p4 18 7)
    unfold VI
    rw [r0, r1, r5, r6, r7, r8, h2 _ (by omega)]
    exact ⟨by unfold vp_in; decide, (h v hv).2.1, fun q => absurd q (by decide), rg_z (by decide) (by decide), rg_z (by decide) (by decide), rg_z (by decide) (by decide), rg_z (by decide) (by decide)⟩
  · exact VI_row ((st_n e).trans (h2 _ (by omega))) (h v hv)
theorem sn_18 {S : Mm} {p1 p2 p3 p4 : Int32} {k : Nat} (h7 : k ≠ 7) (h8 : k ≠ 8) : fX6_startNote S 18 p1 p2 p3 p4 18 k = S 18 k := by
  have hw := vo_in (p := rX6_voiceToTake S 18)
  unfold fX6_startNote mX6_startNote_3
  rw [st_n (by omega)]
  unfold mX6_startNote_2 jX6_startNote_1
  rw [up2_k h7]
  split
  · rfl
  · rw [up2_k h8]
theorem VS_step {S : Mm} (h : VS S) : VS (fX6_startStep S 18) := by
  have h0 : VS (up2 S 18 11 (rX4_lengthOf S (S 18 10))) := VS_fr h (fun o h1 h2 => up2_n (by omega))
  have h6 : VS (jX6_startStep_6 S 18) := by
    unfold jX6_startStep_6
    split
    · exact h0
    · unfold mX6_startStep_4
      exact VS_start h0
  have h9 : VS (jX6_startStep_9 S 18) := by
    unfold jX6_startStep_9
    split
    · exact h6
    · unfold mX6_startStep_7
      exact VS_start h6
  unfold fX6_startStep jX6_startStep_12
  split
  · exact h9
  · unfold mX6_startStep_10
    exact VS_start h9
theorem ss_n {S : Mm} {o : Nat} (h : o < 18 ∨ 26 ≤ o) : fX6_startStep S 18 o = S o := by
  have hn : ∀ (U : Mm) (p1 p2 p3 p4 : Int32), fX6_startNote U 18 p1 p2 p3 p4 o = U o := fun U p1 p2 p3 p4 => sn_n (by omega) (by omega)
  have h6 : jX6_startStep_6 S 18 o = S o := by
    unfold jX6_startStep_6
    split
    · rw [up2_n (by omega)]
    · unfold mX6_startStep_4
      rw [hn, up2_n (by omega)]
  have h9 : jX6_startStep_9 S 18 o = S o := by
    unfold jX6_startStep_9
    split
    · exact h6
    · unfold mX6_startStep_7
      rw [hn, h6]
  unfold fX6_startStep jX6_startStep_12
  split
  · exact h9
  · unfold mX6_startStep_10
    rw [hn, h9]
theorem ss_k {S : Mm} {k : Nat} (h7 : k ≠ 7) (h8 : k ≠ 8) (h11 : k ≠ 11) : fX6_startStep S 18 18 k = S 18 k := by
  have h6 : jX6_startStep_6 S 18 18 k = S 18 k := by
    unfold jX6_startStep_6
    split
    · rw [up2_k h11]
    · unfold mX6_startStep_4
      rw [sn_18 h7 h8, up2_k h11]
  have h9 : jX6_startStep_9 S 18 18 k = S 18 k := by
    unfold jX6_startStep_9
    split
    · exact h6
    · unfold mX6_startStep_7
      rw [sn_18 h7 h8, h6]
  unfold fX6_startStep jX6_startStep_12
  split
  · exact h9
  · unfold mX6_startStep_10
    rw [sn_18 h7 h8, h9]
theorem a1_n {S : Mm} {o : Nat} (h : o < 18 ∨ 26 ≤ o) : jX6_advance_1 S 18 o = S o := by
  have e : fX6_closeGates S 18 o = S o := cgs_n (by omega)
  unfold jX6_advance_1
  split
  · exact e
  · split
    · rw [ss_n h, e]
    · exact e
theorem a1_k {S : Mm} {k : Nat} (h7 : k ≠ 7) (h8 : k ≠ 8) (h11 : k ≠ 11) : jX6_advance_1 S 18 18 k = S 18 k := by
  have e : fX6_closeGates S 18 18 = S 18 := cgs_n (by omega)
  unfold jX6_advance_1
  split
  · rw [e]
  · split
    · rw [ss_k h7 h8 h11, e]
    · rw [e]
theorem VS_a1 {S : Mm} (h : VS S) : VS (jX6_advance_1 S 18) := by
  obtain ⟨h1, -⟩ := VS_cgs h
  unfold jX6_advance_1
  split
  · exact h1
  · split
    · exact VS_step h1
    · exact h1
theorem io_in {p : Int32} : 14 ≤ rX5_instrumentOf p ∧ rX5_instrumentOf p < 18 := by
  unfold rX5_instrumentOf
  (repeat' split) <;> omega
theorem gv1 {M : Mm} {o : Nat} {c p : Int32} (hw : 22 ≤ o) (hj : JI M) (hv : VI M o) : VI (fX7_give M o (rX5_instrumentOf p) c) o ∧ Tr (M o 0) (fX7_give M o (rX5_instrumentOf p) c o 0) :=
  VI_give hv (hj _ io_in.1 io_in.2) (by have := io_in (p := p); omega)
theorem JI_give {M : Mm} {o : Nat} {c : Int32} {u : Nat} (hw : 22 ≤ o) (hj : JI M) : JI (fX7_give M o u c) := JI_fr (fun i h1 h2 => gi_n (by omega)) hj
theorem VS_mix {M : Mm} (h : VS M) (hj : JI M) : VS (fX6_mixVoices M 18) ∧ ∀ v, v < 4 → Tr (M (22 + v) 0) (fX6_mixVoices M 18 (22 + v) 0) := by
  have key : ∀ v, v < 4 → VI (fX6_mixVoices M 18) (22 + v) ∧ Tr (M (22 + v) 0) (fX6_mixVoices M 18 (22 + v) 0) := by
    unfold fX6_mixVoices mX6_mixVoices_7
    rw [vo3]
    generalize hp3 : (mX6_mixVoices_5 M 18) 25 2 = p3
    generalize (mX6_mixVoices_5 M 18) 18 6 = c3
    have h5 : mX6_mixVoices_5 M 18 = fX7_give (mX6_mixVoices_3 M 18) 24 (rX5_instrumentOf (mX6_mixVoices_3 M 18 24 2)) (mX6_mixVoices_3 M 18 18 6) := by
      unfold mX6_mixVoices_5
      rw [vo2]
    have h3 : mX6_mixVoices_3 M 18 = fX7_give (mX6_mixVoices_1 M 18) 23 (rX5_instrumentOf (mX6_mixVoices_1 M 18 23 2)) (mX6_mixVoices_1 M 18 18 6) := by
      unfold mX6_mixVoices_3
      rw [vo1]
    have h1 : mX6_mixVoices_1 M 18 = fX7_give M 22 (rX5_instrumentOf (M 22 2)) (M 18 6) := by
      unfold mX6_mixVoices_1
      rw [vo0]
    generalize hM1 : mX6_mixVoices_1 M 18 = M1 at h1 h3
    generalize hM3 : mX6_mixVoices_3 M 18 = M3 at h3 h5
    generalize hM5 : mX6_mixVoices_5 M 18 = M5 at h5
    have j1 : JI M1 := by rw [h1]; exact JI_give (by decide) hj
    have j3 : JI M3 := by rw [h3]; exact JI_give (by decide) j1
    have j5 : JI M5 := by rw [h5]; exact JI_give (by decide) j3
    have n1 : ∀ o, o ≠ 22 → M1 o = M o := fun o ho => by rw [h1]; exact gi_n ho
    have n3 : ∀ o, o ≠ 23 → M3 o = M1 o := fun o ho => by rw [h3]; exact gi_n ho
    have n5 : ∀ o, o ≠ 24 → M5 o = M3 o := fun o ho => by rw [h5]; exact gi_n ho
    have g0 := gv1 (c := M 18 6) (p := M 22 2) (by decide) hj (h 0 (by decide))
    rw [show 22 + 0 = 22 from rfl, ← h1] at g0
    have g1 := gv1 (c := M1 18 6) (p := M1 23 2) (by decide) j1 (VI_row (n1 23 (by decide)) (h 1 (by decide)))
    rw [← h3, n1 23 (by decide)] at g1
    have g2 := gv1 (c := M3 18 6) (p := M3 24 2) (by decide) j3 (VI_row ((n3 24 (by decide)).trans (n1 24 (by decide))) (h 2 (by decide)))
    rw [← h5, n3 24 (by decide), n1 24 (by decide)] at g2
    have g3 := gv1 (c := c3) (p := p3) (by decide) j5 (VI_row ((n5 25 (by decide)).trans ((n3 25 (by decide)).trans (n1 25 (by decide)))) (h 3 (by decide)))
    rw [n5 25 (by decide), n3 25 (by decide), n1 25 (by decide)] at g3
    refine v4c ?_ ?_ ?_ ?_
    · have e : fX7_give M5 25 (rX5_instrumentOf p3) c3 22 = M1 22 := by rw [gi_n (by decide), n5 22 (by decide), n3 22 (by decide)]
      show VI _ 22 ∧ Tr (M 22 0) (fX7_give M5 25 (rX5_instrumentOf p3) c3 22 0)
      rw [e]
      exact ⟨VI_row e g0.1, g0.2⟩
    · have e : fX7_give M5 25 (rX5_instrumentOf p3) c3 23 = M3 23 := by rw [gi_n (by decide), n5 23 (by decide)]
      show VI _ 23 ∧ Tr (M 23 0) (fX7_give M5 25 (rX5_instrumentOf p3) c3 23 0)
      rw [e]
      exact ⟨VI_row e g1.1, g1.2⟩
    · have e : fX7_give M5 25 (rX5_instrumentOf p3) c3 24 = M5 24 := by rw [gi_n (by decide)]
      show VI _ 24 ∧ Tr (M 24 0) (fX7_give M5 25 (rX5_instrumentOf p3) c3 24 0)
      rw [e]
      exact ⟨VI_row e g2.1, g2.2⟩
    · exact g3
  exact ⟨fun v hv => (key v hv).1, fun v hv => (key v hv).2⟩
theorem cnt_k {S : Mm} {o k : Nat} (hk : k ≠ 9) (o' : Nat) : fX7_countGate S o o' k = S o' k := by
  unfold fX7_countGate
  split
  · rfl
  · rw [up2_k hk]
theorem cng_k {S : Mm} {k : Nat} (hk : k ≠ 9) (o : Nat) : fX6_countGates S 18 o k = S o k := by
  unfold fX6_countGates mX6_countGates_2 mX6_countGates_1
  rw [cnt_k hk, cnt_k hk, cnt_k hk, cnt_k hk]
theorem cst_n {S : Mm} {o : Nat} (h : o ≠ 18) : fX6_countStep S 18 o = S o := by
  unfold fX6_countStep mX6_countStep_1
  split
  · rw [up2_n h, up2_n h]
  · rw [up2_n h]
theorem cst_k {S : Mm} {k : Nat} (h10 : k ≠ 10) (h11 : k ≠ 11) : fX6_countStep S 18 18 k = S 18 k := by
  unfold fX6_countStep mX6_countStep_1
  split
  · rw [up2_k h10, up2_k h11]
  · rw [up2_k h11]
theorem G18 : isG 18 := Or.inl rfl
theorem a2_o {S : Mm} {o : Nat} (h1 : o ≠ 19) (h3 : o ≠ 21) : mX6_advance_2 S 18 o = fX6_mixVoices (jX6_advance_1 S 18) 18 o := by
  unfold mX6_advance_2
  exact ps_n G18 h1 h3
theorem a4_o {S : Mm} {o : Nat} (h : o ≠ 18) (k : Nat) (hk : k ≠ 9) : jX6_advance_4 S 18 o k = mX6_advance_2 S 18 o k := by
  unfold jX6_advance_4
  split
  · rw [cng_k hk]
  · rw [cst_n h, cng_k hk]
theorem a4_k {S : Mm} {k : Nat} (h10 : k ≠ 10) (h11 : k ≠ 11) : jX6_advance_4 S 18 18 k = mX6_advance_2 S 18 18 k := by
  have e : fX6_countGates (mX6_advance_2 S 18) 18 18 = mX6_advance_2 S 18 18 := cng_n (by omega)
  unfold jX6_advance_4
  split
  · rw [e]
  · rw [cst_k h10 h11, e]
/-- a sample keeps the voices within their limits, and tells how each goes on -/
theorem adv_ok {S : Mm} (h : VS S) (hj : JI S) : VS (fX6_advance S 18) ∧ (S 18 9 = 0 → ∀ v, v < 4 → Tr (cgS (S (22 + v) 0) (S (22 + v) 9)) (fX6_advance S 18 (22 + v) 0)) := by
  have v1 := VS_a1 h
  have j1 : JI (jX6_advance_1 S 18) := JI_fr (fun i h1 h2 => a1_n (Or.inl h2)) hj
  obtain ⟨m1, m2⟩ := VS_mix v1 j1
  have er : ∀ v, v < 4 → ∀ k, k ≠ 9 → fX6_advance S 18 (22 + v) k = fX6_mixVoices (jX6_advance_1 S 18) 18 (22 + v) k := by
    intro v hv k hk
    unfold fX6_advance
    rw [up2_n (by omega), a4_o (by omega) k hk, a2_o (by omega) (by omega)]
  refine ⟨fun v hv => VI_k (er v hv) (m1 v hv), fun h9 v hv => ?_⟩
  rw [er v hv 0 (by decide)]
  have e1 : jX6_advance_1 S 18 = fX6_closeGates S 18 := by
    unfold jX6_advance_1
    have e9 : fX6_closeGates S 18 18 9 = 0 := by rw [cgs_n (by omega)]; exact h9
    rw [if_pos e9]
  have := m2 v hv
  rw [e1, (VS_cgs h).2 v hv] at this
  rw [e1]
  exact this
theorem adv_n {S : Mm} {o : Nat} (h : o < 18 ∨ 26 ≤ o) : fX6_advance S 18 o = S o := by
  have en : ∀ k, fX6_countGates (mX6_advance_2 S 18) 18 o k = mX6_advance_2 S 18 o k := fun k => by rw [cng_n (by omega)]
  have e4 : jX6_advance_4 S 18 o = mX6_advance_2 S 18 o := by
    unfold jX6_advance_4
    split
    · exact cng_n (by omega)
    · rw [cst_n (by omega), cng_n (by omega)]
  unfold fX6_advance
  rw [up2_n (by omega), e4, a2_o (by omega) (by omega), mix_n (by omega), a1_n h]
theorem adv_9 {S : Mm} : fX6_advance S 18 18 9 = S 18 9 := by
  unfold fX6_advance
  rw [up2_k (by decide), a4_k (by decide) (by decide), a2_o (by decide) (by decide), mix_n (by omega), a1_k (by decide) (by decide) (by decide)]
theorem adv_6 {S : Mm} : fX6_advance S 18 18 6 = S 18 6 + 1 := by
  unfold fX6_advance
  rw [up2_h, a4_k (by decide) (by decide), a2_o (by decide) (by decide), mix_n (by omega), a1_k (by decide) (by decide) (by decide)]
/-! all is quiet -/
def QT (S : Mm) : Prop := (∀ v, v < 4 → S (22 + v) 0 = 0 ∧ S (22 + v) 9 = -1) ∧ S 18 9 = 0 ∧ S 19 0 = 0
theorem cg_q {S : Mm} {o : Nat} (h : S o 9 = -1) : fX7_closeGate S o = S := by
  unfold fX7_closeGate
  rw [if_neg (by rw [h]; decide)]
theorem ct_q {S : Mm} {o : Nat} (h : S o 9 = -1) : fX7_countGate S o = S := by
  unfold fX7_countGate
  rw [if_pos (by rw [h]; decide)]
theorem gv_q {S : Mm} {o u : Nat} {c : Int32} (h : S o 0 = 0) : fX7_give S o u c = S ∧ rX7_give S o u c = 0 := by
  unfold fX7_give rX7_give
  rw [ml_0 h, if_pos h, if_pos h]
  exact ⟨rfl, rfl⟩
theorem adv_q {S : Mm} (h : QT S) : rX6_advance S 18 = 0 ∧ QT (fX6_advance S 18) := by
  obtain ⟨hv, h9, hd⟩ := h
  have q0 : S 22 0 = 0 ∧ S 22 9 = -1 := hv 0 (by decide)
  have q1 : S 23 0 = 0 ∧ S 23 9 = -1 := hv 1 (by decide)
  have q2 : S 24 0 = 0 ∧ S 24 9 = -1 := hv 2 (by decide)
  have q3 : S 25 0 = 0 ∧ S 25 9 = -1 := hv 3 (by decide)
  have ec : fX6_closeGates S 18 = S := by
    unfold fX6_closeGates mX6_closeGates_2 mX6_closeGates_1
    rw [vo0, vo1, vo2, vo3, cg_q q0.2, cg_q q1.2, cg_q q2.2, cg_q q3.2]
  have e1 : jX6_advance_1 S 18 = S := by
    unfold jX6_advance_1
    rw [ec, if_pos h9]
  have m1 : mX6_mixVoices_1 S 18 = S := by
    unfold mX6_mixVoices_1
    rw [vo0, (gv_q q0.1).1]
  have m3 : mX6_mixVoices_3 S 18 = S := by
    unfold mX6_mixVoices_3
    rw [m1, vo1, (gv_q q1.1).1]
  have m5 : mX6_mixVoices_5 S 18 = S := by
    unfold mX6_mixVoices_5
    rw [m3, vo2, (gv_q q2.1).1]
  have m7 : fX6_mixVoices S 18 = S := by
    unfold fX6_mixVoices mX6_mixVoices_7
    rw [m5, vo3, (gv_q q3.1).1]
  have r0 : rX6_mixVoices S 18 = 0 := by
    unfold rX6_mixVoices vX6_mixVoices_2 vX6_mixVoices_4 vX6_mixVoices_6 vX6_mixVoices_8
    rw [m1, m3, m5, vo0, vo1, vo2, vo3, (gv_q q0.1).2, (gv_q q1.1).2, (gv_q q2.1).2, (gv_q q3.1).2]
    rfl
  have e2 : mX6_advance_2 S 18 = S := by
    unfold mX6_advance_2 fX0_pass
    rw [e1, m7, if_pos hd]
  have ek : fX6_countGates S 18 = S := by
    unfold fX6_countGates mX6_countGates_2 mX6_countGates_1
    rw [vo0, vo1, vo2, vo3, ct_q q0.2, ct_q q1.2, ct_q q2.2, ct_q q3.2]
  have e4 : jX6_advance_4 S 18 = S := by
    unfold jX6_advance_4
    rw [e2, ek, if_pos h9]
  refine ⟨?_, ?_⟩
  · unfold rX6_advance vX6_advance_3 rX0_pass
    rw [e1, m7, if_pos hd, r0, Int32.zero_mul]
    decide
  · unfold fX6_advance
    rw [e4]
    refine ⟨fun v hv' => ?_, ?_, ?_⟩
    · rw [up2_n (by omega)]
      exact hv v hv'
    · rw [up2_k (by decide)]
      exact h9
    · rw [up2_n (by decide)]
      exact hd
