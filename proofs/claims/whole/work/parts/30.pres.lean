/-! the reference's numbers stay in their ranges -/
def iD (S : Mm) (K : Int) : Prop := (∀ v, v < 4 → iV S v) ∧ (∀ i, i < 4 → iJ S i) ∧ vp_in (S 0 25) 8 ∧ rg (S 0 16) 0 200 ∧ rg (S 0 28) 0 K ∧ (∀ t, t < 3 → vp_in (S 15 t) 4) ∧ (∀ k, k < 24 → S 16 (3 * k) = -1 ∨ vp_in (S 16 (3 * k)) 48)
theorem val2 (S : Mm) : ∀ k : Nat, k < 32 → rg (rX10_value S 2 (nI k)) (-1000) 1000 := by
  intro k hk
  unfold rX10_value
  rw [if_neg (by decide), if_neg (by decide), if_pos rfl]
  revert k
  unfold rg
  decide +kernel
theorem str_rg : ∀ j : Nat, j < 48 → 0 ≤ (rX10_stride (nI j)).toInt ∧ (rX10_stride (nI j)).toInt ≤ 4000 := by decide +kernel
theorem str_in {x : Int32} (h : vp_in x 48) : rg (rX10_stride x) 0 4000 := by
  obtain ⟨j, hj, e⟩ := vp_in_of h (by decide)
  rw [e]
  exact str_rg j hj
theorem wave2 (S : Mm) {p : Int32} (h : vp_in p 65536) : rg (rX10_wave S 2 p) (-3000) 3000 := by
  obtain ⟨j, hj, e⟩ := vp_in_of h (by decide)
  have e1 : p / 2048 = nI (j / 2048) := by rw [e, show (2048 : Int32) = nI 2048 from rfl, pk_div (by omega) (by decide) (by decide)]
  have e2 : (p / 2048 + 1) - (p / 2048 + 1) / 32 * 32 = nI ((j / 2048 + 1) % 32) := by rw [e1, nI_1, show (32 : Int32) = nI 32 from rfl, pk_rem (by omega) (by decide) (by decide)]
  have e3 : p - p / 2048 * 2048 = nI (j % 2048) := by rw [e, show (2048 : Int32) = nI 2048 from rfl, pk_rem (by omega) (by decide) (by decide)]
  unfold rX10_wave vX10_wave_1
  rw [e2, e3, e1]
  have ha := val2 S (j / 2048) (by omega)
  have hb := val2 S ((j / 2048 + 1) % 32) (Nat.mod_lt _ (by decide))
  have hr : rg (nI (j % 2048)) (-(2047 : Nat)) (2047 : Nat) := rg_w (rg_n (by omega)) (by omega) (by omega)
  have hd := (rg_sub hb ha (by decide) (by decide)).1
  have hm := rg_mul (A := 2000) (B := 2047) (rg_w hd (by decide) (by decide)) hr (by decide)
  have hq := rg_div (y := 2048) (c := 2048) hm (by decide) (by decide)
  exact rg_w (rg_add ha hq (by decide) (by decide)).1 (by decide) (by decide)
theorem clk_ph {x y : Int32} {K : Int} (hx : rg x 0 K) (hy : rg y 8 255) : vp_in (((x - x / y * y) * 65536) / y) 65536 := by
  obtain ⟨c, -, hc, e⟩ := rg_nI hx
  obtain ⟨q, hq1, hq2, e2⟩ := rg_nI (rg_w hy (a' := 0) (by decide) (Int.le_refl _))
  have hq3 : 8 ≤ q := by
    have := hy.1
    rw [e2, show (nI q).toInt = (q : Int) from nI_toInt hq2] at this
    omega
  have hlt := Nat.mod_lt c (show 0 < q by omega)
  have hb : c % q * 65536 / q < 65536 := by
    apply Nat.div_lt_of_lt_mul
    exact Nat.mul_lt_mul_of_pos_right hlt (by decide)
  rw [e, e2, pk_rem hc (by omega) hq2, show (65536 : Int32) = nI 65536 from rfl, pk_mul, pk_div (by omega) (by omega) hq2]
  exact vp_in_nI hb (by decide)
theorem told_rg {S : Mm} {p : Int32} (hV : iV S p.toNatClampNeg) (hI : ∀ i, i < 4 → iJ S i) : rg (rX10_told S p 2) (-64) 64 ∧ rg (rX10_told S p 10) 0 64 ∧ rg (rX10_told S p 11) 8 255 := by
  obtain ⟨i, hi, -, ht⟩ := told_at hV.1
  have hJ := hI i hi
  unfold iJ at hJ
  obtain ⟨-, -, h2, -, -, -, -, -, -, -, h10, h11⟩ := hJ
  refine ⟨?_, ?_, ?_⟩
  · rw [show (2 : Int32) = nI 2 from rfl, ht 2 (by decide)]; exact h2
  · rw [show (10 : Int32) = nI 10 from rfl, ht 10 (by decide)]; exact h10
  · rw [show (11 : Int32) = nI 11 from rfl, ht 11 (by decide)]; exact h11
theorem bend_rg {S : Mm} {p : Int32} {K : Int} (hV : iV S p.toNatClampNeg) (hI : ∀ i, i < 4 → iJ S i) (hc : rg (S 0 28) 0 K) : rg (((rX10_told (fX10_goOnLevel S p) p (10 : Int32)) * (vX10_gives_2 S p)) / 1000) (-192) 192 := by
  obtain ⟨-, h10, h11⟩ := told_rg hV hI
  have hw : rg (vX10_gives_2 S p) (-(3000 : Nat)) (3000 : Nat) := by
    unfold vX10_gives_2 vX10_gives_1
    rw [gl_told, gl_0]
    exact wave2 _ (clk_ph hc h11)
  rw [gl_told]
  exact rg_w (rg_div (A := 192000) (c := 1000) (rg_w (rg_mul (A := 64) (B := 3000) (rg_w h10 (by decide) (by decide)) hw (by decide)) (by decide) (by decide)) (by decide) (by decide)) (by decide) (by decide)
theorem ph7 {S : Mm} {p : Int32} {K : Int} (hV : iV S p.toNatClampNeg) (hI : ∀ i, i < 4 → iJ S i) (hc : rg (S 0 28) 0 K) : rg (vX10_gives_7 S p) (-192) 69727 := by
  unfold vX10_gives_7 vX10_gives_6
  rw [gl_8, gl_6]
  exact rg_w (rg_add (rg_add (rg_vp hV.2.2.1 (by decide)) (str_in hV.2.1) (by decide) (by decide)).1 (bend_rg hV hI hc) (by decide) (by decide)).1 (by decide) (by decide)
theorem ph9 {S : Mm} {p : Int32} {K : Int} (hV : iV S p.toNatClampNeg) (hI : ∀ i, i < 4 → iJ S i) (hc : rg (S 0 28) 0 K) : rg (vX10_gives_9 S p) (-192) 69727 := by
  unfold vX10_gives_9
  rw [g8_fr (by decide) (by decide) (by decide), gl_6]
  exact rg_w (rg_add (rg_add (rg_vp hV.2.2.2 (by decide)) (str_in hV.2.1) (by decide) (by decide)).1 (bend_rg hV hI hc) (by decide) (by decide)).1 (by decide) (by decide)
theorem c65 : rg (65536 : Int32) 65536 65536 := by unfold rg; decide
theorem p8_in {S : Mm} {p : Int32} {K : Int} (hV : iV S p.toNatClampNeg) (hI : ∀ i, i < 4 → iJ S i) (hc : rg (S 0 28) 0 K) : vp_in (((vX10_gives_7 S p) + 65536) - ((vX10_gives_7 S p) + 65536) / 65536 * 65536) 65536 :=
  rem_in (b := 200000) (rg_w (rg_add (ph7 hV hI hc) c65 (by decide) (by decide)).1 (by decide) (by decide))
theorem p9_in {S : Mm} {p : Int32} {K : Int} (hV : iV S p.toNatClampNeg) (hI : ∀ i, i < 4 → iJ S i) (hc : rg (S 0 28) 0 K) : vp_in (vX10_gives_10 S p) 65536 := by
  unfold vX10_gives_10
  rw [told_fr g8_5 (g8_fr (by decide) (by decide) (by decide))]
  exact rem_in (b := 200000) (rg_w (rg_add (rg_add (ph9 hV hI hc) (told_rg hV hI).1 (by decide) (by decide)).1 c65 (by decide) (by decide)).1 (by decide) (by decide))
theorem g16_8 {S : Mm} {p : Int32} : mX10_gives_16 S p 8 = upd (S 8) p.toNatClampNeg (((vX10_gives_7 S p) + 65536) - ((vX10_gives_7 S p) + 65536) / 65536 * 65536) := by
  unfold mX10_gives_16 mX10_gives_13 mX10_gives_8
  rw [up2_n (by decide), up2_n (by decide), up2_n (by decide), up2_s, gl_8]
theorem g16_9 {S : Mm} {p : Int32} : mX10_gives_16 S p 9 = upd (S 9) p.toNatClampNeg (vX10_gives_10 S p) := by
  unfold mX10_gives_16 mX10_gives_13
  rw [up2_n (by decide), up2_n (by decide), up2_s, g8_fr (by decide) (by decide) (by decide)]
theorem upd_in {f : Nat → Int32} {k v : Nat} {x : Int32} {N : Nat} (hx : vp_in x N) (hf : vp_in (f v) N) : vp_in (upd f k x v) N := by
  unfold upd
  split
  · exact hx
  · exact hf
theorem gv_iV {S : Mm} {p : Int32} {K : Int} (hp : vp_in p 4) (hV : ∀ v, v < 4 → iV S v) (hI : ∀ i, i < 4 → iJ S i) (hc : rg (S 0 28) 0 K) : ∀ v, v < 4 → iV (fX10_gives S p) v := by
  intro v hv
  have h := hV v hv
  have hq := hV _ (vN hp)
  unfold iV at h ⊢
  rw [gv_fr (by decide) (by decide) (by decide) (by decide) (by decide) (by decide), gv_fr (o := 6) (by decide) (by decide) (by decide) (by decide) (by decide) (by decide)]
  refine ⟨h.1, h.2.1, ?_, ?_⟩
  · unfold fX10_gives
    (repeat' split)
    · exact h.2.2.1
    · rw [gl_8]; exact h.2.2.1
    · rw [g16_8]; exact upd_in (p8_in hq hI hc) h.2.2.1
  · unfold fX10_gives
    (repeat' split)
    · exact h.2.2.2
    · rw [gl_9]; exact h.2.2.2
    · rw [g16_9]; exact upd_in (p9_in hq hI hc) h.2.2.2
theorem iJ_fr {S S' : Mm} (h2 : S' 2 = S 2) {i : Nat} (h : iJ S i) : iJ S' i := by
  unfold iJ at h ⊢
  rw [h2]
  exact h
theorem gv_iD {S : Mm} {p : Int32} {K : Int} (hp : vp_in p 4) (h : iD S K) : iD (fX10_gives S p) K := by
  have f : ∀ o, o ≠ 3 → o ≠ 4 → o ≠ 8 → o ≠ 9 → o ≠ 10 → o ≠ 11 → fX10_gives S p o = S o := fun o a b c d e g => gv_fr a b c d e g
  obtain ⟨hV, hI, h25, h16, h28, ht, hw⟩ := h
  refine ⟨gv_iV hp hV hI h28, fun i hi => iJ_fr (f 2 (by decide) (by decide) (by decide) (by decide) (by decide) (by decide)) (hI i hi), ?_, ?_, ?_, ?_, ?_⟩
  · rw [f 0 (by decide) (by decide) (by decide) (by decide) (by decide) (by decide)]; exact h25
  · rw [f 0 (by decide) (by decide) (by decide) (by decide) (by decide) (by decide)]; exact h16
  · rw [f 0 (by decide) (by decide) (by decide) (by decide) (by decide) (by decide)]; exact h28
  · rw [f 15 (by decide) (by decide) (by decide) (by decide) (by decide) (by decide)]; exact ht
  · rw [f 16 (by decide) (by decide) (by decide) (by decide) (by decide) (by decide)]; exact hw
