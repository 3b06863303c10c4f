/-! The class beside the reference: one voice in one sample -/
theorem up2_h {S : Mm} {o k : Nat} {x : Int32} : up2 S o k x o k = x := by rw [up2_s]; exact pk_us
def LV (s l d4 d5 d6 d7 : Int32) : Int32 × Int32 := (if s = 1 then (if l + 1000000 / d4 < 1000000 then (1, l + 1000000 / d4) else (2, 1000000)) else if s = 2 then (if 1000 * d6 < l - ((1000000 - 1000 * d6) / d5 + 1) then (2, l - ((1000000 - 1000 * d6) / d5 + 1)) else (3, 1000 * d6)) else if s = 3 then (3, 1000 * d6) else if 0 < l - 1000000 / d7 then (s, l - 1000000 / d7) else (0, 0))
theorem ml_LV {S : Mm} {o o1 : Nat} (h4 : ¬ S o1 4 = 0) (h5 : ¬ S o1 5 = 0) (h7 : ¬ S o1 7 = 0) (hs : S o 0 = 1 ∨ S o 0 = 2 ∨ S o 0 = 3 ∨ S o 0 = 4) : (fX7_moveLevel S o o1 o 0, fX7_moveLevel S o o1 o 1) = LV (S o 0) (S o 1) (S o1 4) (S o1 5) (S o1 6) (S o1 7) := by
  have q4 : rX9_quotient (1000000 : Int32) (S o1 4) = 1000000 / S o1 4 := if_neg h4
  have q5 : rX9_quotient (1000000 - 1000 * S o1 6) (S o1 5) = (1000000 - 1000 * S o1 6) / S o1 5 := if_neg h5
  have q7 : rX9_quotient (1000000 : Int32) (S o1 7) = 1000000 / S o1 7 := if_neg h7
  have n01 : (0 : Nat) ≠ 1 := by decide
  have n10 : (1 : Nat) ≠ 0 := by decide
  have a1 : ¬ (2 : Int32) = 1 := by decide
  have a2 : ¬ (3 : Int32) = 1 := by decide
  have a3 : ¬ (3 : Int32) = 2 := by decide
  have a4 : ¬ (4 : Int32) = 1 := by decide
  have a5 : ¬ (4 : Int32) = 2 := by decide
  have a6 : ¬ (4 : Int32) = 3 := by decide
  unfold fX7_moveLevel mX7_moveLevel_1 mX7_moveLevel_2 mX7_moveLevel_3 LV
  rw [q4, q5, q7]
  rcases hs with e | e | e | e
  · rw [if_pos e, if_pos e, up2_h]
    by_cases c : S o 1 + 1000000 / S o1 4 < 1000000
    · rw [if_pos c, if_pos c, up2_k n01, up2_h, e]
    · rw [if_neg c, if_neg c, up2_h, up2_k n10, up2_h]
  · have e1 : ¬ S o 0 = 1 := by rw [e]; exact a1
    rw [if_neg e1, if_neg e1, if_pos e, if_pos e, up2_h]
    by_cases c : 1000 * S o1 6 < S o 1 - ((1000000 - 1000 * S o1 6) / S o1 5 + 1)
    · rw [if_pos c, if_pos c, up2_k n01, up2_h, e]
    · rw [if_neg c, if_neg c, up2_h, up2_k n10, up2_h]
  · have e1 : ¬ S o 0 = 1 := by rw [e]; exact a2
    have e2 : ¬ S o 0 = 2 := by rw [e]; exact a3
    rw [if_neg e1, if_neg e1, if_neg e2, if_neg e2, if_pos e, if_pos e, up2_k n01, up2_h, e]
  · have e1 : ¬ S o 0 = 1 := by rw [e]; exact a4
    have e2 : ¬ S o 0 = 2 := by rw [e]; exact a5
    have e3 : ¬ S o 0 = 3 := by rw [e]; exact a6
    rw [if_neg e1, if_neg e1, if_neg e2, if_neg e2, if_neg e3, if_neg e3, if_pos e, up2_h]
    by_cases c : 0 < S o 1 - 1000000 / S o1 7
    · rw [if_pos c, if_pos c, up2_k n01, up2_h]
    · rw [if_neg c, if_neg c, up2_h, up2_k n10, up2_h]
theorem ml_0 {S : Mm} {o o1 : Nat} (h : S o 0 = 0) : fX7_moveLevel S o o1 = S := by
  unfold fX7_moveLevel
  rw [if_neg (by rw [h]; decide), if_neg (by rw [h]; decide), if_neg (by rw [h]; decide), if_neg (by rw [h]; decide)]
theorem gl_LV {T : Mm} {p : Int32} (hs : T 3 p.toNatClampNeg = 1 ∨ T 3 p.toNatClampNeg = 2 ∨ T 3 p.toNatClampNeg = 3 ∨ T 3 p.toNatClampNeg = 4) : (fX10_goOnLevel T p 3 p.toNatClampNeg, fX10_goOnLevel T p 4 p.toNatClampNeg) = LV (T 3 p.toNatClampNeg) (T 4 p.toNatClampNeg) (rX10_told T p 4) (rX10_told T p 5) (rX10_told T p 6) (rX10_told T p 7) := by
  have n34 : (3 : Nat) ≠ 4 := by decide
  have n43 : (4 : Nat) ≠ 3 := by decide
  have a1 : ¬ (2 : Int32) = 1 := by decide
  have a2 : ¬ (3 : Int32) = 1 := by decide
  have a3 : ¬ (3 : Int32) = 2 := by decide
  have a4 : ¬ (4 : Int32) = 1 := by decide
  have a5 : ¬ (4 : Int32) = 2 := by decide
  have a6 : ¬ (4 : Int32) = 3 := by decide
  have lt_ne : ∀ {x y : Int32}, x < y → ¬ x = y := fun h e => Int32.lt_irrefl (e ▸ h)
  have ring : T 4 p.toNatClampNeg - (1000000 - 1000 * rX10_told T p 6) / rX10_told T p 5 - 1 = T 4 p.toNatClampNeg - ((1000000 - 1000 * rX10_told T p 6) / rX10_told T p 5 + 1) := Int32.sub_sub _ _ _
  unfold fX10_goOnLevel mX10_goOnLevel_2 mX10_goOnLevel_5 mX10_goOnLevel_7 vX10_goOnLevel_1 vX10_goOnLevel_4 vX10_goOnLevel_6 vX10_goOnLevel_3 LV
  rw [ring]
  rcases hs with e | e | e | e
  · rw [if_pos e, if_pos e, up2_h]
    by_cases c : T 4 p.toNatClampNeg + 1000000 / rX10_told T p 4 < 1000000
    · rw [if_pos c, if_pos c, if_neg (lt_ne c), up2_n n34, up2_h, e]
    · rw [if_neg c, if_neg c, if_pos rfl, up2_h, up2_n n43, up2_h]
  · have e1 : ¬ T 3 p.toNatClampNeg = 1 := by rw [e]; exact a1
    rw [if_neg e1, if_neg e1, if_pos e, if_pos e, up2_h]
    by_cases c : 1000 * rX10_told T p 6 < T 4 p.toNatClampNeg - ((1000000 - 1000 * rX10_told T p 6) / rX10_told T p 5 + 1)
    · rw [if_pos c, if_pos c, if_neg (fun q => lt_ne c q.symm), up2_n n34, up2_h, e]
    · rw [if_neg c, if_neg c, if_pos rfl, up2_h, up2_n n43, up2_h]
  · have e1 : ¬ T 3 p.toNatClampNeg = 1 := by rw [e]; exact a2
    have e2 : ¬ T 3 p.toNatClampNeg = 2 := by rw [e]; exact a3
    rw [if_neg e1, if_neg e1, if_neg e2, if_neg e2, if_pos e, if_pos e, up2_n n34, up2_h, e]
  · have e1 : ¬ T 3 p.toNatClampNeg = 1 := by rw [e]; exact a4
    have e2 : ¬ T 3 p.toNatClampNeg = 2 := by rw [e]; exact a5
    have e3 : ¬ T 3 p.toNatClampNeg = 3 := by rw [e]; exact a6
    rw [if_neg e1, if_neg e1, if_neg e2, if_neg e2, if_neg e3, if_neg e3, up2_h]
    by_cases c : 0 < T 4 p.toNatClampNeg - 1000000 / rX10_told T p 7
    · rw [if_pos c, if_pos c, if_neg (fun q => lt_ne c q.symm), up2_n n34, up2_h]
    · rw [if_neg c, if_neg c, if_pos rfl, up2_h, up2_n n43, up2_h]
theorem glv_n {T : Mm} {p : Int32} {k : Nat} (hk : k ≠ p.toNatClampNeg) (j : Nat) : fX10_goOnLevel T p j k = T j k := by
  unfold fX10_goOnLevel
  (repeat' split) <;> simp [mX10_goOnLevel_2, mX10_goOnLevel_5, mX10_goOnLevel_7, up2_k hk]
theorem gvv_n {T : Mm} {p : Int32} {k : Nat} (hk : k ≠ p.toNatClampNeg) (j : Nat) : fX10_gives T p j k = T j k := by
  unfold fX10_gives
  split
  · rfl
  · split
    · exact glv_n hk j
    · unfold mX10_gives_16
      rw [up2_k hk]
      unfold mX10_gives_13
      rw [up2_k hk, up2_k hk]
      unfold mX10_gives_8
      rw [up2_k hk, glv_n hk]
theorem mlv_n {S : Mm} {o o1 o' : Nat} (h : o' ≠ o) : fX7_moveLevel S o o1 o' = S o' := by
  unfold fX7_moveLevel
  (repeat' split) <;> simp [mX7_moveLevel_1, mX7_moveLevel_2, mX7_moveLevel_3, up2_n h]
theorem mlv_k {S : Mm} {o o1 k : Nat} (h0 : k ≠ 0) (h1 : k ≠ 1) (o' : Nat) : fX7_moveLevel S o o1 o' k = S o' k := by
  unfold fX7_moveLevel
  (repeat' split) <;> simp [mX7_moveLevel_1, mX7_moveLevel_2, mX7_moveLevel_3, up2_k h0, up2_k h1]
theorem os_n {S : Mm} {o o1 o' : Nat} {c : Int32} (h : o' ≠ o) : fX7_oscillate S o o1 c o' = S o' := by
  unfold fX7_oscillate mX7_oscillate_3
  rw [up2_n h]
  unfold mX7_oscillate_1
  rw [up2_n h]
theorem os_k {S : Mm} {o o1 k : Nat} {c : Int32} (h5 : k ≠ 5) (h6 : k ≠ 6) (o' : Nat) : fX7_oscillate S o o1 c o' k = S o' k := by
  unfold fX7_oscillate mX7_oscillate_3
  rw [up2_k h6]
  unfold mX7_oscillate_1
  rw [up2_k h5]
theorem fl_n {S : Mm} {o o1 o' : Nat} {c : Int32} (h : o' ≠ o) : fX7_filter S o o1 c o' = S o' := by
  unfold fX7_filter mX7_filter_4
  rw [up2_n h]
  unfold mX7_filter_1
  rw [up2_n h]
theorem fl_k {S : Mm} {o o1 k : Nat} {c : Int32} (h7 : k ≠ 7) (h8 : k ≠ 8) (o' : Nat) : fX7_filter S o o1 c o' k = S o' k := by
  unfold fX7_filter mX7_filter_4
  rw [up2_k h8]
  unfold mX7_filter_1
  rw [up2_k h7]
theorem gi_n {S : Mm} {o o1 o' : Nat} {c : Int32} (h : o' ≠ o) : fX7_give S o o1 c o' = S o' := by
  unfold fX7_give
  split
  · exact mlv_n h
  · unfold mX7_give_1
    rw [fl_n h, os_n h, mlv_n h]
theorem gi_k {S : Mm} {o o1 k : Nat} {c : Int32} (h : k = 2 ∨ k = 3 ∨ k = 4 ∨ 8 < k) (o' : Nat) : fX7_give S o o1 c o' k = S o' k := by
  unfold fX7_give
  split
  · exact mlv_k (by omega) (by omega) o'
  · unfold mX7_give_1
    rw [fl_k (by omega) (by omega), os_k (by omega) (by omega), mlv_k (by omega) (by omega)]
theorem xr65 {j : Nat} (hj : j < 2 ^ 31) : (0 : Int32) ≤ nI j ^^^ 65536 := by
  have h1 : (nI j).toBitVec.msb = false := by
    have h : ¬ nI j < 0 := nI_pos hj
    rw [Int32.lt_iff_toInt_lt] at h
    have h0 : (0 : Int32).toInt = 0 := by decide
    rw [h0] at h
    rw [BitVec.msb_eq_toInt]
    exact decide_eq_false h
  have h2 : (nI j ^^^ 65536).toBitVec.msb = false := by
    rw [Int32.toBitVec_xor, BitVec.msb_xor, h1]
    decide
  rw [Int32.le_iff_toInt_le]
  have h0 : (0 : Int32).toInt = 0 := by decide
  rw [h0]
  exact BitVec.toInt_nonneg_of_msb_false h2
theorem fm65 {x : Int32} {b : Int} (h : rg x 0 b) (hb : b < 2147000000) : rJ9_floorMod_7cf53 x 65536 = (x + 65536) - (x + 65536) / 65536 * 65536 := by
  obtain ⟨j, hj, hj2, e⟩ := rg_nI h
  subst e
  unfold rJ9_floorMod_7cf53
  rw [if_pos (xr65 hj2), show (65536 : Int32) = nI 65536 from rfl, nI_add, pk_rem hj2 (by decide) (by decide), pk_rem (by omega) (by decide) (by decide), Nat.add_mod_right]
/-- the waves of both -/
def RW (S T : Mm) : Prop := ∀ w, w < 4 → ∀ k, k < 32 → S 4 (32 * w + k) = rX10_value T (nI w) (nI k)
theorem get_at {S : Mm} {o j N : Nat} (hr : rowN o = N) (hj : j < N) : rX3_get S o (nI j) = S (o + 1) j := by
  have hN : N < 2 ^ 31 := by rw [← hr]; exact rowN_lt
  unfold rX3_get
  rw [if_neg (nI_pos (by omega)), hr, show Int32.ofNat N = nI N from rfl, if_neg (nI_ge hj hN), nI_clamp (by omega)]
theorem put_at {S : Mm} {o j N : Nat} {x : Int32} (hr : rowN o = N) (hj : j < N) : fX3_put S o (nI j) x = up2 S (o + 1) j x := by
  have hN : N < 2 ^ 31 := by rw [← hr]; exact rowN_lt
  unfold fX3_put
  rw [if_neg (nI_pos (by omega)), hr, show Int32.ofNat N = nI N from rfl, if_neg (nI_ge hj hN), nI_clamp (by omega)]
theorem at_eq {S T : Mm} {w p : Int32} (h : RW S T) (hw : vp_in w 4) (hp : vp_in p 65536) : rX8_at S w p = rX10_wave T w p := by
  obtain ⟨i, hi, e⟩ := vp_in_of hw (by decide)
  obtain ⟨j, hj, e2⟩ := vp_in_of hp (by decide)
  subst e
  subst e2
  have h1 : nI j / 2048 = nI (j / 2048) := pk_div (by omega) (by decide) (by decide)
  have h2 : (nI j / 2048 + 1) - (nI j / 2048 + 1) / 32 * 32 = nI ((j / 2048 + 1) % 32) := by
    rw [h1, nI_1]
    exact pk_rem (by omega) (by decide) (by decide)
  have h3 : nI i * 32 = nI (i * 32) := pk_mul i 32
  have g1 : rX3_get S 3 (nI i * 32 + nI j / 2048) = rX10_value T (nI i) (nI j / 2048) := by
    rw [h3, h1, nI_add, get_at (N := 128) rfl (by omega), ← h i hi (j / 2048) (by omega), Nat.mul_comm]
  have g2 : rX3_get S 3 (nI i * 32 + ((nI j / 2048 + 1) - (nI j / 2048 + 1) / 32 * 32)) = rX10_value T (nI i) ((nI j / 2048 + 1) - (nI j / 2048 + 1) / 32 * 32) := by
    rw [h3, h2, nI_add, get_at (N := 128) rfl (by omega), ← h i hi _ (Nat.mod_lt _ (by decide)), Nat.mul_comm]
  unfold rX8_at vX8_at_1 rX10_wave vX10_wave_1
  rw [g1, g2]
/-- the strides of both -/
def RZ (S : Mm) : Prop := ∀ k, k < 12 → S 37 k = gX10_stride_4 0 k
theorem zr_eq : ∀ k : Nat, k < 12 → zr k = gX10_stride_4 0 k := by decide +kernel
theorem str_eq {S : Mm} {p : Int32} (h : RZ S) (hp : vp_in p 48) : rX9_strideOf S p = rX10_stride p := by
  obtain ⟨j, hj, e⟩ := vp_in_of hp (by decide)
  subst e
  have h1 : nI j - nI j / 12 * 12 = nI (j % 12) := pk_rem (by omega) (by decide) (by decide)
  unfold rX9_strideOf rX10_stride
  rw [h1, if_neg (nI_pos (by omega)), show Int32.ofNat 12 = nI 12 from rfl, if_neg (nI_ge (Nat.mod_lt _ (by decide)) (by decide)), nI_clamp (by omega), zr_eq _ (Nat.mod_lt _ (by decide))]
  rfl
theorem str_lo : ∀ j : Nat, j < 48 → 256 ≤ (rX10_stride (nI j)).toInt ∧ (rX10_stride (nI j)).toInt ≤ 4000 := by decide +kernel
theorem str_lo' {x : Int32} (h : vp_in x 48) : rg (rX10_stride x) 256 4000 := by
  obtain ⟨i, hi, e⟩ := vp_in_of h (by decide)
  rw [e]
  exact str_lo i hi
def OS (w0 w1 mix : Int32) : Int32 := (w0 * (100 - mix) + w1 * mix) / 100
def LO (low cut band : Int32) : Int32 := rX9_kept (low + (cut * band) / 256) 4000
def BD (band cut damp o lo : Int32) : Int32 := rX9_kept (band + (cut * ((o - lo) - (damp * band) / 256)) / 256) 4000
def OUT (lo force level : Int32) : Int32 := ((lo * force) / 127 * (level / 1000)) / 1000
theorem cg_os {S : Mm} {o o1 : Nat} {c : Int32} (hne : o1 ≠ o) : rX7_oscillate S o o1 c = OS (rX8_at S (S o1 0) (S o 5)) (rX8_at S (S o1 1) (S o 6)) (S o1 3) := by
  have h : mX7_oscillate_3 S o o1 c o1 3 = S o1 3 := os_k (S := S) (o := o) (o1 := o1) (c := c) (by decide) (by decide) o1
  unfold rX7_oscillate vX7_oscillate_4 OS
  rw [h]
theorem cg_f1 {S : Mm} {o o1 : Nat} {x : Int32} (hne : o1 ≠ o) : fX7_filter S o o1 x o 7 = LO (S o 7) (S o1 8) (S o 8) := by
  unfold fX7_filter mX7_filter_4
  rw [up2_k (by decide)]
  unfold mX7_filter_1 LO
  rw [up2_h]
theorem cg_f2 {S : Mm} {o o1 : Nat} {x : Int32} (hne : o1 ≠ o) : fX7_filter S o o1 x o 8 = BD (S o 8) (S o1 8) (S o1 9) x (LO (S o 7) (S o1 8) (S o 8)) := by
  unfold fX7_filter mX7_filter_4
  rw [up2_h]
  unfold vX7_filter_3 vX7_filter_2 mX7_filter_1 BD LO
  rw [up2_h, up2_k (by decide), up2_n hne]
theorem cg_p1 {S : Mm} {o o1 : Nat} {c : Int32} : fX7_oscillate S o o1 c o 5 = rJ9_floorMod_7cf53 ((S o 5) + ((rX9_strideOf S (S o 3)) + (rX1_vibratoAt S o1 c))) 65536 := by
  unfold fX7_oscillate mX7_oscillate_3
  rw [up2_k (by decide)]
  unfold mX7_oscillate_1
  rw [up2_h]
theorem cg_p2 {S : Mm} {o o1 : Nat} {c : Int32} (hne : o1 ≠ o) : fX7_oscillate S o o1 c o 6 = rJ9_floorMod_7cf53 ((S o 6) + ((rX9_strideOf S (S o 3)) + (rX1_vibratoAt S o1 c)) + S o1 2) 65536 := by
  unfold fX7_oscillate mX7_oscillate_3
  rw [up2_h]
  unfold vX7_oscillate_2 mX7_oscillate_1
  rw [up2_k (by decide), up2_n hne]
theorem rf_os {T : Mm} {p : Int32} : vX10_gives_5 T p / 100 = OS (rX10_wave (fX10_goOnLevel T p) (rX10_told T p 0) (T 8 p.toNatClampNeg)) (rX10_wave (fX10_goOnLevel T p) (rX10_told T p 1) (T 9 p.toNatClampNeg)) (rX10_told T p 3) := by
  unfold vX10_gives_5 vX10_gives_3 vX10_gives_4 OS
  rw [gl_told, gl_told, gl_told, gl_8, gl_9]
theorem g8_n {T : Mm} {p : Int32} {o : Nat} (h8 : o ≠ 8) : mX10_gives_8 T p o = fX10_goOnLevel T p o := by
  unfold mX10_gives_8
  rw [up2_n h8]
theorem u9_told {T : Mm} {p k x : Int32} {j : Nat} : rX10_told (up2 (mX10_gives_8 T p) 9 j x) p k = rX10_told T p k := told_fr (by rw [up2_n (by decide), g8_n (by decide), gl_5]) (by rw [up2_n (by decide), g8_n (by decide), gl_2])
theorem g13_told {T : Mm} {p k : Int32} : rX10_told (mX10_gives_13 T p) p k = rX10_told T p k := told_fr (by unfold mX10_gives_13; rw [up2_n (by decide), up2_n (by decide), g8_n (by decide), gl_5]) (by unfold mX10_gives_13; rw [up2_n (by decide), up2_n (by decide), g8_n (by decide), gl_2])
theorem g13_10 {T : Mm} {p : Int32} : mX10_gives_13 T p 10 p.toNatClampNeg = LO (T 10 p.toNatClampNeg) (rX10_told T p 8) (T 11 p.toNatClampNeg) := by
  unfold mX10_gives_13
  rw [up2_h]
  unfold vX10_gives_12 vX10_gives_11 LO
  rw [u9_told, up2_n (by decide), up2_n (by decide), g8_n (by decide), g8_n (by decide), gl_fr (by decide) (by decide), gl_fr (by decide) (by decide)]
  rfl
theorem g13_11 {T : Mm} {p : Int32} : mX10_gives_13 T p 11 = T 11 := g13_fr (by decide) (by decide) (by decide) (by decide) (by decide)
theorem rf_f1 {T : Mm} {p : Int32} : mX10_gives_16 T p 10 p.toNatClampNeg = LO (T 10 p.toNatClampNeg) (rX10_told T p 8) (T 11 p.toNatClampNeg) := by
  unfold mX10_gives_16
  rw [up2_n (by decide), g13_10]
theorem rf_f2 {T : Mm} {p : Int32} : mX10_gives_16 T p 11 p.toNatClampNeg = BD (T 11 p.toNatClampNeg) (rX10_told T p 8) (rX10_told T p 9) (vX10_gives_5 T p / 100) (LO (T 10 p.toNatClampNeg) (rX10_told T p 8) (T 11 p.toNatClampNeg)) := by
  unfold mX10_gives_16
  rw [up2_h]
  unfold vX10_gives_15 vX10_gives_14 BD
  rw [g13_told, g13_told, g13_10, g13_11]
  rfl
theorem rf_out {T : Mm} {p : Int32} (h0 : ¬ T 3 p.toNatClampNeg = 0) (h1 : ¬ fX10_goOnLevel T p 3 p.toNatClampNeg = 0) : rX10_gives T p = OUT (mX10_gives_16 T p 10 p.toNatClampNeg) (T 7 p.toNatClampNeg) (fX10_goOnLevel T p 4 p.toNatClampNeg) := by
  have e7 : mX10_gives_16 T p 7 = T 7 := g16_fr (by decide) (by decide) (by decide) (by decide) (by decide) (by decide)
  have e4 : mX10_gives_16 T p 4 = fX10_goOnLevel T p 4 := by
    unfold mX10_gives_16 mX10_gives_13
    rw [up2_n (by decide), up2_n (by decide), up2_n (by decide), g8_n (by decide)]
  unfold rX10_gives vX10_gives_17 OUT
  rw [if_neg h0, if_neg h1, e7, e4]
theorem rf_3 {T : Mm} {p : Int32} : mX10_gives_16 T p 3 = fX10_goOnLevel T p 3 := by
  unfold mX10_gives_16 mX10_gives_13
  rw [up2_n (by decide), up2_n (by decide), up2_n (by decide), g8_n (by decide)]
theorem rf_4 {T : Mm} {p : Int32} : mX10_gives_16 T p 4 = fX10_goOnLevel T p 4 := by
  unfold mX10_gives_16 mX10_gives_13
  rw [up2_n (by decide), up2_n (by decide), up2_n (by decide), g8_n (by decide)]
/-- one voice, there and there -/
def RVv (B : Int) (S : Mm) (o : Nat) (T : Mm) (v : Nat) : Prop := (∀ k, k < 10 → S o k = T (3 + k) v) ∧ (T 3 v = 0 ∨ S o 10 = T 13 v + 1) ∧ vp_in (T 3 v) 5 ∧ rg (T 13 v) 0 B
theorem st_cases {x : Int32} (h : vp_in x 5) : x = 0 ∨ x = 1 ∨ x = 2 ∨ x = 3 ∨ x = 4 := by
  obtain ⟨j, hj, e⟩ := vp_in_of h (by decide)
  have : j = 0 ∨ j = 1 ∨ j = 2 ∨ j = 3 ∨ j = 4 := by omega
  rcases this with q | q | q | q | q <;> subst q
  · exact Or.inl e
  · exact Or.inr (Or.inl e)
  · exact Or.inr (Or.inr (Or.inl e))
  · exact Or.inr (Or.inr (Or.inr (Or.inl e)))
  · exact Or.inr (Or.inr (Or.inr (Or.inr e)))
theorem LV_st {s l a b c d : Int32} (h : s = 1 ∨ s = 2 ∨ s = 3 ∨ s = 4) : vp_in (LV s l a b c d).1 5 := by
  have h0 : vp_in (0 : Int32) 5 := vp_in_lit (by decide)
  have h1 : vp_in (1 : Int32) 5 := vp_in_lit (by decide)
  have h2 : vp_in (2 : Int32) 5 := vp_in_lit (by decide)
  have h3 : vp_in (3 : Int32) 5 := vp_in_lit (by decide)
  have h4 : vp_in (4 : Int32) 5 := vp_in_lit (by decide)
  unfold LV
  rcases h with e | e | e | e <;> subst e <;> (repeat' split) <;> assumption
