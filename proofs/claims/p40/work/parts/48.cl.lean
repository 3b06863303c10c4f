/-! of the class alone: what its methods leave as it is (from the rows of whole) -/
def upR (S : Mm) (o : Nat) (g : Nat → Int32) : Mm := fun o' => if o' = o then g else S o'
theorem up2_k {S : Mm} {o k k' : Nat} {x : Int32} (h : k' ≠ k) (o' : Nat) : up2 S o k x o' k' = S o' k' := by
  unfold up2
  split
  · rename_i e
    subst e
    simp [upd, h]
  · rfl
theorem upR_n {S : Mm} {o o' : Nat} {g : Nat → Int32} (h : o' ≠ o) : upR S o g o' = S o' := by simp [upR, h]
theorem upR_s {S : Mm} {o : Nat} {g : Nat → Int32} : upR S o g o = g := by simp [upR]
theorem c7c_n {S : Mm} {o o1 q : Nat} (h : q ≠ o) : fX7_copy S o o1 q = S q := by
  unfold fX7_copy mX7_copy_5
  rw [up2_n h, up2_n h]
  unfold mX7_copy_4
  rw [up2_n h, up2_n h]
  unfold mX7_copy_3
  rw [up2_n h, up2_n h]
  unfold mX7_copy_2
  rw [up2_n h, up2_n h]
  unfold mX7_copy_1
  rw [up2_n h, up2_n h, up2_n h]
theorem c3c_n0 {S : Mm} {o o1 q : Nat} (h : q ≠ o + 1) : ∀ n : Nat, lpX3_copy_2 S o o1 n q = S q := by
  intro n
  induction n with
  | zero => rw [lpX3_copy_2_0]
  | succ n ih =>
    rw [lpX3_copy_2_s]
    unfold bX3_copy_2_zS
    rw [up2_n h, ih]
theorem c3c_n {S : Mm} {o o1 q : Nat} (h : q ≠ o + 1) : fX3_copy S o o1 q = S q := by
  unfold fX3_copy
  exact c3c_n0 h _
theorem c0c_n {S : Mm} {o o1 q : Nat} (h : q ≠ o) (h2 : q ≠ o + 2) : fX0_copy S o o1 q = S q := by
  unfold fX0_copy mX0_copy_2
  rw [c3c_n (by omega)]
  unfold mX0_copy_1
  rw [up2_n h, up2_n h, up2_n h, up2_n h]
theorem e6_eq {S : Mm} : eX6_copy S 26 18 = S 18 9 := by
  unfold eX6_copy mX6_copy_5
  rw [up2_n (by decide), up2_n (by decide)]
  unfold mX6_copy_4
  rw [up2_n (by decide), c0c_n (by decide) (by decide)]
  unfold mX6_copy_3 mX6_copy_2 mX6_copy_1
  rw [c7c_n (by decide), c7c_n (by decide), c7c_n (by decide), c7c_n (by decide)]

theorem up2_h {S : Mm} {o k : Nat} {x : Int32} : up2 S o k x o k = x := by rw [up2_s]; exact pk_us
def LV (s l d4 d5 d6 d7 : Int32) : Int32 × Int32 := (if s = 1 then (if l + 1000000 / d4 < 1000000 then (1, l + 1000000 / d4) else (2, 1000000)) else if s = 2 then (if 1000 * d6 < l - ((1000000 - 1000 * d6) / d5 + 1) then (2, l - ((1000000 - 1000 * d6) / d5 + 1)) else (3, 1000 * d6)) else if s = 3 then (3, 1000 * d6) else if 0 < l - 1000000 / d7 then (s, l - 1000000 / d7) else (0, 0))
theorem ml_LV {S : Mm} {o o1 : Nat} (h4 : ¬ S o1 4 = 0) (h5 : ¬ S o1 5 = 0) (h7 : ¬ S o1 7 = 0) (hs : S o 0 = 1 ∨ S o 0 = 2 ∨ S o 0 = 3 ∨ S o 0 = 4) : (fX7_moveLevel S o o1 o 0, fX7_moveLevel S o o1 o 1) = LV (S o 0) (S o 1) (S o1 4) (S o1 5) (S o1 6) (S o1 7) := by
  have q4 : rX9_quotient (1000000 : Int32) (S o1 4) = 1000000 / S o1 4 := if_neg h4
  have q5 : rX9_quotient (1000000 - 1000 * S o1 6) (S o1 5) = (1000000 - 1000 * S o1 6) / S o1 5 := if_neg h5
  have q7 : rX9_quotient (1000000 : Int32) (S o1 7) = 1000000 / S o1 7 := if_neg h7
  have n01 : (0 : Nat) ≠ 1 := by decide
  have n10 : (1 : Nat) ≠ 0 := by decide
  have a1 : ¬ (2 : Int32) = 1 := by decide
  have a2 : ¬ (3 : Int32) = 1 := by decide
  have a3 : ¬ (3 : Int32) = 2 := by decide
  have a4 : ¬ (4 : Int32) = 1 := by decide
  have a5 : ¬ (4 : Int32) = 2 := by decide
  have a6 : ¬ (4 : Int32) = 3 := by decide
  unfold fX7_moveLevel mX7_moveLevel_1 mX7_moveLevel_2 mX7_moveLevel_3 LV
  rw [q4, q5, q7]
  rcases hs with e | e | e | e
  · rw [if_pos e, if_pos e, up2_h]
    by_cases c : S o 1 + 1000000 / S o1 4 < 1000000
    · rw [if_pos c, if_pos c, up2_k n01, up2_h, e]
    · rw [if_neg c, if_neg c, up2_h, up2_k n10, up2_h]
  · have e1 : ¬ S o 0 = 1 := by rw [e]; exact a1
    rw [if_neg e1, if_neg e1, if_pos e, if_pos e, up2_h]
    by_cases c : 1000 * S o1 6 < S o 1 - ((1000000 - 1000 * S o1 6) / S o1 5 + 1)
    · rw [if_pos c, if_pos c, up2_k n01, up2_h, e]
    · rw [if_neg c, if_neg c, up2_h, up2_k n10, up2_h]
  · have e1 : ¬ S o 0 = 1 := by rw [e]; exact a2
    have e2 : ¬ S o 0 = 2 := by rw [e]; exact a3
    rw [if_neg e1, if_neg e1, if_neg e2, if_neg e2, if_pos e, if_pos e, up2_k n01, up2_h, e]
  · have e1 : ¬ S o 0 = 1 := by rw [e]; exact a4
    have e2 : ¬ S o 0 = 2 := by rw [e]; exact a5
    have e3 : ¬ S o 0 = 3 := by rw [e]; exact a6
    rw [if_neg e1, if_neg e1, if_neg e2, if_neg e2, if_neg e3, if_neg e3, if_pos e, up2_h]
    by_cases c : 0 < S o 1 - 1000000 / S o1 7
    · rw [if_pos c, if_pos c, up2_k n01, up2_h]
    · rw [if_neg c, if_neg c, up2_h, up2_k n10, up2_h]
theorem ml_0 {S : Mm} {o o1 : Nat} (h : S o 0 = 0) : fX7_moveLevel S o o1 = S := by
  unfold fX7_moveLevel
  rw [if_neg (by rw [h]; decide), if_neg (by rw [h]; decide), if_neg (by rw [h]; decide), if_neg (by rw [h]; decide)]
theorem mlv_n {S : Mm} {o o1 o' : Nat} (h : o' ≠ o) : fX7_moveLevel S o o1 o' = S o' := by
  unfold fX7_moveLevel
  (repeat' split) <;> simp [mX7_moveLevel_1, mX7_moveLevel_2, mX7_moveLevel_3, up2_n h]
theorem mlv_k {S : Mm} {o o1 k : Nat} (h0 : k ≠ 0) (h1 : k ≠ 1) (o' : Nat) : fX7_moveLevel S o o1 o' k = S o' k := by
  unfold fX7_moveLevel
  (repeat' split) <;> simp [mX7_moveLevel_1, mX7_moveLevel_2, mX7_moveLevel_3, up2_k h0, up2_k h1]
theorem os_n {S : Mm} {o o1 o' : Nat} {c : Int32} (h : o' ≠ o) : fX7_oscillate S o o1 c o' = S o' := by
  unfold fX7_oscillate mX7_oscillate_3
  rw [up2_n h]
  unfold mX7_oscillate_1
  rw [up2_n h]
theorem os_k {S : Mm} {o o1 k : Nat} {c : Int32} (h5 : k ≠ 5) (h6 : k ≠ 6) (o' : Nat) : fX7_oscillate S o o1 c o' k = S o' k := by
  unfold fX7_oscillate mX7_oscillate_3
  rw [up2_k h6]
  unfold mX7_oscillate_1
  rw [up2_k h5]
theorem fl_n {S : Mm} {o o1 o' : Nat} {c : Int32} (h : o' ≠ o) : fX7_filter S o o1 c o' = S o' := by
  unfold fX7_filter mX7_filter_4
  rw [up2_n h]
  unfold mX7_filter_1
  rw [up2_n h]
theorem fl_k {S : Mm} {o o1 k : Nat} {c : Int32} (h7 : k ≠ 7) (h8 : k ≠ 8) (o' : Nat) : fX7_filter S o o1 c o' k = S o' k := by
  unfold fX7_filter mX7_filter_4
  rw [up2_k h8]
  unfold mX7_filter_1
  rw [up2_k h7]
theorem gi_n {S : Mm} {o o1 o' : Nat} {c : Int32} (h : o' ≠ o) : fX7_give S o o1 c o' = S o' := by
  unfold fX7_give
  split
  · exact mlv_n h
  · unfold mX7_give_1
    rw [fl_n h, os_n h, mlv_n h]
theorem gi_k {S : Mm} {o o1 k : Nat} {c : Int32} (h : k = 2 ∨ k = 3 ∨ k = 4 ∨ 8 < k) (o' : Nat) : fX7_give S o o1 c o' k = S o' k := by
  unfold fX7_give
  split
  · exact mlv_k (by omega) (by omega) o'
  · unfold mX7_give_1
    rw [fl_k (by omega) (by omega), os_k (by omega) (by omega), mlv_k (by omega) (by omega)]
theorem xr65 {j : Nat} (hj : j < 2 ^ 31) : (0 : Int32) ≤ nI j ^^^ 65536 := by
  have h1 : (nI j).toBitVec.msb = false := by
    have h : ¬ nI j < 0 := nI_pos hj
    rw [Int32.lt_iff_toInt_lt] at h
    have h0 : (0 : Int32).toInt = 0 := by decide
    rw [h0] at h
    rw [BitVec.msb_eq_toInt]
    exact decide_eq_false h
  have h2 : (nI j ^^^ 65536).toBitVec.msb = false := by
    rw [Int32.toBitVec_xor, BitVec.msb_xor, h1]
    decide
  rw [Int32.le_iff_toInt_le]
  have h0 : (0 : Int32).toInt = 0 := by decide
  rw [h0]
  exact BitVec.toInt_nonneg_of_msb_false h2
theorem fm65 {x : Int32} {b : Int} (h : rg x 0 b) (hb : b < 2147000000) : rJ9_floorMod_7cf53 x 65536 = (x + 65536) - (x + 65536) / 65536 * 65536 := by
  obtain ⟨j, hj, hj2, e⟩ := rg_nI h
  subst e
  unfold rJ9_floorMod_7cf53
  rw [if_pos (xr65 hj2), show (65536 : Int32) = nI 65536 from rfl, nI_add, pk_rem hj2 (by decide) (by decide), pk_rem (by omega) (by decide) (by decide), Nat.add_mod_right]
theorem get_at {S : Mm} {o j N : Nat} (hr : rowN o = N) (hj : j < N) : rX3_get S o (nI j) = S (o + 1) j := by
  have hN : N < 2 ^ 31 := by rw [← hr]; exact rowN_lt
  unfold rX3_get
  rw [if_neg (nI_pos (by omega)), hr, show Int32.ofNat N = nI N from rfl, if_neg (nI_ge hj hN), nI_clamp (by omega)]
theorem put_at {S : Mm} {o j N : Nat} {x : Int32} (hr : rowN o = N) (hj : j < N) : fX3_put S o (nI j) x = up2 S (o + 1) j x := by
  have hN : N < 2 ^ 31 := by rw [← hr]; exact rowN_lt
  unfold fX3_put
  rw [if_neg (nI_pos (by omega)), hr, show Int32.ofNat N = nI N from rfl, if_neg (nI_ge hj hN), nI_clamp (by omega)]
def OS (w0 w1 mix : Int32) : Int32 := (w0 * (100 - mix) + w1 * mix) / 100
def LO (low cut band : Int32) : Int32 := rX9_kept (low + (cut * band) / 256) 4000
def BD (band cut damp o lo : Int32) : Int32 := rX9_kept (band + (cut * ((o - lo) - (damp * band) / 256)) / 256) 4000
def OUT (lo force level : Int32) : Int32 := ((lo * force) / 127 * (level / 1000)) / 1000
theorem cg_os {S : Mm} {o o1 : Nat} {c : Int32} (hne : o1 ≠ o) : rX7_oscillate S o o1 c = OS (rX8_at S (S o1 0) (S o 5)) (rX8_at S (S o1 1) (S o 6)) (S o1 3) := by
  have h : mX7_oscillate_3 S o o1 c o1 3 = S o1 3 := os_k (S := S) (o := o) (o1 := o1) (c := c) (by decide) (by decide) o1
  unfold rX7_oscillate vX7_oscillate_4 OS
  rw [h]
theorem cg_f1 {S : Mm} {o o1 : Nat} {x : Int32} (hne : o1 ≠ o) : fX7_filter S o o1 x o 7 = LO (S o 7) (S o1 8) (S o 8) := by
  unfold fX7_filter mX7_filter_4
  rw [up2_k (by decide)]
  unfold mX7_filter_1 LO
  rw [up2_h]
theorem cg_f2 {S : Mm} {o o1 : Nat} {x : Int32} (hne : o1 ≠ o) : fX7_filter S o o1 x o 8 = BD (S o 8) (S o1 8) (S o1 9) x (LO (S o 7) (S o1 8) (S o 8)) := by
  unfold fX7_filter mX7_filter_4
  rw [up2_h]
  unfold vX7_filter_3 vX7_filter_2 mX7_filter_1 BD LO
  rw [up2_h, up2_k (by decide), up2_n hne]
theorem cg_p1 {S : Mm} {o o1 : Nat} {c : Int32} : fX7_oscillate S o o1 c o 5 = rJ9_floorMod_7cf53 ((S o 5) + ((rX9_strideOf S (S o 3)) + (rX1_vibratoAt S o1 c))) 65536 := by
  unfold fX7_oscillate mX7_oscillate_3
  rw [up2_k (by decide)]
  unfold mX7_oscillate_1
  rw [up2_h]
theorem cg_p2 {S : Mm} {o o1 : Nat} {c : Int32} (hne : o1 ≠ o) : fX7_oscillate S o o1 c o 6 = rJ9_floorMod_7cf53 ((S o 6) + ((rX9_strideOf S (S o 3)) + (rX1_vibratoAt S o1 c)) + S o1 2) 65536 := by
  unfold fX7_oscillate mX7_oscillate_3
  rw [up2_h]
  unfold vX7_oscillate_2 mX7_oscillate_1
  rw [up2_k (by decide), up2_n hne]
theorem st_cases {x : Int32} (h : vp_in x 5) : x = 0 ∨ x = 1 ∨ x = 2 ∨ x = 3 ∨ x = 4 := by
  obtain ⟨j, hj, e⟩ := vp_in_of h (by decide)
  have : j = 0 ∨ j = 1 ∨ j = 2 ∨ j = 3 ∨ j = 4 := by omega
  rcases this with q | q | q | q | q <;> subst q
  · exact Or.inl e
  · exact Or.inr (Or.inl e)
  · exact Or.inr (Or.inr (Or.inl e))
  · exact Or.inr (Or.inr (Or.inr (Or.inl e)))
  · exact Or.inr (Or.inr (Or.inr (Or.inr e)))
theorem LV_st {s l a b c d : Int32} (h : s = 1 ∨ s = 2 ∨ s = 3 ∨ s = 4) : vp_in (LV s l a b c d).1 5 := by
  have h0 : vp_in (0 : Int32) 5 := vp_in_lit (by decide)
  have h1 : vp_in (1 : Int32) 5 := vp_in_lit (by decide)
  have h2 : vp_in (2 : Int32) 5 := vp_in_lit (by decide)
  have h3 : vp_in (3 : Int32) 5 := vp_in_lit (by decide)
  have h4 : vp_in (4 : Int32) 5 := vp_in_lit (by decide)
  unfold LV
  rcases h with e | e | e | e <;> subst e <;> (repeat' split) <;> assumption

theorem k10 {P : Nat → Prop} (h0 : P 0) (h1 : P 1) (h2 : P 2) (h3 : P 3) (h4 : P 4) (h5 : P 5) (h6 : P 6) (h7 : P 7) (h8 : P 8) (h9 : P 9) : ∀ k, k < 10 → P k := by
  intro k hk
  have : k = 0 ∨ k = 1 ∨ k = 2 ∨ k = 3 ∨ k = 4 ∨ k = 5 ∨ k = 6 ∨ k = 7 ∨ k = 8 ∨ k = 9 := by omega
  rcases this with e | e | e | e | e | e | e | e | e | e <;> subst e <;> assumption
theorem cls3 (x : Int32) : x = 0 ∨ x = 4 ∨ (¬ x = 0 ∧ ¬ x = 4) := by
  by_cases h : x = 0
  · exact Or.inl h
  · by_cases h2 : x = 4
    · exact Or.inr (Or.inl h2)
    · exact Or.inr (Or.inr ⟨h, h2⟩)
theorem le_1 {x y : Int32} {B : Int} (hB : B < 2000000000) (hx : rg x 0 B) (hy : rg y 0 B) : x + 1 ≤ y + 1 ↔ x ≤ y := by
  have h1 : rg (1 : Int32) 1 1 := by unfold rg; decide
  have ex := (rg_add hx h1 (by omega) (by omega)).2
  have ey := (rg_add hy h1 (by omega) (by omega)).2
  have e1 : (1 : Int32).toInt = 1 := by decide
  rw [e1] at ex ey
  rw [Int32.le_iff_toInt_le, Int32.le_iff_toInt_le, ex, ey]
  omega
def tbR (s l q s' l' q' : Int32) : Int32 := (if (if s = 0 then (0 : Int32) else (if s = 4 then 1 else 2)) = (if s' = 0 then (0 : Int32) else (if s' = 4 then 1 else 2)) then (if s = 4 then (if l' ≤ l then 0 else 1) else (if s = 0 then 0 else (if q' ≤ q then 0 else 1))) else (if (if s' = 0 then (0 : Int32) else (if s' = 4 then 1 else 2)) ≤ (if s = 0 then (0 : Int32) else (if s = 4 then 1 else 2)) then 0 else 1))
theorem tb_e {S : Mm} {o o1 : Nat} : rX7_isTakenBefore S o o1 = tbR (S o 0) (S o 1) (S o 10) (S o1 0) (S o1 1) (S o1 10) := rfl
theorem tb_zx {l q s' l' q' : Int32} (h : ¬ s' = 0) : tbR 0 l q s' l' q' = 1 := by
  unfold tbR
  by_cases h4 : s' = 4
  · subst h4; rfl
  · rw [if_neg h, if_neg h4]; rfl
theorem tb_xz {s l q l' q' : Int32} : tbR s l q 0 l' q' = 0 := by
  unfold tbR
  by_cases h : s = 0
  · subst h; rfl
  · by_cases h4 : s = 4
    · subst h4; rfl
    · rw [if_neg h, if_neg h4]; rfl
theorem tb_ro {l q s' l' q' : Int32} (h : ¬ s' = 0) (h4 : ¬ s' = 4) : tbR 4 l q s' l' q' = 1 := by
  unfold tbR
  rw [if_neg h, if_neg h4]; rfl
theorem tb_or {s l q l' q' : Int32} (h : ¬ s = 0) (h4 : ¬ s = 4) : tbR s l q 4 l' q' = 0 := by
  unfold tbR
  rw [if_neg h, if_neg h4]; rfl
theorem tb_rr {l q l' q' : Int32} : tbR 4 l q 4 l' q' = if l' ≤ l then 0 else 1 := rfl
theorem tb_oo {s l q s' l' q' : Int32} (h : ¬ s = 0) (h4 : ¬ s = 4) (h' : ¬ s' = 0) (h4' : ¬ s' = 4) : tbR s l q s' l' q' = if q' ≤ q then 0 else 1 := by
  unfold tbR
  rw [if_neg h, if_neg h4, if_neg h', if_neg h4', if_pos rfl, if_neg h4, if_neg h]
theorem ne10 : ¬ (1 : Int32) = 0 := by decide
theorem v4 {v : Nat} (h : v < 4) : v = 0 ∨ v = 1 ∨ v = 2 ∨ v = 3 := by omega
theorem vo_n {g v : Nat} (h : v < 4) : rX6_voiceOf g (nI v) = g + 4 + v := by
  rcases v4 h with e | e | e | e <;> subst e <;> rfl
theorem io_n {i : Nat} (h : i < 4) : rX5_instrumentOf (nI i) = 14 + i := by
  rcases v4 h with e | e | e | e <;> subst e <;> rfl
theorem mix_n {S : Mm} {g o : Nat} (h : o < g + 4 ∨ g + 8 ≤ o) : fX6_mixVoices S g o = S o := by
  have e0 : rX6_voiceOf g (0 : Int32) = g + 4 := rfl
  have e1 : rX6_voiceOf g (1 : Int32) = g + 5 := rfl
  have e2 : rX6_voiceOf g (2 : Int32) = g + 6 := rfl
  have e3 : rX6_voiceOf g (3 : Int32) = g + 7 := rfl
  unfold fX6_mixVoices mX6_mixVoices_7
  rw [e3, gi_n (by omega)]
  unfold mX6_mixVoices_5
  rw [e2, gi_n (by omega)]
  unfold mX6_mixVoices_3
  rw [e1, gi_n (by omega)]
  unfold mX6_mixVoices_1
  rw [e0, gi_n (by omega)]
theorem st_n {U : Mm} {o o' : Nat} {p1 p2 p3 p4 p5 : Int32} (h : o' ≠ o) : fX7_start U o p1 p2 p3 p4 p5 o' = U o' := by
  simp [fX7_start, mX7_start_2, mX7_start_1, up2_n h]
theorem st_row {U : Mm} {o : Nat} {p1 p2 p3 p4 p5 : Int32} : fX7_start U o p1 p2 p3 p4 p5 o 0 = 1 ∧ fX7_start U o p1 p2 p3 p4 p5 o 1 = U o 1 ∧ fX7_start U o p1 p2 p3 p4 p5 o 2 = p1 ∧ fX7_start U o p1 p2 p3 p4 p5 o 3 = p2 ∧ fX7_start U o p1 p2 p3 p4 p5 o 4 = p3 ∧ fX7_start U o p1 p2 p3 p4 p5 o 5 = 0 ∧ fX7_start U o p1 p2 p3 p4 p5 o 6 = 0 ∧ fX7_start U o p1 p2 p3 p4 p5 o 7 = 0 ∧ fX7_start U o p1 p2 p3 p4 p5 o 8 = 0 ∧ fX7_start U o p1 p2 p3 p4 p5 o 9 = p4 ∧ fX7_start U o p1 p2 p3 p4 p5 o 10 = p5 := by
  simp [fX7_start, mX7_start_2, mX7_start_1, up2_h, up2_k]
theorem sn_n {S : Mm} {g o : Nat} {p1 p2 p3 p4 : Int32} (hg : o ≠ g) (h : o < g + 4 ∨ g + 8 ≤ o) : fX6_startNote S g p1 p2 p3 p4 o = S o := by
  have hv : o ≠ rX6_voiceOf g (rX6_voiceToTake S g) := by
    unfold rX6_voiceOf
    (repeat' split) <;> omega
  unfold fX6_startNote mX6_startNote_3
  rw [st_n hv]
  unfold mX6_startNote_2
  rw [up2_n hg]
  unfold jX6_startNote_1
  split
  · rfl
  · rw [up2_n hg]
theorem rel_n {S : Mm} {o o' : Nat} (h : o' ≠ o) : fX7_release S o o' = S o' := by
  unfold fX7_release
  split
  · rfl
  · exact up2_n h
theorem rel_k {S : Mm} {o k : Nat} (h : k ≠ 0) (o' : Nat) : fX7_release S o o' k = S o' k := by
  unfold fX7_release
  split
  · rfl
  · exact up2_k h o'
theorem rel_0 {S : Mm} {o : Nat} : fX7_release S o o 0 = if S o 0 = 0 then S o 0 else 4 := by
  unfold fX7_release
  split
  · rfl
  · exact up2_h
theorem cgt_n {S : Mm} {o o' : Nat} (h : o' ≠ o) : fX7_closeGate S o o' = S o' := by
  unfold fX7_closeGate
  split
  · rw [up2_n h, rel_n h]
  · rfl
theorem ctg_n {S : Mm} {o o' : Nat} (h : o' ≠ o) : fX7_countGate S o o' = S o' := by
  unfold fX7_countGate
  split
  · rfl
  · rw [up2_n h]
theorem cgs_n {S : Mm} {g o : Nat} (h : o < g + 4 ∨ g + 8 ≤ o) : fX6_closeGates S g o = S o := by
  have e0 : rX6_voiceOf g (0 : Int32) = g + 4 := rfl
  have e1 : rX6_voiceOf g (1 : Int32) = g + 5 := rfl
  have e2 : rX6_voiceOf g (2 : Int32) = g + 6 := rfl
  have e3 : rX6_voiceOf g (3 : Int32) = g + 7 := rfl
  unfold fX6_closeGates mX6_closeGates_2 mX6_closeGates_1
  rw [e0, e1, e2, e3, cgt_n (by omega), cgt_n (by omega), cgt_n (by omega), cgt_n (by omega)]
theorem cng_n {S : Mm} {g o : Nat} (h : o < g + 4 ∨ g + 8 ≤ o) : fX6_countGates S g o = S o := by
  have e0 : rX6_voiceOf g (0 : Int32) = g + 4 := rfl
  have e1 : rX6_voiceOf g (1 : Int32) = g + 5 := rfl
  have e2 : rX6_voiceOf g (2 : Int32) = g + 6 := rfl
  have e3 : rX6_voiceOf g (3 : Int32) = g + 7 := rfl
  unfold fX6_countGates mX6_countGates_2 mX6_countGates_1
  rw [e0, e1, e2, e3, ctg_n (by omega), ctg_n (by omega), ctg_n (by omega), ctg_n (by omega)]
theorem rowN_g {g : Nat} (hg : isG g) : rowN (g + 1 + 1) = 200 := by rcases hg with e | e <;> subst e <;> rfl
theorem ps_n {S : Mm} {g o : Nat} {m : Int32} (hg : isG g) (h1 : o ≠ g + 1) (h3 : o ≠ g + 3) : fX0_pass S (g + 1) m o = S o := by
  unfold fX0_pass
  split
  · rfl
  · rw [up2_n h1]
    unfold mX0_pass_1 fX3_put
    (repeat' split) <;> first | rfl | exact up2_n (by omega)
theorem ps_k {S : Mm} {g k : Nat} {m : Int32} (h3 : k ≠ 3) : fX0_pass S (g + 1) m (g + 1) k = S (g + 1) k := by
  unfold fX0_pass
  split
  · rfl
  · rw [up2_k h3]
    unfold mX0_pass_1 fX3_put
    (repeat' split) <;> first | rfl | rw [up2_n (by omega)]
theorem st8 {x y : Int32} (h : x = y) : (x + 1) - (x + 1) / 8 * 8 = (y + 1) - (y + 1) / 8 * 8 := by rw [h]
def ctJ (U : Mm) (p : Int32) : Mm := jX2_count_2 U 0 p
theorem ct_1o {U : Mm} {L : Int64} {p : Int32} {o : Nat} (h : o ≠ 34) : jX2_count_1 U L p o = U o := by
  unfold jX2_count_1
  split
  · rfl
  · rw [up2_n h]
theorem ct_1k {U : Mm} {L : Int64} {p : Int32} {k : Nat} (h : k ≠ 6) : jX2_count_1 U L p 34 k = U 34 k := by
  unfold jX2_count_1
  split
  · rfl
  · rw [up2_k h]
theorem ct_16 {U : Mm} {L : Int64} {p : Int32} : jX2_count_1 U L p 34 6 = if rX9_kept p 32767 = p then U 34 6 else U 34 6 + 1 := by
  unfold jX2_count_1
  by_cases c : rX9_kept p 32767 = p
  · rw [if_pos c, if_pos c]
  · rw [if_neg c, if_neg c, up2_h]
theorem ct_2 {U : Mm} {L : Int64} {p : Int32} : jX2_count_2 U L p = jX2_count_1 U L p ∨ jX2_count_2 U L p = up2 (jX2_count_1 U L p) 34 7 (jX2_count_1 U L p 34 7 + 1) := by
  unfold jX2_count_2
  by_cases c : rX9_kept p 32767 ≤ 0
  · rw [if_pos c]; exact Or.inl rfl
  · rw [if_neg c]
    by_cases d : 0 < jX2_count_1 U L p 34 2
    · rw [if_pos d]; exact Or.inl rfl
    · rw [if_neg d]; exact Or.inr rfl
theorem ct_J1 {U : Mm} {L : Int64} {p : Int32} {o : Nat} (h : o ≠ 34) : jX2_count_2 U L p o = U o := by
  rcases ct_2 (U := U) (L := L) (p := p) with e | e
  · rw [e, ct_1o h]
  · rw [e, up2_n h, ct_1o h]
theorem ct_Jk {U : Mm} {L : Int64} {p : Int32} {k : Nat} (h : k ≠ 6) (h7 : k ≠ 7) : jX2_count_2 U L p 34 k = U 34 k := by
  rcases ct_2 (U := U) (L := L) (p := p) with e | e
  · rw [e, ct_1k h]
  · rw [e, up2_k h7, ct_1k h]
theorem ct_J6 {U : Mm} {L : Int64} {p : Int32} : jX2_count_2 U L p 34 6 = if rX9_kept p 32767 = p then U 34 6 else U 34 6 + 1 := by
  rcases ct_2 (U := U) (L := L) (p := p) with e | e
  · rw [e, ct_16]
  · rw [e, up2_k (by decide), ct_16]
theorem ct_J7 {U : Mm} {L : Int64} {p : Int32} : jX2_count_2 U L p 34 7 = if rX9_kept p 32767 ≤ 0 then U 34 7 else if 0 < U 34 2 then U 34 7 else U 34 7 + 1 := by
  have a : jX2_count_1 U L p 34 7 = U 34 7 := by
    unfold jX2_count_1
    split
    · rfl
    · rw [up2_k (by decide)]
  have b : jX2_count_1 U L p 34 2 = U 34 2 := by
    unfold jX2_count_1
    split
    · rfl
    · rw [up2_k (by decide)]
  unfold jX2_count_2
  rw [b]
  by_cases c : rX9_kept p 32767 ≤ 0
  · rw [if_pos c, if_pos c]; exact a
  · rw [if_neg c, if_neg c]
    by_cases d : 0 < U 34 2
    · rw [if_pos d, if_pos d]; exact a
    · rw [if_neg d, if_neg d, up2_h, a]
theorem ct_f {U : Mm} {L : Int64} {p : Int32} {x : Nat} (hx : x < 64) (e : U 34 1 = nI x) : fX2_count U L p = up2 (up2 (up2 (up2 (up2 (jX2_count_2 U L p) 34 3 (U 34 3 + 1)) 34 4 (if U 34 4 < vX2_count_3 U L p then vX2_count_3 U L p else U 34 4)) 34 2 (rX9_kept p 32767)) 36 x (rX9_kept p 32767)) 34 1 (nI ((x + 1) % 64)) := by
  have e5 : mX2_count_5 U L p = up2 (up2 (jX2_count_2 U L p) 34 3 (U 34 3 + 1)) 34 4 (if U 34 4 < vX2_count_3 U L p then vX2_count_3 U L p else U 34 4) := by
    unfold mX2_count_5 vX2_count_4
    rw [ct_Jk (by decide) (by decide), up2_k (by decide), ct_Jk (by decide) (by decide)]
  have e51 : mX2_count_5 U L p 34 1 = nI x := by rw [e5, up2_k (by decide), up2_k (by decide), ct_Jk (by decide) (by decide), e]
  have e6 : mX2_count_6 U L p = up2 (up2 (mX2_count_5 U L p) 34 2 (rX9_kept p 32767)) 36 x (rX9_kept p 32767) := by
    unfold mX2_count_6
    rw [up2_k (by decide), e51, put_at (N := 64) rfl hx]
  have e61 : mX2_count_6 U L p 34 1 = nI x := by rw [e6, up2_n (by decide), up2_k (by decide), e51]
  unfold fX2_count mX2_count_7
  rw [e61, nI_1, show (64 : Int32) = nI 64 from rfl, pk_rem (by omega) (by decide) (by decide), e6, e5]
theorem ct_n {U : Mm} {L : Int64} {p : Int32} {x : Nat} (hx : x < 64) (e : U 34 1 = nI x) {o : Nat} (h : o ≠ 34) (h2 : o ≠ 36) : fX2_count U L p o = U o := by
  rw [ct_f hx e, up2_n h, up2_n h2, up2_n h, up2_n h, up2_n h, ct_J1 h]
theorem vp_lt {x M : Int32} {N : Nat} (hM : M.toInt = N) (h1 : ¬ x < 0) (h2 : x < M) : vp_in x N := by
  rw [Int32.lt_iff_toInt_lt] at h1 h2
  have h0 : (0 : Int32).toInt = 0 := by decide
  exact vp_in_iff.mpr ⟨by omega, by omega⟩
theorem vp_le {x M : Int32} {N : Nat} (hM : M.toInt + 1 = N) (h1 : ¬ x < 0) (h2 : x ≤ M) : vp_in x N := by
  rw [Int32.lt_iff_toInt_lt] at h1
  rw [Int32.le_iff_toInt_le] at h2
  have h0 : (0 : Int32).toInt = 0 := by decide
  exact vp_in_iff.mpr ⟨by omega, by omega⟩
theorem rg_of {x a b : Int32} {A B : Int} (ha : a.toInt = A) (hb : b.toInt = B) (h1 : ¬ x < a) (h2 : x ≤ b) : rg x A B := by
  rw [Int32.lt_iff_toInt_lt] at h1
  rw [Int32.le_iff_toInt_le] at h2
  exact ⟨by omega, by omega⟩
theorem c4_0 : (0 : Int32).toNatClampNeg = 0 := by decide
theorem c4_1 : (1 : Int32).toNatClampNeg = 1 := by decide
theorem c4_2 : (2 : Int32).toNatClampNeg = 2 := by decide
theorem c4_3 : (3 : Int32).toNatClampNeg = 3 := by decide
theorem fill_n {S : Mm} {o : Nat} {x : Int32} {q : Nat} (h : q ≠ o + 1) : ∀ i, lpX3_fill_2 S o x i q = S q := by
  intro i
  induction i with
  | zero => rw [lpX3_fill_2_0]
  | succ i ih =>
    rw [lpX3_fill_2_s]
    unfold bX3_fill_2_zS
    rw [up2_n h, ih]
theorem fill_v {S : Mm} {o : Nat} {x : Int32} : ∀ i, i ≤ 1000 → ∀ k, k < i → lpX3_fill_2 S o x i (o + 1) k = x := by
  intro i
  induction i with
  | zero => intro _ k hk; omega
  | succ i ih =>
    intro h k hk
    rw [lpX3_fill_2_s]
    unfold bX3_fill_2_zS
    rw [nI_clamp (by omega)]
    by_cases e : k = i
    · subst e; rw [up2_h]
    · rw [up2_k e, ih (by omega) k (by omega)]
theorem sl_n {S : Mm} {o o' : Nat} (h : o' ≠ o) : fX7_silence S o o' = S o' := by
  unfold fX7_silence
  rw [up2_n h, up2_n h, up2_n h]
theorem note_f {S : Mm} {t s : Nat} {a b c : Int32} (ht : t < 3) (hs : s < 8) : fX4_note S (nI t) (nI s) a b c = up2 (up2 (up2 S 9 (8 * t + s) a) 11 (8 * t + s) b) 13 (8 * t + s) c := by
  have ix : (nI t * 8) + nI s = nI (8 * t + s) := by rw [show (8 : Int32) = nI 8 from rfl, pk_mul, nI_add, Nat.mul_comm]
  unfold fX4_note mX4_note_1
  rw [ix, put_at (N := 24) rfl (by omega), put_at (N := 24) rfl (by omega), put_at (N := 24) rfl (by omega)]
theorem ix3 {t s : Nat} (ht : t < 3) (hs : s < 8) : (((nI t * 8) + nI s) * 3).toNatClampNeg = 3 * (8 * t + s) ∧ ((((nI t * 8) + nI s) * 3) + 1).toNatClampNeg = 3 * (8 * t + s) + 1 ∧ ((((nI t * 8) + nI s) * 3) + 2).toNatClampNeg = 3 * (8 * t + s) + 2 := by
  have e : ((nI t * 8) + nI s) * 3 = nI (3 * (8 * t + s)) := by
    rw [show (8 : Int32) = nI 8 from rfl, pk_mul, nI_add, show (3 : Int32) = nI 3 from rfl, pk_mul, Nat.mul_comm t 8, Nat.mul_comm _ 3]
  rw [e]
  refine ⟨nI_clamp (by omega), ?_, ?_⟩
  · rw [nI_1, nI_clamp (by omega)]
  · rw [show (2 : Int32) = nI 2 from rfl, nI_add, nI_clamp (by omega)]
theorem fm64 : ∀ x : Nat, x < 64 → ∀ k : Nat, k < 64 → rJ9_floorMod_7cf53 ((nI x - 1) - nI k) 64 = nI (if k < x then x - 1 - k else x + 63 - k) := by decide +kernel
theorem c7_v {S : Mm} {o o1 : Nat} (h : o1 ≠ o) : ∀ k, k < 11 → fX7_copy S o o1 o k = S o1 k := by
  have m1 : ∀ k, mX7_copy_1 S o o1 o1 k = S o1 k := fun k => by unfold mX7_copy_1; rw [up2_n h, up2_n h, up2_n h]
  have m2 : ∀ k, mX7_copy_2 S o o1 o1 k = S o1 k := fun k => by unfold mX7_copy_2; rw [up2_n h, up2_n h, m1]
  have m3 : ∀ k, mX7_copy_3 S o o1 o1 k = S o1 k := fun k => by unfold mX7_copy_3; rw [up2_n h, up2_n h, m2]
  have m4 : ∀ k, mX7_copy_4 S o o1 o1 k = S o1 k := fun k => by unfold mX7_copy_4; rw [up2_n h, up2_n h, m3]
  have n1 : mX7_copy_1 S o o1 o 0 = S o1 0 ∧ mX7_copy_1 S o o1 o 1 = S o1 1 ∧ mX7_copy_1 S o o1 o 2 = S o1 2 := by
    unfold mX7_copy_1
    refine ⟨?_, ?_, ?_⟩
    · rw [up2_k (by decide), up2_k (by decide), up2_h]
    · rw [up2_k (by decide), up2_h, up2_n h]
    · rw [up2_h, up2_n h, up2_n h]
  have n2 : (∀ k, k < 3 → mX7_copy_2 S o o1 o k = S o1 k) ∧ mX7_copy_2 S o o1 o 3 = S o1 3 ∧ mX7_copy_2 S o o1 o 4 = S o1 4 := by
    unfold mX7_copy_2
    refine ⟨fun k hk => ?_, ?_, ?_⟩
    · rw [up2_k (by omega), up2_k (by omega)]
      have : k = 0 ∨ k = 1 ∨ k = 2 := by omega
      rcases this with e | e | e <;> subst e
      · exact n1.1
      · exact n1.2.1
      · exact n1.2.2
    · rw [up2_k (by decide), up2_h, m1]
    · rw [up2_h, up2_n h, m1]
  have n3 : (∀ k, k < 5 → mX7_copy_3 S o o1 o k = S o1 k) ∧ mX7_copy_3 S o o1 o 5 = S o1 5 ∧ mX7_copy_3 S o o1 o 6 = S o1 6 := by
    unfold mX7_copy_3
    refine ⟨fun k hk => ?_, ?_, ?_⟩
    · rw [up2_k (by omega), up2_k (by omega)]
      by_cases q : k < 3
      · exact n2.1 k q
      · have : k = 3 ∨ k = 4 := by omega
        rcases this with e | e <;> subst e
        · exact n2.2.1
        · exact n2.2.2
    · rw [up2_k (by decide), up2_h, m2]
    · rw [up2_h, up2_n h, m2]
  have n4 : (∀ k, k < 7 → mX7_copy_4 S o o1 o k = S o1 k) ∧ mX7_copy_4 S o o1 o 7 = S o1 7 ∧ mX7_copy_4 S o o1 o 8 = S o1 8 := by
    unfold mX7_copy_4
    refine ⟨fun k hk => ?_, ?_, ?_⟩
    · rw [up2_k (by omega), up2_k (by omega)]
      by_cases q : k < 5
      · exact n3.1 k q
      · have : k = 5 ∨ k = 6 := by omega
        rcases this with e | e <;> subst e
        · exact n3.2.1
        · exact n3.2.2
    · rw [up2_k (by decide), up2_h, m3]
    · rw [up2_h, up2_n h, m3]
  intro k hk
  unfold fX7_copy mX7_copy_5
  by_cases q : k < 9
  · rw [up2_k (by omega), up2_k (by omega)]
    by_cases q2 : k < 7
    · exact n4.1 k q2
    · have : k = 7 ∨ k = 8 := by omega
      rcases this with e | e <;> subst e
      · exact n4.2.1
      · exact n4.2.2
  · have : k = 9 ∨ k = 10 := by omega
    rcases this with e | e <;> subst e
    · rw [up2_k (by decide), up2_h, m4]
    · rw [up2_h, up2_n h, m4]
theorem c3_v {S : Mm} : ∀ i, i ≤ 200 → ∀ k, k < i → lpX3_copy_2 S 28 20 i 29 k = S 21 k := by
  intro i
  induction i with
  | zero => intro _ k hk; omega
  | succ i ih =>
    intro h k hk
    rw [lpX3_copy_2_s]
    unfold bX3_copy_2_zS
    rw [nI_clamp (by omega), get_at (N := 200) rfl (by omega), c3c_n0 (by decide)]
    by_cases e : k = i
    · subst e; rw [up2_h]
    · rw [up2_k e, ih (by omega) k (by omega)]
theorem c0_v {S : Mm} : (∀ k, k < 4 → fX0_copy S 27 19 27 k = S 19 k) ∧ (∀ k, k < 200 → fX0_copy S 27 19 29 k = S 21 k) := by
  have kr : (Int32.ofNat (rowN (27 + 1))).toNatClampNeg = 200 := by decide
  have m1 : ∀ q, q ≠ 27 → mX0_copy_1 S 27 19 q = S q := fun q hq => by
    unfold mX0_copy_1
    rw [up2_n hq, up2_n hq, up2_n hq]
  refine ⟨fun k hk => ?_, fun k hk => ?_⟩
  · unfold fX0_copy mX0_copy_2
    rw [c3c_n (by decide)]
    have : k = 0 ∨ k = 1 ∨ k = 2 ∨ k = 3 := by omega
    rcases this with e | e | e | e <;> subst e
    · rw [up2_k (by decide)]
      unfold mX0_copy_1
      rw [up2_k (by decide), up2_k (by decide), up2_h]
    · rw [up2_k (by decide)]
      unfold mX0_copy_1
      rw [up2_k (by decide), up2_h, up2_n (by decide)]
    · rw [up2_k (by decide)]
      unfold mX0_copy_1
      rw [up2_h, up2_n (by decide), up2_n (by decide)]
    · rw [up2_h, m1 19 (by decide)]
  · unfold fX0_copy mX0_copy_2 fX3_copy
    rw [kr]
    refine (c3_v 200 (by decide) k hk).trans ?_
    rw [up2_n (by decide), m1 21 (by decide)]
/-- the class's copying: what is where -/
theorem c6_n {S : Mm} {o : Nat} (h : o < 26 ∨ 33 < o) : fX6_copy S 26 18 o = S o := by
  have e0 : rX6_voiceOf 26 (0 : Int32) = 30 := rfl
  have e1 : rX6_voiceOf 26 (1 : Int32) = 31 := rfl
  have e2 : rX6_voiceOf 26 (2 : Int32) = 32 := rfl
  have e3 : rX6_voiceOf 26 (3 : Int32) = 33 := rfl
  unfold fX6_copy mX6_copy_6 mX6_copy_5 mX6_copy_4
  rw [up2_n (by omega), up2_n (by omega), up2_n (by omega), up2_n (by omega), up2_n (by omega), up2_n (by omega), c0c_n (by omega) (by omega)]
  unfold mX6_copy_3 mX6_copy_2 mX6_copy_1
  rw [e0, e1, e2, e3, c7c_n (by omega), c7c_n (by omega), c7c_n (by omega), c7c_n (by omega)]
theorem c63_n {S : Mm} {o : Nat} (h : o < 30) : mX6_copy_3 S 26 18 o = S o := by
  have e0 : rX6_voiceOf 26 (0 : Int32) = 30 := rfl
  have e1 : rX6_voiceOf 26 (1 : Int32) = 31 := rfl
  have e2 : rX6_voiceOf 26 (2 : Int32) = 32 := rfl
  have e3 : rX6_voiceOf 26 (3 : Int32) = 33 := rfl
  unfold mX6_copy_3 mX6_copy_2 mX6_copy_1
  rw [e0, e1, e2, e3, c7c_n (by omega), c7c_n (by omega), c7c_n (by omega), c7c_n (by omega)]
theorem c6_d {S : Mm} {o : Nat} (h : o ≠ 26) : fX6_copy S 26 18 o = fX0_copy (mX6_copy_3 S 26 18) 27 19 o := by
  unfold fX6_copy mX6_copy_6 mX6_copy_5 mX6_copy_4
  rw [up2_n h, up2_n h, up2_n h, up2_n h, up2_n h, up2_n h]
theorem c6_v {S : Mm} : ∀ v, v < 4 → ∀ k, k < 11 → fX6_copy S 26 18 (26 + 4 + v) k = S (18 + 4 + v) k := by
  have e0 : rX6_voiceOf 26 (0 : Int32) = 30 := rfl
  have e1 : rX6_voiceOf 26 (1 : Int32) = 31 := rfl
  have e2 : rX6_voiceOf 26 (2 : Int32) = 32 := rfl
  have e3 : rX6_voiceOf 26 (3 : Int32) = 33 := rfl
  have f0 : rX6_voiceOf 18 (0 : Int32) = 22 := rfl
  have f1 : rX6_voiceOf 18 (1 : Int32) = 23 := rfl
  have f2 : rX6_voiceOf 18 (2 : Int32) = 24 := rfl
  have f3 : rX6_voiceOf 18 (3 : Int32) = 25 := rfl
  intro v hv k hk
  rw [c6_d (by omega), c0c_n (by omega) (by omega)]
  unfold mX6_copy_3 mX6_copy_2 mX6_copy_1
  rw [e0, e1, e2, e3, f0, f1, f2, f3]
  rcases v4 hv with q | q | q | q <;> subst q
  · rw [c7c_n (by decide), c7c_n (by decide), c7c_n (by decide)]
    exact c7_v (by decide) k hk
  · rw [c7c_n (by decide), c7c_n (by decide)]
    refine (c7_v (by decide) k hk).trans ?_
    rw [c7c_n (by decide)]
  · rw [c7c_n (by decide)]
    refine (c7_v (by decide) k hk).trans ?_
    rw [c7c_n (by decide), c7c_n (by decide)]
  · refine (c7_v (by decide) k hk).trans ?_
    rw [c7c_n (by decide), c7c_n (by decide), c7c_n (by decide)]
theorem c6_g {S : Mm} : ∀ k, 6 ≤ k → k < 12 → fX6_copy S 26 18 26 k = S 18 k := by
  have m4 : ∀ k, mX6_copy_4 S 26 18 18 k = S 18 k := fun k => by
    unfold mX6_copy_4
    rw [up2_n (by decide), c0c_n (by decide) (by decide), c63_n (by decide)]
  have m5 : ∀ k, mX6_copy_5 S 26 18 18 k = S 18 k := fun k => by
    unfold mX6_copy_5
    rw [up2_n (by decide), up2_n (by decide), m4]
  have m6 : ∀ k, mX6_copy_6 S 26 18 18 k = S 18 k := fun k => by
    unfold mX6_copy_6
    rw [up2_n (by decide), up2_n (by decide), m5]
  intro k h1 h2
  have : k = 6 ∨ k = 7 ∨ k = 8 ∨ k = 9 ∨ k = 10 ∨ k = 11 := by omega
  rcases this with e | e | e | e | e | e <;> subst e
  · unfold fX6_copy
    rw [up2_k (by decide)]
    unfold mX6_copy_6
    rw [up2_k (by decide), up2_k (by decide)]
    unfold mX6_copy_5
    rw [up2_k (by decide), up2_k (by decide)]
    unfold mX6_copy_4
    rw [up2_h, c0c_n (by decide) (by decide), c63_n (by decide)]
  · unfold fX6_copy
    rw [up2_k (by decide)]
    unfold mX6_copy_6
    rw [up2_k (by decide), up2_k (by decide)]
    unfold mX6_copy_5
    rw [up2_k (by decide), up2_h, m4]
  · unfold fX6_copy
    rw [up2_k (by decide)]
    unfold mX6_copy_6
    rw [up2_k (by decide), up2_k (by decide)]
    unfold mX6_copy_5
    rw [up2_h, up2_n (by decide), m4]
  · unfold fX6_copy
    rw [up2_k (by decide)]
    unfold mX6_copy_6
    rw [up2_k (by decide), up2_h, m5]
  · unfold fX6_copy
    rw [up2_k (by decide)]
    unfold mX6_copy_6
    rw [up2_h, up2_n (by decide), m5]
  · unfold fX6_copy
    rw [up2_h, m6]
