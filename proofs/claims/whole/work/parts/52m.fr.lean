/-! frames of the class's copying -/
theorem c7c_n {S : Mm} {o o1 q : Nat} (h : q ≠ o) : fX7_copy S o o1 q = S q := by
  unfold fX7_copy mX7_copy_5
  rw [up2_n h, up2_n h]
  unfold mX7_copy_4
  rw [up2_n h, up2_n h]
  unfold mX7_copy_3
  rw [up2_n h, up2_n h]
  unfold mX7_copy_2
  rw [up2_n h, up2_n h]
  unfold mX7_copy_1
  rw [up2_n h, up2_n h, up2_n h]
theorem c3c_n0 {S : Mm} {o o1 q : Nat} (h : q ≠ o + 1) : ∀ n : Nat, lpX3_copy_2 S o o1 n q = S q := by
  intro n
  induction n with
  | zero => rw [lpX3_copy_2_0]
  | succ n ih =>
    rw [lpX3_copy_2_s]
    unfold bX3_copy_2_zS
    rw [up2_n h, ih]
theorem c3c_n {S : Mm} {o o1 q : Nat} (h : q ≠ o + 1) : fX3_copy S o o1 q = S q := by
  unfold fX3_copy
  exact c3c_n0 h _
theorem c0c_n {S : Mm} {o o1 q : Nat} (h : q ≠ o) (h2 : q ≠ o + 2) : fX0_copy S o o1 q = S q := by
  unfold fX0_copy mX0_copy_2
  rw [c3c_n (by omega)]
  unfold mX0_copy_1
  rw [up2_n h, up2_n h, up2_n h, up2_n h]
theorem e6_eq {S : Mm} : eX6_copy S 26 18 = S 18 9 := by
  unfold eX6_copy mX6_copy_5
  rw [up2_n (by decide), up2_n (by decide)]
  unfold mX6_copy_4
  rw [up2_n (by decide), c0c_n (by decide) (by decide)]
  unfold mX6_copy_3 mX6_copy_2 mX6_copy_1
  rw [c7c_n (by decide), c7c_n (by decide), c7c_n (by decide), c7c_n (by decide)]
