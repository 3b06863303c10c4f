theorem se_exit {x : Int32} {i : Nat} (h : i + 0 = x.toNatClampNeg) (hx : x ≤ 200) : x < nI (i + 1) := by
  have hx0 : x.toNatClampNeg = x.toInt.toNat := rfl
  have h2 : (200 : Int32).toInt = 200 := by decide
  rw [Int32.le_iff_toInt_le, h2] at hx
  rw [Int32.lt_iff_toInt_lt, nI_toInt (by omega)]
  omega
theorem se_body {x : Int32} {i k : Nat} (h : i + (k + 1) = x.toNatClampNeg) : ¬ x < nI (i + 1) := by
  have hx0 : x.toNatClampNeg = x.toInt.toNat := rfl
  have hb : x.toInt < 2 ^ 31 := Int32.toInt_lt x
  rw [Int32.lt_iff_toInt_lt, nI_toInt (by omega)]
  omega
