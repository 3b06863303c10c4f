theorem lx_nn {x : Int32} {i : Nat} (h : i < x.toNatClampNeg) : ¬ nI i < 0 := by
  have hx : x.toNatClampNeg = x.toInt.toNat := rfl
  have hb : x.toInt < 2 ^ 31 := Int32.toInt_lt x
  exact nI_pos (by omega)
theorem lx_lt {x : Int32} {i : Nat} (h : i < x.toNatClampNeg) : nI i < x := by
  have hx : x.toNatClampNeg = x.toInt.toNat := rfl
  have hb : x.toInt < 2 ^ 31 := Int32.toInt_lt x
  rw [Int32.lt_iff_toInt_lt, nI_toInt (by omega)]
  omega
