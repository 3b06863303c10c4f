theorem p12_nn {x : Int32} (h : vp_in x 4) (k : Nat) (hk : k < 12) : ¬ (x * 12) + nI k < 0 := by
  obtain ⟨i, hi, e⟩ := vp_in_of h (by decide)
  rw [e, show (12 : Int32) = nI 12 from rfl, pk_mul, nI_add]
  exact nI_pos (by omega)
theorem p12_le {x : Int32} (h : vp_in x 4) (k n : Nat) (hk : k + n ≤ 12) : ((x * 12) + nI k).toNatClampNeg + (Int32.ofNat n).toNatClampNeg ≤ 48 := by
  obtain ⟨i, hi, e⟩ := vp_in_of h (by decide)
  have hn : (Int32.ofNat n).toNatClampNeg = n := nI_clamp (n := n) (by omega)
  rw [e, show (12 : Int32) = nI 12 from rfl, pk_mul, nI_add, nI_clamp (by omega), hn]
  omega
