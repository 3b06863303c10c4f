theorem isIn_b {x y z : Int32} : narrow .boolean (.int (rX11_isIn x y z)) = .int (rX11_isIn x y z) := by
  unfold rX11_isIn
  (repeat' split) <;> rfl
theorem isIn_01 (x y z : Int32) : rX11_isIn x y z = 0 ∨ rX11_isIn x y z = 1 := by
  unfold rX11_isIn
  (repeat' split) <;> simp
theorem isIn_ne {x y z : Int32} (h : ¬ rX11_isIn x y z = 0) : ¬ x < y ∧ ¬ z < x := by
  unfold rX11_isIn at h
  split at h
  · exact absurd rfl h
  · split at h
    · exact absurd rfl h
    · exact ⟨by assumption, by assumption⟩
theorem isIn_vp {x z : Int32} {N : Nat} (h : ¬ rX11_isIn x 0 z = 0) (hz : z.toInt + 1 ≤ (N : Int)) : vp_in x N := by
  obtain ⟨h1, h2⟩ := isIn_ne h
  rw [Int32.lt_iff_toInt_lt] at h1 h2
  have h0 : (0 : Int32).toInt = 0 := by decide
  exact vp_in_iff.mpr ⟨by omega, by omega⟩
theorem in_grid {x y : Int32} (hx : vp_in x 3) (hy : vp_in y 8) (c : Nat) (hc : c < 3) : vp_in ((((x * 8) + y) * 3) + nI c) 72 := by
  obtain ⟨i, hi, e⟩ := vp_in_of hx (by decide)
  obtain ⟨j, hj, e2⟩ := vp_in_of hy (by decide)
  rw [e, e2, show (8 : Int32) = nI 8 from rfl, pk_mul, nI_add, show (3 : Int32) = nI 3 from rfl, pk_mul, nI_add]
  exact vp_in_nI (by omega) (by decide)
theorem in_grid0 {x y : Int32} (hx : vp_in x 3) (hy : vp_in y 8) : vp_in (((x * 8) + y) * 3) 72 := by
  obtain ⟨i, hi, e⟩ := vp_in_of hx (by decide)
  obtain ⟨j, hj, e2⟩ := vp_in_of hy (by decide)
  rw [e, e2, show (8 : Int32) = nI 8 from rfl, pk_mul, nI_add, show (3 : Int32) = nI 3 from rfl, pk_mul]
  exact vp_in_nI (by omega) (by decide)
theorem in_gridS {x y z : Int32} (hx : vp_in x 3) (hy : vp_in y 8) (hz : vp_in z 3) : vp_in ((((x * 8) + y) * 3) + z) 72 := by
  obtain ⟨c, hc, e⟩ := vp_in_of hz (by decide)
  rw [e]
  exact in_grid hx hy c hc
