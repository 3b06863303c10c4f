theorem in_loopL {i : Nat} {x : Int32} (h : i < x.toNatClampNeg) (hL : rg x 0 200) : vp_in (nI i) 200 := by
  obtain ⟨j, hj, hj2, e⟩ := rg_nI hL
  rw [e, nI_clamp (by omega)] at h
  exact vp_in_nI (by omega) (by decide)
theorem iD_18 {S : Mm} {K : Int} {k : Nat} {x : Int32} (h : iD S K) : iD (up2 S 18 k x) K :=
  iD_mk h (fun o ho => up2_n (by omega)) (by rw [up2_n (by decide)]; exact h.2.2.1) (by rw [up2_n (by decide)]; exact h.2.2.2.1) (by rw [up2_n (by decide)]; exact h.2.2.2.2.1)
theorem isIn_le {x : Int32} (h : ¬ rX11_isIn x 1 200 = 0) : x.toNatClampNeg ≤ 200 := by
  obtain ⟨h1, h2⟩ := isIn_ne h
  rw [Int32.lt_iff_toInt_lt] at h2
  have h0 : (200 : Int32).toInt = 200 := by decide
  have hx : x.toNatClampNeg = x.toInt.toNat := rfl
  omega
