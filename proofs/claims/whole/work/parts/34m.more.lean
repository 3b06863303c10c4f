theorem in_loopL {i : Nat} {x : Int32} (h : i < x.toNatClampNeg) (hL : rg x 0 200) : vp_in (nI i) 200 := by
  obtain ⟨j, hj, hj2, e⟩ := rg_nI hL
  rw [e, nI_clamp (by omega)] at h
  exact vp_in_nI (by omega) (by decide)
