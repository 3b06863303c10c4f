set_option maxRecDepth 100000 in
theorem d_X11_inDelay_hh1 (S : Mm) (p1 : Int32)  (hL : rg (S 0 16) 0 200) : ¬ (rX11_isIn p1 (0 : Int32) (((up2 S 18 0 0) 0 16) - 1) = 0) → vp_in p1 200 := by
  intro h
  have h1 := isIn_ne h
  rw [up2_n (by decide)] at h1
  have h2 := rg_sub hL (show rg (1 : Int32) 1 1 by unfold rg; decide) (by decide) (by decide)
  obtain ⟨h3, h4⟩ := h1
  rw [Int32.lt_iff_toInt_lt] at h3 h4
  have h0 : (0 : Int32).toInt = 0 := by decide
  have h5 := h2.1.2
  exact vp_in_iff.mpr ⟨by omega, by omega⟩
theorem c1_X11_inDelay (l : Launch) (G : va_G) (cA : ClassId) (zq : Nat) (a : Nat → Nat) (ha : apart 19 a) (S : Mm) (L : Int64) (sz : Nat) (p1 : Int32)  (hL : rg (S 0 16) 0 200) : Met l yX11_inDelay wsX11_inDelay ({ frames := 1, cells := 0, slots := 0, locals := 22 } : Room) (va_Pc [.ref (a 18), .int p1] (gI G cA zq 19 a (cD a cA) S L sz)) (gQi (rX11_inDelay S p1) G 19 a (cD a cA) (fX11_inDelay S p1) L sz) 0 0 (mA 19 a sz) :=
  c_X11_inDelay l G cA zq a ha S L sz p1  (d_X11_inDelay_hh1 S p1  hL)
