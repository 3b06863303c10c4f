/-! how it begins, there and there -/
def S00 : Mm := fun o => if o = 37 then gX10_stride_4 0 else SM0 o
theorem S00_n {o : Nat} (h : o ≠ 37) : S00 o = SM0 o := if_neg h
theorem in_rw : ∀ w : Nat, w < 4 → ∀ k : Nat, k < 32 → S00 4 (32 * w + k) = rX10_value SD0 (nI w) (nI k) := by decide +kernel
theorem in_in : ∀ i : Nat, i < 4 → ∀ k : Nat, k < 12 → S00 (14 + i) k = SD0 2 (12 * i + k) := by decide +kernel
theorem in_tr : ∀ t : Nat, t < 3 → S00 7 t = SD0 15 t := by decide +kernel
theorem in_wr : ∀ k : Nat, k < 24 → S00 9 k = SD0 16 (3 * k) ∧ S00 11 k = SD0 16 (3 * k + 1) ∧ S00 13 k = SD0 16 (3 * k + 2) := by decide +kernel
theorem in_wr1 : ∀ k : Nat, k < 24 → SD0 16 (3 * k) = -1 := by decide +kernel
theorem in_vo : ∀ v : Nat, v < 4 → ∀ k : Nat, k < 10 → S00 (18 + 4 + v) k = SD0 (3 + k) v := by decide +kernel
theorem in_v0 : ∀ v : Nat, v < 4 → SD0 3 v = 0 ∧ SD0 5 v = 0 ∧ SD0 6 v = 0 ∧ SD0 8 v = 0 ∧ SD0 9 v = 0 ∧ SD0 13 v = 0 := by decide +kernel
theorem in_j : ∀ i : Nat, i < 4 → (SD0 2 (12 * i + 0) = 0 ∧ SD0 2 (12 * i + 1) = 0 ∧ SD0 2 (12 * i + 2) = 0 ∧ SD0 2 (12 * i + 3) = 0 ∧ SD0 2 (12 * i + 4) = 10 ∧ SD0 2 (12 * i + 5) = 10) ∧ (SD0 2 (12 * i + 6) = 1000 ∧ SD0 2 (12 * i + 7) = 10 ∧ SD0 2 (12 * i + 8) = 128 ∧ SD0 2 (12 * i + 9) = 256 ∧ SD0 2 (12 * i + 10) = 0 ∧ SD0 2 (12 * i + 11) = 64) := by decide +kernel
theorem in_0 : SD0 0 13 = 0 ∧ SD0 0 14 = 0 ∧ SD0 0 15 = 64 ∧ SD0 0 16 = 0 ∧ SD0 0 17 = 0 ∧ SD0 0 18 = 0 ∧ SD0 0 22 = 20 ∧ SD0 0 23 = 0 ∧ SD0 0 24 = 0 ∧ SD0 0 25 = 0 ∧ SD0 0 26 = 0 ∧ SD0 0 27 = 0 ∧ SD0 0 28 = 0 := by decide +kernel
theorem in_m : SD0 0 30 = 0 ∧ SD0 0 31 = 0 ∧ SD0 0 32 = 0 ∧ SD0 0 33 = 0 := by decide +kernel
theorem in_t : ∀ t : Nat, t < 3 → SD0 15 t = 0 := by decide +kernel
theorem in_h : ∀ k : Nat, k < 64 → SD0 17 k = 0 := by decide +kernel
theorem r0_0 {A B : Int} (h1 : A ≤ 0) (h2 : 0 ≤ B) : rg (0 : Int32) A B := by
  have e : (0 : Int32).toInt = 0 := by decide
  unfold rg
  rw [e]
  exact ⟨h1, h2⟩
theorem init_ok : RAll 0 0 S00 0 SD0 0 := by
  obtain ⟨e13, e14, e15, e16, e17, e18, e22, e23, e24, e25, e26, e27, e28⟩ := in_0
  obtain ⟨e30, e31, e32, e33⟩ := in_m
  refine ⟨⟨⟨in_rw, fun k _ => rfl, in_in, in_tr, in_wr, e22.symm, e23.symm, e15.symm, 20, 0, by decide, by decide, e22, e23⟩, fun v hv => ?_, ⟨e28.symm, e13.symm, e14.symm, e24.symm, Or.inl e24, e25.symm, by rw [e13]; exact r0_0 (by decide) (by decide)⟩, Or.inl ⟨rfl, e26⟩, e16.symm, e17.symm, e18.symm, 0, 0, by decide, e16, rfl, Or.inr ⟨rfl, rfl⟩, fun k hk => absurd hk (Nat.not_lt_zero k)⟩, ⟨rfl, e30.symm, e31.symm, e32.symm, e33.symm, (in_h 0 (by decide)).symm, 0, by decide, rfl, fun k hk => in_h k hk⟩, fun v hv => ?_, fun i hi => ?_, by rw [e25]; exact vp_in_lit (by decide), by rw [e16]; exact r0_0 (by decide) (by decide), by rw [e28]; exact r0_0 (by decide) (by decide), fun t ht => by rw [in_t t ht]; exact vp_in_lit (by decide), fun k hk => Or.inl (in_wr1 k hk)⟩
  · obtain ⟨v3, -, -, -, -, v13⟩ := in_v0 v hv
    exact ⟨in_vo v hv, Or.inl v3, by rw [v3]; exact vp_in_lit (by decide), by rw [v13]; exact r0_0 (by decide) (by decide)⟩
  · obtain ⟨-, v5, v6, v8, v9, -⟩ := in_v0 v hv
    unfold iV
    rw [v5, v6, v8, v9]
    exact ⟨vp_in_lit (by decide), vp_in_lit (by decide), vp_in_lit (by decide), vp_in_lit (by decide)⟩
  · obtain ⟨⟨j0, j1, j2, j3, j4, j5⟩, j6, j7, j8, j9, j10, j11⟩ := in_j i hi
    unfold iJ
    rw [j0, j1, j2, j3, j4, j5, j6, j7, j8, j9, j10, j11]
    exact ⟨vp_in_lit (by decide), vp_in_lit (by decide), r0_0 (by decide) (by decide), r0_0 (by decide) (by decide), by unfold rg; decide, by unfold rg; decide, by unfold rg; decide, by unfold rg; decide, by unfold rg; decide, by unfold rg; decide, r0_0 (by decide) (by decide), by unfold rg; decide⟩
