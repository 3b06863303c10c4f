/-! which calls are refused, there and there -/
theorem isIn_z {x a b : Int32} : rX11_isIn x a b = 0 ↔ (x < a ∨ b < x) := by
  unfold rX11_isIn
  by_cases h1 : x < a
  · rw [if_pos h1]; exact ⟨fun _ => Or.inl h1, fun _ => rfl⟩
  · rw [if_neg h1]
    by_cases h2 : b < x
    · rw [if_pos h2]; exact ⟨fun _ => Or.inr h2, fun _ => rfl⟩
    · rw [if_neg h2]; exact ⟨fun h => absurd h (by decide), fun h => (h.elim h1 h2).elim⟩
theorem isIn_s {x a b c : Int32} (hc : c.toInt = b.toInt + 1) : rX11_isIn x a b = 0 ↔ (x < a ∨ c ≤ x) := by
  rw [isIn_z, Int32.lt_iff_toInt_lt (x := b) (y := x), Int32.le_iff_toInt_le, hc]
  constructor <;> intro h <;> rcases h with h | h <;> first | exact Or.inl h | exact Or.inr (by omega)
theorem kq_draw (S T : Mm) (p1 : Int32) (p2 : Int32) : (kX9_draw S p1 p2 = 0 ∧ rX11_draw T p1 p2 = (up2 T 18 0 0) 1 p1.toNatClampNeg ∧ fX11_draw T p1 p2 = up2 (up2 T 18 0 0) 1 p1.toNatClampNeg p2) ∨ (kX9_draw S p1 p2 = 1 ∧ fX11_draw T p1 p2 = up2 (up2 T 18 0 0) 18 0 1) ∨ (kX9_draw S p1 p2 = 2 ∧ fX11_draw T p1 p2 = up2 (up2 T 18 0 0) 18 0 2) := by
  by_cases q1 : p1 < 0 ∨ (32 : Int32) ≤ p1
  · have b9 : rX11_isIn p1 (0 : Int32) (31 : Int32) = 0 := ((isIn_s (by decide)).mpr q1)
    exact Or.inr (Or.inl ⟨by unfold kX9_draw; rw [if_pos q1], by unfold fX11_draw; rw [if_pos b9] <;> rfl⟩)
  · have b1 : ¬ (rX11_isIn p1 (0 : Int32) (31 : Int32) = 0) := (fun h => q1 ((isIn_s (by decide)).mp h))
    by_cases q2 : p2 < ((-1000) : Int32) ∨ (1000 : Int32) < p2
    · have b9 : rX11_isIn p2 ((-1000) : Int32) (1000 : Int32) = 0 := (isIn_z.mpr q2)
      exact Or.inr (Or.inr ⟨by unfold kX9_draw; rw [if_neg q1, if_pos q2], by unfold fX11_draw; rw [if_neg b1, if_pos b9] <;> rfl⟩)
    · have b2 : ¬ (rX11_isIn p2 ((-1000) : Int32) (1000 : Int32) = 0) := (fun h => q2 (isIn_z.mp h))
      exact Or.inl ⟨by unfold kX9_draw; rw [if_neg q1, if_neg q2] <;> first | rfl | (rw [if_pos q4]; done) | (rw [if_neg q4]; done), by unfold rX11_draw; rw [if_neg b1, if_neg b2] <;> first | rfl | (rw [if_pos q4]; done) | (rw [if_neg q4]; done), by unfold fX11_draw; rw [if_neg b1, if_neg b2] <;> first | rfl | (rw [if_pos q4]; done) | (rw [if_neg q4]; done)⟩
theorem kq_wave (S T : Mm) (p1 : Int32) (p2 : Int32) : (kX9_wave S p1 p2 = 0 ∧ rX11_wave T p1 p2 = rX10_wave (up2 T 18 0 0) p1 p2 ∧ fX11_wave T p1 p2 = up2 T 18 0 0) ∨ (kX9_wave S p1 p2 = 1 ∧ fX11_wave T p1 p2 = up2 (up2 T 18 0 0) 18 0 1) ∨ (kX9_wave S p1 p2 = 2 ∧ fX11_wave T p1 p2 = up2 (up2 T 18 0 0) 18 0 2) := by
  by_cases q1 : p1 < 0 ∨ (4 : Int32) ≤ p1
  · have b9 : rX11_isWave p1 = 0 := (show rX11_isWave p1 = 0 from ((isIn_s (by decide)).mpr q1))
    exact Or.inr (Or.inl ⟨by unfold kX9_wave; rw [if_pos q1], by unfold fX11_wave; rw [if_pos b9] <;> rfl⟩)
  · have b1 : ¬ (rX11_isWave p1 = 0) := (fun h => q1 ((isIn_s (by decide)).mp h))
    by_cases q2 : p2 < (0 : Int32) ∨ (65535 : Int32) < p2
    · have b9 : rX11_isIn p2 (0 : Int32) (65535 : Int32) = 0 := (isIn_z.mpr q2)
      exact Or.inr (Or.inr ⟨by unfold kX9_wave; rw [if_neg q1, if_pos q2], by unfold fX11_wave; rw [if_neg b1, if_pos b9] <;> rfl⟩)
    · have b2 : ¬ (rX11_isIn p2 (0 : Int32) (65535 : Int32) = 0) := (fun h => q2 (isIn_z.mp h))
      exact Or.inl ⟨by unfold kX9_wave; rw [if_neg q1, if_neg q2] <;> first | rfl | (rw [if_pos q4]; done) | (rw [if_neg q4]; done), by unfold rX11_wave; rw [if_neg b1, if_neg b2] <;> first | rfl | (rw [if_pos q4]; done) | (rw [if_neg q4]; done), by unfold fX11_wave; rw [if_neg b1, if_neg b2] <;> first | rfl | (rw [if_pos q4]; done) | (rw [if_neg q4]; done)⟩
theorem kq_stride (S T : Mm) (p1 : Int32) : (kX9_stride S p1 = 0 ∧ rX11_stride T p1 = rX10_stride p1 ∧ fX11_stride T p1 = up2 T 18 0 0) ∨ (kX9_stride S p1 = 1 ∧ fX11_stride T p1 = up2 (up2 T 18 0 0) 18 0 1) ∨ (kX9_stride S p1 = 2 ∧ fX11_stride T p1 = up2 (up2 T 18 0 0) 18 0 1) := by
  by_cases q1 : p1 < (0 : Int32) ∨ (47 : Int32) < p1
  · have b9 : rX11_isIn p1 (0 : Int32) (47 : Int32) = 0 := (isIn_z.mpr q1)
    exact Or.inr (Or.inr ⟨by unfold kX9_stride; rw [if_pos q1], by unfold fX11_stride; rw [if_pos b9] <;> rfl⟩)
  · have b1 : ¬ (rX11_isIn p1 (0 : Int32) (47 : Int32) = 0) := (fun h => q1 (isIn_z.mp h))
    exact Or.inl ⟨by unfold kX9_stride; rw [if_neg q1] <;> first | rfl | (rw [if_pos q4]; done) | (rw [if_neg q4]; done), by unfold rX11_stride; rw [if_neg b1] <;> first | rfl | (rw [if_pos q4]; done) | (rw [if_neg q4]; done), by unfold fX11_stride; rw [if_neg b1] <;> first | rfl | (rw [if_pos q4]; done) | (rw [if_neg q4]; done)⟩
theorem kq_setWaves (S T : Mm) (p1 : Int32) (p2 : Int32) (p3 : Int32) (p4 : Int32) (p5 : Int32) : (kX9_setWaves S p1 p2 p3 p4 p5 = 0 ∧ rX11_setWaves T p1 p2 p3 p4 p5 = vX11_setWaves_3 T p1 p2 p3 p4 p5 ∧ fX11_setWaves T p1 p2 p3 p4 p5 = mX11_setWaves_2 T p1 p2 p3 p4 p5) ∨ (kX9_setWaves S p1 p2 p3 p4 p5 = 1 ∧ fX11_setWaves T p1 p2 p3 p4 p5 = up2 (up2 T 18 0 0) 18 0 1) ∨ (kX9_setWaves S p1 p2 p3 p4 p5 = 2 ∧ fX11_setWaves T p1 p2 p3 p4 p5 = up2 (up2 T 18 0 0) 18 0 2) := by
  by_cases q1 : p1 < 0 ∨ (4 : Int32) ≤ p1
  · have b9 : rX11_isInstrument p1 = 0 := (show rX11_isInstrument p1 = 0 from ((isIn_s (by decide)).mpr q1))
    exact Or.inr (Or.inl ⟨by unfold kX9_setWaves; rw [if_pos q1], by unfold fX11_setWaves; rw [if_pos b9] <;> rfl⟩)
  · have b1 : ¬ (rX11_isInstrument p1 = 0) := (fun h => q1 ((isIn_s (by decide)).mp h))
    by_cases q2 : p2 < 0 ∨ (4 : Int32) ≤ p2
    · have b9 : rX11_isWave p2 = 0 := (show rX11_isWave p2 = 0 from ((isIn_s (by decide)).mpr q2))
      exact Or.inr (Or.inl ⟨by unfold kX9_setWaves; rw [if_neg q1, if_pos q2], by unfold fX11_setWaves; rw [if_neg b1, if_pos b9] <;> rfl⟩)
    · have b2 : ¬ (rX11_isWave p2 = 0) := (fun h => q2 ((isIn_s (by decide)).mp h))
      by_cases q3 : p3 < 0 ∨ (4 : Int32) ≤ p3
      · have b9 : rX11_isWave p3 = 0 := (show rX11_isWave p3 = 0 from ((isIn_s (by decide)).mpr q3))
        exact Or.inr (Or.inl ⟨by unfold kX9_setWaves; rw [if_neg q1, if_neg q2, if_pos q3], by unfold fX11_setWaves; rw [if_neg b1, if_neg b2, if_pos b9] <;> rfl⟩)
      · have b3 : ¬ (rX11_isWave p3 = 0) := (fun h => q3 ((isIn_s (by decide)).mp h))
        by_cases q4 : p4 < ((-64) : Int32) ∨ (64 : Int32) < p4
        · have b9 : rX11_isIn p4 ((-64) : Int32) (64 : Int32) = 0 := (isIn_z.mpr q4)
          exact Or.inr (Or.inr ⟨by unfold kX9_setWaves; rw [if_neg q1, if_neg q2, if_neg q3, if_pos q4], by unfold fX11_setWaves; rw [if_neg b1, if_neg b2, if_neg b3, if_pos b9] <;> rfl⟩)
        · have b4 : ¬ (rX11_isIn p4 ((-64) : Int32) (64 : Int32) = 0) := (fun h => q4 (isIn_z.mp h))
          by_cases q5 : p5 < (0 : Int32) ∨ (100 : Int32) < p5
          · have b9 : rX11_isIn p5 (0 : Int32) (100 : Int32) = 0 := (isIn_z.mpr q5)
            exact Or.inr (Or.inr ⟨by unfold kX9_setWaves; rw [if_neg q1, if_neg q2, if_neg q3, if_neg q4, if_pos q5], by unfold fX11_setWaves; rw [if_neg b1, if_neg b2, if_neg b3, if_neg b4, if_pos b9] <;> rfl⟩)
          · have b5 : ¬ (rX11_isIn p5 (0 : Int32) (100 : Int32) = 0) := (fun h => q5 (isIn_z.mp h))
            exact Or.inl ⟨by unfold kX9_setWaves; rw [if_neg q1, if_neg q2, if_neg q3, if_neg q4, if_neg q5] <;> first | rfl | (rw [if_pos q4]; done) | (rw [if_neg q4]; done), by unfold rX11_setWaves; rw [if_neg b1, if_neg b2, if_neg b3, if_neg b4, if_neg b5] <;> first | rfl | (rw [if_pos q4]; done) | (rw [if_neg q4]; done), by unfold fX11_setWaves; rw [if_neg b1, if_neg b2, if_neg b3, if_neg b4, if_neg b5] <;> first | rfl | (rw [if_pos q4]; done) | (rw [if_neg q4]; done)⟩
theorem kq_setEnvelope (S T : Mm) (p1 : Int32) (p2 : Int32) (p3 : Int32) (p4 : Int32) (p5 : Int32) : (kX9_setEnvelope S p1 p2 p3 p4 p5 = 0 ∧ rX11_setEnvelope T p1 p2 p3 p4 p5 = vX11_setEnvelope_3 T p1 p2 p3 p4 p5 ∧ fX11_setEnvelope T p1 p2 p3 p4 p5 = mX11_setEnvelope_2 T p1 p2 p3 p4 p5) ∨ (kX9_setEnvelope S p1 p2 p3 p4 p5 = 1 ∧ fX11_setEnvelope T p1 p2 p3 p4 p5 = up2 (up2 T 18 0 0) 18 0 1) ∨ (kX9_setEnvelope S p1 p2 p3 p4 p5 = 2 ∧ fX11_setEnvelope T p1 p2 p3 p4 p5 = up2 (up2 T 18 0 0) 18 0 2) := by
  by_cases q1 : p1 < 0 ∨ (4 : Int32) ≤ p1
  · have b9 : rX11_isInstrument p1 = 0 := (show rX11_isInstrument p1 = 0 from ((isIn_s (by decide)).mpr q1))
    exact Or.inr (Or.inl ⟨by unfold kX9_setEnvelope; rw [if_pos q1], by unfold fX11_setEnvelope; rw [if_pos b9] <;> rfl⟩)
  · have b1 : ¬ (rX11_isInstrument p1 = 0) := (fun h => q1 ((isIn_s (by decide)).mp h))
    by_cases q2 : p2 < (1 : Int32) ∨ (400 : Int32) < p2
    · have b9 : rX11_isIn p2 (1 : Int32) (400 : Int32) = 0 := (isIn_z.mpr q2)
      exact Or.inr (Or.inr ⟨by unfold kX9_setEnvelope; rw [if_neg q1, if_pos q2], by unfold fX11_setEnvelope; rw [if_neg b1, if_pos b9] <;> rfl⟩)
    · have b2 : ¬ (rX11_isIn p2 (1 : Int32) (400 : Int32) = 0) := (fun h => q2 (isIn_z.mp h))
      by_cases q3 : p3 < (1 : Int32) ∨ (400 : Int32) < p3
      · have b9 : rX11_isIn p3 (1 : Int32) (400 : Int32) = 0 := (isIn_z.mpr q3)
        exact Or.inr (Or.inr ⟨by unfold kX9_setEnvelope; rw [if_neg q1, if_neg q2, if_pos q3], by unfold fX11_setEnvelope; rw [if_neg b1, if_neg b2, if_pos b9] <;> rfl⟩)
      · have b3 : ¬ (rX11_isIn p3 (1 : Int32) (400 : Int32) = 0) := (fun h => q3 (isIn_z.mp h))
        by_cases q4 : p4 < (0 : Int32) ∨ (1000 : Int32) < p4
        · have b9 : rX11_isIn p4 (0 : Int32) (1000 : Int32) = 0 := (isIn_z.mpr q4)
          exact Or.inr (Or.inr ⟨by unfold kX9_setEnvelope; rw [if_neg q1, if_neg q2, if_neg q3, if_pos q4], by unfold fX11_setEnvelope; rw [if_neg b1, if_neg b2, if_neg b3, if_pos b9] <;> rfl⟩)
        · have b4 : ¬ (rX11_isIn p4 (0 : Int32) (1000 : Int32) = 0) := (fun h => q4 (isIn_z.mp h))
          by_cases q5 : p5 < (1 : Int32) ∨ (400 : Int32) < p5
          · have b9 : rX11_isIn p5 (1 : Int32) (400 : Int32) = 0 := (isIn_z.mpr q5)
            exact Or.inr (Or.inr ⟨by unfold kX9_setEnvelope; rw [if_neg q1, if_neg q2, if_neg q3, if_neg q4, if_pos q5], by unfold fX11_setEnvelope; rw [if_neg b1, if_neg b2, if_neg b3, if_neg b4, if_pos b9] <;> rfl⟩)
          · have b5 : ¬ (rX11_isIn p5 (1 : Int32) (400 : Int32) = 0) := (fun h => q5 (isIn_z.mp h))
            exact Or.inl ⟨by unfold kX9_setEnvelope; rw [if_neg q1, if_neg q2, if_neg q3, if_neg q4, if_neg q5] <;> first | rfl | (rw [if_pos q4]; done) | (rw [if_neg q4]; done), by unfold rX11_setEnvelope; rw [if_neg b1, if_neg b2, if_neg b3, if_neg b4, if_neg b5] <;> first | rfl | (rw [if_pos q4]; done) | (rw [if_neg q4]; done), by unfold fX11_setEnvelope; rw [if_neg b1, if_neg b2, if_neg b3, if_neg b4, if_neg b5] <;> first | rfl | (rw [if_pos q4]; done) | (rw [if_neg q4]; done)⟩
theorem kq_setFilter (S T : Mm) (p1 : Int32) (p2 : Int32) (p3 : Int32) : (kX9_setFilter S p1 p2 p3 = 0 ∧ rX11_setFilter T p1 p2 p3 = vX11_setFilter_2 T p1 p2 p3 ∧ fX11_setFilter T p1 p2 p3 = mX11_setFilter_1 T p1 p2 p3) ∨ (kX9_setFilter S p1 p2 p3 = 1 ∧ fX11_setFilter T p1 p2 p3 = up2 (up2 T 18 0 0) 18 0 1) ∨ (kX9_setFilter S p1 p2 p3 = 2 ∧ fX11_setFilter T p1 p2 p3 = up2 (up2 T 18 0 0) 18 0 2) := by
  by_cases q1 : p1 < 0 ∨ (4 : Int32) ≤ p1
  · have b9 : rX11_isInstrument p1 = 0 := (show rX11_isInstrument p1 = 0 from ((isIn_s (by decide)).mpr q1))
    exact Or.inr (Or.inl ⟨by unfold kX9_setFilter; rw [if_pos q1], by unfold fX11_setFilter; rw [if_pos b9] <;> rfl⟩)
  · have b1 : ¬ (rX11_isInstrument p1 = 0) := (fun h => q1 ((isIn_s (by decide)).mp h))
    by_cases q2 : p2 < (1 : Int32) ∨ (128 : Int32) < p2
    · have b9 : rX11_isIn p2 (1 : Int32) (128 : Int32) = 0 := (isIn_z.mpr q2)
      exact Or.inr (Or.inr ⟨by unfold kX9_setFilter; rw [if_neg q1, if_pos q2], by unfold fX11_setFilter; rw [if_neg b1, if_pos b9] <;> rfl⟩)
    · have b2 : ¬ (rX11_isIn p2 (1 : Int32) (128 : Int32) = 0) := (fun h => q2 (isIn_z.mp h))
      by_cases q3 : p3 < (16 : Int32) ∨ (256 : Int32) < p3
      · have b9 : rX11_isIn p3 (16 : Int32) (256 : Int32) = 0 := (isIn_z.mpr q3)
        exact Or.inr (Or.inr ⟨by unfold kX9_setFilter; rw [if_neg q1, if_neg q2, if_pos q3], by unfold fX11_setFilter; rw [if_neg b1, if_neg b2, if_pos b9] <;> rfl⟩)
      · have b3 : ¬ (rX11_isIn p3 (16 : Int32) (256 : Int32) = 0) := (fun h => q3 (isIn_z.mp h))
        exact Or.inl ⟨by unfold kX9_setFilter; rw [if_neg q1, if_neg q2, if_neg q3] <;> first | rfl | (rw [if_pos q4]; done) | (rw [if_neg q4]; done), by unfold rX11_setFilter; rw [if_neg b1, if_neg b2, if_neg b3] <;> first | rfl | (rw [if_pos q4]; done) | (rw [if_neg q4]; done), by unfold fX11_setFilter; rw [if_neg b1, if_neg b2, if_neg b3] <;> first | rfl | (rw [if_pos q4]; done) | (rw [if_neg q4]; done)⟩
theorem kq_setVibrato (S T : Mm) (p1 : Int32) (p2 : Int32) (p3 : Int32) : (kX9_setVibrato S p1 p2 p3 = 0 ∧ rX11_setVibrato T p1 p2 p3 = vX11_setVibrato_2 T p1 p2 p3 ∧ fX11_setVibrato T p1 p2 p3 = mX11_setVibrato_1 T p1 p2 p3) ∨ (kX9_setVibrato S p1 p2 p3 = 1 ∧ fX11_setVibrato T p1 p2 p3 = up2 (up2 T 18 0 0) 18 0 1) ∨ (kX9_setVibrato S p1 p2 p3 = 2 ∧ fX11_setVibrato T p1 p2 p3 = up2 (up2 T 18 0 0) 18 0 2) := by
  by_cases q1 : p1 < 0 ∨ (4 : Int32) ≤ p1
  · have b9 : rX11_isInstrument p1 = 0 := (show rX11_isInstrument p1 = 0 from ((isIn_s (by decide)).mpr q1))
    exact Or.inr (Or.inl ⟨by unfold kX9_setVibrato; rw [if_pos q1], by unfold fX11_setVibrato; rw [if_pos b9] <;> rfl⟩)
  · have b1 : ¬ (rX11_isInstrument p1 = 0) := (fun h => q1 ((isIn_s (by decide)).mp h))
    by_cases q2 : p2 < (0 : Int32) ∨ (64 : Int32) < p2
    · have b9 : rX11_isIn p2 (0 : Int32) (64 : Int32) = 0 := (isIn_z.mpr q2)
      exact Or.inr (Or.inr ⟨by unfold kX9_setVibrato; rw [if_neg q1, if_pos q2], by unfold fX11_setVibrato; rw [if_neg b1, if_pos b9] <;> rfl⟩)
    · have b2 : ¬ (rX11_isIn p2 (0 : Int32) (64 : Int32) = 0) := (fun h => q2 (isIn_z.mp h))
      by_cases q3 : p3 < (8 : Int32) ∨ (255 : Int32) < p3
      · have b9 : rX11_isIn p3 (8 : Int32) (255 : Int32) = 0 := (isIn_z.mpr q3)
        exact Or.inr (Or.inr ⟨by unfold kX9_setVibrato; rw [if_neg q1, if_neg q2, if_pos q3], by unfold fX11_setVibrato; rw [if_neg b1, if_neg b2, if_pos b9] <;> rfl⟩)
      · have b3 : ¬ (rX11_isIn p3 (8 : Int32) (255 : Int32) = 0) := (fun h => q3 (isIn_z.mp h))
        exact Or.inl ⟨by unfold kX9_setVibrato; rw [if_neg q1, if_neg q2, if_neg q3] <;> first | rfl | (rw [if_pos q4]; done) | (rw [if_neg q4]; done), by unfold rX11_setVibrato; rw [if_neg b1, if_neg b2, if_neg b3] <;> first | rfl | (rw [if_pos q4]; done) | (rw [if_neg q4]; done), by unfold fX11_setVibrato; rw [if_neg b1, if_neg b2, if_neg b3] <;> first | rfl | (rw [if_pos q4]; done) | (rw [if_neg q4]; done)⟩
theorem kq_setGain (S T : Mm) (p1 : Int32) : (kX9_setGain S p1 = 0 ∧ rX11_setGain T p1 = (up2 T 18 0 0) 0 15 ∧ fX11_setGain T p1 = up2 (up2 T 18 0 0) 0 15 p1) ∨ (kX9_setGain S p1 = 1 ∧ fX11_setGain T p1 = up2 (up2 T 18 0 0) 18 0 1) ∨ (kX9_setGain S p1 = 2 ∧ fX11_setGain T p1 = up2 (up2 T 18 0 0) 18 0 1) := by
  by_cases q1 : p1 < (0 : Int32) ∨ (256 : Int32) < p1
  · have b9 : rX11_isIn p1 (0 : Int32) (256 : Int32) = 0 := (isIn_z.mpr q1)
    exact Or.inr (Or.inr ⟨by unfold kX9_setGain; rw [if_pos q1], by unfold fX11_setGain; rw [if_pos b9] <;> rfl⟩)
  · have b1 : ¬ (rX11_isIn p1 (0 : Int32) (256 : Int32) = 0) := (fun h => q1 (isIn_z.mp h))
    exact Or.inl ⟨by unfold kX9_setGain; rw [if_neg q1] <;> first | rfl | (rw [if_pos q4]; done) | (rw [if_neg q4]; done), by unfold rX11_setGain; rw [if_neg b1] <;> first | rfl | (rw [if_pos q4]; done) | (rw [if_neg q4]; done), by unfold fX11_setGain; rw [if_neg b1] <;> first | rfl | (rw [if_pos q4]; done) | (rw [if_neg q4]; done)⟩
theorem kq_setDelay (S T : Mm) (p1 : Int32) (p2 : Int32) (p3 : Int32) : (kX9_setDelay S p1 p2 p3 = 0 ∧ rX11_setDelay T p1 p2 p3 = (up2 T 18 0 0) 0 16 ∧ fX11_setDelay T p1 p2 p3 = lpX11_setDelay_80 T p1 p2 p3 ((200 : Int32).toNatClampNeg)) ∨ (kX9_setDelay S p1 p2 p3 = 1 ∧ fX11_setDelay T p1 p2 p3 = up2 (up2 T 18 0 0) 18 0 1) ∨ (kX9_setDelay S p1 p2 p3 = 2 ∧ fX11_setDelay T p1 p2 p3 = up2 (up2 T 18 0 0) 18 0 1) := by
  by_cases q1 : p1 < (0 : Int32) ∨ (200 : Int32) < p1
  · have b9 : rX11_isIn p1 (0 : Int32) (200 : Int32) = 0 := (isIn_z.mpr q1)
    exact Or.inr (Or.inr ⟨by unfold kX9_setDelay; rw [if_pos q1], by unfold fX11_setDelay; rw [if_pos b9] <;> rfl⟩)
  · have b1 : ¬ (rX11_isIn p1 (0 : Int32) (200 : Int32) = 0) := (fun h => q1 (isIn_z.mp h))
    by_cases q2 : p2 < (0 : Int32) ∨ (256 : Int32) < p2
    · have b9 : rX11_isIn p2 (0 : Int32) (256 : Int32) = 0 := (isIn_z.mpr q2)
      exact Or.inr (Or.inr ⟨by unfold kX9_setDelay; rw [if_neg q1, if_pos q2], by unfold fX11_setDelay; rw [if_neg b1, if_pos b9] <;> rfl⟩)
    · have b2 : ¬ (rX11_isIn p2 (0 : Int32) (256 : Int32) = 0) := (fun h => q2 (isIn_z.mp h))
      by_cases q3 : p3 < (0 : Int32) ∨ (256 : Int32) < p3
      · have b9 : rX11_isIn p3 (0 : Int32) (256 : Int32) = 0 := (isIn_z.mpr q3)
        exact Or.inr (Or.inr ⟨by unfold kX9_setDelay; rw [if_neg q1, if_neg q2, if_pos q3], by unfold fX11_setDelay; rw [if_neg b1, if_neg b2, if_pos b9] <;> rfl⟩)
      · have b3 : ¬ (rX11_isIn p3 (0 : Int32) (256 : Int32) = 0) := (fun h => q3 (isIn_z.mp h))
        exact Or.inl ⟨by unfold kX9_setDelay; rw [if_neg q1, if_neg q2, if_neg q3] <;> first | rfl | (rw [if_pos q4]; done) | (rw [if_neg q4]; done), by unfold rX11_setDelay; rw [if_neg b1, if_neg b2, if_neg b3] <;> first | rfl | (rw [if_pos q4]; done) | (rw [if_neg q4]; done), by unfold fX11_setDelay; rw [if_neg b1, if_neg b2, if_neg b3] <;> first | rfl | (rw [if_pos q4]; done) | (rw [if_neg q4]; done)⟩
theorem kq_begin (S T : Mm) (p1 : Int32) (p2 : Int32) (p3 : Int32) : (kX9_begin S p1 p2 p3 = 0 ∧ rX11_begin T p1 p2 p3 = rX10_begin (up2 T 18 0 0) p1 p2 p3 ((-1) : Int32) ∧ fX11_begin T p1 p2 p3 = fX10_begin (up2 T 18 0 0) p1 p2 p3 ((-1) : Int32)) ∨ (kX9_begin S p1 p2 p3 = 1 ∧ fX11_begin T p1 p2 p3 = up2 (up2 T 18 0 0) 18 0 1) ∨ (kX9_begin S p1 p2 p3 = 2 ∧ fX11_begin T p1 p2 p3 = up2 (up2 T 18 0 0) 18 0 2) := by
  by_cases q1 : p1 < 0 ∨ (4 : Int32) ≤ p1
  · have b9 : rX11_isInstrument p1 = 0 := (show rX11_isInstrument p1 = 0 from ((isIn_s (by decide)).mpr q1))
    exact Or.inr (Or.inl ⟨by unfold kX9_begin; rw [if_pos q1], by unfold fX11_begin; rw [if_pos b9] <;> rfl⟩)
  · have b1 : ¬ (rX11_isInstrument p1 = 0) := (fun h => q1 ((isIn_s (by decide)).mp h))
    by_cases q2 : p2 < (0 : Int32) ∨ (47 : Int32) < p2
    · have b9 : rX11_isIn p2 (0 : Int32) (47 : Int32) = 0 := (isIn_z.mpr q2)
      exact Or.inr (Or.inr ⟨by unfold kX9_begin; rw [if_neg q1, if_pos q2], by unfold fX11_begin; rw [if_neg b1, if_pos b9] <;> rfl⟩)
    · have b2 : ¬ (rX11_isIn p2 (0 : Int32) (47 : Int32) = 0) := (fun h => q2 (isIn_z.mp h))
      by_cases q3 : p3 < (1 : Int32) ∨ (127 : Int32) < p3
      · have b9 : rX11_isIn p3 (1 : Int32) (127 : Int32) = 0 := (isIn_z.mpr q3)
        exact Or.inr (Or.inr ⟨by unfold kX9_begin; rw [if_neg q1, if_neg q2, if_pos q3], by unfold fX11_begin; rw [if_neg b1, if_neg b2, if_pos b9] <;> rfl⟩)
      · have b3 : ¬ (rX11_isIn p3 (1 : Int32) (127 : Int32) = 0) := (fun h => q3 (isIn_z.mp h))
        exact Or.inl ⟨by unfold kX9_begin; rw [if_neg q1, if_neg q2, if_neg q3] <;> first | rfl | (rw [if_pos q4]; done) | (rw [if_neg q4]; done), by unfold rX11_begin; rw [if_neg b1, if_neg b2, if_neg b3] <;> first | rfl | (rw [if_pos q4]; done) | (rw [if_neg q4]; done), by unfold fX11_begin; rw [if_neg b1, if_neg b2, if_neg b3] <;> first | rfl | (rw [if_pos q4]; done) | (rw [if_neg q4]; done)⟩
theorem kq_end (S T : Mm) (p1 : Int32) : (kX9_end S p1 = 0 ∧ rX11_end T p1 = (up2 T 18 0 0) 3 p1.toNatClampNeg ∧ fX11_end T p1 = fX10_end (up2 T 18 0 0) p1) ∨ (kX9_end S p1 = 1 ∧ fX11_end T p1 = up2 (up2 T 18 0 0) 18 0 1) ∨ (kX9_end S p1 = 2 ∧ fX11_end T p1 = up2 (up2 T 18 0 0) 18 0 1) := by
  by_cases q1 : p1 < 0 ∨ (4 : Int32) ≤ p1
  · have b9 : rX11_isVoice p1 = 0 := (show rX11_isVoice p1 = 0 from ((isIn_s (by decide)).mpr q1))
    exact Or.inr (Or.inl ⟨by unfold kX9_end; rw [if_pos q1], by unfold fX11_end; rw [if_pos b9] <;> rfl⟩)
  · have b1 : ¬ (rX11_isVoice p1 = 0) := (fun h => q1 ((isIn_s (by decide)).mp h))
    exact Or.inl ⟨by unfold kX9_end; rw [if_neg q1] <;> first | rfl | (rw [if_pos q4]; done) | (rw [if_neg q4]; done), by unfold rX11_end; rw [if_neg b1] <;> first | rfl | (rw [if_pos q4]; done) | (rw [if_neg q4]; done), by unfold fX11_end; rw [if_neg b1] <;> first | rfl | (rw [if_pos q4]; done) | (rw [if_neg q4]; done)⟩
theorem kq_write (S T : Mm) (p1 : Int32) (p2 : Int32) (p3 : Int32) (p4 : Int32) (p5 : Int32) : (kX9_write S p1 p2 p3 p4 p5 = 0 ∧ rX11_write T p1 p2 p3 p4 p5 = up2 T 18 0 0 16 (((p1 * 8) + p2) * 3).toNatClampNeg ∧ fX11_write T p1 p2 p3 p4 p5 = (if p3 = (-1) then (mX11_write_2 T p1 p2 p3 p4 p5) else (mX11_write_4 T p1 p2 p3 p4 p5))) ∨ (kX9_write S p1 p2 p3 p4 p5 = 1 ∧ fX11_write T p1 p2 p3 p4 p5 = up2 (up2 T 18 0 0) 18 0 1) ∨ (kX9_write S p1 p2 p3 p4 p5 = 2 ∧ fX11_write T p1 p2 p3 p4 p5 = up2 (up2 T 18 0 0) 18 0 2) := by
  by_cases q1 : p1 < 0 ∨ (3 : Int32) ≤ p1
  · have b9 : rX11_isIn p1 (0 : Int32) (2 : Int32) = 0 := ((isIn_s (by decide)).mpr q1)
    exact Or.inr (Or.inl ⟨by unfold kX9_write; rw [if_pos q1], by unfold fX11_write; rw [if_pos b9] <;> rfl⟩)
  · have b1 : ¬ (rX11_isIn p1 (0 : Int32) (2 : Int32) = 0) := (fun h => q1 ((isIn_s (by decide)).mp h))
    by_cases q2 : p2 < 0 ∨ (8 : Int32) ≤ p2
    · have b9 : rX11_isStep p2 = 0 := (show rX11_isStep p2 = 0 from ((isIn_s (by decide)).mpr q2))
      exact Or.inr (Or.inl ⟨by unfold kX9_write; rw [if_neg q1, if_pos q2], by unfold fX11_write; rw [if_neg b1, if_pos b9] <;> rfl⟩)
    · have b2 : ¬ (rX11_isStep p2 = 0) := (fun h => q2 ((isIn_s (by decide)).mp h))
      by_cases q3 : p3 < ((-1) : Int32) ∨ (47 : Int32) < p3
      · have b9 : rX11_isIn p3 ((-1) : Int32) (47 : Int32) = 0 := (isIn_z.mpr q3)
        exact Or.inr (Or.inr ⟨by unfold kX9_write; rw [if_neg q1, if_neg q2, if_pos q3], by unfold fX11_write; rw [if_neg b1, if_neg b2, if_pos b9] <;> rfl⟩)
      · have b3 : ¬ (rX11_isIn p3 ((-1) : Int32) (47 : Int32) = 0) := (fun h => q3 (isIn_z.mp h))
        by_cases q4 : p3 = (-1)
        · have b9 := True.intro
          exact Or.inl ⟨by unfold kX9_write; rw [if_neg q1, if_neg q2, if_neg q3, if_pos q4] <;> first | rfl | (rw [if_pos q4]; done) | (rw [if_neg q4]; done), by unfold rX11_write; rw [if_neg b1, if_neg b2, if_neg b3, if_pos q4] <;> first | rfl | (rw [if_pos q4]; done) | (rw [if_neg q4]; done), by unfold fX11_write; rw [if_neg b1, if_neg b2, if_neg b3, if_pos q4] <;> first | rfl | (rw [if_pos q4]; done) | (rw [if_neg q4]; done)⟩
        · have b9 := True.intro
          by_cases q5 : p4 < (1 : Int32) ∨ (127 : Int32) < p4
          · have b9 : rX11_isIn p4 (1 : Int32) (127 : Int32) = 0 := (isIn_z.mpr q5)
            exact Or.inr (Or.inr ⟨by unfold kX9_write; rw [if_neg q1, if_neg q2, if_neg q3, if_neg q4, if_pos q5], by unfold fX11_write; rw [if_neg b1, if_neg b2, if_neg b3, if_neg q4, if_pos b9] <;> rfl⟩)
          · have b5 : ¬ (rX11_isIn p4 (1 : Int32) (127 : Int32) = 0) := (fun h => q5 (isIn_z.mp h))
            by_cases q6 : p5 < (1 : Int32) ∨ (200 : Int32) < p5
            · have b9 : rX11_isIn p5 (1 : Int32) (200 : Int32) = 0 := (isIn_z.mpr q6)
              exact Or.inr (Or.inr ⟨by unfold kX9_write; rw [if_neg q1, if_neg q2, if_neg q3, if_neg q4, if_neg q5, if_pos q6], by unfold fX11_write; rw [if_neg b1, if_neg b2, if_neg b3, if_neg q4, if_neg b5, if_pos b9] <;> rfl⟩)
            · have b6 : ¬ (rX11_isIn p5 (1 : Int32) (200 : Int32) = 0) := (fun h => q6 (isIn_z.mp h))
              exact Or.inl ⟨by unfold kX9_write; rw [if_neg q1, if_neg q2, if_neg q3, if_neg q4, if_neg q5, if_neg q6] <;> first | rfl | (rw [if_pos q4]; done) | (rw [if_neg q4]; done), by unfold rX11_write; rw [if_neg b1, if_neg b2, if_neg b3, if_neg q4, if_neg b5, if_neg b6] <;> first | rfl | (rw [if_pos q4]; done) | (rw [if_neg q4]; done), by unfold fX11_write; rw [if_neg b1, if_neg b2, if_neg b3, if_neg q4, if_neg b5, if_neg b6] <;> first | rfl | (rw [if_pos q4]; done) | (rw [if_neg q4]; done)⟩
theorem kq_setTrack (S T : Mm) (p1 : Int32) (p2 : Int32) : (kX9_setTrack S p1 p2 = 0 ∧ rX11_setTrack T p1 p2 = (up2 T 18 0 0) 15 p1.toNatClampNeg ∧ fX11_setTrack T p1 p2 = up2 (up2 T 18 0 0) 15 p1.toNatClampNeg p2) ∨ (kX9_setTrack S p1 p2 = 1 ∧ fX11_setTrack T p1 p2 = up2 (up2 T 18 0 0) 18 0 1) ∨ (kX9_setTrack S p1 p2 = 2 ∧ fX11_setTrack T p1 p2 = up2 (up2 T 18 0 0) 18 0 1) := by
  by_cases q1 : p1 < 0 ∨ (3 : Int32) ≤ p1
  · have b9 : rX11_isIn p1 (0 : Int32) (2 : Int32) = 0 := ((isIn_s (by decide)).mpr q1)
    exact Or.inr (Or.inl ⟨by unfold kX9_setTrack; rw [if_pos q1], by unfold fX11_setTrack; rw [if_pos b9] <;> rfl⟩)
  · have b1 : ¬ (rX11_isIn p1 (0 : Int32) (2 : Int32) = 0) := (fun h => q1 ((isIn_s (by decide)).mp h))
    by_cases q2 : p2 < 0 ∨ (4 : Int32) ≤ p2
    · have b9 : rX11_isInstrument p2 = 0 := (show rX11_isInstrument p2 = 0 from ((isIn_s (by decide)).mpr q2))
      exact Or.inr (Or.inl ⟨by unfold kX9_setTrack; rw [if_neg q1, if_pos q2], by unfold fX11_setTrack; rw [if_neg b1, if_pos b9] <;> rfl⟩)
    · have b2 : ¬ (rX11_isInstrument p2 = 0) := (fun h => q2 ((isIn_s (by decide)).mp h))
      exact Or.inl ⟨by unfold kX9_setTrack; rw [if_neg q1, if_neg q2] <;> first | rfl | (rw [if_pos q4]; done) | (rw [if_neg q4]; done), by unfold rX11_setTrack; rw [if_neg b1, if_neg b2] <;> first | rfl | (rw [if_pos q4]; done) | (rw [if_neg q4]; done), by unfold fX11_setTrack; rw [if_neg b1, if_neg b2] <;> first | rfl | (rw [if_pos q4]; done) | (rw [if_neg q4]; done)⟩
theorem kq_setTempo (S T : Mm) (p1 : Int32) (p2 : Int32) : (kX9_setTempo S p1 p2 = 0 ∧ rX11_setTempo T p1 p2 = (up2 T 18 0 0) 0 22 ∧ fX11_setTempo T p1 p2 = up2 (up2 (up2 T 18 0 0) 0 22 p1) 0 23 p2) ∨ (kX9_setTempo S p1 p2 = 1 ∧ fX11_setTempo T p1 p2 = up2 (up2 T 18 0 0) 18 0 1) ∨ (kX9_setTempo S p1 p2 = 2 ∧ fX11_setTempo T p1 p2 = up2 (up2 T 18 0 0) 18 0 1) := by
  by_cases q1 : p1 < (1 : Int32) ∨ (200 : Int32) < p1
  · have b9 : rX11_isIn p1 (1 : Int32) (200 : Int32) = 0 := (isIn_z.mpr q1)
    exact Or.inr (Or.inr ⟨by unfold kX9_setTempo; rw [if_pos q1], by unfold fX11_setTempo; rw [if_pos b9] <;> rfl⟩)
  · have b1 : ¬ (rX11_isIn p1 (1 : Int32) (200 : Int32) = 0) := (fun h => q1 (isIn_z.mp h))
    by_cases q2 : p2 < (0 : Int32) ∨ (p1 - 1) < p2
    · have b9 : rX11_isIn p2 (0 : Int32) (p1 - 1) = 0 := (isIn_z.mpr q2)
      exact Or.inr (Or.inr ⟨by unfold kX9_setTempo; rw [if_neg q1, if_pos q2], by unfold fX11_setTempo; rw [if_neg b1, if_pos b9] <;> rfl⟩)
    · have b2 : ¬ (rX11_isIn p2 (0 : Int32) (p1 - 1) = 0) := (fun h => q2 (isIn_z.mp h))
      exact Or.inl ⟨by unfold kX9_setTempo; rw [if_neg q1, if_neg q2] <;> first | rfl | (rw [if_pos q4]; done) | (rw [if_neg q4]; done), by unfold rX11_setTempo; rw [if_neg b1, if_neg b2] <;> first | rfl | (rw [if_pos q4]; done) | (rw [if_neg q4]; done), by unfold fX11_setTempo; rw [if_neg b1, if_neg b2] <;> first | rfl | (rw [if_pos q4]; done) | (rw [if_neg q4]; done)⟩
theorem kq_run (S T : Mm) (L : Int64) (p1 : Int32) : (kX9_run S p1 = 0 ∧ rX11_run T L p1 = (lpX11_run_26 T L p1 (p1.toNatClampNeg)).2.1 ∧ fX11_run T L p1 = (lpX11_run_26 T L p1 (p1.toNatClampNeg)).1) ∨ (kX9_run S p1 = 1 ∧ fX11_run T L p1 = up2 (up2 T 18 0 0) 18 0 1) ∨ (kX9_run S p1 = 2 ∧ fX11_run T L p1 = up2 (up2 T 18 0 0) 18 0 1) := by
  by_cases q1 : p1 < (1 : Int32) ∨ (200 : Int32) < p1
  · have b9 : rX11_isIn p1 (1 : Int32) (200 : Int32) = 0 := (isIn_z.mpr q1)
    exact Or.inr (Or.inr ⟨by unfold kX9_run; rw [if_pos q1], by unfold fX11_run; rw [if_pos b9] <;> rfl⟩)
  · have b1 : ¬ (rX11_isIn p1 (1 : Int32) (200 : Int32) = 0) := (fun h => q1 (isIn_z.mp h))
    exact Or.inl ⟨by unfold kX9_run; rw [if_neg q1] <;> first | rfl | (rw [if_pos q4]; done) | (rw [if_neg q4]; done), by unfold rX11_run; rw [if_neg b1] <;> first | rfl | (rw [if_pos q4]; done) | (rw [if_neg q4]; done), by unfold fX11_run; rw [if_neg b1] <;> first | rfl | (rw [if_pos q4]; done) | (rw [if_neg q4]; done)⟩
theorem kq_heard (S T : Mm) (p1 : Int32) : (kX9_heard S p1 = 0 ∧ rX11_heard T p1 = (up2 T 18 0 0) 17 p1.toNatClampNeg ∧ fX11_heard T p1 = up2 T 18 0 0) ∨ (kX9_heard S p1 = 1 ∧ fX11_heard T p1 = up2 (up2 T 18 0 0) 18 0 1) ∨ (kX9_heard S p1 = 2 ∧ fX11_heard T p1 = up2 (up2 T 18 0 0) 18 0 1) := by
  by_cases q1 : p1 < (0 : Int32) ∨ (63 : Int32) < p1
  · have b9 : rX11_isIn p1 (0 : Int32) (63 : Int32) = 0 := (isIn_z.mpr q1)
    exact Or.inr (Or.inr ⟨by unfold kX9_heard; rw [if_pos q1], by unfold fX11_heard; rw [if_pos b9] <;> rfl⟩)
  · have b1 : ¬ (rX11_isIn p1 (0 : Int32) (63 : Int32) = 0) := (fun h => q1 (isIn_z.mp h))
    exact Or.inl ⟨by unfold kX9_heard; rw [if_neg q1] <;> first | rfl | (rw [if_pos q4]; done) | (rw [if_neg q4]; done), by unfold rX11_heard; rw [if_neg b1] <;> first | rfl | (rw [if_pos q4]; done) | (rw [if_neg q4]; done), by unfold fX11_heard; rw [if_neg b1] <;> first | rfl | (rw [if_pos q4]; done) | (rw [if_neg q4]; done)⟩
theorem kq_ofVoice (S T : Mm) (p1 : Int32) (p2 : Int32) : (kX9_ofVoice S p1 p2 = 0 ∧ rX11_ofVoice T p1 p2 = rX11_voiceNow (up2 T 18 0 0) p1 p2 ∧ fX11_ofVoice T p1 p2 = up2 T 18 0 0) ∨ (kX9_ofVoice S p1 p2 = 1 ∧ fX11_ofVoice T p1 p2 = up2 (up2 T 18 0 0) 18 0 1) ∨ (kX9_ofVoice S p1 p2 = 2 ∧ fX11_ofVoice T p1 p2 = up2 (up2 T 18 0 0) 18 0 2) := by
  by_cases q1 : p1 < 0 ∨ (4 : Int32) ≤ p1
  · have b9 : rX11_isVoice p1 = 0 := (show rX11_isVoice p1 = 0 from ((isIn_s (by decide)).mpr q1))
    exact Or.inr (Or.inl ⟨by unfold kX9_ofVoice; rw [if_pos q1], by unfold fX11_ofVoice; rw [if_pos b9] <;> rfl⟩)
  · have b1 : ¬ (rX11_isVoice p1 = 0) := (fun h => q1 ((isIn_s (by decide)).mp h))
    by_cases q2 : p2 < (0 : Int32) ∨ (9 : Int32) < p2
    · have b9 : rX11_isIn p2 (0 : Int32) (9 : Int32) = 0 := (isIn_z.mpr q2)
      exact Or.inr (Or.inr ⟨by unfold kX9_ofVoice; rw [if_neg q1, if_pos q2], by unfold fX11_ofVoice; rw [if_neg b1, if_pos b9] <;> rfl⟩)
    · have b2 : ¬ (rX11_isIn p2 (0 : Int32) (9 : Int32) = 0) := (fun h => q2 (isIn_z.mp h))
      exact Or.inl ⟨by unfold kX9_ofVoice; rw [if_neg q1, if_neg q2] <;> first | rfl | (rw [if_pos q4]; done) | (rw [if_neg q4]; done), by unfold rX11_ofVoice; rw [if_neg b1, if_neg b2] <;> first | rfl | (rw [if_pos q4]; done) | (rw [if_neg q4]; done), by unfold fX11_ofVoice; rw [if_neg b1, if_neg b2] <;> first | rfl | (rw [if_pos q4]; done) | (rw [if_neg q4]; done)⟩
theorem kq_ofStep (S T : Mm) (p1 : Int32) (p2 : Int32) (p3 : Int32) : (kX9_ofStep S p1 p2 p3 = 0 ∧ rX11_ofStep T p1 p2 p3 = (up2 T 18 0 0) 16 ((((p1 * 8) + p2) * 3) + p3).toNatClampNeg ∧ fX11_ofStep T p1 p2 p3 = up2 T 18 0 0) ∨ (kX9_ofStep S p1 p2 p3 = 1 ∧ fX11_ofStep T p1 p2 p3 = up2 (up2 T 18 0 0) 18 0 1) ∨ (kX9_ofStep S p1 p2 p3 = 2 ∧ fX11_ofStep T p1 p2 p3 = up2 (up2 T 18 0 0) 18 0 2) := by
  by_cases q1 : p1 < 0 ∨ (3 : Int32) ≤ p1
  · have b9 : rX11_isIn p1 (0 : Int32) (2 : Int32) = 0 := ((isIn_s (by decide)).mpr q1)
    exact Or.inr (Or.inl ⟨by unfold kX9_ofStep; rw [if_pos q1], by unfold fX11_ofStep; rw [if_pos b9] <;> rfl⟩)
  · have b1 : ¬ (rX11_isIn p1 (0 : Int32) (2 : Int32) = 0) := (fun h => q1 ((isIn_s (by decide)).mp h))
    by_cases q2 : p2 < 0 ∨ (8 : Int32) ≤ p2
    · have b9 : rX11_isStep p2 = 0 := (show rX11_isStep p2 = 0 from ((isIn_s (by decide)).mpr q2))
      exact Or.inr (Or.inl ⟨by unfold kX9_ofStep; rw [if_neg q1, if_pos q2], by unfold fX11_ofStep; rw [if_neg b1, if_pos b9] <;> rfl⟩)
    · have b2 : ¬ (rX11_isStep p2 = 0) := (fun h => q2 ((isIn_s (by decide)).mp h))
      by_cases q3 : p3 < (0 : Int32) ∨ (2 : Int32) < p3
      · have b9 : rX11_isIn p3 (0 : Int32) (2 : Int32) = 0 := (isIn_z.mpr q3)
        exact Or.inr (Or.inr ⟨by unfold kX9_ofStep; rw [if_neg q1, if_neg q2, if_pos q3], by unfold fX11_ofStep; rw [if_neg b1, if_neg b2, if_pos b9] <;> rfl⟩)
      · have b3 : ¬ (rX11_isIn p3 (0 : Int32) (2 : Int32) = 0) := (fun h => q3 (isIn_z.mp h))
        exact Or.inl ⟨by unfold kX9_ofStep; rw [if_neg q1, if_neg q2, if_neg q3] <;> first | rfl | (rw [if_pos q4]; done) | (rw [if_neg q4]; done), by unfold rX11_ofStep; rw [if_neg b1, if_neg b2, if_neg b3] <;> first | rfl | (rw [if_pos q4]; done) | (rw [if_neg q4]; done), by unfold fX11_ofStep; rw [if_neg b1, if_neg b2, if_neg b3] <;> first | rfl | (rw [if_pos q4]; done) | (rw [if_neg q4]; done)⟩
theorem kq_inDelay (S T : Mm) (p1 : Int32) (hlen : rX11_isIn p1 (0 : Int32) ((up2 T 18 0 0 0 16) - 1) = 0 ↔ (p1 < 0 ∨ (S 19 0) ≤ p1)) : (kX9_inDelay S p1 = 0 ∧ rX11_inDelay T p1 = (up2 T 18 0 0) 14 p1.toNatClampNeg ∧ fX11_inDelay T p1 = up2 T 18 0 0) ∨ (kX9_inDelay S p1 = 1 ∧ fX11_inDelay T p1 = up2 (up2 T 18 0 0) 18 0 1) ∨ (kX9_inDelay S p1 = 2 ∧ fX11_inDelay T p1 = up2 (up2 T 18 0 0) 18 0 1) := by
  by_cases q1 : p1 < 0 ∨ (S 19 0) ≤ p1
  · have b9 : rX11_isIn p1 (0 : Int32) (((up2 T 18 0 0) 0 16) - 1) = 0 := (hlen.mpr q1)
    exact Or.inr (Or.inl ⟨by unfold kX9_inDelay; rw [if_pos q1], by unfold fX11_inDelay; rw [if_pos b9] <;> rfl⟩)
  · have b1 : ¬ (rX11_isIn p1 (0 : Int32) (((up2 T 18 0 0) 0 16) - 1) = 0) := (fun h => q1 (hlen.mp h))
    exact Or.inl ⟨by unfold kX9_inDelay; rw [if_neg q1] <;> first | rfl | (rw [if_pos q4]; done) | (rw [if_neg q4]; done), by unfold rX11_inDelay; rw [if_neg b1] <;> first | rfl | (rw [if_pos q4]; done) | (rw [if_neg q4]; done), by unfold fX11_inDelay; rw [if_neg b1] <;> first | rfl | (rw [if_pos q4]; done) | (rw [if_neg q4]; done)⟩
theorem kq_wouldPeak (S T : Mm) (p1 : Int32) : (kX9_wouldPeak S p1 = 0 ∧ rX11_wouldPeak T p1 = (lpX11_wouldPeak_35 T p1 (p1.toNatClampNeg)).2.1 ∧ fX11_wouldPeak T p1 = up2 T 18 0 0) ∨ (kX9_wouldPeak S p1 = 1 ∧ fX11_wouldPeak T p1 = up2 (up2 T 18 0 0) 18 0 1) ∨ (kX9_wouldPeak S p1 = 2 ∧ fX11_wouldPeak T p1 = up2 (up2 T 18 0 0) 18 0 1) := by
  by_cases q1 : p1 < (1 : Int32) ∨ (200 : Int32) < p1
  · have b9 : rX11_isIn p1 (1 : Int32) (200 : Int32) = 0 := (isIn_z.mpr q1)
    exact Or.inr (Or.inr ⟨by unfold kX9_wouldPeak; rw [if_pos q1], by unfold fX11_wouldPeak; rw [if_pos b9] <;> rfl⟩)
  · have b1 : ¬ (rX11_isIn p1 (1 : Int32) (200 : Int32) = 0) := (fun h => q1 (isIn_z.mp h))
    exact Or.inl ⟨by unfold kX9_wouldPeak; rw [if_neg q1] <;> first | rfl | (rw [if_pos q4]; done) | (rw [if_neg q4]; done), by unfold rX11_wouldPeak; rw [if_neg b1] <;> first | rfl | (rw [if_pos q4]; done) | (rw [if_neg q4]; done), by unfold fX11_wouldPeak; rw [if_neg b1] <;> first | rfl | (rw [if_pos q4]; done) | (rw [if_neg q4]; done)⟩
theorem kq_silentIn (S T : Mm) (p1 : Int32) : (kX9_silentIn S p1 = 0 ∧ rX11_silentIn T p1 = (seX11_silentIn_32 T p1 (p1.toNatClampNeg + 1) 0).1 ∧ fX11_silentIn T p1 = (seX11_silentIn_32 T p1 (p1.toNatClampNeg + 1) 0).2) ∨ (kX9_silentIn S p1 = 1 ∧ fX11_silentIn T p1 = up2 (up2 T 18 0 0) 18 0 1) ∨ (kX9_silentIn S p1 = 2 ∧ fX11_silentIn T p1 = up2 (up2 T 18 0 0) 18 0 1) := by
  by_cases q1 : p1 < (1 : Int32) ∨ (200 : Int32) < p1
  · have b9 : rX11_isIn p1 (1 : Int32) (200 : Int32) = 0 := (isIn_z.mpr q1)
    exact Or.inr (Or.inr ⟨by unfold kX9_silentIn; rw [if_pos q1], by unfold fX11_silentIn; rw [if_pos b9] <;> rfl⟩)
  · have b1 : ¬ (rX11_isIn p1 (1 : Int32) (200 : Int32) = 0) := (fun h => q1 (isIn_z.mp h))
    exact Or.inl ⟨by unfold kX9_silentIn; rw [if_neg q1] <;> first | rfl | (rw [if_pos q4]; done) | (rw [if_neg q4]; done), by unfold rX11_silentIn; rw [if_neg b1] <;> first | rfl | (rw [if_pos q4]; done) | (rw [if_neg q4]; done), by unfold fX11_silentIn; rw [if_neg b1] <;> first | rfl | (rw [if_pos q4]; done) | (rw [if_neg q4]; done)⟩
