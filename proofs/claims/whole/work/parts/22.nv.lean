theorem nv_1 (S : Mm) : jX10_nextVoice_1 S = -1 ∨ jX10_nextVoice_1 S = 0 := by
  unfold jX10_nextVoice_1
  split
  · exact Or.inr rfl
  · exact Or.inl rfl
theorem nv_2 (S : Mm) : jX10_nextVoice_2 S = -1 ∨ jX10_nextVoice_2 S = 0 ∨ jX10_nextVoice_2 S = 1 := by
  unfold jX10_nextVoice_2
  rcases nv_1 S with h | h <;> simp only [h] <;> (repeat' split) <;> simp
theorem nv_3 (S : Mm) : jX10_nextVoice_3 S = -1 ∨ jX10_nextVoice_3 S = 0 ∨ jX10_nextVoice_3 S = 1 ∨ jX10_nextVoice_3 S = 2 := by
  unfold jX10_nextVoice_3
  rcases nv_2 S with h | h | h <;> simp only [h] <;> (repeat' split) <;> simp
theorem nv_4 (S : Mm) : jX10_nextVoice_4 S = -1 ∨ jX10_nextVoice_4 S = 0 ∨ jX10_nextVoice_4 S = 1 ∨ jX10_nextVoice_4 S = 2 ∨ jX10_nextVoice_4 S = 3 := by
  unfold jX10_nextVoice_4
  rcases nv_3 S with h | h | h | h <;> simp only [h] <;> (repeat' split) <;> simp
theorem nv_5 (S : Mm) : jX10_nextVoice_5 S = 0 ∨ jX10_nextVoice_5 S = 1 := by
  unfold jX10_nextVoice_5
  split <;> simp
theorem nv_6 (S : Mm) : jX10_nextVoice_6 S = 0 ∨ jX10_nextVoice_6 S = 1 ∨ jX10_nextVoice_6 S = 2 := by
  unfold jX10_nextVoice_6
  rcases nv_5 S with h | h <;> simp only [h] <;> split <;> simp
theorem nv_7 (S : Mm) : jX10_nextVoice_7 S = 0 ∨ jX10_nextVoice_7 S = 1 ∨ jX10_nextVoice_7 S = 2 ∨ jX10_nextVoice_7 S = 3 := by
  unfold jX10_nextVoice_7
  rcases nv_6 S with h | h | h <;> simp only [h] <;> split <;> simp
/-- the voice that is taken is one of the four -/
theorem nv_r (S : Mm) : rX10_nextVoice S = 0 ∨ rX10_nextVoice S = 1 ∨ rX10_nextVoice S = 2 ∨ rX10_nextVoice S = 3 := by
  unfold rX10_nextVoice
  split
  · exact Or.inl rfl
  split
  · exact Or.inr (Or.inl rfl)
  split
  · exact Or.inr (Or.inr (Or.inl rfl))
  split
  · exact Or.inr (Or.inr (Or.inr rfl))
  split
  · exact nv_7 S
  · rename_i h
    rcases nv_4 S with q | q
    · exact absurd q h
    · exact q
theorem nv_in (S : Mm) : vp_in (rX10_nextVoice S) 4 := by
  rcases nv_r S with h | h | h | h <;> rw [h] <;> exact vp_in_lit (by decide)
