/-! samples one behind the other; what is told ahead comes -/
theorem isd0 : isd 0 := Or.inl rfl
theorem isd8 : isd 8 := Or.inr rfl
theorem Q_copy {S : Mm} : Qs 8 (fX6_copy S 26 18) = Qs 0 S := by
  funext o k
  unfold Qs
  by_cases h : okK o k
  · rw [if_pos h, if_pos h]
    rcases h with h | ⟨rfl, h1, h2⟩ | ⟨rfl, h1⟩ | ⟨rfl, h1⟩ | ⟨h1, h2, h3⟩
    · rw [shO_lo h, shO_lo h, c6_n (Or.inl (by omega))]
    · rw [shO_hi (by decide), shO_hi (by decide)]
      exact c6_g k h1 h2
    · rw [shO_hi (by decide), shO_hi (by decide), show 19 + 8 = 27 from rfl, show 19 + 0 = 19 from rfl, c6_d (by decide), (c0_v).1 k h1, c63_n (by decide)]
    · rw [shO_hi (by decide), shO_hi (by decide), show 21 + 8 = 29 from rfl, show 21 + 0 = 21 from rfl, c6_d (by decide), (c0_v).2 k h1, c63_n (by decide)]
    · obtain ⟨v, hv, rfl⟩ : ∃ v, v < 4 ∧ o = 22 + v := ⟨o - 22, by omega, by omega⟩
      rw [shO_hi (by omega), shO_hi (by omega), show 22 + v + 8 = 26 + 4 + v by omega, show 22 + v + 0 = 18 + 4 + v by omega]
      exact c6_v v hv k h3
  · rw [if_neg h, if_neg h]
theorem put_n {S : Mm} {o o' : Nat} {p x : Int32} (h : o' ≠ o + 1) : fX3_put S o p x o' = S o' := by
  unfold fX3_put
  split
  · rfl
  · split
    · rfl
    · rw [up2_n h]
theorem ct_o {U : Mm} {L : Int64} {p : Int32} {o : Nat} (h : o ≠ 34) (h2 : o ≠ 36) : fX2_count U L p o = U o := by
  unfold fX2_count mX2_count_7 mX2_count_6
  rw [up2_n h, put_n h2, up2_n h]
  unfold mX2_count_5
  rw [up2_n h, up2_n h, ct_J1 h]
theorem Q_ct {U : Mm} {L : Int64} {p : Int32} : Qs 0 (fX2_count U L p) = Qs 0 U := by
  funext o k
  unfold Qs
  by_cases h : okK o k
  · rw [if_pos h, if_pos h]
    have h26 : shO 0 o < 26 := by
      unfold shO
      split <;> omega
    rw [ct_o (by omega) (by omega)]
  · rw [if_neg h, if_neg h]
/-- the class behind i samples -/
def sq (S : Mm) (L : Int64) : Nat → Mm × Int64
  | 0 => (S, L)
  | i + 1 => (fX9_sample (sq S L i).1 (sq S L i).2, lX9_sample (sq S L i).1 (sq S L i).2)
theorem sq_0 (S : Mm) (L : Int64) : sq S L 0 = (S, L) := by rw [sq]
theorem sq_s (S : Mm) (L : Int64) (i : Nat) : sq S L (i + 1) = (fX9_sample (sq S L i).1 (sq S L i).2, lX9_sample (sq S L i).1 (sq S L i).2) := by rw [sq]
def abv (x : Int32) : Int32 := if 0 ≤ x then x else 0 - x
def itz (S : Mm) (L : Int64) (i : Nat) : Int32 := rX9_sample (sq S L i).1 (sq S L i).2
def mxs (S : Mm) (L : Int64) : Nat → Int32
  | 0 => 0
  | i + 1 => if mxs S L i < abv (itz S L i) then abv (itz S L i) else mxs S L i
theorem mxs_0 (S : Mm) (L : Int64) : mxs S L 0 = 0 := by rw [mxs]
theorem mxs_s (S : Mm) (L : Int64) (i : Nat) : mxs S L (i + 1) = if mxs S L i < abv (itz S L i) then abv (itz S L i) else mxs S L i := by rw [mxs]
def sdz (S : Mm) (L : Int64) (i : Nat) : Int32 := rX6_countSounding (sq S L i).1 18
theorem adv_28 {A B : Mm} (h : Qs 8 A = Qs 0 B) : rX6_advance A 26 = rX6_advance B 18 ∧ Qs 8 (fX6_advance A 26) = Qs 0 (fX6_advance B 18) := by
  have a1 : rX6_advance (Qs 8 A) 18 = rX6_advance A (18 + 8) := Q_rX6_advance isd8
  have a2 : rX6_advance (Qs 0 B) 18 = rX6_advance B (18 + 0) := Q_rX6_advance isd0
  have a3 : fX6_advance (Qs 8 A) 18 = Qs 8 (fX6_advance A (18 + 8)) := Q_fX6_advance isd8
  have a4 : fX6_advance (Qs 0 B) 18 = Qs 0 (fX6_advance B (18 + 0)) := Q_fX6_advance isd0
  rw [h] at a1 a3
  exact ⟨a1.symm.trans a2, a3.symm.trans a4⟩
theorem cs_28 {A B : Mm} (h : Qs 8 A = Qs 0 B) : rX6_countSounding A 26 = rX6_countSounding B 18 := by
  have a1 : rX6_countSounding (Qs 8 A) 18 = rX6_countSounding A (18 + 8) := Q_rX6_countSounding
  have a2 : rX6_countSounding (Qs 0 B) 18 = rX6_countSounding B (18 + 0) := Q_rX6_countSounding
  rw [h] at a1
  exact a1.symm.trans a2
theorem cs_00 {A B : Mm} (h : Qs 0 A = Qs 0 B) : rX6_countSounding A 18 = rX6_countSounding B 18 := by
  have a1 : rX6_countSounding (Qs 0 A) 18 = rX6_countSounding A (18 + 0) := Q_rX6_countSounding
  have a2 : rX6_countSounding (Qs 0 B) 18 = rX6_countSounding B (18 + 0) := Q_rX6_countSounding
  rw [h] at a1
  exact a1.symm.trans a2
theorem wp_sq {S S' : Mm} {L : Int64} {p : Int32} (h : Qs 0 S' = Qs 0 S) : ∀ i : Nat, (lpX9_wouldPeak_23 S p i).2 = mxs S' L i ∧ Qs 8 (lpX9_wouldPeak_23 S p i).1 = Qs 0 (sq S' L i).1 := by
  intro i
  induction i with
  | zero =>
    rw [lpX9_wouldPeak_23_0, mxs_0, sq_0]
    exact ⟨rfl, Q_copy.trans h.symm⟩
  | succ i ih =>
    obtain ⟨h1, h2⟩ := ih
    obtain ⟨e1, e2⟩ := adv_28 h2
    rw [lpX9_wouldPeak_23_s, mxs_s, sq_s]
    dsimp only
    refine ⟨?_, ?_⟩
    · unfold bX9_wouldPeak_23_z2 vX9_wouldPeak_1
      rw [h1, e1]
      rfl
    · unfold bX9_wouldPeak_23_zS fX9_sample
      rw [Q_ct]
      exact e2
theorem si_sq {S S' : Mm} {L : Int64} {p : Int32} (h : Qs 0 S' = Qs 0 S) : ∀ i : Nat, Qs 8 (lpX9_silentIn_33 S p i) = Qs 0 (sq S' L i).1 := by
  intro i
  induction i with
  | zero =>
    rw [lpX9_silentIn_33_0, sq_0]
    exact Q_copy.trans h.symm
  | succ i ih =>
    obtain ⟨e1, e2⟩ := adv_28 ih
    rw [lpX9_silentIn_33_s, sq_s]
    dsimp only
    unfold blpX9_silentIn_33 fX9_sample
    rw [Q_ct]
    exact e2
theorem si_res {S S' : Mm} {L : Int64} {p : Int32} (h : Qs 0 S' = Qs 0 S) : ∀ k i : Nat, ((seX9_silentIn_33 S p k i).1 = -1 ∧ ∀ j, i < j → j ≤ i + k → ¬ sdz S' L j = 0) ∨ ∃ j, i < j ∧ j ≤ i + k ∧ (seX9_silentIn_33 S p k i).1 = nI j ∧ sdz S' L j = 0 := by
  intro k
  induction k with
  | zero =>
    intro i
    rw [seX9_silentIn_33_0]
    exact Or.inl ⟨rfl, fun j h1 h2 => absurd h1 (by omega)⟩
  | succ k ih =>
    intro i
    have e1 : Qs 8 (fX6_advance (lpX9_silentIn_33 S p i) 26) = Qs 0 (sq S' L (i + 1)).1 := by
      have := si_sq (L := L) (p := p) h (i + 1)
      rw [lpX9_silentIn_33_s] at this
      exact this
    have e2 : rX6_countSounding (fX6_advance (lpX9_silentIn_33 S p i) 26) 26 = sdz S' L (i + 1) := cs_28 e1
    rw [seX9_silentIn_33_s]
    unfold eseX9_silentIn_33
    rw [e2]
    by_cases c : sdz S' L (i + 1) = 0
    · rw [if_pos c]
      exact Or.inr ⟨i + 1, by omega, by omega, rfl, c⟩
    · rw [if_neg c]
      rcases ih (i + 1) with ⟨a1, a2⟩ | ⟨j, b1, b2, b3, b4⟩
      · refine Or.inl ⟨a1, fun j h1 h2 => ?_⟩
        by_cases q : j = i + 1
        · rw [q]; exact c
        · exact a2 j (by omega) (by omega)
      · exact Or.inr ⟨j, by omega, by omega, b3, b4⟩
/-- what silentIn says of the samples that come -/
theorem sil_ok {S S' : Mm} {L : Int64} {n : Nat} (hn : n ≤ 200) (h : Qs 0 S' = Qs 0 S) : (rX9_silentIn S (nI n) = 0 ∧ sdz S' L 0 = 0) ∨ (rX9_silentIn S (nI n) = -1 ∧ ¬ sdz S' L 0 = 0 ∧ ∀ j, 0 < j → j ≤ n → ¬ sdz S' L j = 0) ∨ ∃ j, 0 < j ∧ j ≤ n ∧ rX9_silentIn S (nI n) = nI j ∧ sdz S' L j = 0 ∧ ¬ sdz S' L 0 = 0 := by
  have e0 : sdz S' L 0 = rX6_countSounding S 18 := by
    unfold sdz
    rw [sq_0]
    exact cs_00 h
  unfold rX9_silentIn
  by_cases c : rX6_countSounding S 18 = 0
  · rw [if_pos c, e0]
    exact Or.inl ⟨rfl, c⟩
  · rw [if_neg c, e0, nI_clamp (by omega)]
    rcases si_res (L := L) (p := nI n) h n 0 with ⟨a1, a2⟩ | ⟨j, b1, b2, b3, b4⟩
    · exact Or.inr (Or.inl ⟨a1, c, fun j h1 h2 => a2 j h1 (by omega)⟩)
    · exact Or.inr (Or.inr ⟨j, b1, by omega, b3, b4, c⟩)
