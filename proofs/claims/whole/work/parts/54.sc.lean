/-! The class beside the reference: which voice is taken -/
def RVs (B : Int) (g : Nat) (S T : Mm) : Prop := ∀ v, v < 4 → RVv B S (g + 4 + v) T v
theorem cls3 (x : Int32) : x = 0 ∨ x = 4 ∨ (¬ x = 0 ∧ ¬ x = 4) := by
  by_cases h : x = 0
  · exact Or.inl h
  · by_cases h2 : x = 4
    · exact Or.inr (Or.inl h2)
    · exact Or.inr (Or.inr ⟨h, h2⟩)
theorem le_1 {x y : Int32} {B : Int} (hB : B < 2000000000) (hx : rg x 0 B) (hy : rg y 0 B) : x + 1 ≤ y + 1 ↔ x ≤ y := by
  have h1 : rg (1 : Int32) 1 1 := by unfold rg; decide
  have ex := (rg_add hx h1 (by omega) (by omega)).2
  have ey := (rg_add hy h1 (by omega) (by omega)).2
  have e1 : (1 : Int32).toInt = 1 := by decide
  rw [e1] at ex ey
  rw [Int32.le_iff_toInt_le, Int32.le_iff_toInt_le, ex, ey]
  omega
def tbR (s l q s' l' q' : Int32) : Int32 := (if (if s = 0 then (0 : Int32) else (if s = 4 then 1 else 2)) = (if s' = 0 then (0 : Int32) else (if s' = 4 then 1 else 2)) then (if s = 4 then (if l' ≤ l then 0 else 1) else (if s = 0 then 0 else (if q' ≤ q then 0 else 1))) else (if (if s' = 0 then (0 : Int32) else (if s' = 4 then 1 else 2)) ≤ (if s = 0 then (0 : Int32) else (if s = 4 then 1 else 2)) then 0 else 1))
theorem tb_e {S : Mm} {o o1 : Nat} : rX7_isTakenBefore S o o1 = tbR (S o 0) (S o 1) (S o 10) (S o1 0) (S o1 1) (S o1 10) := rfl
theorem tb_zx {l q s' l' q' : Int32} (h : ¬ s' = 0) : tbR 0 l q s' l' q' = 1 := by
  unfold tbR
  by_cases h4 : s' = 4
  · subst h4; rfl
  · rw [if_neg h, if_neg h4]; rfl
theorem tb_xz {s l q l' q' : Int32} : tbR s l q 0 l' q' = 0 := by
  unfold tbR
  by_cases h : s = 0
  · subst h; rfl
  · by_cases h4 : s = 4
    · subst h4; rfl
    · rw [if_neg h, if_neg h4]; rfl
theorem tb_ro {l q s' l' q' : Int32} (h : ¬ s' = 0) (h4 : ¬ s' = 4) : tbR 4 l q s' l' q' = 1 := by
  unfold tbR
  rw [if_neg h, if_neg h4]; rfl
theorem tb_or {s l q l' q' : Int32} (h : ¬ s = 0) (h4 : ¬ s = 4) : tbR s l q 4 l' q' = 0 := by
  unfold tbR
  rw [if_neg h, if_neg h4]; rfl
theorem tb_rr {l q l' q' : Int32} : tbR 4 l q 4 l' q' = if l' ≤ l then 0 else 1 := rfl
theorem tb_oo {s l q s' l' q' : Int32} (h : ¬ s = 0) (h4 : ¬ s = 4) (h' : ¬ s' = 0) (h4' : ¬ s' = 4) : tbR s l q s' l' q' = if q' ≤ q then 0 else 1 := by
  unfold tbR
  rw [if_neg h, if_neg h4, if_neg h', if_neg h4', if_pos rfl, if_neg h4, if_neg h]
theorem ne10 : ¬ (1 : Int32) = 0 := by decide
theorem vt_eq {S T : Mm} {g : Nat} {B : Int} (hB : B < 2000000000) (R : RVs B g S T) : rX6_voiceToTake S g = rX10_nextVoice T := by
  have E0 : S (g + 4) 0 = T 3 0 := (R 0 (by decide)).1 0 (by decide)
  have F0 : S (g + 4) 1 = T 4 0 := (R 0 (by decide)).1 1 (by decide)
  have O0 : T 3 0 = 0 ∨ S (g + 4) 10 = T 13 0 + 1 := (R 0 (by decide)).2.1
  have K0 : ((0 : Int32).toNatClampNeg) = 0 := by decide
  have V0 : rX6_voiceOf g (0 : Int32) = g + 4 := rfl
  have E1 : S (g + 5) 0 = T 3 1 := (R 1 (by decide)).1 0 (by decide)
  have F1 : S (g + 5) 1 = T 4 1 := (R 1 (by decide)).1 1 (by decide)
  have O1 : T 3 1 = 0 ∨ S (g + 5) 10 = T 13 1 + 1 := (R 1 (by decide)).2.1
  have K1 : ((1 : Int32).toNatClampNeg) = 1 := by decide
  have V1 : rX6_voiceOf g (1 : Int32) = g + 5 := rfl
  have E2 : S (g + 6) 0 = T 3 2 := (R 2 (by decide)).1 0 (by decide)
  have F2 : S (g + 6) 1 = T 4 2 := (R 2 (by decide)).1 1 (by decide)
  have O2 : T 3 2 = 0 ∨ S (g + 6) 10 = T 13 2 + 1 := (R 2 (by decide)).2.1
  have K2 : ((2 : Int32).toNatClampNeg) = 2 := by decide
  have V2 : rX6_voiceOf g (2 : Int32) = g + 6 := rfl
  have E3 : S (g + 7) 0 = T 3 3 := (R 3 (by decide)).1 0 (by decide)
  have F3 : S (g + 7) 1 = T 4 3 := (R 3 (by decide)).1 1 (by decide)
  have O3 : T 3 3 = 0 ∨ S (g + 7) 10 = T 13 3 + 1 := (R 3 (by decide)).2.1
  have K3 : ((3 : Int32).toNatClampNeg) = 3 := by decide
  have V3 : rX6_voiceOf g (3 : Int32) = g + 7 := rfl
  have L01 : T 13 0 + 1 ≤ T 13 1 + 1 ↔ T 13 0 ≤ T 13 1 := le_1 hB (R 0 (by decide)).2.2.2 (R 1 (by decide)).2.2.2
  have L02 : T 13 0 + 1 ≤ T 13 2 + 1 ↔ T 13 0 ≤ T 13 2 := le_1 hB (R 0 (by decide)).2.2.2 (R 2 (by decide)).2.2.2
  have L03 : T 13 0 + 1 ≤ T 13 3 + 1 ↔ T 13 0 ≤ T 13 3 := le_1 hB (R 0 (by decide)).2.2.2 (R 3 (by decide)).2.2.2
  have L12 : T 13 1 + 1 ≤ T 13 2 + 1 ↔ T 13 1 ≤ T 13 2 := le_1 hB (R 1 (by decide)).2.2.2 (R 2 (by decide)).2.2.2
  have L13 : T 13 1 + 1 ≤ T 13 3 + 1 ↔ T 13 1 ≤ T 13 3 := le_1 hB (R 1 (by decide)).2.2.2 (R 3 (by decide)).2.2.2
  have L23 : T 13 2 + 1 ≤ T 13 3 + 1 ↔ T 13 2 ≤ T 13 3 := le_1 hB (R 2 (by decide)).2.2.2 (R 3 (by decide)).2.2.2
  unfold rX6_voiceToTake
  rcases cls3 (T 3 0) with z0 | z0 | z0
  · have b0 := True.intro
    rcases cls3 (T 3 1) with z1 | z1 | z1
    · have b1 := True.intro
      have j1 : jX6_voiceToTake_1 S g = 0 := by
        unfold jX6_voiceToTake_1
        rw [V1, V0, tb_e, E1, E0, F1, F0, z0, tb_xz, if_pos rfl]
      rcases cls3 (T 3 2) with z2 | z2 | z2
      · have b1 := True.intro
        have j2 : jX6_voiceToTake_2 S g = 0 := by
          unfold jX6_voiceToTake_2
          rw [j1, V2, V0, tb_e, E2, E0, F2, F0, z0, tb_xz, if_pos rfl]
        rcases cls3 (T 3 3) with z3 | z3 | z3
        · have b1 := True.intro
          have j3 : jX6_voiceToTake_3 S g = 0 := by
            unfold jX6_voiceToTake_3
            rw [j2, V3, V0, tb_e, E3, E0, F3, F0, z0, tb_xz, if_pos rfl]
          rw [j3]
          unfold rX10_nextVoice
          rw [K0, K1, K2, K3, if_pos z0]
        · have b1 := True.intro
          have j3 : jX6_voiceToTake_3 S g = 0 := by
            unfold jX6_voiceToTake_3
            rw [j2, V3, V0, tb_e, E3, E0, F3, F0, z0, tb_xz, if_pos rfl]
          rw [j3]
          unfold rX10_nextVoice
          rw [K0, K1, K2, K3, if_pos z0]
        · have q3 := O3.resolve_left z3.1
          have b1 := True.intro
          have j3 : jX6_voiceToTake_3 S g = 0 := by
            unfold jX6_voiceToTake_3
            rw [j2, V3, V0, tb_e, E3, E0, F3, F0, z0, tb_xz, if_pos rfl]
          rw [j3]
          unfold rX10_nextVoice
          rw [K0, K1, K2, K3, if_pos z0]
      · have b1 := True.intro
        have j2 : jX6_voiceToTake_2 S g = 0 := by
          unfold jX6_voiceToTake_2
          rw [j1, V2, V0, tb_e, E2, E0, F2, F0, z0, tb_xz, if_pos rfl]
        rcases cls3 (T 3 3) with z3 | z3 | z3
        · have b1 := True.intro
          have j3 : jX6_voiceToTake_3 S g = 0 := by
            unfold jX6_voiceToTake_3
            rw [j2, V3, V0, tb_e, E3, E0, F3, F0, z0, tb_xz, if_pos rfl]
          rw [j3]
          unfold rX10_nextVoice
          rw [K0, K1, K2, K3, if_pos z0]
        · have b1 := True.intro
          have j3 : jX6_voiceToTake_3 S g = 0 := by
            unfold jX6_voiceToTake_3
            rw [j2, V3, V0, tb_e, E3, E0, F3, F0, z0, tb_xz, if_pos rfl]
          rw [j3]
          unfold rX10_nextVoice
          rw [K0, K1, K2, K3, if_pos z0]
        · have q3 := O3.resolve_left z3.1
          have b1 := True.intro
          have j3 : jX6_voiceToTake_3 S g = 0 := by
            unfold jX6_voiceToTake_3
            rw [j2, V3, V0, tb_e, E3, E0, F3, F0, z0, tb_xz, if_pos rfl]
          rw [j3]
          unfold rX10_nextVoice
          rw [K0, K1, K2, K3, if_pos z0]
      · have q2 := O2.resolve_left z2.1
        have b1 := True.intro
        have j2 : jX6_voiceToTake_2 S g = 0 := by
          unfold jX6_voiceToTake_2
          rw [j1, V2, V0, tb_e, E2, E0, F2, F0, z0, tb_xz, if_pos rfl]
        rcases cls3 (T 3 3) with z3 | z3 | z3
        · have b1 := True.intro
          have j3 : jX6_voiceToTake_3 S g = 0 := by
            unfold jX6_voiceToTake_3
            rw [j2, V3, V0, tb_e, E3, E0, F3, F0, z0, tb_xz, if_pos rfl]
          rw [j3]
          unfold rX10_nextVoice
          rw [K0, K1, K2, K3, if_pos z0]
        · have b1 := True.intro
          have j3 : jX6_voiceToTake_3 S g = 0 := by
            unfold jX6_voiceToTake_3
            rw [j2, V3, V0, tb_e, E3, E0, F3, F0, z0, tb_xz, if_pos rfl]
          rw [j3]
          unfold rX10_nextVoice
          rw [K0, K1, K2, K3, if_pos z0]
        · have q3 := O3.resolve_left z3.1
          have b1 := True.intro
          have j3 : jX6_voiceToTake_3 S g = 0 := by
            unfold jX6_voiceToTake_3
            rw [j2, V3, V0, tb_e, E3, E0, F3, F0, z0, tb_xz, if_pos rfl]
          rw [j3]
          unfold rX10_nextVoice
          rw [K0, K1, K2, K3, if_pos z0]
    · have b1 := True.intro
      have j1 : jX6_voiceToTake_1 S g = 0 := by
        unfold jX6_voiceToTake_1
        rw [V1, V0, tb_e, E1, E0, F1, F0, z0, tb_xz, if_pos rfl]
      rcases cls3 (T 3 2) with z2 | z2 | z2
      · have b1 := True.intro
        have j2 : jX6_voiceToTake_2 S g = 0 := by
          unfold jX6_voiceToTake_2
          rw [j1, V2, V0, tb_e, E2, E0, F2, F0, z0, tb_xz, if_pos rfl]
        rcases cls3 (T 3 3) with z3 | z3 | z3
        · have b1 := True.intro
          have j3 : jX6_voiceToTake_3 S g = 0 := by
            unfold jX6_voiceToTake_3
            rw [j2, V3, V0, tb_e, E3, E0, F3, F0, z0, tb_xz, if_pos rfl]
          rw [j3]
          unfold rX10_nextVoice
          rw [K0, K1, K2, K3, if_pos z0]
        · have b1 := True.intro
          have j3 : jX6_voiceToTake_3 S g = 0 := by
            unfold jX6_voiceToTake_3
            rw [j2, V3, V0, tb_e, E3, E0, F3, F0, z0, tb_xz, if_pos rfl]
          rw [j3]
          unfold rX10_nextVoice
          rw [K0, K1, K2, K3, if_pos z0]
        · have q3 := O3.resolve_left z3.1
          have b1 := True.intro
          have j3 : jX6_voiceToTake_3 S g = 0 := by
            unfold jX6_voiceToTake_3
            rw [j2, V3, V0, tb_e, E3, E0, F3, F0, z0, tb_xz, if_pos rfl]
          rw [j3]
          unfold rX10_nextVoice
          rw [K0, K1, K2, K3, if_pos z0]
      · have b1 := True.intro
        have j2 : jX6_voiceToTake_2 S g = 0 := by
          unfold jX6_voiceToTake_2
          rw [j1, V2, V0, tb_e, E2, E0, F2, F0, z0, tb_xz, if_pos rfl]
        rcases cls3 (T 3 3) with z3 | z3 | z3
        · have b1 := True.intro
          have j3 : jX6_voiceToTake_3 S g = 0 := by
            unfold jX6_voiceToTake_3
            rw [j2, V3, V0, tb_e, E3, E0, F3, F0, z0, tb_xz, if_pos rfl]
          rw [j3]
          unfold rX10_nextVoice
          rw [K0, K1, K2, K3, if_pos z0]
        · have b1 := True.intro
          have j3 : jX6_voiceToTake_3 S g = 0 := by
            unfold jX6_voiceToTake_3
            rw [j2, V3, V0, tb_e, E3, E0, F3, F0, z0, tb_xz, if_pos rfl]
          rw [j3]
          unfold rX10_nextVoice
          rw [K0, K1, K2, K3, if_pos z0]
        · have q3 := O3.resolve_left z3.1
          have b1 := True.intro
          have j3 : jX6_voiceToTake_3 S g = 0 := by
            unfold jX6_voiceToTake_3
            rw [j2, V3, V0, tb_e, E3, E0, F3, F0, z0, tb_xz, if_pos rfl]
          rw [j3]
          unfold rX10_nextVoice
          rw [K0, K1, K2, K3, if_pos z0]
      · have q2 := O2.resolve_left z2.1
        have b1 := True.intro
        have j2 : jX6_voiceToTake_2 S g = 0 := by
          unfold jX6_voiceToTake_2
          rw [j1, V2, V0, tb_e, E2, E0, F2, F0, z0, tb_xz, if_pos rfl]
        rcases cls3 (T 3 3) with z3 | z3 | z3
        · have b1 := True.intro
          have j3 : jX6_voiceToTake_3 S g = 0 := by
            unfold jX6_voiceToTake_3
            rw [j2, V3, V0, tb_e, E3, E0, F3, F0, z0, tb_xz, if_pos rfl]
          rw [j3]
          unfold rX10_nextVoice
          rw [K0, K1, K2, K3, if_pos z0]
        · have b1 := True.intro
          have j3 : jX6_voiceToTake_3 S g = 0 := by
            unfold jX6_voiceToTake_3
            rw [j2, V3, V0, tb_e, E3, E0, F3, F0, z0, tb_xz, if_pos rfl]
          rw [j3]
          unfold rX10_nextVoice
          rw [K0, K1, K2, K3, if_pos z0]
        · have q3 := O3.resolve_left z3.1
          have b1 := True.intro
          have j3 : jX6_voiceToTake_3 S g = 0 := by
            unfold jX6_voiceToTake_3
            rw [j2, V3, V0, tb_e, E3, E0, F3, F0, z0, tb_xz, if_pos rfl]
          rw [j3]
          unfold rX10_nextVoice
          rw [K0, K1, K2, K3, if_pos z0]
    · have q1 := O1.resolve_left z1.1
      have b1 := True.intro
      have j1 : jX6_voiceToTake_1 S g = 0 := by
        unfold jX6_voiceToTake_1
        rw [V1, V0, tb_e, E1, E0, F1, F0, z0, tb_xz, if_pos rfl]
      rcases cls3 (T 3 2) with z2 | z2 | z2
      · have b1 := True.intro
        have j2 : jX6_voiceToTake_2 S g = 0 := by
          unfold jX6_voiceToTake_2
          rw [j1, V2, V0, tb_e, E2, E0, F2, F0, z0, tb_xz, if_pos rfl]
        rcases cls3 (T 3 3) with z3 | z3 | z3
        · have b1 := True.intro
          have j3 : jX6_voiceToTake_3 S g = 0 := by
            unfold jX6_voiceToTake_3
            rw [j2, V3, V0, tb_e, E3, E0, F3, F0, z0, tb_xz, if_pos rfl]
          rw [j3]
          unfold rX10_nextVoice
          rw [K0, K1, K2, K3, if_pos z0]
        · have b1 := True.intro
          have j3 : jX6_voiceToTake_3 S g = 0 := by
            unfold jX6_voiceToTake_3
            rw [j2, V3, V0, tb_e, E3, E0, F3, F0, z0, tb_xz, if_pos rfl]
          rw [j3]
          unfold rX10_nextVoice
          rw [K0, K1, K2, K3, if_pos z0]
        · have q3 := O3.resolve_left z3.1
          have b1 := True.intro
          have j3 : jX6_voiceToTake_3 S g = 0 := by
            unfold jX6_voiceToTake_3
            rw [j2, V3, V0, tb_e, E3, E0, F3, F0, z0, tb_xz, if_pos rfl]
          rw [j3]
          unfold rX10_nextVoice
          rw [K0, K1, K2, K3, if_pos z0]
      · have b1 := True.intro
        have j2 : jX6_voiceToTake_2 S g = 0 := by
          unfold jX6_voiceToTake_2
          rw [j1, V2, V0, tb_e, E2, E0, F2, F0, z0, tb_xz, if_pos rfl]
        rcases cls3 (T 3 3) with z3 | z3 | z3
        · have b1 := True.intro
          have j3 : jX6_voiceToTake_3 S g = 0 := by
            unfold jX6_voiceToTake_3
            rw [j2, V3, V0, tb_e, E3, E0, F3, F0, z0, tb_xz, if_pos rfl]
          rw [j3]
          unfold rX10_nextVoice
          rw [K0, K1, K2, K3, if_pos z0]
        · have b1 := True.intro
          have j3 : jX6_voiceToTake_3 S g = 0 := by
            unfold jX6_voiceToTake_3
            rw [j2, V3, V0, tb_e, E3, E0, F3, F0, z0, tb_xz, if_pos rfl]
          rw [j3]
          unfold rX10_nextVoice
          rw [K0, K1, K2, K3, if_pos z0]
        · have q3 := O3.resolve_left z3.1
          have b1 := True.intro
          have j3 : jX6_voiceToTake_3 S g = 0 := by
            unfold jX6_voiceToTake_3
            rw [j2, V3, V0, tb_e, E3, E0, F3, F0, z0, tb_xz, if_pos rfl]
          rw [j3]
          unfold rX10_nextVoice
          rw [K0, K1, K2, K3, if_pos z0]
      · have q2 := O2.resolve_left z2.1
        have b1 := True.intro
        have j2 : jX6_voiceToTake_2 S g = 0 := by
          unfold jX6_voiceToTake_2
          rw [j1, V2, V0, tb_e, E2, E0, F2, F0, z0, tb_xz, if_pos rfl]
        rcases cls3 (T 3 3) with z3 | z3 | z3
        · have b1 := True.intro
          have j3 : jX6_voiceToTake_3 S g = 0 := by
            unfold jX6_voiceToTake_3
            rw [j2, V3, V0, tb_e, E3, E0, F3, F0, z0, tb_xz, if_pos rfl]
          rw [j3]
          unfold rX10_nextVoice
          rw [K0, K1, K2, K3, if_pos z0]
        · have b1 := True.intro
          have j3 : jX6_voiceToTake_3 S g = 0 := by
            unfold jX6_voiceToTake_3
            rw [j2, V3, V0, tb_e, E3, E0, F3, F0, z0, tb_xz, if_pos rfl]
          rw [j3]
          unfold rX10_nextVoice
          rw [K0, K1, K2, K3, if_pos z0]
        · have q3 := O3.resolve_left z3.1
          have b1 := True.intro
          have j3 : jX6_voiceToTake_3 S g = 0 := by
            unfold jX6_voiceToTake_3
            rw [j2, V3, V0, tb_e, E3, E0, F3, F0, z0, tb_xz, if_pos rfl]
          rw [j3]
          unfold rX10_nextVoice
          rw [K0, K1, K2, K3, if_pos z0]
  · have b0 := True.intro
    rcases cls3 (T 3 1) with z1 | z1 | z1
    · have b1 := True.intro
      have j1 : jX6_voiceToTake_1 S g = 1 := by
        unfold jX6_voiceToTake_1
        rw [V1, V0, tb_e, E1, E0, F1, F0, z1, tb_zx (by first | exact z0.1 | (rw [z0]; decide)), if_neg ne10]
      rcases cls3 (T 3 2) with z2 | z2 | z2
      · have b1 := True.intro
        have j2 : jX6_voiceToTake_2 S g = 1 := by
          unfold jX6_voiceToTake_2
          rw [j1, V2, V1, tb_e, E2, E1, F2, F1, z1, tb_xz, if_pos rfl]
        rcases cls3 (T 3 3) with z3 | z3 | z3
        · have b1 := True.intro
          have j3 : jX6_voiceToTake_3 S g = 1 := by
            unfold jX6_voiceToTake_3
            rw [j2, V3, V1, tb_e, E3, E1, F3, F1, z1, tb_xz, if_pos rfl]
          rw [j3]
          unfold rX10_nextVoice
          rw [K0, K1, K2, K3, if_neg (fun e => absurd (z0.symm.trans e) (by decide)), if_pos z1]
        · have b1 := True.intro
          have j3 : jX6_voiceToTake_3 S g = 1 := by
            unfold jX6_voiceToTake_3
            rw [j2, V3, V1, tb_e, E3, E1, F3, F1, z1, tb_xz, if_pos rfl]
          rw [j3]
          unfold rX10_nextVoice
          rw [K0, K1, K2, K3, if_neg (fun e => absurd (z0.symm.trans e) (by decide)), if_pos z1]
        · have q3 := O3.resolve_left z3.1
          have b1 := True.intro
          have j3 : jX6_voiceToTake_3 S g = 1 := by
            unfold jX6_voiceToTake_3
            rw [j2, V3, V1, tb_e, E3, E1, F3, F1, z1, tb_xz, if_pos rfl]
          rw [j3]
          unfold rX10_nextVoice
          rw [K0, K1, K2, K3, if_neg (fun e => absurd (z0.symm.trans e) (by decide)), if_pos z1]
      · have b1 := True.intro
        have j2 : jX6_voiceToTake_2 S g = 1 := by
          unfold jX6_voiceToTake_2
          rw [j1, V2, V1, tb_e, E2, E1, F2, F1, z1, tb_xz, if_pos rfl]
        rcases cls3 (T 3 3) with z3 | z3 | z3
        · have b1 := True.intro
          have j3 : jX6_voiceToTake_3 S g = 1 := by
            unfold jX6_voiceToTake_3
            rw [j2, V3, V1, tb_e, E3, E1, F3, F1, z1, tb_xz, if_pos rfl]
          rw [j3]
          unfold rX10_nextVoice
          rw [K0, K1, K2, K3, if_neg (fun e => absurd (z0.symm.trans e) (by decide)), if_pos z1]
        · have b1 := True.intro
          have j3 : jX6_voiceToTake_3 S g = 1 := by
            unfold jX6_voiceToTake_3
            rw [j2, V3, V1, tb_e, E3, E1, F3, F1, z1, tb_xz, if_pos rfl]
          rw [j3]
          unfold rX10_nextVoice
          rw [K0, K1, K2, K3, if_neg (fun e => absurd (z0.symm.trans e) (by decide)), if_pos z1]
        · have q3 := O3.resolve_left z3.1
          have b1 := True.intro
          have j3 : jX6_voiceToTake_3 S g = 1 := by
            unfold jX6_voiceToTake_3
            rw [j2, V3, V1, tb_e, E3, E1, F3, F1, z1, tb_xz, if_pos rfl]
          rw [j3]
          unfold rX10_nextVoice
          rw [K0, K1, K2, K3, if_neg (fun e => absurd (z0.symm.trans e) (by decide)), if_pos z1]
      · have q2 := O2.resolve_left z2.1
        have b1 := True.intro
        have j2 : jX6_voiceToTake_2 S g = 1 := by
          unfold jX6_voiceToTake_2
          rw [j1, V2, V1, tb_e, E2, E1, F2, F1, z1, tb_xz, if_pos rfl]
        rcases cls3 (T 3 3) with z3 | z3 | z3
        · have b1 := True.intro
          have j3 : jX6_voiceToTake_3 S g = 1 := by
            unfold jX6_voiceToTake_3
            rw [j2, V3, V1, tb_e, E3, E1, F3, F1, z1, tb_xz, if_pos rfl]
          rw [j3]
          unfold rX10_nextVoice
          rw [K0, K1, K2, K3, if_neg (fun e => absurd (z0.symm.trans e) (by decide)), if_pos z1]
        · have b1 := True.intro
          have j3 : jX6_voiceToTake_3 S g = 1 := by
            unfold jX6_voiceToTake_3
            rw [j2, V3, V1, tb_e, E3, E1, F3, F1, z1, tb_xz, if_pos rfl]
          rw [j3]
          unfold rX10_nextVoice
          rw [K0, K1, K2, K3, if_neg (fun e => absurd (z0.symm.trans e) (by decide)), if_pos z1]
        · have q3 := O3.resolve_left z3.1
          have b1 := True.intro
          have j3 : jX6_voiceToTake_3 S g = 1 := by
            unfold jX6_voiceToTake_3
            rw [j2, V3, V1, tb_e, E3, E1, F3, F1, z1, tb_xz, if_pos rfl]
          rw [j3]
          unfold rX10_nextVoice
          rw [K0, K1, K2, K3, if_neg (fun e => absurd (z0.symm.trans e) (by decide)), if_pos z1]
    · by_cases m01 : T 4 0 ≤ T 4 1
      · have b1 := True.intro
        have j1 : jX6_voiceToTake_1 S g = 0 := by
          unfold jX6_voiceToTake_1
          rw [V1, V0, tb_e, E1, E0, F1, F0, z1, z0, tb_rr, if_pos m01, if_pos rfl]
        rcases cls3 (T 3 2) with z2 | z2 | z2
        · have b1 := True.intro
          have j2 : jX6_voiceToTake_2 S g = 2 := by
            unfold jX6_voiceToTake_2
            rw [j1, V2, V0, tb_e, E2, E0, F2, F0, z2, tb_zx (by first | exact z0.1 | (rw [z0]; decide)), if_neg ne10]
          rcases cls3 (T 3 3) with z3 | z3 | z3
          · have b1 := True.intro
            have j3 : jX6_voiceToTake_3 S g = 2 := by
              unfold jX6_voiceToTake_3
              rw [j2, V3, V2, tb_e, E3, E2, F3, F2, z2, tb_xz, if_pos rfl]
            rw [j3]
            unfold rX10_nextVoice
            rw [K0, K1, K2, K3, if_neg (fun e => absurd (z0.symm.trans e) (by decide)), if_neg (fun e => absurd (z1.symm.trans e) (by decide)), if_pos z2]
          · have b1 := True.intro
            have j3 : jX6_voiceToTake_3 S g = 2 := by
              unfold jX6_voiceToTake_3
              rw [j2, V3, V2, tb_e, E3, E2, F3, F2, z2, tb_xz, if_pos rfl]
            rw [j3]
            unfold rX10_nextVoice
            rw [K0, K1, K2, K3, if_neg (fun e => absurd (z0.symm.trans e) (by decide)), if_neg (fun e => absurd (z1.symm.trans e) (by decide)), if_pos z2]
          · have q3 := O3.resolve_left z3.1
            have b1 := True.intro
            have j3 : jX6_voiceToTake_3 S g = 2 := by
              unfold jX6_voiceToTake_3
              rw [j2, V3, V2, tb_e, E3, E2, F3, F2, z2, tb_xz, if_pos rfl]
            rw [j3]
            unfold rX10_nextVoice
            rw [K0, K1, K2, K3, if_neg (fun e => absurd (z0.symm.trans e) (by decide)), if_neg (fun e => absurd (z1.symm.trans e) (by decide)), if_pos z2]
        · by_cases m02 : T 4 0 ≤ T 4 2
          · have b1 := True.intro
            have j2 : jX6_voiceToTake_2 S g = 0 := by
              unfold jX6_voiceToTake_2
              rw [j1, V2, V0, tb_e, E2, E0, F2, F0, z2, z0, tb_rr, if_pos m02, if_pos rfl]
            rcases cls3 (T 3 3) with z3 | z3 | z3
            · have b1 := True.intro
              have j3 : jX6_voiceToTake_3 S g = 3 := by
                unfold jX6_voiceToTake_3
                rw [j2, V3, V0, tb_e, E3, E0, F3, F0, z3, tb_zx (by first | exact z0.1 | (rw [z0]; decide)), if_neg ne10]
              rw [j3]
              unfold rX10_nextVoice
              rw [K0, K1, K2, K3, if_neg (fun e => absurd (z0.symm.trans e) (by decide)), if_neg (fun e => absurd (z1.symm.trans e) (by decide)), if_neg (fun e => absurd (z2.symm.trans e) (by decide)), if_pos z3]
            · by_cases m03 : T 4 0 ≤ T 4 3
              · have b1 := True.intro
                have j3 : jX6_voiceToTake_3 S g = 0 := by
                  unfold jX6_voiceToTake_3
                  rw [j2, V3, V0, tb_e, E3, E0, F3, F0, z3, z0, tb_rr, if_pos m03, if_pos rfl]
                rw [j3]
                unfold rX10_nextVoice
                rw [K0, K1, K2, K3, if_neg (fun e => absurd (z0.symm.trans e) (by decide)), if_neg (fun e => absurd (z1.symm.trans e) (by decide)), if_neg (fun e => absurd (z2.symm.trans e) (by decide)), if_neg (fun e => absurd (z3.symm.trans e) (by decide))]
                have n1 : jX10_nextVoice_1 T = (0) := by
                  unfold jX10_nextVoice_1
                  rw [K0, if_pos z0]
                have n2 : jX10_nextVoice_2 T = (0) := by
                  unfold jX10_nextVoice_2
                  rw [K1, if_pos z1, n1, if_neg (by decide), K0, if_pos m01]
                have n3 : jX10_nextVoice_3 T = (0) := by
                  unfold jX10_nextVoice_3
                  rw [K2, if_pos z2, n2, if_neg (by decide), K0, if_pos m02]
                have n4 : jX10_nextVoice_4 T = (0) := by
                  unfold jX10_nextVoice_4
                  rw [K3, if_pos z3, n3, if_neg (by decide), K0, if_pos m03]
                rw [n4, if_neg (by decide)]
              · have b1 := True.intro
                have j3 : jX6_voiceToTake_3 S g = 3 := by
                  unfold jX6_voiceToTake_3
                  rw [j2, V3, V0, tb_e, E3, E0, F3, F0, z3, z0, tb_rr, if_neg m03, if_neg ne10]
                rw [j3]
                unfold rX10_nextVoice
                rw [K0, K1, K2, K3, if_neg (fun e => absurd (z0.symm.trans e) (by decide)), if_neg (fun e => absurd (z1.symm.trans e) (by decide)), if_neg (fun e => absurd (z2.symm.trans e) (by decide)), if_neg (fun e => absurd (z3.symm.trans e) (by decide))]
                have n1 : jX10_nextVoice_1 T = (0) := by
                  unfold jX10_nextVoice_1
                  rw [K0, if_pos z0]
                have n2 : jX10_nextVoice_2 T = (0) := by
                  unfold jX10_nextVoice_2
                  rw [K1, if_pos z1, n1, if_neg (by decide), K0, if_pos m01]
                have n3 : jX10_nextVoice_3 T = (0) := by
                  unfold jX10_nextVoice_3
                  rw [K2, if_pos z2, n2, if_neg (by decide), K0, if_pos m02]
                have n4 : jX10_nextVoice_4 T = (3) := by
                  unfold jX10_nextVoice_4
                  rw [K3, if_pos z3, n3, if_neg (by decide), K0, if_neg m03]
                rw [n4, if_neg (by decide)]
            · have q3 := O3.resolve_left z3.1
              have b1 := True.intro
              have j3 : jX6_voiceToTake_3 S g = 0 := by
                unfold jX6_voiceToTake_3
                rw [j2, V3, V0, tb_e, E3, E0, F3, F0, z0, tb_or z3.1 z3.2, if_pos rfl]
              rw [j3]
              unfold rX10_nextVoice
              rw [K0, K1, K2, K3, if_neg (fun e => absurd (z0.symm.trans e) (by decide)), if_neg (fun e => absurd (z1.symm.trans e) (by decide)), if_neg (fun e => absurd (z2.symm.trans e) (by decide)), if_neg z3.1]
              have n1 : jX10_nextVoice_1 T = (0) := by
                unfold jX10_nextVoice_1
                rw [K0, if_pos z0]
              have n2 : jX10_nextVoice_2 T = (0) := by
                unfold jX10_nextVoice_2
                rw [K1, if_pos z1, n1, if_neg (by decide), K0, if_pos m01]
              have n3 : jX10_nextVoice_3 T = (0) := by
                unfold jX10_nextVoice_3
                rw [K2, if_pos z2, n2, if_neg (by decide), K0, if_pos m02]
              have n4 : jX10_nextVoice_4 T = (0) := by
                unfold jX10_nextVoice_4
                rw [K3, if_neg z3.2, n3]
              rw [n4, if_neg (by decide)]
          · have b1 := True.intro
            have j2 : jX6_voiceToTake_2 S g = 2 := by
              unfold jX6_voiceToTake_2
              rw [j1, V2, V0, tb_e, E2, E0, F2, F0, z2, z0, tb_rr, if_neg m02, if_neg ne10]
            rcases cls3 (T 3 3) with z3 | z3 | z3
            · have b1 := True.intro
              have j3 : jX6_voiceToTake_3 S g = 3 := by
                unfold jX6_voiceToTake_3
                rw [j2, V3, V2, tb_e, E3, E2, F3, F2, z3, tb_zx (by first | exact z2.1 | (rw [z2]; decide)), if_neg ne10]
              rw [j3]
              unfold rX10_nextVoice
              rw [K0, K1, K2, K3, if_neg (fun e => absurd (z0.symm.trans e) (by decide)), if_neg (fun e => absurd (z1.symm.trans e) (by decide)), if_neg (fun e => absurd (z2.symm.trans e) (by decide)), if_pos z3]
            · by_cases m23 : T 4 2 ≤ T 4 3
              · have b1 := True.intro
                have j3 : jX6_voiceToTake_3 S g = 2 := by
                  unfold jX6_voiceToTake_3
                  rw [j2, V3, V2, tb_e, E3, E2, F3, F2, z3, z2, tb_rr, if_pos m23, if_pos rfl]
                rw [j3]
                unfold rX10_nextVoice
                rw [K0, K1, K2, K3, if_neg (fun e => absurd (z0.symm.trans e) (by decide)), if_neg (fun e => absurd (z1.symm.trans e) (by decide)), if_neg (fun e => absurd (z2.symm.trans e) (by decide)), if_neg (fun e => absurd (z3.symm.trans e) (by decide))]
                have n1 : jX10_nextVoice_1 T = (0) := by
                  unfold jX10_nextVoice_1
                  rw [K0, if_pos z0]
                have n2 : jX10_nextVoice_2 T = (0) := by
                  unfold jX10_nextVoice_2
                  rw [K1, if_pos z1, n1, if_neg (by decide), K0, if_pos m01]
                have n3 : jX10_nextVoice_3 T = (2) := by
                  unfold jX10_nextVoice_3
                  rw [K2, if_pos z2, n2, if_neg (by decide), K0, if_neg m02]
                have n4 : jX10_nextVoice_4 T = (2) := by
                  unfold jX10_nextVoice_4
                  rw [K3, if_pos z3, n3, if_neg (by decide), K2, if_pos m23]
                rw [n4, if_neg (by decide)]
              · have b1 := True.intro
                have j3 : jX6_voiceToTake_3 S g = 3 := by
                  unfold jX6_voiceToTake_3
                  rw [j2, V3, V2, tb_e, E3, E2, F3, F2, z3, z2, tb_rr, if_neg m23, if_neg ne10]
                rw [j3]
                unfold rX10_nextVoice
                rw [K0, K1, K2, K3, if_neg (fun e => absurd (z0.symm.trans e) (by decide)), if_neg (fun e => absurd (z1.symm.trans e) (by decide)), if_neg (fun e => absurd (z2.symm.trans e) (by decide)), if_neg (fun e => absurd (z3.symm.trans e) (by decide))]
                have n1 : jX10_nextVoice_1 T = (0) := by
                  unfold jX10_nextVoice_1
                  rw [K0, if_pos z0]
                have n2 : jX10_nextVoice_2 T = (0) := by
                  unfold jX10_nextVoice_2
                  rw [K1, if_pos z1, n1, if_neg (by decide), K0, if_pos m01]
                have n3 : jX10_nextVoice_3 T = (2) := by
                  unfold jX10_nextVoice_3
                  rw [K2, if_pos z2, n2, if_neg (by decide), K0, if_neg m02]
                have n4 : jX10_nextVoice_4 T = (3) := by
                  unfold jX10_nextVoice_4
                  rw [K3, if_pos z3, n3, if_neg (by decide), K2, if_neg m23]
                rw [n4, if_neg (by decide)]
            · have q3 := O3.resolve_left z3.1
              have b1 := True.intro
              have j3 : jX6_voiceToTake_3 S g = 2 := by
                unfold jX6_voiceToTake_3
                rw [j2, V3, V2, tb_e, E3, E2, F3, F2, z2, tb_or z3.1 z3.2, if_pos rfl]
              rw [j3]
              unfold rX10_nextVoice
              rw [K0, K1, K2, K3, if_neg (fun e => absurd (z0.symm.trans e) (by decide)), if_neg (fun e => absurd (z1.symm.trans e) (by decide)), if_neg (fun e => absurd (z2.symm.trans e) (by decide)), if_neg z3.1]
              have n1 : jX10_nextVoice_1 T = (0) := by
                unfold jX10_nextVoice_1
                rw [K0, if_pos z0]
              have n2 : jX10_nextVoice_2 T = (0) := by
                unfold jX10_nextVoice_2
                rw [K1, if_pos z1, n1, if_neg (by decide), K0, if_pos m01]
              have n3 : jX10_nextVoice_3 T = (2) := by
                unfold jX10_nextVoice_3
                rw [K2, if_pos z2, n2, if_neg (by decide), K0, if_neg m02]
              have n4 : jX10_nextVoice_4 T = (2) := by
                unfold jX10_nextVoice_4
                rw [K3, if_neg z3.2, n3]
              rw [n4, if_neg (by decide)]
        · have q2 := O2.resolve_left z2.1
          have b1 := True.intro
          have j2 : jX6_voiceToTake_2 S g = 0 := by
            unfold jX6_voiceToTake_2
            rw [j1, V2, V0, tb_e, E2, E0, F2, F0, z0, tb_or z2.1 z2.2, if_pos rfl]
          rcases cls3 (T 3 3) with z3 | z3 | z3
          · have b1 := True.intro
            have j3 : jX6_voiceToTake_3 S g = 3 := by
              unfold jX6_voiceToTake_3
              rw [j2, V3, V0, tb_e, E3, E0, F3, F0, z3, tb_zx (by first | exact z0.1 | (rw [z0]; decide)), if_neg ne10]
            rw [j3]
            unfold rX10_nextVoice
            rw [K0, K1, K2, K3, if_neg (fun e => absurd (z0.symm.trans e) (by decide)), if_neg (fun e => absurd (z1.symm.trans e) (by decide)), if_neg z2.1, if_pos z3]
          · by_cases m03 : T 4 0 ≤ T 4 3
            · have b1 := True.intro
              have j3 : jX6_voiceToTake_3 S g = 0 := by
                unfold jX6_voiceToTake_3
                rw [j2, V3, V0, tb_e, E3, E0, F3, F0, z3, z0, tb_rr, if_pos m03, if_pos rfl]
              rw [j3]
              unfold rX10_nextVoice
              rw [K0, K1, K2, K3, if_neg (fun e => absurd (z0.symm.trans e) (by decide)), if_neg (fun e => absurd (z1.symm.trans e) (by decide)), if_neg z2.1, if_neg (fun e => absurd (z3.symm.trans e) (by decide))]
              have n1 : jX10_nextVoice_1 T = (0) := by
                unfold jX10_nextVoice_1
                rw [K0, if_pos z0]
              have n2 : jX10_nextVoice_2 T = (0) := by
                unfold jX10_nextVoice_2
                rw [K1, if_pos z1, n1, if_neg (by decide), K0, if_pos m01]
              have n3 : jX10_nextVoice_3 T = (0) := by
                unfold jX10_nextVoice_3
                rw [K2, if_neg z2.2, n2]
              have n4 : jX10_nextVoice_4 T = (0) := by
                unfold jX10_nextVoice_4
                rw [K3, if_pos z3, n3, if_neg (by decide), K0, if_pos m03]
              rw [n4, if_neg (by decide)]
            · have b1 := True.intro
              have j3 : jX6_voiceToTake_3 S g = 3 := by
                unfold jX6_voiceToTake_3
                rw [j2, V3, V0, tb_e, E3, E0, F3, F0, z3, z0, tb_rr, if_neg m03, if_neg ne10]
              rw [j3]
              unfold rX10_nextVoice
              rw [K0, K1, K2, K3, if_neg (fun e => absurd (z0.symm.trans e) (by decide)), if_neg (fun e => absurd (z1.symm.trans e) (by decide)), if_neg z2.1, if_neg (fun e => absurd (z3.symm.trans e) (by decide))]
              have n1 : jX10_nextVoice_1 T = (0) := by
                unfold jX10_nextVoice_1
                rw [K0, if_pos z0]
              have n2 : jX10_nextVoice_2 T = (0) := by
                unfold jX10_nextVoice_2
                rw [K1, if_pos z1, n1, if_neg (by decide), K0, if_pos m01]
              have n3 : jX10_nextVoice_3 T = (0) := by
                unfold jX10_nextVoice_3
                rw [K2, if_neg z2.2, n2]
              have n4 : jX10_nextVoice_4 T = (3) := by
                unfold jX10_nextVoice_4
                rw [K3, if_pos z3, n3, if_neg (by decide), K0, if_neg m03]
              rw [n4, if_neg (by decide)]
          · have q3 := O3.resolve_left z3.1
            have b1 := True.intro
            have j3 : jX6_voiceToTake_3 S g = 0 := by
              unfold jX6_voiceToTake_3
              rw [j2, V3, V0, tb_e, E3, E0, F3, F0, z0, tb_or z3.1 z3.2, if_pos rfl]
            rw [j3]
            unfold rX10_nextVoice
            rw [K0, K1, K2, K3, if_neg (fun e => absurd (z0.symm.trans e) (by decide)), if_neg (fun e => absurd (z1.symm.trans e) (by decide)), if_neg z2.1, if_neg z3.1]
            have n1 : jX10_nextVoice_1 T = (0) := by
              unfold jX10_nextVoice_1
              rw [K0, if_pos z0]
            have n2 : jX10_nextVoice_2 T = (0) := by
              unfold jX10_nextVoice_2
              rw [K1, if_pos z1, n1, if_neg (by decide), K0, if_pos m01]
            have n3 : jX10_nextVoice_3 T = (0) := by
              unfold jX10_nextVoice_3
              rw [K2, if_neg z2.2, n2]
            have n4 : jX10_nextVoice_4 T = (0) := by
              unfold jX10_nextVoice_4
              rw [K3, if_neg z3.2, n3]
            rw [n4, if_neg (by decide)]
      · have b1 := True.intro
        have j1 : jX6_voiceToTake_1 S g = 1 := by
          unfold jX6_voiceToTake_1
          rw [V1, V0, tb_e, E1, E0, F1, F0, z1, z0, tb_rr, if_neg m01, if_neg ne10]
        rcases cls3 (T 3 2) with z2 | z2 | z2
        · have b1 := True.intro
          have j2 : jX6_voiceToTake_2 S g = 2 := by
            unfold jX6_voiceToTake_2
            rw [j1, V2, V1, tb_e, E2, E1, F2, F1, z2, tb_zx (by first | exact z1.1 | (rw [z1]; decide)), if_neg ne10]
          rcases cls3 (T 3 3) with z3 | z3 | z3
          · have b1 := True.intro
            have j3 : jX6_voiceToTake_3 S g = 2 := by
              unfold jX6_voiceToTake_3
              rw [j2, V3, V2, tb_e, E3, E2, F3, F2, z2, tb_xz, if_pos rfl]
            rw [j3]
            unfold rX10_nextVoice
            rw [K0, K1, K2, K3, if_neg (fun e => absurd (z0.symm.trans e) (by decide)), if_neg (fun e => absurd (z1.symm.trans e) (by decide)), if_pos z2]
          · have b1 := True.intro
            have j3 : jX6_voiceToTake_3 S g = 2 := by
              unfold jX6_voiceToTake_3
              rw [j2, V3, V2, tb_e, E3, E2, F3, F2, z2, tb_xz, if_pos rfl]
            rw [j3]
            unfold rX10_nextVoice
            rw [K0, K1, K2, K3, if_neg (fun e => absurd (z0.symm.trans e) (by decide)), if_neg (fun e => absurd (z1.symm.trans e) (by decide)), if_pos z2]
          · have q3 := O3.resolve_left z3.1
            have b1 := True.intro
            have j3 : jX6_voiceToTake_3 S g = 2 := by
              unfold jX6_voiceToTake_3
              rw [j2, V3, V2, tb_e, E3, E2, F3, F2, z2, tb_xz, if_pos rfl]
            rw [j3]
            unfold rX10_nextVoice
            rw [K0, K1, K2, K3, if_neg (fun e => absurd (z0.symm.trans e) (by decide)), if_neg (fun e => absurd (z1.symm.trans e) (by decide)), if_pos z2]
        · by_cases m12 : T 4 1 ≤ T 4 2
          · have b1 := True.intro
            have j2 : jX6_voiceToTake_2 S g = 1 := by
              unfold jX6_voiceToTake_2
              rw [j1, V2, V1, tb_e, E2, E1, F2, F1, z2, z1, tb_rr, if_pos m12, if_pos rfl]
            rcases cls3 (T 3 3) with z3 | z3 | z3
            · have b1 := True.intro
              have j3 : jX6_voiceToTake_3 S g = 3 := by
                unfold jX6_voiceToTake_3
                rw [j2, V3, V1, tb_e, E3, E1, F3, F1, z3, tb_zx (by first | exact z1.1 | (rw [z1]; decide)), if_neg ne10]
              rw [j3]
              unfold rX10_nextVoice
              rw [K0, K1, K2, K3, if_neg (fun e => absurd (z0.symm.trans e) (by decide)), if_neg (fun e => absurd (z1.symm.trans e) (by decide)), if_neg (fun e => absurd (z2.symm.trans e) (by decide)), if_pos z3]
            · by_cases m13 : T 4 1 ≤ T 4 3
              · have b1 := True.intro
                have j3 : jX6_voiceToTake_3 S g = 1 := by
                  unfold jX6_voiceToTake_3
                  rw [j2, V3, V1, tb_e, E3, E1, F3, F1, z3, z1, tb_rr, if_pos m13, if_pos rfl]
                rw [j3]
                unfold rX10_nextVoice
                rw [K0, K1, K2, K3, if_neg (fun e => absurd (z0.symm.trans e) (by decide)), if_neg (fun e => absurd (z1.symm.trans e) (by decide)), if_neg (fun e => absurd (z2.symm.trans e) (by decide)), if_neg (fun e => absurd (z3.symm.trans e) (by decide))]
                have n1 : jX10_nextVoice_1 T = (0) := by
                  unfold jX10_nextVoice_1
                  rw [K0, if_pos z0]
                have n2 : jX10_nextVoice_2 T = (1) := by
                  unfold jX10_nextVoice_2
                  rw [K1, if_pos z1, n1, if_neg (by decide), K0, if_neg m01]
                have n3 : jX10_nextVoice_3 T = (1) := by
                  unfold jX10_nextVoice_3
                  rw [K2, if_pos z2, n2, if_neg (by decide), K1, if_pos m12]
                have n4 : jX10_nextVoice_4 T = (1) := by
                  unfold jX10_nextVoice_4
                  rw [K3, if_pos z3, n3, if_neg (by decide), K1, if_pos m13]
                rw [n4, if_neg (by decide)]
              · have b1 := True.intro
                have j3 : jX6_voiceToTake_3 S g = 3 := by
                  unfold jX6_voiceToTake_3
                  rw [j2, V3, V1, tb_e, E3, E1, F3, F1, z3, z1, tb_rr, if_neg m13, if_neg ne10]
                rw [j3]
                unfold rX10_nextVoice
                rw [K0, K1, K2, K3, if_neg (fun e => absurd (z0.symm.trans e) (by decide)), if_neg (fun e => absurd (z1.symm.trans e) (by decide)), if_neg (fun e => absurd (z2.symm.trans e) (by decide)), if_neg (fun e => absurd (z3.symm.trans e) (by decide))]
                have n1 : jX10_nextVoice_1 T = (0) := by
                  unfold jX10_nextVoice_1
                  rw [K0, if_pos z0]
                have n2 : jX10_nextVoice_2 T = (1) := by
                  unfold jX10_nextVoice_2
                  rw [K1, if_pos z1, n1, if_neg (by decide), K0, if_neg m01]
                have n3 : jX10_nextVoice_3 T = (1) := by
                  unfold jX10_nextVoice_3
                  rw [K2, if_pos z2, n2, if_neg (by decide), K1, if_pos m12]
                have n4 : jX10_nextVoice_4 T = (3) := by
                  unfold jX10_nextVoice_4
                  rw [K3, if_pos z3, n3, if_neg (by decide), K1, if_neg m13]
                rw [n4, if_neg (by decide)]
            · have q3 := O3.resolve_left z3.1
              have b1 := True.intro
              have j3 : jX6_voiceToTake_3 S g = 1 := by
                unfold jX6_voiceToTake_3
                rw [j2, V3, V1, tb_e, E3, E1, F3, F1, z1, tb_or z3.1 z3.2, if_pos rfl]
              rw [j3]
              unfold rX10_nextVoice
              rw [K0, K1, K2, K3, if_neg (fun e => absurd (z0.symm.trans e) (by decide)), if_neg (fun e => absurd (z1.symm.trans e) (by decide)), if_neg (fun e => absurd (z2.symm.trans e) (by decide)), if_neg z3.1]
              have n1 : jX10_nextVoice_1 T = (0) := by
                unfold jX10_nextVoice_1
                rw [K0, if_pos z0]
              have n2 : jX10_nextVoice_2 T = (1) := by
                unfold jX10_nextVoice_2
                rw [K1, if_pos z1, n1, if_neg (by decide), K0, if_neg m01]
              have n3 : jX10_nextVoice_3 T = (1) := by
                unfold jX10_nextVoice_3
                rw [K2, if_pos z2, n2, if_neg (by decide), K1, if_pos m12]
              have n4 : jX10_nextVoice_4 T = (1) := by
                unfold jX10_nextVoice_4
                rw [K3, if_neg z3.2, n3]
              rw [n4, if_neg (by decide)]
          · have b1 := True.intro
            have j2 : jX6_voiceToTake_2 S g = 2 := by
              unfold jX6_voiceToTake_2
              rw [j1, V2, V1, tb_e, E2, E1, F2, F1, z2, z1, tb_rr, if_neg m12, if_neg ne10]
            rcases cls3 (T 3 3) with z3 | z3 | z3
            · have b1 := True.intro
              have j3 : jX6_voiceToTake_3 S g = 3 := by
                unfold jX6_voiceToTake_3
                rw [j2, V3, V2, tb_e, E3, E2, F3, F2, z3, tb_zx (by first | exact z2.1 | (rw [z2]; decide)), if_neg ne10]
              rw [j3]
              unfold rX10_nextVoice
              rw [K0, K1, K2, K3, if_neg (fun e => absurd (z0.symm.trans e) (by decide)), if_neg (fun e => absurd (z1.symm.trans e) (by decide)), if_neg (fun e => absurd (z2.symm.trans e) (by decide)), if_pos z3]
            · by_cases m23 : T 4 2 ≤ T 4 3
              · have b1 := True.intro
                have j3 : jX6_voiceToTake_3 S g = 2 := by
                  unfold jX6_voiceToTake_3
                  rw [j2, V3, V2, tb_e, E3, E2, F3, F2, z3, z2, tb_rr, if_pos m23, if_pos rfl]
                rw [j3]
                unfold rX10_nextVoice
                rw [K0, K1, K2, K3, if_neg (fun e => absurd (z0.symm.trans e) (by decide)), if_neg (fun e => absurd (z1.symm.trans e) (by decide)), if_neg (fun e => absurd (z2.symm.trans e) (by decide)), if_neg (fun e => absurd (z3.symm.trans e) (by decide))]
                have n1 : jX10_nextVoice_1 T = (0) := by
                  unfold jX10_nextVoice_1
                  rw [K0, if_pos z0]
                have n2 : jX10_nextVoice_2 T = (1) := by
                  unfold jX10_nextVoice_2
                  rw [K1, if_pos z1, n1, if_neg (by decide), K0, if_neg m01]
                have n3 : jX10_nextVoice_3 T = (2) := by
                  unfold jX10_nextVoice_3
                  rw [K2, if_pos z2, n2, if_neg (by decide), K1, if_neg m12]
                have n4 : jX10_nextVoice_4 T = (2) := by
                  unfold jX10_nextVoice_4
                  rw [K3, if_pos z3, n3, if_neg (by decide), K2, if_pos m23]
                rw [n4, if_neg (by decide)]
              · have b1 := True.intro
                have j3 : jX6_voiceToTake_3 S g = 3 := by
                  unfold jX6_voiceToTake_3
                  rw [j2, V3, V2, tb_e, E3, E2, F3, F2, z3, z2, tb_rr, if_neg m23, if_neg ne10]
                rw [j3]
                unfold rX10_nextVoice
                rw [K0, K1, K2, K3, if_neg (fun e => absurd (z0.symm.trans e) (by decide)), if_neg (fun e => absurd (z1.symm.trans e) (by decide)), if_neg (fun e => absurd (z2.symm.trans e) (by decide)), if_neg (fun e => absurd (z3.symm.trans e) (by decide))]
                have n1 : jX10_nextVoice_1 T = (0) := by
                  unfold jX10_nextVoice_1
                  rw [K0, if_pos z0]
                have n2 : jX10_nextVoice_2 T = (1) := by
                  unfold jX10_nextVoice_2
                  rw [K1, if_pos z1, n1, if_neg (by decide), K0, if_neg m01]
                have n3 : jX10_nextVoice_3 T = (2) := by
                  unfold jX10_nextVoice_3
                  rw [K2, if_pos z2, n2, if_neg (by decide), K1, if_neg m12]
                have n4 : jX10_nextVoice_4 T = (3) := by
                  unfold jX10_nextVoice_4
                  rw [K3, if_pos z3, n3, if_neg (by decide), K2, if_neg m23]
                rw [n4, if_neg (by decide)]
            · have q3 := O3.resolve_left z3.1
              have b1 := True.intro
              have j3 : jX6_voiceToTake_3 S g = 2 := by
                unfold jX6_voiceToTake_3
                rw [j2, V3, V2, tb_e, E3, E2, F3, F2, z2, tb_or z3.1 z3.2, if_pos rfl]
              rw [j3]
              unfold rX10_nextVoice
              rw [K0, K1, K2, K3, if_neg (fun e => absurd (z0.symm.trans e) (by decide)), if_neg (fun e => absurd (z1.symm.trans e) (by decide)), if_neg (fun e => absurd (z2.symm.trans e) (by decide)), if_neg z3.1]
              have n1 : jX10_nextVoice_1 T = (0) := by
                unfold jX10_nextVoice_1
                rw [K0, if_pos z0]
              have n2 : jX10_nextVoice_2 T = (1) := by
                unfold jX10_nextVoice_2
                rw [K1, if_pos z1, n1, if_neg (by decide), K0, if_neg m01]
              have n3 : jX10_nextVoice_3 T = (2) := by
                unfold jX10_nextVoice_3
                rw [K2, if_pos z2, n2, if_neg (by decide), K1, if_neg m12]
              have n4 : jX10_nextVoice_4 T = (2) := by
                unfold jX10_nextVoice_4
                rw [K3, if_neg z3.2, n3]
              rw [n4, if_neg (by decide)]
        · have q2 := O2.resolve_left z2.1
          have b1 := True.intro
          have j2 : jX6_voiceToTake_2 S g = 1 := by
            unfold jX6_voiceToTake_2
            rw [j1, V2, V1, tb_e, E2, E1, F2, F1, z1, tb_or z2.1 z2.2, if_pos rfl]
          rcases cls3 (T 3 3) with z3 | z3 | z3
          · have b1 := True.intro
            have j3 : jX6_voiceToTake_3 S g = 3 := by
              unfold jX6_voiceToTake_3
              rw [j2, V3, V1, tb_e, E3, E1, F3, F1, z3, tb_zx (by first | exact z1.1 | (rw [z1]; decide)), if_neg ne10]
            rw [j3]
            unfold rX10_nextVoice
            rw [K0, K1, K2, K3, if_neg (fun e => absurd (z0.symm.trans e) (by decide)), if_neg (fun e => absurd (z1.symm.trans e) (by decide)), if_neg z2.1, if_pos z3]
          · by_cases m13 : T 4 1 ≤ T 4 3
            · have b1 := True.intro
              have j3 : jX6_voiceToTake_3 S g = 1 := by
                unfold jX6_voiceToTake_3
                rw [j2, V3, V1, tb_e, E3, E1, F3, F1, z3, z1, tb_rr, if_pos m13, if_pos rfl]
              rw [j3]
              unfold rX10_nextVoice
              rw [K0, K1, K2, K3, if_neg (fun e => absurd (z0.symm.trans e) (by decide)), if_neg (fun e => absurd (z1.symm.trans e) (by decide)), if_neg z2.1, if_neg (fun e => absurd (z3.symm.trans e) (by decide))]
              have n1 : jX10_nextVoice_1 T = (0) := by
                unfold jX10_nextVoice_1
                rw [K0, if_pos z0]
              have n2 : jX10_nextVoice_2 T = (1) := by
                unfold jX10_nextVoice_2
                rw [K1, if_pos z1, n1, if_neg (by decide), K0, if_neg m01]
              have n3 : jX10_nextVoice_3 T = (1) := by
                unfold jX10_nextVoice_3
                rw [K2, if_neg z2.2, n2]
              have n4 : jX10_nextVoice_4 T = (1) := by
                unfold jX10_nextVoice_4
                rw [K3, if_pos z3, n3, if_neg (by decide), K1, if_pos m13]
              rw [n4, if_neg (by decide)]
            · have b1 := True.intro
              have j3 : jX6_voiceToTake_3 S g = 3 := by
                unfold jX6_voiceToTake_3
                rw [j2, V3, V1, tb_e, E3, E1, F3, F1, z3, z1, tb_rr, if_neg m13, if_neg ne10]
              rw [j3]
              unfold rX10_nextVoice
              rw [K0, K1, K2, K3, if_neg (fun e => absurd (z0.symm.trans e) (by decide)), if_neg (fun e => absurd (z1.symm.trans e) (by decide)), if_neg z2.1, if_neg (fun e => absurd (z3.symm.trans e) (by decide))]
              have n1 : jX10_nextVoice_1 T = (0) := by
                unfold jX10_nextVoice_1
                rw [K0, if_pos z0]
              have n2 : jX10_nextVoice_2 T = (1) := by
                unfold jX10_nextVoice_2
                rw [K1, if_pos z1, n1, if_neg (by decide), K0, if_neg m01]
              have n3 : jX10_nextVoice_3 T = (1) := by
                unfold jX10_nextVoice_3
                rw [K2, if_neg z2.2, n2]
              have n4 : jX10_nextVoice_4 T = (3) := by
                unfold jX10_nextVoice_4
                rw [K3, if_pos z3, n3, if_neg (by decide), K1, if_neg m13]
              rw [n4, if_neg (by decide)]
          · have q3 := O3.resolve_left z3.1
            have b1 := True.intro
            have j3 : jX6_voiceToTake_3 S g = 1 := by
              unfold jX6_voiceToTake_3
              rw [j2, V3, V1, tb_e, E3, E1, F3, F1, z1, tb_or z3.1 z3.2, if_pos rfl]
            rw [j3]
            unfold rX10_nextVoice
            rw [K0, K1, K2, K3, if_neg (fun e => absurd (z0.symm.trans e) (by decide)), if_neg (fun e => absurd (z1.symm.trans e) (by decide)), if_neg z2.1, if_neg z3.1]
            have n1 : jX10_nextVoice_1 T = (0) := by
              unfold jX10_nextVoice_1
              rw [K0, if_pos z0]
            have n2 : jX10_nextVoice_2 T = (1) := by
              unfold jX10_nextVoice_2
              rw [K1, if_pos z1, n1, if_neg (by decide), K0, if_neg m01]
            have n3 : jX10_nextVoice_3 T = (1) := by
              unfold jX10_nextVoice_3
              rw [K2, if_neg z2.2, n2]
            have n4 : jX10_nextVoice_4 T = (1) := by
              unfold jX10_nextVoice_4
              rw [K3, if_neg z3.2, n3]
            rw [n4, if_neg (by decide)]
    · have q1 := O1.resolve_left z1.1
      have b1 := True.intro
      have j1 : jX6_voiceToTake_1 S g = 0 := by
        unfold jX6_voiceToTake_1
        rw [V1, V0, tb_e, E1, E0, F1, F0, z0, tb_or z1.1 z1.2, if_pos rfl]
      rcases cls3 (T 3 2) with z2 | z2 | z2
      · have b1 := True.intro
        have j2 : jX6_voiceToTake_2 S g = 2 := by
          unfold jX6_voiceToTake_2
          rw [j1, V2, V0, tb_e, E2, E0, F2, F0, z2, tb_zx (by first | exact z0.1 | (rw [z0]; decide)), if_neg ne10]
        rcases cls3 (T 3 3) with z3 | z3 | z3
        · have b1 := True.intro
          have j3 : jX6_voiceToTake_3 S g = 2 := by
            unfold jX6_voiceToTake_3
            rw [j2, V3, V2, tb_e, E3, E2, F3, F2, z2, tb_xz, if_pos rfl]
          rw [j3]
          unfold rX10_nextVoice
          rw [K0, K1, K2, K3, if_neg (fun e => absurd (z0.symm.trans e) (by decide)), if_neg z1.1, if_pos z2]
        · have b1 := True.intro
          have j3 : jX6_voiceToTake_3 S g = 2 := by
            unfold jX6_voiceToTake_3
            rw [j2, V3, V2, tb_e, E3, E2, F3, F2, z2, tb_xz, if_pos rfl]
          rw [j3]
          unfold rX10_nextVoice
          rw [K0, K1, K2, K3, if_neg (fun e => absurd (z0.symm.trans e) (by decide)), if_neg z1.1, if_pos z2]
        · have q3 := O3.resolve_left z3.1
          have b1 := True.intro
          have j3 : jX6_voiceToTake_3 S g = 2 := by
            unfold jX6_voiceToTake_3
            rw [j2, V3, V2, tb_e, E3, E2, F3, F2, z2, tb_xz, if_pos rfl]
          rw [j3]
          unfold rX10_nextVoice
          rw [K0, K1, K2, K3, if_neg (fun e => absurd (z0.symm.trans e) (by decide)), if_neg z1.1, if_pos z2]
      · by_cases m02 : T 4 0 ≤ T 4 2
        · have b1 := True.intro
          have j2 : jX6_voiceToTake_2 S g = 0 := by
            unfold jX6_voiceToTake_2
            rw [j1, V2, V0, tb_e, E2, E0, F2, F0, z2, z0, tb_rr, if_pos m02, if_pos rfl]
          rcases cls3 (T 3 3) with z3 | z3 | z3
          · have b1 := True.intro
            have j3 : jX6_voiceToTake_3 S g = 3 := by
              unfold jX6_voiceToTake_3
              rw [j2, V3, V0, tb_e, E3, E0, F3, F0, z3, tb_zx (by first | exact z0.1 | (rw [z0]; decide)), if_neg ne10]
            rw [j3]
            unfold rX10_nextVoice
            rw [K0, K1, K2, K3, if_neg (fun e => absurd (z0.symm.trans e) (by decide)), if_neg z1.1, if_neg (fun e => absurd (z2.symm.trans e) (by decide)), if_pos z3]
          · by_cases m03 : T 4 0 ≤ T 4 3
            · have b1 := True.intro
              have j3 : jX6_voiceToTake_3 S g = 0 := by
                unfold jX6_voiceToTake_3
                rw [j2, V3, V0, tb_e, E3, E0, F3, F0, z3, z0, tb_rr, if_pos m03, if_pos rfl]
              rw [j3]
              unfold rX10_nextVoice
              rw [K0, K1, K2, K3, if_neg (fun e => absurd (z0.symm.trans e) (by decide)), if_neg z1.1, if_neg (fun e => absurd (z2.symm.trans e) (by decide)), if_neg (fun e => absurd (z3.symm.trans e) (by decide))]
              have n1 : jX10_nextVoice_1 T = (0) := by
                unfold jX10_nextVoice_1
                rw [K0, if_pos z0]
              have n2 : jX10_nextVoice_2 T = (0) := by
                unfold jX10_nextVoice_2
                rw [K1, if_neg z1.2, n1]
              have n3 : jX10_nextVoice_3 T = (0) := by
                unfold jX10_nextVoice_3
                rw [K2, if_pos z2, n2, if_neg (by decide), K0, if_pos m02]
              have n4 : jX10_nextVoice_4 T = (0) := by
                unfold jX10_nextVoice_4
                rw [K3, if_pos z3, n3, if_neg (by decide), K0, if_pos m03]
              rw [n4, if_neg (by decide)]
            · have b1 := True.intro
              have j3 : jX6_voiceToTake_3 S g = 3 := by
                unfold jX6_voiceToTake_3
                rw [j2, V3, V0, tb_e, E3, E0, F3, F0, z3, z0, tb_rr, if_neg m03, if_neg ne10]
              rw [j3]
              unfold rX10_nextVoice
              rw [K0, K1, K2, K3, if_neg (fun e => absurd (z0.symm.trans e) (by decide)), if_neg z1.1, if_neg (fun e => absurd (z2.symm.trans e) (by decide)), if_neg (fun e => absurd (z3.symm.trans e) (by decide))]
              have n1 : jX10_nextVoice_1 T = (0) := by
                unfold jX10_nextVoice_1
                rw [K0, if_pos z0]
              have n2 : jX10_nextVoice_2 T = (0) := by
                unfold jX10_nextVoice_2
                rw [K1, if_neg z1.2, n1]
              have n3 : jX10_nextVoice_3 T = (0) := by
                unfold jX10_nextVoice_3
                rw [K2, if_pos z2, n2, if_neg (by decide), K0, if_pos m02]
              have n4 : jX10_nextVoice_4 T = (3) := by
                unfold jX10_nextVoice_4
                rw [K3, if_pos z3, n3, if_neg (by decide), K0, if_neg m03]
              rw [n4, if_neg (by decide)]
          · have q3 := O3.resolve_left z3.1
            have b1 := True.intro
            have j3 : jX6_voiceToTake_3 S g = 0 := by
              unfold jX6_voiceToTake_3
              rw [j2, V3, V0, tb_e, E3, E0, F3, F0, z0, tb_or z3.1 z3.2, if_pos rfl]
            rw [j3]
            unfold rX10_nextVoice
            rw [K0, K1, K2, K3, if_neg (fun e => absurd (z0.symm.trans e) (by decide)), if_neg z1.1, if_neg (fun e => absurd (z2.symm.trans e) (by decide)), if_neg z3.1]
            have n1 : jX10_nextVoice_1 T = (0) := by
              unfold jX10_nextVoice_1
              rw [K0, if_pos z0]
            have n2 : jX10_nextVoice_2 T = (0) := by
              unfold jX10_nextVoice_2
              rw [K1, if_neg z1.2, n1]
            have n3 : jX10_nextVoice_3 T = (0) := by
              unfold jX10_nextVoice_3
              rw [K2, if_pos z2, n2, if_neg (by decide), K0, if_pos m02]
            have n4 : jX10_nextVoice_4 T = (0) := by
              unfold jX10_nextVoice_4
              rw [K3, if_neg z3.2, n3]
            rw [n4, if_neg (by decide)]
        · have b1 := True.intro
          have j2 : jX6_voiceToTake_2 S g = 2 := by
            unfold jX6_voiceToTake_2
            rw [j1, V2, V0, tb_e, E2, E0, F2, F0, z2, z0, tb_rr, if_neg m02, if_neg ne10]
          rcases cls3 (T 3 3) with z3 | z3 | z3
          · have b1 := True.intro
            have j3 : jX6_voiceToTake_3 S g = 3 := by
              unfold jX6_voiceToTake_3
              rw [j2, V3, V2, tb_e, E3, E2, F3, F2, z3, tb_zx (by first | exact z2.1 | (rw [z2]; decide)), if_neg ne10]
            rw [j3]
            unfold rX10_nextVoice
            rw [K0, K1, K2, K3, if_neg (fun e => absurd (z0.symm.trans e) (by decide)), if_neg z1.1, if_neg (fun e => absurd (z2.symm.trans e) (by decide)), if_pos z3]
          · by_cases m23 : T 4 2 ≤ T 4 3
            · have b1 := True.intro
              have j3 : jX6_voiceToTake_3 S g = 2 := by
                unfold jX6_voiceToTake_3
                rw [j2, V3, V2, tb_e, E3, E2, F3, F2, z3, z2, tb_rr, if_pos m23, if_pos rfl]
              rw [j3]
              unfold rX10_nextVoice
              rw [K0, K1, K2, K3, if_neg (fun e => absurd (z0.symm.trans e) (by decide)), if_neg z1.1, if_neg (fun e => absurd (z2.symm.trans e) (by decide)), if_neg (fun e => absurd (z3.symm.trans e) (by decide))]
              have n1 : jX10_nextVoice_1 T = (0) := by
                unfold jX10_nextVoice_1
                rw [K0, if_pos z0]
              have n2 : jX10_nextVoice_2 T = (0) := by
                unfold jX10_nextVoice_2
                rw [K1, if_neg z1.2, n1]
              have n3 : jX10_nextVoice_3 T = (2) := by
                unfold jX10_nextVoice_3
                rw [K2, if_pos z2, n2, if_neg (by decide), K0, if_neg m02]
              have n4 : jX10_nextVoice_4 T = (2) := by
                unfold jX10_nextVoice_4
                rw [K3, if_pos z3, n3, if_neg (by decide), K2, if_pos m23]
              rw [n4, if_neg (by decide)]
            · have b1 := True.intro
              have j3 : jX6_voiceToTake_3 S g = 3 := by
                unfold jX6_voiceToTake_3
                rw [j2, V3, V2, tb_e, E3, E2, F3, F2, z3, z2, tb_rr, if_neg m23, if_neg ne10]
              rw [j3]
              unfold rX10_nextVoice
              rw [K0, K1, K2, K3, if_neg (fun e => absurd (z0.symm.trans e) (by decide)), if_neg z1.1, if_neg (fun e => absurd (z2.symm.trans e) (by decide)), if_neg (fun e => absurd (z3.symm.trans e) (by decide))]
              have n1 : jX10_nextVoice_1 T = (0) := by
                unfold jX10_nextVoice_1
                rw [K0, if_pos z0]
              have n2 : jX10_nextVoice_2 T = (0) := by
                unfold jX10_nextVoice_2
                rw [K1, if_neg z1.2, n1]
              have n3 : jX10_nextVoice_3 T = (2) := by
                unfold jX10_nextVoice_3
                rw [K2, if_pos z2, n2, if_neg (by decide), K0, if_neg m02]
              have n4 : jX10_nextVoice_4 T = (3) := by
                unfold jX10_nextVoice_4
                rw [K3, if_pos z3, n3, if_neg (by decide), K2, if_neg m23]
              rw [n4, if_neg (by decide)]
          · have q3 := O3.resolve_left z3.1
            have b1 := True.intro
            have j3 : jX6_voiceToTake_3 S g = 2 := by
              unfold jX6_voiceToTake_3
              rw [j2, V3, V2, tb_e, E3, E2, F3, F2, z2, tb_or z3.1 z3.2, if_pos rfl]
            rw [j3]
            unfold rX10_nextVoice
            rw [K0, K1, K2, K3, if_neg (fun e => absurd (z0.symm.trans e) (by decide)), if_neg z1.1, if_neg (fun e => absurd (z2.symm.trans e) (by decide)), if_neg z3.1]
            have n1 : jX10_nextVoice_1 T = (0) := by
              unfold jX10_nextVoice_1
              rw [K0, if_pos z0]
            have n2 : jX10_nextVoice_2 T = (0) := by
              unfold jX10_nextVoice_2
              rw [K1, if_neg z1.2, n1]
            have n3 : jX10_nextVoice_3 T = (2) := by
              unfold jX10_nextVoice_3
              rw [K2, if_pos z2, n2, if_neg (by decide), K0, if_neg m02]
            have n4 : jX10_nextVoice_4 T = (2) := by
              unfold jX10_nextVoice_4
              rw [K3, if_neg z3.2, n3]
            rw [n4, if_neg (by decide)]
      · have q2 := O2.resolve_left z2.1
        have b1 := True.intro
        have j2 : jX6_voiceToTake_2 S g = 0 := by
          unfold jX6_voiceToTake_2
          rw [j1, V2, V0, tb_e, E2, E0, F2, F0, z0, tb_or z2.1 z2.2, if_pos rfl]
        rcases cls3 (T 3 3) with z3 | z3 | z3
        · have b1 := True.intro
          have j3 : jX6_voiceToTake_3 S g = 3 := by
            unfold jX6_voiceToTake_3
            rw [j2, V3, V0, tb_e, E3, E0, F3, F0, z3, tb_zx (by first | exact z0.1 | (rw [z0]; decide)), if_neg ne10]
          rw [j3]
          unfold rX10_nextVoice
          rw [K0, K1, K2, K3, if_neg (fun e => absurd (z0.symm.trans e) (by decide)), if_neg z1.1, if_neg z2.1, if_pos z3]
        · by_cases m03 : T 4 0 ≤ T 4 3
          · have b1 := True.intro
            have j3 : jX6_voiceToTake_3 S g = 0 := by
              unfold jX6_voiceToTake_3
              rw [j2, V3, V0, tb_e, E3, E0, F3, F0, z3, z0, tb_rr, if_pos m03, if_pos rfl]
            rw [j3]
            unfold rX10_nextVoice
            rw [K0, K1, K2, K3, if_neg (fun e => absurd (z0.symm.trans e) (by decide)), if_neg z1.1, if_neg z2.1, if_neg (fun e => absurd (z3.symm.trans e) (by decide))]
            have n1 : jX10_nextVoice_1 T = (0) := by
              unfold jX10_nextVoice_1
              rw [K0, if_pos z0]
            have n2 : jX10_nextVoice_2 T = (0) := by
              unfold jX10_nextVoice_2
              rw [K1, if_neg z1.2, n1]
            have n3 : jX10_nextVoice_3 T = (0) := by
              unfold jX10_nextVoice_3
              rw [K2, if_neg z2.2, n2]
            have n4 : jX10_nextVoice_4 T = (0) := by
              unfold jX10_nextVoice_4
              rw [K3, if_pos z3, n3, if_neg (by decide), K0, if_pos m03]
            rw [n4, if_neg (by decide)]
          · have b1 := True.intro
            have j3 : jX6_voiceToTake_3 S g = 3 := by
              unfold jX6_voiceToTake_3
              rw [j2, V3, V0, tb_e, E3, E0, F3, F0, z3, z0, tb_rr, if_neg m03, if_neg ne10]
            rw [j3]
            unfold rX10_nextVoice
            rw [K0, K1, K2, K3, if_neg (fun e => absurd (z0.symm.trans e) (by decide)), if_neg z1.1, if_neg z2.1, if_neg (fun e => absurd (z3.symm.trans e) (by decide))]
            have n1 : jX10_nextVoice_1 T = (0) := by
              unfold jX10_nextVoice_1
              rw [K0, if_pos z0]
            have n2 : jX10_nextVoice_2 T = (0) := by
              unfold jX10_nextVoice_2
              rw [K1, if_neg z1.2, n1]
            have n3 : jX10_nextVoice_3 T = (0) := by
              unfold jX10_nextVoice_3
              rw [K2, if_neg z2.2, n2]
            have n4 : jX10_nextVoice_4 T = (3) := by
              unfold jX10_nextVoice_4
              rw [K3, if_pos z3, n3, if_neg (by decide), K0, if_neg m03]
            rw [n4, if_neg (by decide)]
        · have q3 := O3.resolve_left z3.1
          have b1 := True.intro
          have j3 : jX6_voiceToTake_3 S g = 0 := by
            unfold jX6_voiceToTake_3
            rw [j2, V3, V0, tb_e, E3, E0, F3, F0, z0, tb_or z3.1 z3.2, if_pos rfl]
          rw [j3]
          unfold rX10_nextVoice
          rw [K0, K1, K2, K3, if_neg (fun e => absurd (z0.symm.trans e) (by decide)), if_neg z1.1, if_neg z2.1, if_neg z3.1]
          have n1 : jX10_nextVoice_1 T = (0) := by
            unfold jX10_nextVoice_1
            rw [K0, if_pos z0]
          have n2 : jX10_nextVoice_2 T = (0) := by
            unfold jX10_nextVoice_2
            rw [K1, if_neg z1.2, n1]
          have n3 : jX10_nextVoice_3 T = (0) := by
            unfold jX10_nextVoice_3
            rw [K2, if_neg z2.2, n2]
          have n4 : jX10_nextVoice_4 T = (0) := by
            unfold jX10_nextVoice_4
            rw [K3, if_neg z3.2, n3]
          rw [n4, if_neg (by decide)]
  · have q0 := O0.resolve_left z0.1
    have b0 := True.intro
    rcases cls3 (T 3 1) with z1 | z1 | z1
    · have b1 := True.intro
      have j1 : jX6_voiceToTake_1 S g = 1 := by
        unfold jX6_voiceToTake_1
        rw [V1, V0, tb_e, E1, E0, F1, F0, z1, tb_zx (by first | exact z0.1 | (rw [z0]; decide)), if_neg ne10]
      rcases cls3 (T 3 2) with z2 | z2 | z2
      · have b1 := True.intro
        have j2 : jX6_voiceToTake_2 S g = 1 := by
          unfold jX6_voiceToTake_2
          rw [j1, V2, V1, tb_e, E2, E1, F2, F1, z1, tb_xz, if_pos rfl]
        rcases cls3 (T 3 3) with z3 | z3 | z3
        · have b1 := True.intro
          have j3 : jX6_voiceToTake_3 S g = 1 := by
            unfold jX6_voiceToTake_3
            rw [j2, V3, V1, tb_e, E3, E1, F3, F1, z1, tb_xz, if_pos rfl]
          rw [j3]
          unfold rX10_nextVoice
          rw [K0, K1, K2, K3, if_neg z0.1, if_pos z1]
        · have b1 := True.intro
          have j3 : jX6_voiceToTake_3 S g = 1 := by
            unfold jX6_voiceToTake_3
            rw [j2, V3, V1, tb_e, E3, E1, F3, F1, z1, tb_xz, if_pos rfl]
          rw [j3]
          unfold rX10_nextVoice
          rw [K0, K1, K2, K3, if_neg z0.1, if_pos z1]
        · have q3 := O3.resolve_left z3.1
          have b1 := True.intro
          have j3 : jX6_voiceToTake_3 S g = 1 := by
            unfold jX6_voiceToTake_3
            rw [j2, V3, V1, tb_e, E3, E1, F3, F1, z1, tb_xz, if_pos rfl]
          rw [j3]
          unfold rX10_nextVoice
          rw [K0, K1, K2, K3, if_neg z0.1, if_pos z1]
      · have b1 := True.intro
        have j2 : jX6_voiceToTake_2 S g = 1 := by
          unfold jX6_voiceToTake_2
          rw [j1, V2, V1, tb_e, E2, E1, F2, F1, z1, tb_xz, if_pos rfl]
        rcases cls3 (T 3 3) with z3 | z3 | z3
        · have b1 := True.intro
          have j3 : jX6_voiceToTake_3 S g = 1 := by
            unfold jX6_voiceToTake_3
            rw [j2, V3, V1, tb_e, E3, E1, F3, F1, z1, tb_xz, if_pos rfl]
          rw [j3]
          unfold rX10_nextVoice
          rw [K0, K1, K2, K3, if_neg z0.1, if_pos z1]
        · have b1 := True.intro
          have j3 : jX6_voiceToTake_3 S g = 1 := by
            unfold jX6_voiceToTake_3
            rw [j2, V3, V1, tb_e, E3, E1, F3, F1, z1, tb_xz, if_pos rfl]
          rw [j3]
          unfold rX10_nextVoice
          rw [K0, K1, K2, K3, if_neg z0.1, if_pos z1]
        · have q3 := O3.resolve_left z3.1
          have b1 := True.intro
          have j3 : jX6_voiceToTake_3 S g = 1 := by
            unfold jX6_voiceToTake_3
            rw [j2, V3, V1, tb_e, E3, E1, F3, F1, z1, tb_xz, if_pos rfl]
          rw [j3]
          unfold rX10_nextVoice
          rw [K0, K1, K2, K3, if_neg z0.1, if_pos z1]
      · have q2 := O2.resolve_left z2.1
        have b1 := True.intro
        have j2 : jX6_voiceToTake_2 S g = 1 := by
          unfold jX6_voiceToTake_2
          rw [j1, V2, V1, tb_e, E2, E1, F2, F1, z1, tb_xz, if_pos rfl]
        rcases cls3 (T 3 3) with z3 | z3 | z3
        · have b1 := True.intro
          have j3 : jX6_voiceToTake_3 S g = 1 := by
            unfold jX6_voiceToTake_3
            rw [j2, V3, V1, tb_e, E3, E1, F3, F1, z1, tb_xz, if_pos rfl]
          rw [j3]
          unfold rX10_nextVoice
          rw [K0, K1, K2, K3, if_neg z0.1, if_pos z1]
        · have b1 := True.intro
          have j3 : jX6_voiceToTake_3 S g = 1 := by
            unfold jX6_voiceToTake_3
            rw [j2, V3, V1, tb_e, E3, E1, F3, F1, z1, tb_xz, if_pos rfl]
          rw [j3]
          unfold rX10_nextVoice
          rw [K0, K1, K2, K3, if_neg z0.1, if_pos z1]
        · have q3 := O3.resolve_left z3.1
          have b1 := True.intro
          have j3 : jX6_voiceToTake_3 S g = 1 := by
            unfold jX6_voiceToTake_3
            rw [j2, V3, V1, tb_e, E3, E1, F3, F1, z1, tb_xz, if_pos rfl]
          rw [j3]
          unfold rX10_nextVoice
          rw [K0, K1, K2, K3, if_neg z0.1, if_pos z1]
    · have b1 := True.intro
      have j1 : jX6_voiceToTake_1 S g = 1 := by
        unfold jX6_voiceToTake_1
        rw [V1, V0, tb_e, E1, E0, F1, F0, z1, tb_ro z0.1 z0.2, if_neg ne10]
      rcases cls3 (T 3 2) with z2 | z2 | z2
      · have b1 := True.intro
        have j2 : jX6_voiceToTake_2 S g = 2 := by
          unfold jX6_voiceToTake_2
          rw [j1, V2, V1, tb_e, E2, E1, F2, F1, z2, tb_zx (by first | exact z1.1 | (rw [z1]; decide)), if_neg ne10]
        rcases cls3 (T 3 3) with z3 | z3 | z3
        · have b1 := True.intro
          have j3 : jX6_voiceToTake_3 S g = 2 := by
            unfold jX6_voiceToTake_3
            rw [j2, V3, V2, tb_e, E3, E2, F3, F2, z2, tb_xz, if_pos rfl]
          rw [j3]
          unfold rX10_nextVoice
          rw [K0, K1, K2, K3, if_neg z0.1, if_neg (fun e => absurd (z1.symm.trans e) (by decide)), if_pos z2]
        · have b1 := True.intro
          have j3 : jX6_voiceToTake_3 S g = 2 := by
            unfold jX6_voiceToTake_3
            rw [j2, V3, V2, tb_e, E3, E2, F3, F2, z2, tb_xz, if_pos rfl]
          rw [j3]
          unfold rX10_nextVoice
          rw [K0, K1, K2, K3, if_neg z0.1, if_neg (fun e => absurd (z1.symm.trans e) (by decide)), if_pos z2]
        · have q3 := O3.resolve_left z3.1
          have b1 := True.intro
          have j3 : jX6_voiceToTake_3 S g = 2 := by
            unfold jX6_voiceToTake_3
            rw [j2, V3, V2, tb_e, E3, E2, F3, F2, z2, tb_xz, if_pos rfl]
          rw [j3]
          unfold rX10_nextVoice
          rw [K0, K1, K2, K3, if_neg z0.1, if_neg (fun e => absurd (z1.symm.trans e) (by decide)), if_pos z2]
      · by_cases m12 : T 4 1 ≤ T 4 2
        · have b1 := True.intro
          have j2 : jX6_voiceToTake_2 S g = 1 := by
            unfold jX6_voiceToTake_2
            rw [j1, V2, V1, tb_e, E2, E1, F2, F1, z2, z1, tb_rr, if_pos m12, if_pos rfl]
          rcases cls3 (T 3 3) with z3 | z3 | z3
          · have b1 := True.intro
            have j3 : jX6_voiceToTake_3 S g = 3 := by
              unfold jX6_voiceToTake_3
              rw [j2, V3, V1, tb_e, E3, E1, F3, F1, z3, tb_zx (by first | exact z1.1 | (rw [z1]; decide)), if_neg ne10]
            rw [j3]
            unfold rX10_nextVoice
            rw [K0, K1, K2, K3, if_neg z0.1, if_neg (fun e => absurd (z1.symm.trans e) (by decide)), if_neg (fun e => absurd (z2.symm.trans e) (by decide)), if_pos z3]
          · by_cases m13 : T 4 1 ≤ T 4 3
            · have b1 := True.intro
              have j3 : jX6_voiceToTake_3 S g = 1 := by
                unfold jX6_voiceToTake_3
                rw [j2, V3, V1, tb_e, E3, E1, F3, F1, z3, z1, tb_rr, if_pos m13, if_pos rfl]
              rw [j3]
              unfold rX10_nextVoice
              rw [K0, K1, K2, K3, if_neg z0.1, if_neg (fun e => absurd (z1.symm.trans e) (by decide)), if_neg (fun e => absurd (z2.symm.trans e) (by decide)), if_neg (fun e => absurd (z3.symm.trans e) (by decide))]
              have n1 : jX10_nextVoice_1 T = (-1) := by
                unfold jX10_nextVoice_1
                rw [K0, if_neg z0.2]
              have n2 : jX10_nextVoice_2 T = (1) := by
                unfold jX10_nextVoice_2
                rw [K1, if_pos z1, n1, if_pos rfl]
              have n3 : jX10_nextVoice_3 T = (1) := by
                unfold jX10_nextVoice_3
                rw [K2, if_pos z2, n2, if_neg (by decide), K1, if_pos m12]
              have n4 : jX10_nextVoice_4 T = (1) := by
                unfold jX10_nextVoice_4
                rw [K3, if_pos z3, n3, if_neg (by decide), K1, if_pos m13]
              rw [n4, if_neg (by decide)]
            · have b1 := True.intro
              have j3 : jX6_voiceToTake_3 S g = 3 := by
                unfold jX6_voiceToTake_3
                rw [j2, V3, V1, tb_e, E3, E1, F3, F1, z3, z1, tb_rr, if_neg m13, if_neg ne10]
              rw [j3]
              unfold rX10_nextVoice
              rw [K0, K1, K2, K3, if_neg z0.1, if_neg (fun e => absurd (z1.symm.trans e) (by decide)), if_neg (fun e => absurd (z2.symm.trans e) (by decide)), if_neg (fun e => absurd (z3.symm.trans e) (by decide))]
              have n1 : jX10_nextVoice_1 T = (-1) := by
                unfold jX10_nextVoice_1
                rw [K0, if_neg z0.2]
              have n2 : jX10_nextVoice_2 T = (1) := by
                unfold jX10_nextVoice_2
                rw [K1, if_pos z1, n1, if_pos rfl]
              have n3 : jX10_nextVoice_3 T = (1) := by
                unfold jX10_nextVoice_3
                rw [K2, if_pos z2, n2, if_neg (by decide), K1, if_pos m12]
              have n4 : jX10_nextVoice_4 T = (3) := by
                unfold jX10_nextVoice_4
                rw [K3, if_pos z3, n3, if_neg (by decide), K1, if_neg m13]
              rw [n4, if_neg (by decide)]
          · have q3 := O3.resolve_left z3.1
            have b1 := True.intro
            have j3 : jX6_voiceToTake_3 S g = 1 := by
              unfold jX6_voiceToTake_3
              rw [j2, V3, V1, tb_e, E3, E1, F3, F1, z1, tb_or z3.1 z3.2, if_pos rfl]
            rw [j3]
            unfold rX10_nextVoice
            rw [K0, K1, K2, K3, if_neg z0.1, if_neg (fun e => absurd (z1.symm.trans e) (by decide)), if_neg (fun e => absurd (z2.symm.trans e) (by decide)), if_neg z3.1]
            have n1 : jX10_nextVoice_1 T = (-1) := by
              unfold jX10_nextVoice_1
              rw [K0, if_neg z0.2]
            have n2 : jX10_nextVoice_2 T = (1) := by
              unfold jX10_nextVoice_2
              rw [K1, if_pos z1, n1, if_pos rfl]
            have n3 : jX10_nextVoice_3 T = (1) := by
              unfold jX10_nextVoice_3
              rw [K2, if_pos z2, n2, if_neg (by decide), K1, if_pos m12]
            have n4 : jX10_nextVoice_4 T = (1) := by
              unfold jX10_nextVoice_4
              rw [K3, if_neg z3.2, n3]
            rw [n4, if_neg (by decide)]
        · have b1 := True.intro
          have j2 : jX6_voiceToTake_2 S g = 2 := by
            unfold jX6_voiceToTake_2
            rw [j1, V2, V1, tb_e, E2, E1, F2, F1, z2, z1, tb_rr, if_neg m12, if_neg ne10]
          rcases cls3 (T 3 3) with z3 | z3 | z3
          · have b1 := True.intro
            have j3 : jX6_voiceToTake_3 S g = 3 := by
              unfold jX6_voiceToTake_3
              rw [j2, V3, V2, tb_e, E3, E2, F3, F2, z3, tb_zx (by first | exact z2.1 | (rw [z2]; decide)), if_neg ne10]
            rw [j3]
            unfold rX10_nextVoice
            rw [K0, K1, K2, K3, if_neg z0.1, if_neg (fun e => absurd (z1.symm.trans e) (by decide)), if_neg (fun e => absurd (z2.symm.trans e) (by decide)), if_pos z3]
          · by_cases m23 : T 4 2 ≤ T 4 3
            · have b1 := True.intro
              have j3 : jX6_voiceToTake_3 S g = 2 := by
                unfold jX6_voiceToTake_3
                rw [j2, V3, V2, tb_e, E3, E2, F3, F2, z3, z2, tb_rr, if_pos m23, if_pos rfl]
              rw [j3]
              unfold rX10_nextVoice
              rw [K0, K1, K2, K3, if_neg z0.1, if_neg (fun e => absurd (z1.symm.trans e) (by decide)), if_neg (fun e => absurd (z2.symm.trans e) (by decide)), if_neg (fun e => absurd (z3.symm.trans e) (by decide))]
              have n1 : jX10_nextVoice_1 T = (-1) := by
                unfold jX10_nextVoice_1
                rw [K0, if_neg z0.2]
              have n2 : jX10_nextVoice_2 T = (1) := by
                unfold jX10_nextVoice_2
                rw [K1, if_pos z1, n1, if_pos rfl]
              have n3 : jX10_nextVoice_3 T = (2) := by
                unfold jX10_nextVoice_3
                rw [K2, if_pos z2, n2, if_neg (by decide), K1, if_neg m12]
              have n4 : jX10_nextVoice_4 T = (2) := by
                unfold jX10_nextVoice_4
                rw [K3, if_pos z3, n3, if_neg (by decide), K2, if_pos m23]
              rw [n4, if_neg (by decide)]
            · have b1 := True.intro
              have j3 : jX6_voiceToTake_3 S g = 3 := by
                unfold jX6_voiceToTake_3
                rw [j2, V3, V2, tb_e, E3, E2, F3, F2, z3, z2, tb_rr, if_neg m23, if_neg ne10]
              rw [j3]
              unfold rX10_nextVoice
              rw [K0, K1, K2, K3, if_neg z0.1, if_neg (fun e => absurd (z1.symm.trans e) (by decide)), if_neg (fun e => absurd (z2.symm.trans e) (by decide)), if_neg (fun e => absurd (z3.symm.trans e) (by decide))]
              have n1 : jX10_nextVoice_1 T = (-1) := by
                unfold jX10_nextVoice_1
                rw [K0, if_neg z0.2]
              have n2 : jX10_nextVoice_2 T = (1) := by
                unfold jX10_nextVoice_2
                rw [K1, if_pos z1, n1, if_pos rfl]
              have n3 : jX10_nextVoice_3 T = (2) := by
                unfold jX10_nextVoice_3
                rw [K2, if_pos z2, n2, if_neg (by decide), K1, if_neg m12]
              have n4 : jX10_nextVoice_4 T = (3) := by
                unfold jX10_nextVoice_4
                rw [K3, if_pos z3, n3, if_neg (by decide), K2, if_neg m23]
              rw [n4, if_neg (by decide)]
          · have q3 := O3.resolve_left z3.1
            have b1 := True.intro
            have j3 : jX6_voiceToTake_3 S g = 2 := by
              unfold jX6_voiceToTake_3
              rw [j2, V3, V2, tb_e, E3, E2, F3, F2, z2, tb_or z3.1 z3.2, if_pos rfl]
            rw [j3]
            unfold rX10_nextVoice
            rw [K0, K1, K2, K3, if_neg z0.1, if_neg (fun e => absurd (z1.symm.trans e) (by decide)), if_neg (fun e => absurd (z2.symm.trans e) (by decide)), if_neg z3.1]
            have n1 : jX10_nextVoice_1 T = (-1) := by
              unfold jX10_nextVoice_1
              rw [K0, if_neg z0.2]
            have n2 : jX10_nextVoice_2 T = (1) := by
              unfold jX10_nextVoice_2
              rw [K1, if_pos z1, n1, if_pos rfl]
            have n3 : jX10_nextVoice_3 T = (2) := by
              unfold jX10_nextVoice_3
              rw [K2, if_pos z2, n2, if_neg (by decide), K1, if_neg m12]
            have n4 : jX10_nextVoice_4 T = (2) := by
              unfold jX10_nextVoice_4
              rw [K3, if_neg z3.2, n3]
            rw [n4, if_neg (by decide)]
      · have q2 := O2.resolve_left z2.1
        have b1 := True.intro
        have j2 : jX6_voiceToTake_2 S g = 1 := by
          unfold jX6_voiceToTake_2
          rw [j1, V2, V1, tb_e, E2, E1, F2, F1, z1, tb_or z2.1 z2.2, if_pos rfl]
        rcases cls3 (T 3 3) with z3 | z3 | z3
        · have b1 := True.intro
          have j3 : jX6_voiceToTake_3 S g = 3 := by
            unfold jX6_voiceToTake_3
            rw [j2, V3, V1, tb_e, E3, E1, F3, F1, z3, tb_zx (by first | exact z1.1 | (rw [z1]; decide)), if_neg ne10]
          rw [j3]
          unfold rX10_nextVoice
          rw [K0, K1, K2, K3, if_neg z0.1, if_neg (fun e => absurd (z1.symm.trans e) (by decide)), if_neg z2.1, if_pos z3]
        · by_cases m13 : T 4 1 ≤ T 4 3
          · have b1 := True.intro
            have j3 : jX6_voiceToTake_3 S g = 1 := by
              unfold jX6_voiceToTake_3
              rw [j2, V3, V1, tb_e, E3, E1, F3, F1, z3, z1, tb_rr, if_pos m13, if_pos rfl]
            rw [j3]
            unfold rX10_nextVoice
            rw [K0, K1, K2, K3, if_neg z0.1, if_neg (fun e => absurd (z1.symm.trans e) (by decide)), if_neg z2.1, if_neg (fun e => absurd (z3.symm.trans e) (by decide))]
            have n1 : jX10_nextVoice_1 T = (-1) := by
              unfold jX10_nextVoice_1
              rw [K0, if_neg z0.2]
            have n2 : jX10_nextVoice_2 T = (1) := by
              unfold jX10_nextVoice_2
              rw [K1, if_pos z1, n1, if_pos rfl]
            have n3 : jX10_nextVoice_3 T = (1) := by
              unfold jX10_nextVoice_3
              rw [K2, if_neg z2.2, n2]
            have n4 : jX10_nextVoice_4 T = (1) := by
              unfold jX10_nextVoice_4
              rw [K3, if_pos z3, n3, if_neg (by decide), K1, if_pos m13]
            rw [n4, if_neg (by decide)]
          · have b1 := True.intro
            have j3 : jX6_voiceToTake_3 S g = 3 := by
              unfold jX6_voiceToTake_3
              rw [j2, V3, V1, tb_e, E3, E1, F3, F1, z3, z1, tb_rr, if_neg m13, if_neg ne10]
            rw [j3]
            unfold rX10_nextVoice
            rw [K0, K1, K2, K3, if_neg z0.1, if_neg (fun e => absurd (z1.symm.trans e) (by decide)), if_neg z2.1, if_neg (fun e => absurd (z3.symm.trans e) (by decide))]
            have n1 : jX10_nextVoice_1 T = (-1) := by
              unfold jX10_nextVoice_1
              rw [K0, if_neg z0.2]
            have n2 : jX10_nextVoice_2 T = (1) := by
              unfold jX10_nextVoice_2
              rw [K1, if_pos z1, n1, if_pos rfl]
            have n3 : jX10_nextVoice_3 T = (1) := by
              unfold jX10_nextVoice_3
              rw [K2, if_neg z2.2, n2]
            have n4 : jX10_nextVoice_4 T = (3) := by
              unfold jX10_nextVoice_4
              rw [K3, if_pos z3, n3, if_neg (by decide), K1, if_neg m13]
            rw [n4, if_neg (by decide)]
        · have q3 := O3.resolve_left z3.1
          have b1 := True.intro
          have j3 : jX6_voiceToTake_3 S g = 1 := by
            unfold jX6_voiceToTake_3
            rw [j2, V3, V1, tb_e, E3, E1, F3, F1, z1, tb_or z3.1 z3.2, if_pos rfl]
          rw [j3]
          unfold rX10_nextVoice
          rw [K0, K1, K2, K3, if_neg z0.1, if_neg (fun e => absurd (z1.symm.trans e) (by decide)), if_neg z2.1, if_neg z3.1]
          have n1 : jX10_nextVoice_1 T = (-1) := by
            unfold jX10_nextVoice_1
            rw [K0, if_neg z0.2]
          have n2 : jX10_nextVoice_2 T = (1) := by
            unfold jX10_nextVoice_2
            rw [K1, if_pos z1, n1, if_pos rfl]
          have n3 : jX10_nextVoice_3 T = (1) := by
            unfold jX10_nextVoice_3
            rw [K2, if_neg z2.2, n2]
          have n4 : jX10_nextVoice_4 T = (1) := by
            unfold jX10_nextVoice_4
            rw [K3, if_neg z3.2, n3]
          rw [n4, if_neg (by decide)]
    · have q1 := O1.resolve_left z1.1
      by_cases m01 : T 13 0 ≤ T 13 1
      · have b1 := True.intro
        have j1 : jX6_voiceToTake_1 S g = 0 := by
          unfold jX6_voiceToTake_1
          rw [V1, V0, tb_e, E1, E0, F1, F0, q1, q0, tb_oo z1.1 z1.2 z0.1 z0.2, if_pos (L01.mpr m01), if_pos rfl]
        rcases cls3 (T 3 2) with z2 | z2 | z2
        · have b1 := True.intro
          have j2 : jX6_voiceToTake_2 S g = 2 := by
            unfold jX6_voiceToTake_2
            rw [j1, V2, V0, tb_e, E2, E0, F2, F0, z2, tb_zx (by first | exact z0.1 | (rw [z0]; decide)), if_neg ne10]
          rcases cls3 (T 3 3) with z3 | z3 | z3
          · have b1 := True.intro
            have j3 : jX6_voiceToTake_3 S g = 2 := by
              unfold jX6_voiceToTake_3
              rw [j2, V3, V2, tb_e, E3, E2, F3, F2, z2, tb_xz, if_pos rfl]
            rw [j3]
            unfold rX10_nextVoice
            rw [K0, K1, K2, K3, if_neg z0.1, if_neg z1.1, if_pos z2]
          · have b1 := True.intro
            have j3 : jX6_voiceToTake_3 S g = 2 := by
              unfold jX6_voiceToTake_3
              rw [j2, V3, V2, tb_e, E3, E2, F3, F2, z2, tb_xz, if_pos rfl]
            rw [j3]
            unfold rX10_nextVoice
            rw [K0, K1, K2, K3, if_neg z0.1, if_neg z1.1, if_pos z2]
          · have q3 := O3.resolve_left z3.1
            have b1 := True.intro
            have j3 : jX6_voiceToTake_3 S g = 2 := by
              unfold jX6_voiceToTake_3
              rw [j2, V3, V2, tb_e, E3, E2, F3, F2, z2, tb_xz, if_pos rfl]
            rw [j3]
            unfold rX10_nextVoice
            rw [K0, K1, K2, K3, if_neg z0.1, if_neg z1.1, if_pos z2]
        · have b1 := True.intro
          have j2 : jX6_voiceToTake_2 S g = 2 := by
            unfold jX6_voiceToTake_2
            rw [j1, V2, V0, tb_e, E2, E0, F2, F0, z2, tb_ro z0.1 z0.2, if_neg ne10]
          rcases cls3 (T 3 3) with z3 | z3 | z3
          · have b1 := True.intro
            have j3 : jX6_voiceToTake_3 S g = 3 := by
              unfold jX6_voiceToTake_3
              rw [j2, V3, V2, tb_e, E3, E2, F3, F2, z3, tb_zx (by first | exact z2.1 | (rw [z2]; decide)), if_neg ne10]
            rw [j3]
            unfold rX10_nextVoice
            rw [K0, K1, K2, K3, if_neg z0.1, if_neg z1.1, if_neg (fun e => absurd (z2.symm.trans e) (by decide)), if_pos z3]
          · by_cases m23 : T 4 2 ≤ T 4 3
            · have b1 := True.intro
              have j3 : jX6_voiceToTake_3 S g = 2 := by
                unfold jX6_voiceToTake_3
                rw [j2, V3, V2, tb_e, E3, E2, F3, F2, z3, z2, tb_rr, if_pos m23, if_pos rfl]
              rw [j3]
              unfold rX10_nextVoice
              rw [K0, K1, K2, K3, if_neg z0.1, if_neg z1.1, if_neg (fun e => absurd (z2.symm.trans e) (by decide)), if_neg (fun e => absurd (z3.symm.trans e) (by decide))]
              have n1 : jX10_nextVoice_1 T = (-1) := by
                unfold jX10_nextVoice_1
                rw [K0, if_neg z0.2]
              have n2 : jX10_nextVoice_2 T = (-1) := by
                unfold jX10_nextVoice_2
                rw [K1, if_neg z1.2, n1]
              have n3 : jX10_nextVoice_3 T = (2) := by
                unfold jX10_nextVoice_3
                rw [K2, if_pos z2, n2, if_pos rfl]
              have n4 : jX10_nextVoice_4 T = (2) := by
                unfold jX10_nextVoice_4
                rw [K3, if_pos z3, n3, if_neg (by decide), K2, if_pos m23]
              rw [n4, if_neg (by decide)]
            · have b1 := True.intro
              have j3 : jX6_voiceToTake_3 S g = 3 := by
                unfold jX6_voiceToTake_3
                rw [j2, V3, V2, tb_e, E3, E2, F3, F2, z3, z2, tb_rr, if_neg m23, if_neg ne10]
              rw [j3]
              unfold rX10_nextVoice
              rw [K0, K1, K2, K3, if_neg z0.1, if_neg z1.1, if_neg (fun e => absurd (z2.symm.trans e) (by decide)), if_neg (fun e => absurd (z3.symm.trans e) (by decide))]
              have n1 : jX10_nextVoice_1 T = (-1) := by
                unfold jX10_nextVoice_1
                rw [K0, if_neg z0.2]
              have n2 : jX10_nextVoice_2 T = (-1) := by
                unfold jX10_nextVoice_2
                rw [K1, if_neg z1.2, n1]
              have n3 : jX10_nextVoice_3 T = (2) := by
                unfold jX10_nextVoice_3
                rw [K2, if_pos z2, n2, if_pos rfl]
              have n4 : jX10_nextVoice_4 T = (3) := by
                unfold jX10_nextVoice_4
                rw [K3, if_pos z3, n3, if_neg (by decide), K2, if_neg m23]
              rw [n4, if_neg (by decide)]
          · have q3 := O3.resolve_left z3.1
            have b1 := True.intro
            have j3 : jX6_voiceToTake_3 S g = 2 := by
              unfold jX6_voiceToTake_3
              rw [j2, V3, V2, tb_e, E3, E2, F3, F2, z2, tb_or z3.1 z3.2, if_pos rfl]
            rw [j3]
            unfold rX10_nextVoice
            rw [K0, K1, K2, K3, if_neg z0.1, if_neg z1.1, if_neg (fun e => absurd (z2.symm.trans e) (by decide)), if_neg z3.1]
            have n1 : jX10_nextVoice_1 T = (-1) := by
              unfold jX10_nextVoice_1
              rw [K0, if_neg z0.2]
            have n2 : jX10_nextVoice_2 T = (-1) := by
              unfold jX10_nextVoice_2
              rw [K1, if_neg z1.2, n1]
            have n3 : jX10_nextVoice_3 T = (2) := by
              unfold jX10_nextVoice_3
              rw [K2, if_pos z2, n2, if_pos rfl]
            have n4 : jX10_nextVoice_4 T = (2) := by
              unfold jX10_nextVoice_4
              rw [K3, if_neg z3.2, n3]
            rw [n4, if_neg (by decide)]
        · have q2 := O2.resolve_left z2.1
          by_cases m02 : T 13 0 ≤ T 13 2
          · have b1 := True.intro
            have j2 : jX6_voiceToTake_2 S g = 0 := by
              unfold jX6_voiceToTake_2
              rw [j1, V2, V0, tb_e, E2, E0, F2, F0, q2, q0, tb_oo z2.1 z2.2 z0.1 z0.2, if_pos (L02.mpr m02), if_pos rfl]
            rcases cls3 (T 3 3) with z3 | z3 | z3
            · have b1 := True.intro
              have j3 : jX6_voiceToTake_3 S g = 3 := by
                unfold jX6_voiceToTake_3
                rw [j2, V3, V0, tb_e, E3, E0, F3, F0, z3, tb_zx (by first | exact z0.1 | (rw [z0]; decide)), if_neg ne10]
              rw [j3]
              unfold rX10_nextVoice
              rw [K0, K1, K2, K3, if_neg z0.1, if_neg z1.1, if_neg z2.1, if_pos z3]
            · have b1 := True.intro
              have j3 : jX6_voiceToTake_3 S g = 3 := by
                unfold jX6_voiceToTake_3
                rw [j2, V3, V0, tb_e, E3, E0, F3, F0, z3, tb_ro z0.1 z0.2, if_neg ne10]
              rw [j3]
              unfold rX10_nextVoice
              rw [K0, K1, K2, K3, if_neg z0.1, if_neg z1.1, if_neg z2.1, if_neg (fun e => absurd (z3.symm.trans e) (by decide))]
              have n1 : jX10_nextVoice_1 T = (-1) := by
                unfold jX10_nextVoice_1
                rw [K0, if_neg z0.2]
              have n2 : jX10_nextVoice_2 T = (-1) := by
                unfold jX10_nextVoice_2
                rw [K1, if_neg z1.2, n1]
              have n3 : jX10_nextVoice_3 T = (-1) := by
                unfold jX10_nextVoice_3
                rw [K2, if_neg z2.2, n2]
              have n4 : jX10_nextVoice_4 T = (3) := by
                unfold jX10_nextVoice_4
                rw [K3, if_pos z3, n3, if_pos rfl]
              rw [n4, if_neg (by decide)]
            · have q3 := O3.resolve_left z3.1
              by_cases m03 : T 13 0 ≤ T 13 3
              · have b1 := True.intro
                have j3 : jX6_voiceToTake_3 S g = 0 := by
                  unfold jX6_voiceToTake_3
                  rw [j2, V3, V0, tb_e, E3, E0, F3, F0, q3, q0, tb_oo z3.1 z3.2 z0.1 z0.2, if_pos (L03.mpr m03), if_pos rfl]
                rw [j3]
                unfold rX10_nextVoice
                rw [K0, K1, K2, K3, if_neg z0.1, if_neg z1.1, if_neg z2.1, if_neg z3.1]
                have n1 : jX10_nextVoice_1 T = (-1) := by
                  unfold jX10_nextVoice_1
                  rw [K0, if_neg z0.2]
                have n2 : jX10_nextVoice_2 T = (-1) := by
                  unfold jX10_nextVoice_2
                  rw [K1, if_neg z1.2, n1]
                have n3 : jX10_nextVoice_3 T = (-1) := by
                  unfold jX10_nextVoice_3
                  rw [K2, if_neg z2.2, n2]
                have n4 : jX10_nextVoice_4 T = (-1) := by
                  unfold jX10_nextVoice_4
                  rw [K3, if_neg z3.2, n3]
                have o1 : jX10_nextVoice_5 T = 0 := by
                  unfold jX10_nextVoice_5
                  rw [K1, K0, if_pos m01]
                have o2 : jX10_nextVoice_6 T = 0 := by
                  unfold jX10_nextVoice_6
                  rw [K2, o1, K0, if_pos m02]
                have o3 : jX10_nextVoice_7 T = 0 := by
                  unfold jX10_nextVoice_7
                  rw [K3, o2, K0, if_pos m03]
                rw [n4, if_pos rfl, o3]
              · have b1 := True.intro
                have j3 : jX6_voiceToTake_3 S g = 3 := by
                  unfold jX6_voiceToTake_3
                  rw [j2, V3, V0, tb_e, E3, E0, F3, F0, q3, q0, tb_oo z3.1 z3.2 z0.1 z0.2, if_neg (fun h => m03 (L03.mp h)), if_neg ne10]
                rw [j3]
                unfold rX10_nextVoice
                rw [K0, K1, K2, K3, if_neg z0.1, if_neg z1.1, if_neg z2.1, if_neg z3.1]
                have n1 : jX10_nextVoice_1 T = (-1) := by
                  unfold jX10_nextVoice_1
                  rw [K0, if_neg z0.2]
                have n2 : jX10_nextVoice_2 T = (-1) := by
                  unfold jX10_nextVoice_2
                  rw [K1, if_neg z1.2, n1]
                have n3 : jX10_nextVoice_3 T = (-1) := by
                  unfold jX10_nextVoice_3
                  rw [K2, if_neg z2.2, n2]
                have n4 : jX10_nextVoice_4 T = (-1) := by
                  unfold jX10_nextVoice_4
                  rw [K3, if_neg z3.2, n3]
                have o1 : jX10_nextVoice_5 T = 0 := by
                  unfold jX10_nextVoice_5
                  rw [K1, K0, if_pos m01]
                have o2 : jX10_nextVoice_6 T = 0 := by
                  unfold jX10_nextVoice_6
                  rw [K2, o1, K0, if_pos m02]
                have o3 : jX10_nextVoice_7 T = 3 := by
                  unfold jX10_nextVoice_7
                  rw [K3, o2, K0, if_neg m03]
                rw [n4, if_pos rfl, o3]
          · have b1 := True.intro
            have j2 : jX6_voiceToTake_2 S g = 2 := by
              unfold jX6_voiceToTake_2
              rw [j1, V2, V0, tb_e, E2, E0, F2, F0, q2, q0, tb_oo z2.1 z2.2 z0.1 z0.2, if_neg (fun h => m02 (L02.mp h)), if_neg ne10]
            rcases cls3 (T 3 3) with z3 | z3 | z3
            · have b1 := True.intro
              have j3 : jX6_voiceToTake_3 S g = 3 := by
                unfold jX6_voiceToTake_3
                rw [j2, V3, V2, tb_e, E3, E2, F3, F2, z3, tb_zx (by first | exact z2.1 | (rw [z2]; decide)), if_neg ne10]
              rw [j3]
              unfold rX10_nextVoice
              rw [K0, K1, K2, K3, if_neg z0.1, if_neg z1.1, if_neg z2.1, if_pos z3]
            · have b1 := True.intro
              have j3 : jX6_voiceToTake_3 S g = 3 := by
                unfold jX6_voiceToTake_3
                rw [j2, V3, V2, tb_e, E3, E2, F3, F2, z3, tb_ro z2.1 z2.2, if_neg ne10]
              rw [j3]
              unfold rX10_nextVoice
              rw [K0, K1, K2, K3, if_neg z0.1, if_neg z1.1, if_neg z2.1, if_neg (fun e => absurd (z3.symm.trans e) (by decide))]
              have n1 : jX10_nextVoice_1 T = (-1) := by
                unfold jX10_nextVoice_1
                rw [K0, if_neg z0.2]
              have n2 : jX10_nextVoice_2 T = (-1) := by
                unfold jX10_nextVoice_2
                rw [K1, if_neg z1.2, n1]
              have n3 : jX10_nextVoice_3 T = (-1) := by
                unfold jX10_nextVoice_3
                rw [K2, if_neg z2.2, n2]
              have n4 : jX10_nextVoice_4 T = (3) := by
                unfold jX10_nextVoice_4
                rw [K3, if_pos z3, n3, if_pos rfl]
              rw [n4, if_neg (by decide)]
            · have q3 := O3.resolve_left z3.1
              by_cases m23 : T 13 2 ≤ T 13 3
              · have b1 := True.intro
                have j3 : jX6_voiceToTake_3 S g = 2 := by
                  unfold jX6_voiceToTake_3
                  rw [j2, V3, V2, tb_e, E3, E2, F3, F2, q3, q2, tb_oo z3.1 z3.2 z2.1 z2.2, if_pos (L23.mpr m23), if_pos rfl]
                rw [j3]
                unfold rX10_nextVoice
                rw [K0, K1, K2, K3, if_neg z0.1, if_neg z1.1, if_neg z2.1, if_neg z3.1]
                have n1 : jX10_nextVoice_1 T = (-1) := by
                  unfold jX10_nextVoice_1
                  rw [K0, if_neg z0.2]
                have n2 : jX10_nextVoice_2 T = (-1) := by
                  unfold jX10_nextVoice_2
                  rw [K1, if_neg z1.2, n1]
                have n3 : jX10_nextVoice_3 T = (-1) := by
                  unfold jX10_nextVoice_3
                  rw [K2, if_neg z2.2, n2]
                have n4 : jX10_nextVoice_4 T = (-1) := by
                  unfold jX10_nextVoice_4
                  rw [K3, if_neg z3.2, n3]
                have o1 : jX10_nextVoice_5 T = 0 := by
                  unfold jX10_nextVoice_5
                  rw [K1, K0, if_pos m01]
                have o2 : jX10_nextVoice_6 T = 2 := by
                  unfold jX10_nextVoice_6
                  rw [K2, o1, K0, if_neg m02]
                have o3 : jX10_nextVoice_7 T = 2 := by
                  unfold jX10_nextVoice_7
                  rw [K3, o2, K2, if_pos m23]
                rw [n4, if_pos rfl, o3]
              · have b1 := True.intro
                have j3 : jX6_voiceToTake_3 S g = 3 := by
                  unfold jX6_voiceToTake_3
                  rw [j2, V3, V2, tb_e, E3, E2, F3, F2, q3, q2, tb_oo z3.1 z3.2 z2.1 z2.2, if_neg (fun h => m23 (L23.mp h)), if_neg ne10]
                rw [j3]
                unfold rX10_nextVoice
                rw [K0, K1, K2, K3, if_neg z0.1, if_neg z1.1, if_neg z2.1, if_neg z3.1]
                have n1 : jX10_nextVoice_1 T = (-1) := by
                  unfold jX10_nextVoice_1
                  rw [K0, if_neg z0.2]
                have n2 : jX10_nextVoice_2 T = (-1) := by
                  unfold jX10_nextVoice_2
                  rw [K1, if_neg z1.2, n1]
                have n3 : jX10_nextVoice_3 T = (-1) := by
                  unfold jX10_nextVoice_3
                  rw [K2, if_neg z2.2, n2]
                have n4 : jX10_nextVoice_4 T = (-1) := by
                  unfold jX10_nextVoice_4
                  rw [K3, if_neg z3.2, n3]
                have o1 : jX10_nextVoice_5 T = 0 := by
                  unfold jX10_nextVoice_5
                  rw [K1, K0, if_pos m01]
                have o2 : jX10_nextVoice_6 T = 2 := by
                  unfold jX10_nextVoice_6
                  rw [K2, o1, K0, if_neg m02]
                have o3 : jX10_nextVoice_7 T = 3 := by
                  unfold jX10_nextVoice_7
                  rw [K3, o2, K2, if_neg m23]
                rw [n4, if_pos rfl, o3]
      · have b1 := True.intro
        have j1 : jX6_voiceToTake_1 S g = 1 := by
          unfold jX6_voiceToTake_1
          rw [V1, V0, tb_e, E1, E0, F1, F0, q1, q0, tb_oo z1.1 z1.2 z0.1 z0.2, if_neg (fun h => m01 (L01.mp h)), if_neg ne10]
        rcases cls3 (T 3 2) with z2 | z2 | z2
        · have b1 := True.intro
          have j2 : jX6_voiceToTake_2 S g = 2 := by
            unfold jX6_voiceToTake_2
            rw [j1, V2, V1, tb_e, E2, E1, F2, F1, z2, tb_zx (by first | exact z1.1 | (rw [z1]; decide)), if_neg ne10]
          rcases cls3 (T 3 3) with z3 | z3 | z3
          · have b1 := True.intro
            have j3 : jX6_voiceToTake_3 S g = 2 := by
              unfold jX6_voiceToTake_3
              rw [j2, V3, V2, tb_e, E3, E2, F3, F2, z2, tb_xz, if_pos rfl]
            rw [j3]
            unfold rX10_nextVoice
            rw [K0, K1, K2, K3, if_neg z0.1, if_neg z1.1, if_pos z2]
          · have b1 := True.intro
            have j3 : jX6_voiceToTake_3 S g = 2 := by
              unfold jX6_voiceToTake_3
              rw [j2, V3, V2, tb_e, E3, E2, F3, F2, z2, tb_xz, if_pos rfl]
            rw [j3]
            unfold rX10_nextVoice
            rw [K0, K1, K2, K3, if_neg z0.1, if_neg z1.1, if_pos z2]
          · have q3 := O3.resolve_left z3.1
            have b1 := True.intro
            have j3 : jX6_voiceToTake_3 S g = 2 := by
              unfold jX6_voiceToTake_3
              rw [j2, V3, V2, tb_e, E3, E2, F3, F2, z2, tb_xz, if_pos rfl]
            rw [j3]
            unfold rX10_nextVoice
            rw [K0, K1, K2, K3, if_neg z0.1, if_neg z1.1, if_pos z2]
        · have b1 := True.intro
          have j2 : jX6_voiceToTake_2 S g = 2 := by
            unfold jX6_voiceToTake_2
            rw [j1, V2, V1, tb_e, E2, E1, F2, F1, z2, tb_ro z1.1 z1.2, if_neg ne10]
          rcases cls3 (T 3 3) with z3 | z3 | z3
          · have b1 := True.intro
            have j3 : jX6_voiceToTake_3 S g = 3 := by
              unfold jX6_voiceToTake_3
              rw [j2, V3, V2, tb_e, E3, E2, F3, F2, z3, tb_zx (by first | exact z2.1 | (rw [z2]; decide)), if_neg ne10]
            rw [j3]
            unfold rX10_nextVoice
            rw [K0, K1, K2, K3, if_neg z0.1, if_neg z1.1, if_neg (fun e => absurd (z2.symm.trans e) (by decide)), if_pos z3]
          · by_cases m23 : T 4 2 ≤ T 4 3
            · have b1 := True.intro
              have j3 : jX6_voiceToTake_3 S g = 2 := by
                unfold jX6_voiceToTake_3
                rw [j2, V3, V2, tb_e, E3, E2, F3, F2, z3, z2, tb_rr, if_pos m23, if_pos rfl]
              rw [j3]
              unfold rX10_nextVoice
              rw [K0, K1, K2, K3, if_neg z0.1, if_neg z1.1, if_neg (fun e => absurd (z2.symm.trans e) (by decide)), if_neg (fun e => absurd (z3.symm.trans e) (by decide))]
              have n1 : jX10_nextVoice_1 T = (-1) := by
                unfold jX10_nextVoice_1
                rw [K0, if_neg z0.2]
              have n2 : jX10_nextVoice_2 T = (-1) := by
                unfold jX10_nextVoice_2
                rw [K1, if_neg z1.2, n1]
              have n3 : jX10_nextVoice_3 T = (2) := by
                unfold jX10_nextVoice_3
                rw [K2, if_pos z2, n2, if_pos rfl]
              have n4 : jX10_nextVoice_4 T = (2) := by
                unfold jX10_nextVoice_4
                rw [K3, if_pos z3, n3, if_neg (by decide), K2, if_pos m23]
              rw [n4, if_neg (by decide)]
            · have b1 := True.intro
              have j3 : jX6_voiceToTake_3 S g = 3 := by
                unfold jX6_voiceToTake_3
                rw [j2, V3, V2, tb_e, E3, E2, F3, F2, z3, z2, tb_rr, if_neg m23, if_neg ne10]
              rw [j3]
              unfold rX10_nextVoice
              rw [K0, K1, K2, K3, if_neg z0.1, if_neg z1.1, if_neg (fun e => absurd (z2.symm.trans e) (by decide)), if_neg (fun e => absurd (z3.symm.trans e) (by decide))]
              have n1 : jX10_nextVoice_1 T = (-1) := by
                unfold jX10_nextVoice_1
                rw [K0, if_neg z0.2]
              have n2 : jX10_nextVoice_2 T = (-1) := by
                unfold jX10_nextVoice_2
                rw [K1, if_neg z1.2, n1]
              have n3 : jX10_nextVoice_3 T = (2) := by
                unfold jX10_nextVoice_3
                rw [K2, if_pos z2, n2, if_pos rfl]
              have n4 : jX10_nextVoice_4 T = (3) := by
                unfold jX10_nextVoice_4
                rw [K3, if_pos z3, n3, if_neg (by decide), K2, if_neg m23]
              rw [n4, if_neg (by decide)]
          · have q3 := O3.resolve_left z3.1
            have b1 := True.intro
            have j3 : jX6_voiceToTake_3 S g = 2 := by
              unfold jX6_voiceToTake_3
              rw [j2, V3, V2, tb_e, E3, E2, F3, F2, z2, tb_or z3.1 z3.2, if_pos rfl]
            rw [j3]
            unfold rX10_nextVoice
            rw [K0, K1, K2, K3, if_neg z0.1, if_neg z1.1, if_neg (fun e => absurd (z2.symm.trans e) (by decide)), if_neg z3.1]
            have n1 : jX10_nextVoice_1 T = (-1) := by
              unfold jX10_nextVoice_1
              rw [K0, if_neg z0.2]
            have n2 : jX10_nextVoice_2 T = (-1) := by
              unfold jX10_nextVoice_2
              rw [K1, if_neg z1.2, n1]
            have n3 : jX10_nextVoice_3 T = (2) := by
              unfold jX10_nextVoice_3
              rw [K2, if_pos z2, n2, if_pos rfl]
            have n4 : jX10_nextVoice_4 T = (2) := by
              unfold jX10_nextVoice_4
              rw [K3, if_neg z3.2, n3]
            rw [n4, if_neg (by decide)]
        · have q2 := O2.resolve_left z2.1
          by_cases m12 : T 13 1 ≤ T 13 2
          · have b1 := True.intro
            have j2 : jX6_voiceToTake_2 S g = 1 := by
              unfold jX6_voiceToTake_2
              rw [j1, V2, V1, tb_e, E2, E1, F2, F1, q2, q1, tb_oo z2.1 z2.2 z1.1 z1.2, if_pos (L12.mpr m12), if_pos rfl]
            rcases cls3 (T 3 3) with z3 | z3 | z3
            · have b1 := True.intro
              have j3 : jX6_voiceToTake_3 S g = 3 := by
                unfold jX6_voiceToTake_3
                rw [j2, V3, V1, tb_e, E3, E1, F3, F1, z3, tb_zx (by first | exact z1.1 | (rw [z1]; decide)), if_neg ne10]
              rw [j3]
              unfold rX10_nextVoice
              rw [K0, K1, K2, K3, if_neg z0.1, if_neg z1.1, if_neg z2.1, if_pos z3]
            · have b1 := True.intro
              have j3 : jX6_voiceToTake_3 S g = 3 := by
                unfold jX6_voiceToTake_3
                rw [j2, V3, V1, tb_e, E3, E1, F3, F1, z3, tb_ro z1.1 z1.2, if_neg ne10]
              rw [j3]
              unfold rX10_nextVoice
              rw [K0, K1, K2, K3, if_neg z0.1, if_neg z1.1, if_neg z2.1, if_neg (fun e => absurd (z3.symm.trans e) (by decide))]
              have n1 : jX10_nextVoice_1 T = (-1) := by
                unfold jX10_nextVoice_1
                rw [K0, if_neg z0.2]
              have n2 : jX10_nextVoice_2 T = (-1) := by
                unfold jX10_nextVoice_2
                rw [K1, if_neg z1.2, n1]
              have n3 : jX10_nextVoice_3 T = (-1) := by
                unfold jX10_nextVoice_3
                rw [K2, if_neg z2.2, n2]
              have n4 : jX10_nextVoice_4 T = (3) := by
                unfold jX10_nextVoice_4
                rw [K3, if_pos z3, n3, if_pos rfl]
              rw [n4, if_neg (by decide)]
            · have q3 := O3.resolve_left z3.1
              by_cases m13 : T 13 1 ≤ T 13 3
              · have b1 := True.intro
                have j3 : jX6_voiceToTake_3 S g = 1 := by
                  unfold jX6_voiceToTake_3
                  rw [j2, V3, V1, tb_e, E3, E1, F3, F1, q3, q1, tb_oo z3.1 z3.2 z1.1 z1.2, if_pos (L13.mpr m13), if_pos rfl]
                rw [j3]
                unfold rX10_nextVoice
                rw [K0, K1, K2, K3, if_neg z0.1, if_neg z1.1, if_neg z2.1, if_neg z3.1]
                have n1 : jX10_nextVoice_1 T = (-1) := by
                  unfold jX10_nextVoice_1
                  rw [K0, if_neg z0.2]
                have n2 : jX10_nextVoice_2 T = (-1) := by
                  unfold jX10_nextVoice_2
                  rw [K1, if_neg z1.2, n1]
                have n3 : jX10_nextVoice_3 T = (-1) := by
                  unfold jX10_nextVoice_3
                  rw [K2, if_neg z2.2, n2]
                have n4 : jX10_nextVoice_4 T = (-1) := by
                  unfold jX10_nextVoice_4
                  rw [K3, if_neg z3.2, n3]
                have o1 : jX10_nextVoice_5 T = 1 := by
                  unfold jX10_nextVoice_5
                  rw [K1, K0, if_neg m01]
                have o2 : jX10_nextVoice_6 T = 1 := by
                  unfold jX10_nextVoice_6
                  rw [K2, o1, K1, if_pos m12]
                have o3 : jX10_nextVoice_7 T = 1 := by
                  unfold jX10_nextVoice_7
                  rw [K3, o2, K1, if_pos m13]
                rw [n4, if_pos rfl, o3]
              · have b1 := True.intro
                have j3 : jX6_voiceToTake_3 S g = 3 := by
                  unfold jX6_voiceToTake_3
                  rw [j2, V3, V1, tb_e, E3, E1, F3, F1, q3, q1, tb_oo z3.1 z3.2 z1.1 z1.2, if_neg (fun h => m13 (L13.mp h)), if_neg ne10]
                rw [j3]
                unfold rX10_nextVoice
                rw [K0, K1, K2, K3, if_neg z0.1, if_neg z1.1, if_neg z2.1, if_neg z3.1]
                have n1 : jX10_nextVoice_1 T = (-1) := by
                  unfold jX10_nextVoice_1
                  rw [K0, if_neg z0.2]
                have n2 : jX10_nextVoice_2 T = (-1) := by
                  unfold jX10_nextVoice_2
                  rw [K1, if_neg z1.2, n1]
                have n3 : jX10_nextVoice_3 T = (-1) := by
                  unfold jX10_nextVoice_3
                  rw [K2, if_neg z2.2, n2]
                have n4 : jX10_nextVoice_4 T = (-1) := by
                  unfold jX10_nextVoice_4
                  rw [K3, if_neg z3.2, n3]
                have o1 : jX10_nextVoice_5 T = 1 := by
                  unfold jX10_nextVoice_5
                  rw [K1, K0, if_neg m01]
                have o2 : jX10_nextVoice_6 T = 1 := by
                  unfold jX10_nextVoice_6
                  rw [K2, o1, K1, if_pos m12]
                have o3 : jX10_nextVoice_7 T = 3 := by
                  unfold jX10_nextVoice_7
                  rw [K3, o2, K1, if_neg m13]
                rw [n4, if_pos rfl, o3]
          · have b1 := True.intro
            have j2 : jX6_voiceToTake_2 S g = 2 := by
              unfold jX6_voiceToTake_2
              rw [j1, V2, V1, tb_e, E2, E1, F2, F1, q2, q1, tb_oo z2.1 z2.2 z1.1 z1.2, if_neg (fun h => m12 (L12.mp h)), if_neg ne10]
            rcases cls3 (T 3 3) with z3 | z3 | z3
            · have b1 := True.intro
              have j3 : jX6_voiceToTake_3 S g = 3 := by
                unfold jX6_voiceToTake_3
                rw [j2, V3, V2, tb_e, E3, E2, F3, F2, z3, tb_zx (by first | exact z2.1 | (rw [z2]; decide)), if_neg ne10]
              rw [j3]
              unfold rX10_nextVoice
              rw [K0, K1, K2, K3, if_neg z0.1, if_neg z1.1, if_neg z2.1, if_pos z3]
            · have b1 := True.intro
              have j3 : jX6_voiceToTake_3 S g = 3 := by
                unfold jX6_voiceToTake_3
                rw [j2, V3, V2, tb_e, E3, E2, F3, F2, z3, tb_ro z2.1 z2.2, if_neg ne10]
              rw [j3]
              unfold rX10_nextVoice
              rw [K0, K1, K2, K3, if_neg z0.1, if_neg z1.1, if_neg z2.1, if_neg (fun e => absurd (z3.symm.trans e) (by decide))]
              have n1 : jX10_nextVoice_1 T = (-1) := by
                unfold jX10_nextVoice_1
                rw [K0, if_neg z0.2]
              have n2 : jX10_nextVoice_2 T = (-1) := by
                unfold jX10_nextVoice_2
                rw [K1, if_neg z1.2, n1]
              have n3 : jX10_nextVoice_3 T = (-1) := by
                unfold jX10_nextVoice_3
                rw [K2, if_neg z2.2, n2]
              have n4 : jX10_nextVoice_4 T = (3) := by
                unfold jX10_nextVoice_4
                rw [K3, if_pos z3, n3, if_pos rfl]
              rw [n4, if_neg (by decide)]
            · have q3 := O3.resolve_left z3.1
              by_cases m23 : T 13 2 ≤ T 13 3
              · have b1 := True.intro
                have j3 : jX6_voiceToTake_3 S g = 2 := by
                  unfold jX6_voiceToTake_3
                  rw [j2, V3, V2, tb_e, E3, E2, F3, F2, q3, q2, tb_oo z3.1 z3.2 z2.1 z2.2, if_pos (L23.mpr m23), if_pos rfl]
                rw [j3]
                unfold rX10_nextVoice
                rw [K0, K1, K2, K3, if_neg z0.1, if_neg z1.1, if_neg z2.1, if_neg z3.1]
                have n1 : jX10_nextVoice_1 T = (-1) := by
                  unfold jX10_nextVoice_1
                  rw [K0, if_neg z0.2]
                have n2 : jX10_nextVoice_2 T = (-1) := by
                  unfold jX10_nextVoice_2
                  rw [K1, if_neg z1.2, n1]
                have n3 : jX10_nextVoice_3 T = (-1) := by
                  unfold jX10_nextVoice_3
                  rw [K2, if_neg z2.2, n2]
                have n4 : jX10_nextVoice_4 T = (-1) := by
                  unfold jX10_nextVoice_4
                  rw [K3, if_neg z3.2, n3]
                have o1 : jX10_nextVoice_5 T = 1 := by
                  unfold jX10_nextVoice_5
                  rw [K1, K0, if_neg m01]
                have o2 : jX10_nextVoice_6 T = 2 := by
                  unfold jX10_nextVoice_6
                  rw [K2, o1, K1, if_neg m12]
                have o3 : jX10_nextVoice_7 T = 2 := by
                  unfold jX10_nextVoice_7
                  rw [K3, o2, K2, if_pos m23]
                rw [n4, if_pos rfl, o3]
              · have b1 := True.intro
                have j3 : jX6_voiceToTake_3 S g = 3 := by
                  unfold jX6_voiceToTake_3
                  rw [j2, V3, V2, tb_e, E3, E2, F3, F2, q3, q2, tb_oo z3.1 z3.2 z2.1 z2.2, if_neg (fun h => m23 (L23.mp h)), if_neg ne10]
                rw [j3]
                unfold rX10_nextVoice
                rw [K0, K1, K2, K3, if_neg z0.1, if_neg z1.1, if_neg z2.1, if_neg z3.1]
                have n1 : jX10_nextVoice_1 T = (-1) := by
                  unfold jX10_nextVoice_1
                  rw [K0, if_neg z0.2]
                have n2 : jX10_nextVoice_2 T = (-1) := by
                  unfold jX10_nextVoice_2
                  rw [K1, if_neg z1.2, n1]
                have n3 : jX10_nextVoice_3 T = (-1) := by
                  unfold jX10_nextVoice_3
                  rw [K2, if_neg z2.2, n2]
                have n4 : jX10_nextVoice_4 T = (-1) := by
                  unfold jX10_nextVoice_4
                  rw [K3, if_neg z3.2, n3]
                have o1 : jX10_nextVoice_5 T = 1 := by
                  unfold jX10_nextVoice_5
                  rw [K1, K0, if_neg m01]
                have o2 : jX10_nextVoice_6 T = 2 := by
                  unfold jX10_nextVoice_6
                  rw [K2, o1, K1, if_neg m12]
                have o3 : jX10_nextVoice_7 T = 3 := by
                  unfold jX10_nextVoice_7
                  rw [K3, o2, K2, if_neg m23]
                rw [n4, if_pos rfl, o3]
