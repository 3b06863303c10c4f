/-! The class beside the reference: what is told, the four voices -/
theorem RVs_step {B B' : Int} {g v : Nat} {S S' T T' : Mm} (hB : B ≤ B') (h : RVs B g S T) (hS : ∀ o', o' ≠ g + 4 + v → g + 4 ≤ o' → o' < g + 8 → S' o' = S o') (hT : ∀ j u, 3 ≤ j → j ≤ 13 → u ≠ v → T' j u = T j u) (hn : RVv B' S' (g + 4 + v) T' v) : RVs B' g S' T' := by
  intro u hu
  by_cases e : u = v
  · rw [e]; exact hn
  · obtain ⟨h1, h2, h3, h4⟩ := h u hu
    have hs : S' (g + 4 + u) = S (g + 4 + u) := hS _ (by omega) (by omega) (by omega)
    refine ⟨fun k hk => ?_, ?_, ?_, ?_⟩
    · rw [hs, hT _ _ (by omega) (by omega) e]; exact h1 k hk
    · rw [hs, hT 3 _ (by omega) (by omega) e, hT 13 _ (by omega) (by omega) e]; exact h2
    · rw [hT 3 _ (by omega) (by omega) e]; exact h3
    · rw [hT 13 _ (by omega) (by omega) e]; exact rg_w h4 (Int.le_refl _) hB
theorem RVs_fr {B : Int} {g : Nat} {S S' T T' : Mm} (h : RVs B g S T) (hS : ∀ o', g + 4 ≤ o' → o' < g + 8 → S' o' = S o') (hT : ∀ j, 3 ≤ j → j ≤ 13 → T' j = T j) : RVs B g S' T' := by
  intro u hu
  obtain ⟨h1, h2, h3, h4⟩ := h u hu
  have hs : S' (g + 4 + u) = S (g + 4 + u) := hS _ (by omega) (by omega)
  refine ⟨fun k hk => ?_, ?_, ?_, ?_⟩
  · rw [hs, hT _ (by omega) (by omega)]; exact h1 k hk
  · rw [hs, hT 3 (by omega) (by omega), hT 13 (by omega) (by omega)]; exact h2
  · rw [hT 3 (by omega) (by omega)]; exact h3
  · rw [hT 13 (by omega) (by omega)]; exact h4
/-- what is told, there and there -/
def RSet (S T : Mm) : Prop := RW S T ∧ RZ S ∧ (∀ i, i < 4 → ∀ k, k < 12 → S (14 + i) k = T 2 (12 * i + k)) ∧ (∀ t, t < 3 → S 7 t = T 15 t) ∧ (∀ k, k < 24 → S 9 k = T 16 (3 * k) ∧ S 11 k = T 16 (3 * k + 1) ∧ S 13 k = T 16 (3 * k + 2)) ∧ S 5 4 = T 0 22 ∧ S 5 5 = T 0 23 ∧ S 1 2 = T 0 15 ∧ (∃ a b : Nat, a ≤ 200 ∧ b < a ∧ T 0 22 = nI a ∧ T 0 23 = nI b)
theorem RSet_fr {S S' T T' : Mm} (h : RSet S T) (hS : ∀ o, o < 18 ∨ o = 37 → S' o = S o) (h1 : T' 1 = T 1) (h2 : T' 2 = T 2) (h15 : T' 15 = T 15) (h16 : T' 16 = T 16) (h0 : ∀ k, k = 15 ∨ k = 22 ∨ k = 23 → T' 0 k = T 0 k) : RSet S' T' := by
  obtain ⟨a1, a2, a3, a4, a5, a6, a7, a8, a9⟩ := h
  refine ⟨RW_fr (hS 4 (by omega)) h1 a1, fun k hk => by rw [hS 37 (by omega)]; exact a2 k hk, fun i hi k hk => by rw [hS _ (by omega), h2]; exact a3 i hi k hk, fun t ht => by rw [hS 7 (by omega), h15]; exact a4 t ht, fun k hk => by rw [hS 9 (by omega), hS 11 (by omega), hS 13 (by omega), h16]; exact a5 k hk, ?_, ?_, ?_, ?_⟩
  · rw [hS 5 (by omega), h0 22 (by omega)]; exact a6
  · rw [hS 5 (by omega), h0 23 (by omega)]; exact a7
  · rw [hS 1 (by omega), h0 15 (by omega)]; exact a8
  · rw [h0 22 (by omega), h0 23 (by omega)]; exact a9
theorem v4 {v : Nat} (h : v < 4) : v = 0 ∨ v = 1 ∨ v = 2 ∨ v = 3 := by omega
theorem vo_n {g v : Nat} (h : v < 4) : rX6_voiceOf g (nI v) = g + 4 + v := by
  rcases v4 h with e | e | e | e <;> subst e <;> rfl
theorem io_n {i : Nat} (h : i < 4) : rX5_instrumentOf (nI i) = 14 + i := by
  rcases v4 h with e | e | e | e <;> subst e <;> rfl
theorem RI_of {B K : Int} {g v : Nat} {S T : Mm} (hv : v < 4) (h : RSet S T) (R : RVs B g S T) (hD : iD T K) : RI S (rX5_instrumentOf (S (g + 4 + v) 2)) T (nI v) ∧ rX5_instrumentOf (S (g + 4 + v) 2) < 18 := by
  have hcl : (nI v).toNatClampNeg = v := nI_clamp (by omega)
  have r2 : S (g + 4 + v) 2 = T 5 v := (R v hv).1 2 (by decide)
  obtain ⟨i, hi, e, ht⟩ := told_at (S := T) (p := nI v) (by rw [hcl]; exact (hD.1 v hv).1)
  rw [hcl] at e
  rw [r2, e, io_n hi]
  refine ⟨fun k hk => ?_, by omega⟩
  rw [ht k hk]
  exact h.2.2.1 i hi k hk
theorem gv_step {B K : Int} {g v : Nat} {S T : Mm} {c : Int32} (hg : 18 ≤ g) (hg2 : g ≤ 26) (hv : v < 4) (h : RSet S T) (R : RVs B g S T) (hD : iD T K) (hc : c = T 0 28) : rX7_give S (g + 4 + v) (rX5_instrumentOf (S (g + 4 + v) 2)) c = rX10_gives T (nI v) ∧ RVs B g (fX7_give S (g + 4 + v) (rX5_instrumentOf (S (g + 4 + v) 2)) c) (fX10_gives T (nI v)) ∧ RSet (fX7_give S (g + 4 + v) (rX5_instrumentOf (S (g + 4 + v) 2)) c) (fX10_gives T (nI v)) ∧ iD (fX10_gives T (nI v)) K := by
  obtain ⟨hI, hlt⟩ := RI_of (g := g) hv h R hD
  have hcl : (nI v).toNatClampNeg = v := nI_clamp (by omega)
  have ge := give_eq (c := c) hv (show rX5_instrumentOf (S (g + 4 + v) 2) ≠ g + 4 + v by omega) (by omega) (by omega) (R v hv) h.1 h.2.1 hI hD hc
  refine ⟨ge.1, RVs_step (Int.le_refl _) R (fun o' h1 _ _ => gi_n h1) (fun j u _ _ hu => gvv_n (by rw [hcl]; exact hu) j) ge.2, RSet_fr h (fun o ho => gi_n (by omega)) (gv_fr (by decide) (by decide) (by decide) (by decide) (by decide) (by decide)) (gv_fr (by decide) (by decide) (by decide) (by decide) (by decide) (by decide)) (gv_fr (by decide) (by decide) (by decide) (by decide) (by decide) (by decide)) (gv_fr (by decide) (by decide) (by decide) (by decide) (by decide) (by decide)) (fun k _ => by rw [gv_fr (by decide) (by decide) (by decide) (by decide) (by decide) (by decide)]), gv_iD (vp_in_nI hv (by decide)) hD⟩
theorem gv0 {T : Mm} {p : Int32} : fX10_gives T p 0 = T 0 := gv_fr (by decide) (by decide) (by decide) (by decide) (by decide) (by decide)
/-- the four voices of the reference in one sample -/
def mxT (T : Mm) : Mm := fX10_gives (fX10_gives (fX10_gives (fX10_gives T 0) 1) 2) 3
def mxR (T : Mm) : Int32 := (((0 + rX10_gives T 0) + rX10_gives (fX10_gives T 0) 1) + rX10_gives (fX10_gives (fX10_gives T 0) 1) 2) + rX10_gives (fX10_gives (fX10_gives (fX10_gives T 0) 1) 2) 3
theorem mix_n {S : Mm} {g o : Nat} (h : o < g + 4 ∨ g + 8 ≤ o) : fX6_mixVoices S g o = S o := by
  have e0 : rX6_voiceOf g (0 : Int32) = g + 4 := rfl
  have e1 : rX6_voiceOf g (1 : Int32) = g + 5 := rfl
  have e2 : rX6_voiceOf g (2 : Int32) = g + 6 := rfl
  have e3 : rX6_voiceOf g (3 : Int32) = g + 7 := rfl
  unfold fX6_mixVoices mX6_mixVoices_7
  rw [e3, gi_n (by omega)]
  unfold mX6_mixVoices_5
  rw [e2, gi_n (by omega)]
  unfold mX6_mixVoices_3
  rw [e1, gi_n (by omega)]
  unfold mX6_mixVoices_1
  rw [e0, gi_n (by omega)]
theorem mix_eq {B K : Int} {g : Nat} {S T : Mm} (hg : 18 ≤ g) (hg2 : g ≤ 26) (h : RSet S T) (R : RVs B g S T) (hD : iD T K) (hc : S g 6 = T 0 28) : rX6_mixVoices S g = mxR T ∧ RVs B g (fX6_mixVoices S g) (mxT T) ∧ RSet (fX6_mixVoices S g) (mxT T) ∧ iD (mxT T) K := by
  have e0 : rX6_voiceOf g (0 : Int32) = g + 4 + 0 := rfl
  have e1 : rX6_voiceOf g (1 : Int32) = g + 4 + 1 := rfl
  have e2 : rX6_voiceOf g (2 : Int32) = g + 4 + 2 := rfl
  have e3 : rX6_voiceOf g (3 : Int32) = g + 4 + 3 := rfl
  have m1 : mX6_mixVoices_1 S g = fX7_give S (g + 4 + 0) (rX5_instrumentOf (S (g + 4 + 0) 2)) (S g 6) := by unfold mX6_mixVoices_1; rw [e0]
  obtain ⟨a1, a2, a3, a4⟩ := gv_step (v := 0) hg hg2 (by decide) h R hD hc
  rw [← m1] at a2 a3
  have c1 : mX6_mixVoices_1 S g g 6 = fX10_gives T (nI 0) 0 28 := by rw [m1, gi_n (by omega), gv0]; exact hc
  have m3 : mX6_mixVoices_3 S g = fX7_give (mX6_mixVoices_1 S g) (g + 4 + 1) (rX5_instrumentOf ((mX6_mixVoices_1 S g) (g + 4 + 1) 2)) (mX6_mixVoices_1 S g g 6) := by unfold mX6_mixVoices_3; rw [e1]
  obtain ⟨b1, b2, b3, b4⟩ := gv_step (v := 1) hg hg2 (by decide) a3 a2 a4 c1
  rw [← m3] at b2 b3
  have c2 : mX6_mixVoices_3 S g g 6 = fX10_gives (fX10_gives T (nI 0)) (nI 1) 0 28 := by rw [m3, gi_n (by omega), gv0]; exact c1
  have m5 : mX6_mixVoices_5 S g = fX7_give (mX6_mixVoices_3 S g) (g + 4 + 2) (rX5_instrumentOf ((mX6_mixVoices_3 S g) (g + 4 + 2) 2)) (mX6_mixVoices_3 S g g 6) := by unfold mX6_mixVoices_5; rw [e2]
  obtain ⟨d1, d2, d3, d4⟩ := gv_step (v := 2) hg hg2 (by decide) b3 b2 b4 c2
  rw [← m5] at d2 d3
  have c3 : mX6_mixVoices_5 S g g 6 = fX10_gives (fX10_gives (fX10_gives T (nI 0)) (nI 1)) (nI 2) 0 28 := by rw [m5, gi_n (by omega), gv0]; exact c2
  have m7 : mX6_mixVoices_7 S g = fX7_give (mX6_mixVoices_5 S g) (g + 4 + 3) (rX5_instrumentOf ((mX6_mixVoices_5 S g) (g + 4 + 3) 2)) (mX6_mixVoices_5 S g g 6) := by unfold mX6_mixVoices_7; rw [e3]
  obtain ⟨f1, f2, f3, f4⟩ := gv_step (v := 3) hg hg2 (by decide) d3 d2 d4 c3
  rw [← m7] at f2 f3
  refine ⟨?_, f2, f3, f4⟩
  unfold rX6_mixVoices vX6_mixVoices_2 vX6_mixVoices_4 vX6_mixVoices_6 vX6_mixVoices_8
  rw [e0, e1, e2, e3, a1, b1, d1, f1]
  rfl
/-! a note begins -/
theorem st_n {U : Mm} {o o' : Nat} {p1 p2 p3 p4 p5 : Int32} (h : o' ≠ o) : fX7_start U o p1 p2 p3 p4 p5 o' = U o' := by
  simp [fX7_start, mX7_start_2, mX7_start_1, up2_n h]
theorem st_row {U : Mm} {o : Nat} {p1 p2 p3 p4 p5 : Int32} : fX7_start U o p1 p2 p3 p4 p5 o 0 = 1 ∧ fX7_start U o p1 p2 p3 p4 p5 o 1 = U o 1 ∧ fX7_start U o p1 p2 p3 p4 p5 o 2 = p1 ∧ fX7_start U o p1 p2 p3 p4 p5 o 3 = p2 ∧ fX7_start U o p1 p2 p3 p4 p5 o 4 = p3 ∧ fX7_start U o p1 p2 p3 p4 p5 o 5 = 0 ∧ fX7_start U o p1 p2 p3 p4 p5 o 6 = 0 ∧ fX7_start U o p1 p2 p3 p4 p5 o 7 = 0 ∧ fX7_start U o p1 p2 p3 p4 p5 o 8 = 0 ∧ fX7_start U o p1 p2 p3 p4 p5 o 9 = p4 ∧ fX7_start U o p1 p2 p3 p4 p5 o 10 = p5 := by
  simp [fX7_start, mX7_start_2, mX7_start_1, up2_h, up2_k]
theorem bg_col {T : Mm} {p1 p2 p3 p4 : Int32} {u : Nat} (hu : u ≠ (rX10_nextVoice T).toNatClampNeg) {j : Nat} (hj : j ≠ 0) : fX10_begin T p1 p2 p3 p4 j u = T j u := by
  unfold fX10_begin mX10_begin_8
  rw [up2_k hu]
  unfold mX10_begin_7
  rw [up2_n hj]
  unfold mX10_begin_6
  rw [up2_k hu, up2_k hu]
  unfold mX10_begin_5
  rw [up2_k hu, up2_k hu]
  unfold mX10_begin_4
  rw [up2_k hu, up2_k hu]
  unfold mX10_begin_3
  rw [up2_k hu, up2_k hu]
  unfold mX10_begin_2
  rw [up2_k hu, up2_n hj]
theorem bg6_13 {T : Mm} {p1 p2 p3 p4 : Int32} : mX10_begin_6 T p1 p2 p3 p4 0 13 = T 0 13 := by
  simp [mX10_begin_6, mX10_begin_5, mX10_begin_4, mX10_begin_3, mX10_begin_2, up2_n, up2_k]
theorem bg_v {T : Mm} {p1 p2 p3 p4 : Int32} {v : Nat} (hv : (rX10_nextVoice T).toNatClampNeg = v) : (fX10_begin T p1 p2 p3 p4 3 v = 1 ∧ fX10_begin T p1 p2 p3 p4 4 v = T 4 v ∧ fX10_begin T p1 p2 p3 p4 5 v = p1 ∧ fX10_begin T p1 p2 p3 p4 6 v = p2 ∧ fX10_begin T p1 p2 p3 p4 7 v = p3) ∧ (fX10_begin T p1 p2 p3 p4 8 v = 0 ∧ fX10_begin T p1 p2 p3 p4 9 v = 0 ∧ fX10_begin T p1 p2 p3 p4 10 v = 0 ∧ fX10_begin T p1 p2 p3 p4 11 v = 0 ∧ fX10_begin T p1 p2 p3 p4 12 v = p4 ∧ fX10_begin T p1 p2 p3 p4 13 v = T 0 13) := by
  subst hv
  refine ⟨⟨?_, ?_, ?_, ?_, ?_⟩, ?_, ?_, ?_, ?_, ?_, ?_⟩ <;> simp [fX10_begin, mX10_begin_8, mX10_begin_7, mX10_begin_6, mX10_begin_5, mX10_begin_4, mX10_begin_3, mX10_begin_2, up2_n, up2_h, up2_k]
theorem bg_13 {T : Mm} {p1 p2 p3 p4 : Int32} : fX10_begin T p1 p2 p3 p4 0 13 = T 0 13 + 1 := by
  unfold fX10_begin mX10_begin_8
  rw [up2_n (by decide)]
  unfold mX10_begin_7
  rw [up2_h, bg6_13]
theorem bg_14 {T : Mm} {p1 p2 p3 p4 : Int32} : fX10_begin T p1 p2 p3 p4 0 14 = T 0 14 + (if T 3 (rX10_nextVoice T).toNatClampNeg = 0 then 0 else 1) := by
  simp [fX10_begin, mX10_begin_8, mX10_begin_7, mX10_begin_6, mX10_begin_5, mX10_begin_4, mX10_begin_3, mX10_begin_2, jX10_begin_1, up2_n, up2_h, up2_k]
/-- the numbers of a stage that aren't its voices' -/
def RQ (B : Int) (g : Nat) (S T : Mm) : Prop := S g 6 = T 0 28 ∧ S g 7 = T 0 13 ∧ S g 8 = T 0 14 ∧ S g 9 = T 0 24 ∧ (T 0 24 = 0 ∨ T 0 24 = 1) ∧ S g 10 = T 0 25 ∧ rg (T 0 13) 0 B
theorem RQ_fr {B : Int} {g : Nat} {S S' T T' : Mm} (h : RQ B g S T) (hS : S' g = S g) (hT : T' 0 = T 0) : RQ B g S' T' := by
  unfold RQ
  rw [hS, hT]
  exact h
theorem sn_n {S : Mm} {g o : Nat} {p1 p2 p3 p4 : Int32} (hg : o ≠ g) (h : o < g + 4 ∨ g + 8 ≤ o) : fX6_startNote S g p1 p2 p3 p4 o = S o := by
  have hv : o ≠ rX6_voiceOf g (rX6_voiceToTake S g) := by
    unfold rX6_voiceOf
    (repeat' split) <;> omega
  unfold fX6_startNote mX6_startNote_3
  rw [st_n hv]
  unfold mX6_startNote_2
  rw [up2_n hg]
  unfold jX6_startNote_1
  split
  · rfl
  · rw [up2_n hg]
theorem sn_eq {B : Int} {g : Nat} {S T : Mm} {p1 p2 p3 p4 : Int32} (hB : B < 1900000000) (R : RVs B g S T) (Q : RQ B g S T) : rX6_startNote S g p1 p2 p3 p4 = rX10_begin T p1 p2 p3 p4 ∧ RVs (B + 1) g (fX6_startNote S g p1 p2 p3 p4) (fX10_begin T p1 p2 p3 p4) ∧ RQ (B + 1) g (fX6_startNote S g p1 p2 p3 p4) (fX10_begin T p1 p2 p3 p4) ∧ fX6_startNote S g p1 p2 p3 p4 g 11 = S g 11 := by
  have vt : rX6_voiceToTake S g = rX10_nextVoice T := vt_eq (by omega) R
  obtain ⟨v, hv, e⟩ := vp_in_of (nv_in T) (by decide)
  have hcl : (rX10_nextVoice T).toNatClampNeg = v := by rw [e]; exact nI_clamp (by omega)
  have ho : rX6_voiceOf g (rX6_voiceToTake S g) = g + 4 + v := by rw [vt, e, vo_n hv]
  obtain ⟨q1, q2, q3, q4, q5, q6, q7⟩ := Q
  obtain ⟨⟨t3, t4, t5, t6, t7⟩, t8, t9, t10, t11, t12, t13⟩ := bg_v (T := T) (p1 := p1) (p2 := p2) (p3 := p3) (p4 := p4) hcl
  have j7 : jX6_startNote_1 S g p1 p2 p3 p4 g 7 = S g 7 := by
    unfold jX6_startNote_1
    split
    · rfl
    · rw [up2_k (by decide)]
  have jv : jX6_startNote_1 S g p1 p2 p3 p4 (g + 4 + v) = S (g + 4 + v) := by
    unfold jX6_startNote_1
    split
    · rfl
    · rw [up2_n (by omega)]
  have m7 : mX6_startNote_2 S g p1 p2 p3 p4 g 7 = T 0 13 + 1 := by
    unfold mX6_startNote_2
    rw [up2_h, j7, q2]
  have mv : mX6_startNote_2 S g p1 p2 p3 p4 (g + 4 + v) = S (g + 4 + v) := by
    unfold mX6_startNote_2
    rw [up2_n (by omega), jv]
  have ef : fX6_startNote S g p1 p2 p3 p4 = fX7_start (mX6_startNote_2 S g p1 p2 p3 p4) (g + 4 + v) p1 p2 p3 p4 (T 0 13 + 1) := by
    unfold fX6_startNote mX6_startNote_3
    rw [ho, m7]
  obtain ⟨s0, s1, s2, s3, s4, s5, s6, s7, s8, s9, s10⟩ := st_row (U := mX6_startNote_2 S g p1 p2 p3 p4) (o := g + 4 + v) (p1 := p1) (p2 := p2) (p3 := p3) (p4 := p4) (p5 := T 0 13 + 1)
  rw [← ef] at s0 s1 s2 s3 s4 s5 s6 s7 s8 s9 s10
  have sg : fX6_startNote S g p1 p2 p3 p4 g = mX6_startNote_2 S g p1 p2 p3 p4 g := by rw [ef, st_n (by omega)]
  have sk : ∀ k, k ≠ 7 → k ≠ 8 → mX6_startNote_2 S g p1 p2 p3 p4 g k = S g k := fun k h7 h8 => by
    unfold mX6_startNote_2
    rw [up2_k h7]
    unfold jX6_startNote_1
    split
    · rfl
    · rw [up2_k h8]
  have r13 : rg (T 0 13 + 1) 0 (B + 1) := by
    have h1 : rg (1 : Int32) 1 1 := by unfold rg; decide
    exact rg_w (rg_add q7 h1 (by omega) (by omega)).1 (by omega) (Int.le_refl _)
  refine ⟨?_, ?_, ?_, ?_⟩
  · unfold rX6_startNote rX10_begin
    exact vt
  · refine RVs_step (v := v) (by omega) R (fun o' h1 h2 h3 => ?_) (fun j u h1 h2 h3 => bg_col (by rw [hcl]; exact h3) (by omega)) ?_
    · rw [ef, st_n h1]
      unfold mX6_startNote_2
      rw [up2_n (by omega)]
      unfold jX6_startNote_1
      split
      · rfl
      · rw [up2_n (by omega)]
    · refine ⟨k10 (s0.trans t3.symm) (by rw [s1, mv]; exact ((R v hv).1 1 (by decide)).trans t4.symm) (s2.trans t5.symm) (s3.trans t6.symm) (s4.trans t7.symm) (s5.trans t8.symm) (s6.trans t9.symm) (s7.trans t10.symm) (s8.trans t11.symm) (s9.trans t12.symm), Or.inr (by rw [s10, t13]), by rw [t3]; exact vp_in_lit (by decide), by rw [t13]; exact rg_w q7 (Int.le_refl _) (by omega)⟩
  · refine ⟨?_, ?_, ?_, ?_, ?_, ?_, ?_⟩
    · rw [sg, sk 6 (by decide) (by decide), bg_0 (by decide) (by decide)]; exact q1
    · rw [sg, m7, bg_13]
    · rw [sg, bg_14, hcl]
      unfold mX6_startNote_2
      rw [up2_k (by decide)]
      unfold jX6_startNote_1
      rw [ho, (R v hv).1 0 (by decide)]
      by_cases h : T (3 + 0) v = 0
      · rw [if_pos h, if_pos h, Int32.add_zero]; exact q3
      · rw [if_neg h, if_neg h, up2_h, q3]
    · rw [sg, sk 9 (by decide) (by decide), bg_0 (by decide) (by decide)]; exact q4
    · rw [bg_0 (by decide) (by decide)]; exact q5
    · rw [sg, sk 10 (by decide) (by decide), bg_0 (by decide) (by decide)]; exact q6
    · rw [bg_13]; exact r13
  · rw [sg, sk 11 (by decide) (by decide)]
