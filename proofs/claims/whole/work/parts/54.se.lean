/-! The class beside the reference: gates and tracks -/
def GC (T : Mm) (p : Int32) : Mm := if T 12 p.toNatClampNeg = 0 then fX10_end (up2 T 12 p.toNatClampNeg (-1)) p else T
def HC (T : Mm) (p : Int32) : Mm := if T 12 p.toNatClampNeg ≤ 0 then T else up2 T 12 p.toNatClampNeg (T 12 p.toNatClampNeg - 1)
theorem rel_n {S : Mm} {o o' : Nat} (h : o' ≠ o) : fX7_release S o o' = S o' := by
  unfold fX7_release
  split
  · rfl
  · exact up2_n h
theorem rel_k {S : Mm} {o k : Nat} (h : k ≠ 0) (o' : Nat) : fX7_release S o o' k = S o' k := by
  unfold fX7_release
  split
  · rfl
  · exact up2_k h o'
theorem rel_0 {S : Mm} {o : Nat} : fX7_release S o o 0 = if S o 0 = 0 then S o 0 else 4 := by
  unfold fX7_release
  split
  · rfl
  · exact up2_h
theorem cgt_n {S : Mm} {o o' : Nat} (h : o' ≠ o) : fX7_closeGate S o o' = S o' := by
  unfold fX7_closeGate
  split
  · rw [up2_n h, rel_n h]
  · rfl
theorem ctg_n {S : Mm} {o o' : Nat} (h : o' ≠ o) : fX7_countGate S o o' = S o' := by
  unfold fX7_countGate
  split
  · rfl
  · rw [up2_n h]
theorem end_k {T : Mm} {p : Int32} {k : Nat} (h : k ≠ p.toNatClampNeg) (j : Nat) : fX10_end T p j k = T j k := by
  unfold fX10_end
  split
  · rfl
  · exact up2_k h j
theorem end_3 {T : Mm} {p : Int32} : fX10_end T p 3 p.toNatClampNeg = if rX11_isIn (T 3 p.toNatClampNeg) 1 3 = 0 then T 3 p.toNatClampNeg else 4 := by
  unfold fX10_end
  split
  · rfl
  · exact up2_h
theorem rel_end {x : Int32} (h : vp_in x 5) : (if x = 0 then x else (4 : Int32)) = (if rX11_isIn x 1 3 = 0 then x else 4) := by
  rcases st_cases h with e | e | e | e | e <;> subst e <;> decide
theorem GC_k {T : Mm} {p : Int32} {k : Nat} (h : k ≠ p.toNatClampNeg) (j : Nat) : GC T p j k = T j k := by
  unfold GC
  split
  · rw [end_k h, up2_k h]
  · rfl
theorem GC_fr {T : Mm} {p : Int32} {j : Nat} (h3 : j ≠ 3) (h12 : j ≠ 12) : GC T p j = T j := by
  unfold GC
  split
  · rw [end_fr h3, up2_n h12]
  · rfl
theorem HC_k {T : Mm} {p : Int32} {k : Nat} (h : k ≠ p.toNatClampNeg) (j : Nat) : HC T p j k = T j k := by
  unfold HC
  split
  · rfl
  · rw [up2_k h]
theorem HC_fr {T : Mm} {p : Int32} {j : Nat} (h12 : j ≠ 12) : HC T p j = T j := by
  unfold HC
  split
  · rfl
  · rw [up2_n h12]
theorem rel_v {B : Int} {S T : Mm} {o v : Nat} {T1 : Mm} (R : RVv B S o T v) (h3 : T1 3 v = if rX11_isIn (T 3 v) 1 3 = 0 then T 3 v else 4) (hk : ∀ k, 4 ≤ k → k ≤ 13 → T1 k v = T k v) : RVv B (fX7_release S o) o T1 v := by
  obtain ⟨R1, R2, R3, R4⟩ := R
  have e0 : fX7_release S o o 0 = T1 3 v := by rw [rel_0, h3, R1 0 (by decide)]; exact rel_end R3
  have ek : ∀ k, 0 < k → k < 10 → fX7_release S o o k = T1 (3 + k) v := fun k h1 h2 => by rw [rel_k (by omega), hk _ (by omega) (by omega)]; exact R1 k h2
  refine ⟨k10 e0 (ek 1 (by decide) (by decide)) (ek 2 (by decide) (by decide)) (ek 3 (by decide) (by decide)) (ek 4 (by decide) (by decide)) (ek 5 (by decide) (by decide)) (ek 6 (by decide) (by decide)) (ek 7 (by decide) (by decide)) (ek 8 (by decide) (by decide)) (ek 9 (by decide) (by decide)), ?_, ?_, by rw [hk 13 (by decide) (by decide)]; exact R4⟩
  · rcases R2 with q | q
    · refine Or.inl ?_
      rw [h3, q]
      decide
    · refine Or.inr ?_
      rw [rel_k (by decide), hk 13 (by decide) (by decide)]
      exact q
  · rw [h3]
    split
    · exact R3
    · exact vp_in_lit (by decide)
theorem cg_step {B : Int} {g v : Nat} {S T : Mm} (hv : v < 4) (R : RVs B g S T) : RVs B g (fX7_closeGate S (g + 4 + v)) (GC T (nI v)) := by
  have hcl : (nI v).toNatClampNeg = v := nI_clamp (by omega)
  refine RVs_step (v := v) (Int.le_refl _) R (fun o' h _ _ => cgt_n h) (fun j u _ _ hu => GC_k (by rw [hcl]; exact hu) j) ?_
  have r9 : S (g + 4 + v) 9 = T 12 v := (R v hv).1 9 (by decide)
  by_cases h : T 12 v = 0
  · have e1 : fX7_closeGate S (g + 4 + v) = up2 (fX7_release S (g + 4 + v)) (g + 4 + v) 9 (-1) := by unfold fX7_closeGate; rw [if_pos (r9.trans h)]
    have e2 : GC T (nI v) = fX10_end (up2 T 12 v (-1)) (nI v) := by unfold GC; rw [hcl, if_pos h]
    have e3 : fX10_end (up2 T 12 v (-1)) (nI v) 3 v = if rX11_isIn (T 3 v) 1 3 = 0 then T 3 v else 4 := by
      have h := end_3 (T := up2 T 12 v (-1)) (p := nI v)
      rw [hcl, up2_n (by decide)] at h
      exact h
    have rv : RVv B (fX7_release S (g + 4 + v)) (g + 4 + v) (up2 (fX10_end (up2 T 12 v (-1)) (nI v)) 12 v (T 12 v)) v := by
      refine rel_v (R v hv) (by rw [up2_n (by decide), e3]) (fun k h1 h2 => ?_)
      by_cases h12 : k = 12
      · subst h12; rw [up2_h]
      · rw [up2_n h12, end_fr (by omega), up2_n h12]
    obtain ⟨a1, a2, a3, a4⟩ := rv
    rw [e1, e2]
    have ek : ∀ k, k < 9 → up2 (fX7_release S (g + 4 + v)) (g + 4 + v) 9 (-1) (g + 4 + v) k = fX10_end (up2 T 12 v (-1)) (nI v) (3 + k) v := fun k h2 => by
      rw [up2_k (by omega), a1 k (by omega), up2_n (by omega)]
    refine ⟨k10 (ek 0 (by decide)) (ek 1 (by decide)) (ek 2 (by decide)) (ek 3 (by decide)) (ek 4 (by decide)) (ek 5 (by decide)) (ek 6 (by decide)) (ek 7 (by decide)) (ek 8 (by decide)) ?_, ?_, ?_, ?_⟩
    · rw [up2_h, end_fr (by decide), up2_h]
    · rw [up2_k (by decide)]
      rw [up2_n (by decide), up2_n (by decide)] at a2
      exact a2
    · rw [up2_n (by decide)] at a3
      exact a3
    · rw [up2_n (by decide)] at a4
      exact a4
  · have e1 : fX7_closeGate S (g + 4 + v) = S := by unfold fX7_closeGate; rw [if_neg (fun q => h (r9.symm.trans q))]
    have e2 : GC T (nI v) = T := by unfold GC; rw [hcl, if_neg h]
    rw [e1, e2]
    exact R v hv
theorem hc_step {B : Int} {g v : Nat} {S T : Mm} (hv : v < 4) (R : RVs B g S T) : RVs B g (fX7_countGate S (g + 4 + v)) (HC T (nI v)) := by
  have hcl : (nI v).toNatClampNeg = v := nI_clamp (by omega)
  refine RVs_step (v := v) (Int.le_refl _) R (fun o' h _ _ => ctg_n h) (fun j u _ _ hu => HC_k (by rw [hcl]; exact hu) j) ?_
  obtain ⟨a1, a2, a3, a4⟩ := R v hv
  have r9 : S (g + 4 + v) 9 = T 12 v := a1 9 (by decide)
  by_cases h : T 12 v ≤ 0
  · have e1 : fX7_countGate S (g + 4 + v) = S := by unfold fX7_countGate; rw [r9, if_pos h]
    have e2 : HC T (nI v) = T := by unfold HC; rw [hcl, if_pos h]
    rw [e1, e2]
    exact R v hv
  · have e1 : fX7_countGate S (g + 4 + v) = up2 S (g + 4 + v) 9 (T 12 v - 1) := by unfold fX7_countGate; rw [r9, if_neg h]
    have e2 : HC T (nI v) = up2 T 12 v (T 12 v - 1) := by unfold HC; rw [hcl, if_neg h]
    rw [e1, e2]
    have ek : ∀ k, k < 9 → up2 S (g + 4 + v) 9 (T 12 v - 1) (g + 4 + v) k = up2 T 12 v (T 12 v - 1) (3 + k) v := fun k h2 => by
      rw [up2_k (by omega), a1 k (by omega), up2_n (by omega)]
    refine ⟨k10 (ek 0 (by decide)) (ek 1 (by decide)) (ek 2 (by decide)) (ek 3 (by decide)) (ek 4 (by decide)) (ek 5 (by decide)) (ek 6 (by decide)) (ek 7 (by decide)) (ek 8 (by decide)) (by rw [up2_h, up2_h]), ?_, ?_, ?_⟩
    · rw [up2_n (o := 12) (o' := 3) (by decide), up2_n (o := 12) (o' := 13) (by decide), up2_k (k := 9) (k' := 10) (by decide)]; exact a2
    · rw [up2_n (by decide)]; exact a3
    · rw [up2_n (by decide)]; exact a4
theorem cgs_eq {B : Int} {g : Nat} {S T : Mm} (R : RVs B g S T) : RVs B g (fX6_closeGates S g) (jX10_goOnTracks_7 T) := by
  have h := cg_step (v := 3) (by decide) (cg_step (v := 2) (by decide) (cg_step (v := 1) (by decide) (cg_step (v := 0) (by decide) R)))
  have e0 : rX6_voiceOf g (0 : Int32) = g + 4 + 0 := rfl
  have e1 : rX6_voiceOf g (1 : Int32) = g + 4 + 1 := rfl
  have e2 : rX6_voiceOf g (2 : Int32) = g + 4 + 2 := rfl
  have e3 : rX6_voiceOf g (3 : Int32) = g + 4 + 3 := rfl
  have eS : fX6_closeGates S g = fX7_closeGate (fX7_closeGate (fX7_closeGate (fX7_closeGate S (g + 4 + 0)) (g + 4 + 1)) (g + 4 + 2)) (g + 4 + 3) := by
    unfold fX6_closeGates mX6_closeGates_2 mX6_closeGates_1
    rw [e0, e1, e2, e3]
  have eT : jX10_goOnTracks_7 T = GC (GC (GC (GC T (nI 0)) (nI 1)) (nI 2)) (nI 3) := by
    unfold jX10_goOnTracks_7 mX10_goOnTracks_6 jX10_goOnTracks_5 mX10_goOnTracks_4 jX10_goOnTracks_3 mX10_goOnTracks_2 jX10_goOnTracks_1 GC
    rfl
  rw [eS, eT]
  exact h
theorem cgs_n {S : Mm} {g o : Nat} (h : o < g + 4 ∨ g + 8 ≤ o) : fX6_closeGates S g o = S o := by
  have e0 : rX6_voiceOf g (0 : Int32) = g + 4 := rfl
  have e1 : rX6_voiceOf g (1 : Int32) = g + 5 := rfl
  have e2 : rX6_voiceOf g (2 : Int32) = g + 6 := rfl
  have e3 : rX6_voiceOf g (3 : Int32) = g + 7 := rfl
  unfold fX6_closeGates mX6_closeGates_2 mX6_closeGates_1
  rw [e0, e1, e2, e3, cgt_n (by omega), cgt_n (by omega), cgt_n (by omega), cgt_n (by omega)]
theorem cng_n {S : Mm} {g o : Nat} (h : o < g + 4 ∨ g + 8 ≤ o) : fX6_countGates S g o = S o := by
  have e0 : rX6_voiceOf g (0 : Int32) = g + 4 := rfl
  have e1 : rX6_voiceOf g (1 : Int32) = g + 5 := rfl
  have e2 : rX6_voiceOf g (2 : Int32) = g + 6 := rfl
  have e3 : rX6_voiceOf g (3 : Int32) = g + 7 := rfl
  unfold fX6_countGates mX6_countGates_2 mX6_countGates_1
  rw [e0, e1, e2, e3, ctg_n (by omega), ctg_n (by omega), ctg_n (by omega), ctg_n (by omega)]
theorem cng_eq {B : Int} {g : Nat} {S T : Mm} (R : RVs B g S T) : RVs B g (fX6_countGates S g) (HC (HC (HC (HC T 0) 1) 2) 3) := by
  have h := hc_step (v := 3) (by decide) (hc_step (v := 2) (by decide) (hc_step (v := 1) (by decide) (hc_step (v := 0) (by decide) R)))
  have e0 : rX6_voiceOf g (0 : Int32) = g + 4 + 0 := rfl
  have e1 : rX6_voiceOf g (1 : Int32) = g + 4 + 1 := rfl
  have e2 : rX6_voiceOf g (2 : Int32) = g + 4 + 2 := rfl
  have e3 : rX6_voiceOf g (3 : Int32) = g + 4 + 3 := rfl
  have eS : fX6_countGates S g = fX7_countGate (fX7_countGate (fX7_countGate (fX7_countGate S (g + 4 + 0)) (g + 4 + 1)) (g + 4 + 2)) (g + 4 + 3) := by
    unfold fX6_countGates mX6_countGates_2 mX6_countGates_1
    rw [e0, e1, e2, e3]
  rw [eS]
  exact h
/-! tracks -/
def KT (S : Mm) (g : Nat) (t : Int32) : Mm := if rX4_pitchOf S t (S g 10) = -1 then S else fX6_startNote S g (rX3_get S 6 t) (rX4_pitchOf S t (S g 10)) (rX4_forceOf S t (S g 10)) (rX4_gateOf S t (S g 10))
def NT (T : Mm) (b t : Int32) : Mm := if T 16 ((b + T 0 25) * 3).toNatClampNeg = -1 then T else fX10_begin T (T 15 t.toNatClampNeg) (T 16 ((b + T 0 25) * 3).toNatClampNeg) (T 16 (((b + T 0 25) * 3) + 1).toNatClampNeg) (T 16 (((b + T 0 25) * 3) + 2).toNatClampNeg)
theorem RVs_w {B B' : Int} {g : Nat} {S T : Mm} (h : RVs B g S T) (hB : B ≤ B') : RVs B' g S T := fun v hv => ⟨(h v hv).1, (h v hv).2.1, (h v hv).2.2.1, rg_w (h v hv).2.2.2 (Int.le_refl _) hB⟩
theorem RQ_w {B B' : Int} {g : Nat} {S T : Mm} (h : RQ B g S T) (hB : B ≤ B') : RQ B' g S T := ⟨h.1, h.2.1, h.2.2.1, h.2.2.2.1, h.2.2.2.2.1, h.2.2.2.2.2.1, rg_w h.2.2.2.2.2.2 (Int.le_refl _) hB⟩
theorem kt_n {S : Mm} {g o : Nat} {t : Int32} (hg : o ≠ g) (h : o < g + 4 ∨ g + 8 ≤ o) : KT S g t o = S o := by
  unfold KT
  split
  · rfl
  · exact sn_n hg h
theorem nt_n {T : Mm} {b t : Int32} {o : Nat} (h0 : o ≠ 0) (h : o < 3 ∨ 13 < o) : NT T b t o = T o := by
  unfold NT
  split
  · rfl
  · exact bg_fr h0 (by omega)
theorem nt_0 {T : Mm} {b t : Int32} {k : Nat} (h13 : k ≠ 13) (h14 : k ≠ 14) : NT T b t 0 k = T 0 k := by
  unfold NT
  split
  · rfl
  · exact bg_0 h13 h14
theorem kt_step {B K : Int} {g t : Nat} {S T : Mm} (hg : 18 ≤ g) (hg2 : g ≤ 26) (ht : t < 3) (hB : B < 1900000000) (h : RSet S T) (R : RVs B g S T) (Q : RQ B g S T) (hD : iD T K) : RSet (KT S g (nI t)) (NT T (nI (8 * t)) (nI t)) ∧ RVs (B + 1) g (KT S g (nI t)) (NT T (nI (8 * t)) (nI t)) ∧ RQ (B + 1) g (KT S g (nI t)) (NT T (nI (8 * t)) (nI t)) ∧ iD (NT T (nI (8 * t)) (nI t)) K ∧ KT S g (nI t) g 11 = S g 11 := by
  obtain ⟨s, hs, es⟩ := vp_in_of hD.2.2.1 (by decide)
  have q6 : S g 10 = nI s := Q.2.2.2.2.2.1.trans es
  have hcl : (nI t).toNatClampNeg = t := nI_clamp (by omega)
  have a0 : ((nI (8 * t) + T 0 25) * 3).toNatClampNeg = 3 * (8 * t + s) := by
    rw [es, nI_add, show (3 : Int32) = nI 3 from rfl, pk_mul, nI_clamp (by omega), Nat.mul_comm]
  have a1 : (((nI (8 * t) + T 0 25) * 3) + 1).toNatClampNeg = 3 * (8 * t + s) + 1 := by
    rw [es, nI_add, show (3 : Int32) = nI 3 from rfl, pk_mul, nI_1, nI_clamp (by omega), Nat.mul_comm]
  have a2 : (((nI (8 * t) + T 0 25) * 3) + 2).toNatClampNeg = 3 * (8 * t + s) + 2 := by
    rw [es, nI_add, show (3 : Int32) = nI 3 from rfl, pk_mul, show (2 : Int32) = nI 2 from rfl, nI_add, nI_clamp (by omega), Nat.mul_comm]
  have ix : (nI t * 8) + nI s = nI (8 * t + s) := by rw [show (8 : Int32) = nI 8 from rfl, pk_mul, nI_add, Nat.mul_comm]
  have w := h.2.2.2.2.1 (8 * t + s) (by omega)
  have p0 : rX4_pitchOf S (nI t) (S g 10) = T 16 ((nI (8 * t) + T 0 25) * 3).toNatClampNeg := by
    unfold rX4_pitchOf
    rw [q6, ix, get_at (N := 24) rfl (by omega), a0]; exact w.1
  have p1 : rX4_forceOf S (nI t) (S g 10) = T 16 (((nI (8 * t) + T 0 25) * 3) + 1).toNatClampNeg := by
    unfold rX4_forceOf
    rw [q6, ix, get_at (N := 24) rfl (by omega), a1]; exact w.2.1
  have p2 : rX4_gateOf S (nI t) (S g 10) = T 16 (((nI (8 * t) + T 0 25) * 3) + 2).toNatClampNeg := by
    unfold rX4_gateOf
    rw [q6, ix, get_at (N := 24) rfl (by omega), a2]; exact w.2.2
  have p3 : rX3_get S 6 (nI t) = T 15 (nI t).toNatClampNeg := by
    rw [get_at (N := 3) rfl ht, hcl]; exact h.2.2.2.1 t ht
  have hset : RSet (KT S g (nI t)) (NT T (nI (8 * t)) (nI t)) := RSet_fr h (fun o ho => kt_n (by omega) (by omega)) (nt_n (by decide) (by decide)) (nt_n (by decide) (by decide)) (nt_n (by decide) (by decide)) (nt_n (by decide) (by decide)) (fun k hk => nt_0 (by omega) (by omega))
  refine ⟨hset, ?_⟩
  by_cases hp : T 16 ((nI (8 * t) + T 0 25) * 3).toNatClampNeg = -1
  · have e1 : KT S g (nI t) = S := by unfold KT; rw [if_pos (p0.trans hp)]
    have e2 : NT T (nI (8 * t)) (nI t) = T := by unfold NT; rw [if_pos hp]
    rw [e1, e2]
    exact ⟨RVs_w R (by omega), RQ_w Q (by omega), hD, rfl⟩
  · have e1 : KT S g (nI t) = fX6_startNote S g (T 15 (nI t).toNatClampNeg) (T 16 ((nI (8 * t) + T 0 25) * 3).toNatClampNeg) (T 16 (((nI (8 * t) + T 0 25) * 3) + 1).toNatClampNeg) (T 16 (((nI (8 * t) + T 0 25) * 3) + 2).toNatClampNeg) := by unfold KT; rw [p0, p1, p2, p3, if_neg hp]
    have e2 : NT T (nI (8 * t)) (nI t) = fX10_begin T (T 15 (nI t).toNatClampNeg) (T 16 ((nI (8 * t) + T 0 25) * 3).toNatClampNeg) (T 16 (((nI (8 * t) + T 0 25) * 3) + 1).toNatClampNeg) (T 16 (((nI (8 * t) + T 0 25) * 3) + 2).toNatClampNeg) := by unfold NT; rw [if_neg hp]
    rw [e1, e2]
    have sn := sn_eq (p1 := T 15 (nI t).toNatClampNeg) (p2 := T 16 ((nI (8 * t) + T 0 25) * 3).toNatClampNeg) (p3 := T 16 (((nI (8 * t) + T 0 25) * 3) + 1).toNatClampNeg) (p4 := T 16 (((nI (8 * t) + T 0 25) * 3) + 2).toNatClampNeg) hB R Q
    exact ⟨sn.2.1, sn.2.2.1, bg_iD hD (by rw [hcl]; exact hD.2.2.2.2.2.1 t ht) (trk hD (8 * t) (by omega) hp), sn.2.2.2⟩
def RLf (g : Nat) (S T : Mm) : Prop := (S g 11 = 0 ∧ T 0 26 = 0) ∨ (∃ p q : Nat, 0 < p ∧ p < q ∧ q < 1000 ∧ T 0 26 = nI p ∧ T 0 27 = nI q ∧ S g 11 = nI (q - p))
def RLm (g : Nat) (S T : Mm) : Prop := (T 0 24 = 0 → RLf g S T) ∧ (¬ T 0 24 = 0 → ∃ p q : Nat, p < q ∧ q < 1000 ∧ T 0 26 = nI p ∧ T 0 27 = nI q ∧ S g 11 = nI (q - p))
theorem RLf_fr {g : Nat} {S S' T T' : Mm} (h : RLf g S T) (hS : S' g 11 = S g 11) (h26 : T' 0 26 = T 0 26) (h27 : T' 0 27 = T 0 27) : RLf g S' T' := by
  unfold RLf
  rw [hS, h26, h27]
  exact h
theorem len_eq {S T : Mm} {x : Int32} (h : RSet S T) : ∃ q : Nat, 0 < q ∧ q < 1000 ∧ rX4_lengthOf S x = nI q ∧ (if x - x / 2 * 2 = 0 then T 0 22 + T 0 23 else T 0 22 - T 0 23) = nI q := by
  obtain ⟨a, b, ha, hb, ea, eb⟩ := h.2.2.2.2.2.2.2.2
  unfold rX4_lengthOf
  rw [h.2.2.2.2.2.1, h.2.2.2.2.2.2.1, ea, eb]
  by_cases c : x - x / 2 * 2 = 0
  · rw [if_pos c, nI_add]
    exact ⟨a + b, by omega, by omega, rfl, rfl⟩
  · rw [if_neg c, pk_sub (by omega)]
    exact ⟨a - b, by omega, by omega, rfl, rfl⟩
theorem ss_6 {C : Mm} {g : Nat} : jX6_startStep_6 C g = KT (up2 C g 11 (rX4_lengthOf C (C g 10))) g (nI 0) := by
  unfold jX6_startStep_6 mX6_startStep_4 vX6_startStep_1 vX6_startStep_2 vX6_startStep_3 KT
  rfl
theorem ss_9 {C : Mm} {g : Nat} : jX6_startStep_9 C g = KT (jX6_startStep_6 C g) g (nI 1) := by
  unfold jX6_startStep_9 mX6_startStep_7 KT
  rfl
theorem ss_12 {C : Mm} {g : Nat} : jX6_startStep_12 C g = KT (jX6_startStep_9 C g) g (nI 2) := by
  unfold jX6_startStep_12 mX6_startStep_10 KT
  rfl
theorem gs_14 {T : Mm} : jX10_goOnTracks_14 T = NT (up2 (jX10_goOnTracks_7 T) 0 27 (jX10_goOnTracks_8 T)) (nI (8 * 0)) (nI 0) := by
  unfold jX10_goOnTracks_14 mX10_goOnTracks_12 vX10_goOnTracks_9 vX10_goOnTracks_10 vX10_goOnTracks_11 NT
  rfl
theorem gs_17 {T : Mm} : jX10_goOnTracks_17 T = NT (jX10_goOnTracks_14 T) (nI (8 * 1)) (nI 1) := by
  unfold jX10_goOnTracks_17 mX10_goOnTracks_15 NT
  rfl
theorem gs_20 {T : Mm} : jX10_goOnTracks_20 T = NT (jX10_goOnTracks_17 T) (nI (8 * 2)) (nI 2) := by
  unfold jX10_goOnTracks_20 mX10_goOnTracks_18 NT
  rfl
theorem gt_eq {B K : Int} {g : Nat} {S T : Mm} (hg : 18 ≤ g) (hg2 : g ≤ 26) (hB : B < 1800000000) (h : RSet S T) (R : RVs B g S T) (Q : RQ B g S T) (hD : iD T K) (hL : RLf g S T) : RSet (jX6_advance_1 S g) (fX10_goOnTracks T) ∧ RVs (B + 3) g (jX6_advance_1 S g) (fX10_goOnTracks T) ∧ RQ (B + 3) g (jX6_advance_1 S g) (fX10_goOnTracks T) ∧ RLm g (jX6_advance_1 S g) (fX10_goOnTracks T) ∧ (∀ o, o ≠ g → o < g + 4 ∨ g + 8 ≤ o → jX6_advance_1 S g o = S o) ∧ (∀ o, o ≠ 0 → o < 3 ∨ 13 < o → fX10_goOnTracks T o = T o) ∧ (∀ k, k ≠ 13 → k ≠ 14 → k ≠ 27 → fX10_goOnTracks T 0 k = T 0 k) := by
  have R1 := cgs_eq R
  have sg : fX6_closeGates S g g = S g := cgs_n (by omega)
  have t0 : jX10_goOnTracks_7 T 0 = T 0 := gt7_fr (by decide) (by decide)
  have Q1 : RQ B g (fX6_closeGates S g) (jX10_goOnTracks_7 T) := RQ_fr Q sg t0
  have h1 : RSet (fX6_closeGates S g) (jX10_goOnTracks_7 T) := RSet_fr h (fun o ho => cgs_n (by omega)) (gt7_fr (by decide) (by decide)) (gt7_fr (by decide) (by decide)) (gt7_fr (by decide) (by decide)) (gt7_fr (by decide) (by decide)) (fun k _ => by rw [t0])
  have D1 : iD (jX10_goOnTracks_7 T) K := iD_fr hD (fun o h3 h12 => gt7_fr h3 h12)
  by_cases c0 : T 0 24 = 0
  · have eS : jX6_advance_1 S g = fX6_closeGates S g := by unfold jX6_advance_1; rw [sg, if_pos (Q.2.2.2.1.trans c0)]
    have eT : fX10_goOnTracks T = jX10_goOnTracks_7 T := by unfold fX10_goOnTracks; rw [t0, if_pos c0]
    rw [eS, eT]
    exact ⟨h1, RVs_w R1 (by omega), RQ_w Q1 (by omega), ⟨fun _ => RLf_fr hL (by rw [sg]) (by rw [t0]) (by rw [t0]), fun hne => absurd (by rw [t0]; exact c0) hne⟩, fun o _ ho => cgs_n ho, fun o h0 ho => gt7_fr (by omega) (by omega), fun k _ _ _ => by rw [t0]⟩
  · have c9 : ¬ S g 9 = 0 := fun q => c0 (Q.2.2.2.1.symm.trans q)
    rcases hL with ⟨l0, p0⟩ | ⟨p, q, hp, hpq, hq, e26, e27, el⟩
    · have eS : jX6_advance_1 S g = jX6_startStep_12 (fX6_closeGates S g) g := by
        unfold jX6_advance_1 fX6_startStep
        rw [sg, if_neg c9, if_pos l0]
      have eT : fX10_goOnTracks T = jX10_goOnTracks_20 T := by
        unfold fX10_goOnTracks
        rw [t0, if_neg c0, p0, if_pos (by decide)]
      obtain ⟨q, hq0, hq1, el, er⟩ := len_eq (x := fX6_closeGates S g g 10) h1
      have e8 : jX10_goOnTracks_8 T = nI q := by
        unfold jX10_goOnTracks_8
        rw [← Q1.2.2.2.2.2.1]
        exact er
      have hU : RSet (up2 (fX6_closeGates S g) g 11 (nI q)) (up2 (jX10_goOnTracks_7 T) 0 27 (nI q)) := RSet_fr h1 (fun o ho => up2_n (by omega)) (up2_n (by decide)) (up2_n (by decide)) (up2_n (by decide)) (up2_n (by decide)) (fun k hk => up2_k (by omega) 0)
      have RU : RVs B g (up2 (fX6_closeGates S g) g 11 (nI q)) (up2 (jX10_goOnTracks_7 T) 0 27 (nI q)) := RVs_fr R1 (fun o' _ _ => up2_n (by omega)) (fun j _ _ => up2_n (by omega))
      have QU : RQ B g (up2 (fX6_closeGates S g) g 11 (nI q)) (up2 (jX10_goOnTracks_7 T) 0 27 (nI q)) := by
        unfold RQ
        rw [up2_k (by decide), up2_k (by decide), up2_k (by decide), up2_k (by decide), up2_k (by decide), up2_k (by decide), up2_k (by decide), up2_k (by decide), up2_k (by decide), up2_k (by decide)]
        exact Q1
      have DU : iD (up2 (jX10_goOnTracks_7 T) 0 27 (nI q)) K := iD_0 D1 (by decide) (by decide) (by decide)
      have s1 := kt_step (t := 0) hg hg2 (by decide) (by omega) hU RU QU DU
      have s2 := kt_step (t := 1) hg hg2 (by decide) (by omega) s1.1 s1.2.1 s1.2.2.1 s1.2.2.2.1
      have s3 := kt_step (t := 2) hg hg2 (by decide) (by omega) s2.1 s2.2.1 s2.2.2.1 s2.2.2.2.1
      have eS2 : jX6_advance_1 S g = KT (KT (KT (up2 (fX6_closeGates S g) g 11 (nI q)) g (nI 0)) g (nI 1)) g (nI 2) := by rw [eS, ss_12, ss_9, ss_6, el]
      have eT2 : fX10_goOnTracks T = NT (NT (NT (up2 (jX10_goOnTracks_7 T) 0 27 (nI q)) (nI (8 * 0)) (nI 0)) (nI (8 * 1)) (nI 1)) (nI (8 * 2)) (nI 2) := by rw [eT, gs_20, gs_17, gs_14, e8]
      have fT : ∀ k, k ≠ 13 → k ≠ 14 → k ≠ 27 → fX10_goOnTracks T 0 k = T 0 k := fun k h13 h14 h27 => by rw [eT2, nt_0 h13 h14, nt_0 h13 h14, nt_0 h13 h14, up2_k h27, t0]
      have f27 : fX10_goOnTracks T 0 27 = nI q := by rw [eT2, nt_0 (by decide) (by decide), nt_0 (by decide) (by decide), nt_0 (by decide) (by decide), up2_h]
      refine ⟨by rw [eS2, eT2]; exact s3.1, by rw [eS2, eT2]; exact RVs_w s3.2.1 (by omega), by rw [eS2, eT2]; exact RQ_w s3.2.2.1 (by omega), ⟨fun hz => absurd ((fT 24 (by decide) (by decide) (by decide)).symm.trans hz) c0, fun _ => ⟨0, q, hq0, hq1, ?_, f27, ?_⟩⟩, fun o h0 ho => ?_, fun o h0 ho => ?_, fT⟩
      · rw [fT 26 (by decide) (by decide) (by decide)]; exact p0
      · rw [eS2, s3.2.2.2.2, s2.2.2.2.2, s1.2.2.2.2, up2_h]; rfl
      · rw [eS2, kt_n h0 ho, kt_n h0 ho, kt_n h0 ho, up2_n h0, cgs_n ho]
      · rw [eT2, nt_n h0 ho, nt_n h0 ho, nt_n h0 ho, up2_n h0, gt7_fr (by omega) (by omega)]
    · have n1 : ¬ S g 11 = 0 := by rw [el]; exact nI_ne0 (by omega) (by omega)
      have eS : jX6_advance_1 S g = fX6_closeGates S g := by unfold jX6_advance_1; rw [sg, if_neg c9, if_neg n1]
      have eT : fX10_goOnTracks T = jX10_goOnTracks_7 T := by unfold fX10_goOnTracks; rw [t0, if_neg c0, e26, if_neg (nI_nle hp (by omega))]
      rw [eS, eT]
      exact ⟨h1, RVs_w R1 (by omega), RQ_w Q1 (by omega), ⟨fun hz => absurd (by rw [t0] at hz; exact hz) c0, fun _ => ⟨p, q, hpq, hq, by rw [t0]; exact e26, by rw [t0]; exact e27, by rw [sg]; exact el⟩⟩, fun o _ ho => cgs_n ho, fun o h0 ho => gt7_fr (by omega) (by omega), fun k _ _ _ => by rw [t0]⟩
