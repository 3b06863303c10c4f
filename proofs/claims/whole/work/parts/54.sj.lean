/-! calls that are taken, there and there: more that is told, notes, tracks -/
theorem RAll_T0 {B K : Int} {S T T' : Mm} {L L' : Int64} (h : RAll B K S L T L') (hT : ∀ o, o < 18 → T' o = T o) : RAll B K S L T' L' :=
  ⟨RA_fr (by decide) h.1 (fun _ _ => rfl) (fun o ho => hT o (by omega)), RMt_fr h.2.1 rfl rfl (hT 17 (by decide)) (fun k _ => by rw [hT 0 (by decide)]), iD_mk h.2.2 (fun o ho => hT o (by omega)) (by rw [hT 0 (by decide)]; exact h.2.2.2.2.1) (by rw [hT 0 (by decide)]; exact h.2.2.2.2.2.1) (by rw [hT 0 (by decide)]; exact h.2.2.2.2.2.2.1)⟩
theorem setGain_ok {B K : Int} {S T : Mm} {L L' : Int64} {p1 : Int32} (h : RAll B K S L T L') : rX9_setGain S p1 = T 0 15 ∧ RAll B K (fX9_setGain S p1) L (up2 T 0 15 p1) L' := by
  obtain ⟨hA, hM, hD⟩ := h
  obtain ⟨a1, a2, a3, a4, a5, a6, a7, a8, a9⟩ := hA.1
  refine ⟨a8, RA_set hA ⟨RW_fr (up2_n (by decide)) (up2_n (by decide)) a1, fun k hk => ?_, fun i hi k hk => ?_, fun t ht => ?_, fun k hk => ?_, ?_, ?_, ?_, ?_⟩ (fun o q1 q2 => up2_n (by omega)) (fun o q1 q2 => up2_n (by omega)) (fun k hk => up2_k (by omega) 0), RMt_fr hM (up2_n (by decide)) (up2_n (by decide)) (up2_n (by decide)) (fun k hk => up2_k (by omega) 0), iD_0 hD (by decide) (by decide) (by decide)⟩
  · unfold fX9_setGain; rw [up2_n (by decide)]; exact a2 k hk
  · unfold fX9_setGain; rw [up2_n (by omega), up2_n (by decide)]; exact a3 i hi k hk
  · unfold fX9_setGain; rw [up2_n (by decide), up2_n (by decide)]; exact a4 t ht
  · unfold fX9_setGain; rw [up2_n (by decide), up2_n (by decide), up2_n (by decide), up2_n (by decide)]; exact a5 k hk
  · unfold fX9_setGain; rw [up2_n (by decide), up2_k (by decide)]; exact a6
  · unfold fX9_setGain; rw [up2_n (by decide), up2_k (by decide)]; exact a7
  · unfold fX9_setGain; rw [up2_h, up2_h]
  · rw [up2_k (by decide), up2_k (by decide)]; exact a9
theorem fill_n {S : Mm} {o : Nat} {x : Int32} {q : Nat} (h : q ≠ o + 1) : ∀ i, lpX3_fill_2 S o x i q = S q := by
  intro i
  induction i with
  | zero => rw [lpX3_fill_2_0]
  | succ i ih =>
    rw [lpX3_fill_2_s]
    unfold bX3_fill_2_zS
    rw [up2_n h, ih]
theorem fill_v {S : Mm} {o : Nat} {x : Int32} : ∀ i, i ≤ 1000 → ∀ k, k < i → lpX3_fill_2 S o x i (o + 1) k = x := by
  intro i
  induction i with
  | zero => intro _ k hk; omega
  | succ i ih =>
    intro h k hk
    rw [lpX3_fill_2_s]
    unfold bX3_fill_2_zS
    rw [nI_clamp (by omega)]
    by_cases e : k = i
    · subst e; rw [up2_h]
    · rw [up2_k e, ih (by omega) k (by omega)]
theorem sd_n {T : Mm} {p1 p2 p3 : Int32} {q : Nat} (h : q ≠ 14) : ∀ i, lpX11_setDelay_80 T p1 p2 p3 i q = lpX11_setDelay_80 T p1 p2 p3 0 q := by
  intro i
  induction i with
  | zero => rfl
  | succ i ih =>
    rw [lpX11_setDelay_80_s]
    unfold bX11_setDelay_80_zS
    rw [up2_n h, ih]
theorem sd_v {T : Mm} {p1 p2 p3 : Int32} : ∀ i, i ≤ 1000 → ∀ k, k < i → lpX11_setDelay_80 T p1 p2 p3 i 14 k = 0 := by
  intro i
  induction i with
  | zero => intro _ k hk; omega
  | succ i ih =>
    intro h k hk
    rw [lpX11_setDelay_80_s]
    unfold bX11_setDelay_80_zS
    rw [nI_clamp (by omega)]
    by_cases e : k = i
    · subst e; rw [up2_h]
    · rw [up2_k e, ih (by omega) k (by omega)]
theorem setDelay_ok {B K : Int} {S T : Mm} {L L' : Int64} {p1 p2 p3 : Int32} (h : RAll B K S L T L') (h1 : rg p1 0 200) : rX9_setDelay S p1 p2 p3 = T 0 16 ∧ RAll B K (fX9_setDelay S p1 p2 p3) L (lpX11_setDelay_80 T p1 p2 p3 ((200 : Int32).toNatClampNeg)) L' := by
  have k200 : (200 : Int32).toNatClampNeg = 200 := by decide
  have kr : (Int32.ofNat (rowN 20)).toNatClampNeg = 200 := by decide
  rw [k200]
  obtain ⟨⟨hset, hR, hQ, hL, hDl⟩, hM, hD⟩ := h
  have t0 : ∀ k, k ≠ 16 → k ≠ 17 → k ≠ 18 → lpX11_setDelay_80 T p1 p2 p3 200 0 k = T 0 k := fun k h1 h2 h3 => by
    rw [sd_n (by decide), lpX11_setDelay_80_0, up2_k h3, up2_k h2, up2_k h1, up2_n (by decide)]
  have to : ∀ o, o ≠ 0 → o ≠ 14 → o ≠ 18 → lpX11_setDelay_80 T p1 p2 p3 200 o = T o := fun o h1 h2 h3 => by
    rw [sd_n h2, lpX11_setDelay_80_0, up2_n h1, up2_n h1, up2_n h1, up2_n h3]
  have t16 : lpX11_setDelay_80 T p1 p2 p3 200 0 16 = p1 := by rw [sd_n (by decide), lpX11_setDelay_80_0, up2_k (by decide), up2_k (by decide), up2_h]
  have t17 : lpX11_setDelay_80 T p1 p2 p3 200 0 17 = p2 := by rw [sd_n (by decide), lpX11_setDelay_80_0, up2_k (by decide), up2_h]
  have t18 : lpX11_setDelay_80 T p1 p2 p3 200 0 18 = p3 := by rw [sd_n (by decide), lpX11_setDelay_80_0, up2_h]
  have ef : fX9_setDelay S p1 p2 p3 = lpX3_fill_2 (up2 (up2 (up2 (up2 S 19 0 p1) 19 1 p2) 19 2 p3) 19 3 0) 20 0 200 := by
    unfold fX9_setDelay fX0_tell mX0_tell_1 fX3_fill
    rw [kr]
  have so : ∀ o, o ≠ 19 → o ≠ 21 → fX9_setDelay S p1 p2 p3 o = S o := fun o h1 h2 => by
    rw [ef, fill_n (by omega), up2_n h1, up2_n h1, up2_n h1, up2_n h1]
  obtain ⟨n, hn, hn2, en⟩ := rg_nI h1
  refine ⟨hDl.1, ⟨RSet_fr hset (fun o ho => so o (by omega) (by omega)) (to 1 (by decide) (by decide) (by decide)) (to 2 (by decide) (by decide) (by decide)) (to 15 (by decide) (by decide) (by decide)) (to 16 (by decide) (by decide) (by decide)) (fun k hk => t0 k (by omega) (by omega) (by omega)), ?_, ?_, RLf_fr hL (by rw [so 18 (by decide) (by decide)]) (t0 26 (by decide) (by decide) (by decide)) (t0 27 (by decide) (by decide) (by decide)), ?_⟩, RMt_fr hM (so _ (by decide) (by decide)) (so _ (by decide) (by decide)) (to 17 (by decide) (by decide) (by decide)) (fun k hk => t0 k (by omega) (by omega) (by omega)), iD_mk hD (fun o ho => to o (by omega) (by omega) (by omega)) (by rw [t0 25 (by decide) (by decide) (by decide)]; exact hD.2.2.1) (by rw [t16]; exact h1) (by rw [t0 28 (by decide) (by decide) (by decide)]; exact hD.2.2.2.2.1)⟩
  · intro u hu
    obtain ⟨q1, q2, q3, q4⟩ := hR u hu
    have hs : fX9_setDelay S p1 p2 p3 (18 + 4 + u) = S (18 + 4 + u) := so _ (by omega) (by omega)
    refine ⟨fun k hk => ?_, ?_, ?_, ?_⟩
    · rw [hs, to _ (by omega) (by omega) (by omega)]; exact q1 k hk
    · rw [hs, to 3 (by decide) (by decide) (by decide), to 13 (by decide) (by decide) (by decide)]; exact q2
    · rw [to 3 (by decide) (by decide) (by decide)]; exact q3
    · rw [to 13 (by decide) (by decide) (by decide)]; exact q4
  · unfold RQ
    rw [so 18 (by decide) (by decide), t0 28 (by decide) (by decide) (by decide), t0 13 (by decide) (by decide) (by decide), t0 14 (by decide) (by decide) (by decide), t0 24 (by decide) (by decide) (by decide), t0 25 (by decide) (by decide) (by decide)]
    exact hQ
  · have s19 : ∀ k, fX9_setDelay S p1 p2 p3 (18 + 1) k = up2 (up2 (up2 (up2 S 19 0 p1) 19 1 p2) 19 2 p3) 19 3 0 19 k := fun k => by rw [ef, fill_n (by decide)]
    have s21 : ∀ k, k < 200 → fX9_setDelay S p1 p2 p3 (18 + 3) k = 0 := fun k hk => by rw [ef]; exact fill_v 200 (by decide) k hk
    refine ⟨?_, ?_, ?_, n, 0, by omega, t16.trans en, ?_, ?_, fun k hk => ?_⟩
    · rw [s19, up2_k (by decide), up2_k (by decide), up2_k (by decide), up2_h, t16]
    · rw [s19, up2_k (by decide), up2_k (by decide), up2_h, t17]
    · rw [s19, up2_k (by decide), up2_h, t18]
    · rw [s19, up2_h]; rfl
    · rcases Nat.eq_zero_or_pos n with e | e
      · exact Or.inr ⟨e, rfl⟩
      · exact Or.inl e
    · rw [sd_v 200 (by decide) k (by omega), if_pos (by omega), s21 _ (by omega)]
theorem begin_ok {B K : Int} {S T : Mm} {L L' : Int64} {p1 p2 p3 : Int32} (hB : B < 1800000000) (h : RAll B K S L T L') (h1 : vp_in p1 4) (h2 : vp_in p2 48) : rX9_begin S p1 p2 p3 = rX10_begin T p1 p2 p3 (-1) ∧ RAll (B + 1) K (fX9_begin S p1 p2 p3) L (fX10_begin T p1 p2 p3 (-1)) L' := by
  obtain ⟨⟨hset, hR, hQ, hL, hDl⟩, hM, hD⟩ := h
  have sn := sn_eq (p1 := p1) (p2 := p2) (p3 := p3) (p4 := -1) (by omega) hR hQ
  unfold rX9_begin fX9_begin
  refine ⟨sn.1, ⟨RSet_fr hset (fun o ho => sn_n (by omega) (by omega)) (bg_fr (by decide) (by decide)) (bg_fr (by decide) (by decide)) (bg_fr (by decide) (by decide)) (bg_fr (by decide) (by decide)) (fun k hk => bg_0 (by omega) (by omega)), sn.2.1, sn.2.2.1, RLf_fr hL sn.2.2.2 (bg_0 (by decide) (by decide)) (bg_0 (by decide) (by decide)), RDl_fr hDl (sn_n (by decide) (by decide)) (sn_n (by decide) (by decide)) (bg_fr (by decide) (by decide)) (fun k hk => bg_0 (by omega) (by omega))⟩, RMt_fr hM (sn_n (by decide) (by decide)) (sn_n (by decide) (by decide)) (bg_fr (by decide) (by decide)) (fun k hk => bg_0 (by omega) (by omega)), bg_iD hD h1 h2⟩
theorem end_ok {B K : Int} {S T : Mm} {L L' : Int64} {p1 : Int32} (h : RAll B K S L T L') (h1 : vp_in p1 4) : rX9_end S p1 = T 3 p1.toNatClampNeg ∧ RAll B K (fX9_end S p1) L (fX10_end T p1) L' := by
  obtain ⟨v, hv, e⟩ := vp_in_of h1 (by decide)
  subst e
  have hcl : (nI v).toNatClampNeg = v := nI_clamp (by omega)
  obtain ⟨⟨hset, hR, hQ, hL, hDl⟩, hM, hD⟩ := h
  have e3 : fX10_end T (nI v) 3 v = if rX11_isIn (T 3 v) 1 3 = 0 then T 3 v else 4 := by
    have q := end_3 (T := T) (p := nI v)
    rw [hcl] at q
    exact q
  have eS : fX9_end S (nI v) = fX7_release S (18 + 4 + v) := by unfold fX9_end; rw [vo_n hv]
  rw [eS]
  refine ⟨?_, ⟨RSet_fr hset (fun o ho => rel_n (by omega)) (end_fr (by decide)) (end_fr (by decide)) (end_fr (by decide)) (end_fr (by decide)) (fun k hk => by rw [end_fr (by decide)]), RVs_step (v := v) (Int.le_refl _) hR (fun o' q1 _ _ => rel_n q1) (fun j u _ _ hu => end_k (by rw [hcl]; exact hu) j) (rel_v (hR v hv) e3 (fun k q1 q2 => by rw [end_fr (by omega)])), RQ_fr hQ (rel_n (by omega)) (end_fr (by decide)), RLf_fr hL (by rw [rel_n (by omega)]) (by rw [end_fr (by decide)]) (by rw [end_fr (by decide)]), RDl_fr hDl (rel_n (by omega)) (rel_n (by omega)) (end_fr (by decide)) (fun k hk => by rw [end_fr (by decide)])⟩, RMt_fr hM (rel_n (by omega)) (rel_n (by omega)) (end_fr (by decide)) (fun k hk => by rw [end_fr (by decide)]), iD_fr hD (fun o h3 h12 => end_fr h3)⟩
  unfold rX9_end
  rw [vo_n hv, hcl]
  exact (hR v hv).1 0 (by decide)
theorem sounding_ok {B : Int} {g : Nat} {S T : Mm} (h : RVs B g S T) : rX6_countSounding S g = rX10_sounding T := by
  have k0 : (0 : Int32).toNatClampNeg = 0 := by decide
  have k1 : (1 : Int32).toNatClampNeg = 1 := by decide
  have k2 : (2 : Int32).toNatClampNeg = 2 := by decide
  have k3 : (3 : Int32).toNatClampNeg = 3 := by decide
  have e0 : S (rX6_voiceOf g (0 : Int32)) 0 = T 3 0 := (h 0 (by decide)).1 0 (by decide)
  have e1 : S (rX6_voiceOf g (1 : Int32)) 0 = T 3 1 := (h 1 (by decide)).1 0 (by decide)
  have e2 : S (rX6_voiceOf g (2 : Int32)) 0 = T 3 2 := (h 2 (by decide)).1 0 (by decide)
  have e3 : S (rX6_voiceOf g (3 : Int32)) 0 = T 3 3 := (h 3 (by decide)).1 0 (by decide)
  unfold rX6_countSounding jX6_countSounding_4 jX6_countSounding_3 jX6_countSounding_2 jX6_countSounding_1 rX10_sounding jX10_sounding_1 jX10_sounding_2 jX10_sounding_3 jX10_sounding_4
  rw [e0, e1, e2, e3, k0, k1, k2, k3]
  by_cases a : T 3 0 = 0 <;> by_cases b : T 3 1 = 0 <;> by_cases c : T 3 2 = 0 <;> by_cases d : T 3 3 = 0 <;> simp only [a, b, c, d, if_true, if_false] <;> rfl
def SC (T : Mm) (v : Nat) : Mm := up2 (up2 (up2 T 3 v 0) 4 v 0) 12 v (-1)
theorem sl_n {S : Mm} {o o' : Nat} (h : o' ≠ o) : fX7_silence S o o' = S o' := by
  unfold fX7_silence
  rw [up2_n h, up2_n h, up2_n h]
theorem SC_n {T : Mm} {v o : Nat} (h3 : o ≠ 3) (h4 : o ≠ 4) (h12 : o ≠ 12) : SC T v o = T o := by
  unfold SC
  rw [up2_n h12, up2_n h4, up2_n h3]
theorem sl_step {B : Int} {g v : Nat} {S T : Mm} (hv : v < 4) (R : RVs B g S T) : RVs B g (fX7_silence S (g + 4 + v)) (SC T v) := by
  refine RVs_step (v := v) (Int.le_refl _) R (fun o' h _ _ => sl_n h) (fun j u _ _ hu => by unfold SC; rw [up2_k hu, up2_k hu, up2_k hu]) ?_
  obtain ⟨a1, a2, a3, a4⟩ := R v hv
  have c3 : SC T v 3 v = 0 := by unfold SC; rw [up2_n (by decide), up2_n (by decide), up2_h]
  have c13 : SC T v 13 = T 13 := SC_n (by decide) (by decide) (by decide)
  refine ⟨k10 ?_ ?_ ?_ ?_ ?_ ?_ ?_ ?_ ?_ ?_, Or.inl c3, by rw [c3]; exact vp_in_lit (by decide), by rw [c13]; exact a4⟩
  · unfold fX7_silence; rw [up2_k (by decide), up2_k (by decide), up2_h]; exact c3.symm
  · unfold fX7_silence SC; rw [up2_k (k := 9) (by decide), up2_h, up2_n (by decide), up2_h]
  · unfold fX7_silence; rw [up2_k (by decide), up2_k (by decide), up2_k (by decide), SC_n (by decide) (by decide) (by decide)]; exact a1 2 (by decide)
  · unfold fX7_silence; rw [up2_k (by decide), up2_k (by decide), up2_k (by decide), SC_n (by decide) (by decide) (by decide)]; exact a1 3 (by decide)
  · unfold fX7_silence; rw [up2_k (by decide), up2_k (by decide), up2_k (by decide), SC_n (by decide) (by decide) (by decide)]; exact a1 4 (by decide)
  · unfold fX7_silence; rw [up2_k (by decide), up2_k (by decide), up2_k (by decide), SC_n (by decide) (by decide) (by decide)]; exact a1 5 (by decide)
  · unfold fX7_silence; rw [up2_k (by decide), up2_k (by decide), up2_k (by decide), SC_n (by decide) (by decide) (by decide)]; exact a1 6 (by decide)
  · unfold fX7_silence; rw [up2_k (by decide), up2_k (by decide), up2_k (by decide), SC_n (by decide) (by decide) (by decide)]; exact a1 7 (by decide)
  · unfold fX7_silence; rw [up2_k (by decide), up2_k (by decide), up2_k (by decide), SC_n (by decide) (by decide) (by decide)]; exact a1 8 (by decide)
  · unfold fX7_silence SC; rw [up2_h]; exact up2_h.symm
theorem hush_ok {B K : Int} {S T : Mm} {L L' : Int64} (h : RAll B K S L T L') : rX9_hush S = rX11_hush T ∧ RAll B K (fX9_hush S) L (fX11_hush T) L' := by
  obtain ⟨⟨hset, hR, hQ, hL, hDl⟩, hM, hD⟩ := RAll_18 h 0
  have st := sl_step (v := 3) (by decide) (sl_step (v := 2) (by decide) (sl_step (v := 1) (by decide) (sl_step (v := 0) (by decide) hR)))
  have eS : fX9_hush S = fX7_silence (fX7_silence (fX7_silence (fX7_silence S (18 + 4 + 0)) (18 + 4 + 1)) (18 + 4 + 2)) (18 + 4 + 3) := by
    unfold fX9_hush mX9_hush_2 mX9_hush_1
    rfl
  have eT : fX11_hush T = SC (SC (SC (SC (up2 T 18 0 0) 0) 1) 2) 3 := by
    have k0 : (0 : Int32).toNatClampNeg = 0 := by decide
    have k1 : (1 : Int32).toNatClampNeg = 1 := by decide
    have k2 : (2 : Int32).toNatClampNeg = 2 := by decide
    have k3 : (3 : Int32).toNatClampNeg = 3 := by decide
    unfold fX11_hush mX11_hush_6 mX11_hush_5 mX11_hush_4 mX11_hush_3 mX11_hush_2 mX11_hush_1 SC
    rw [k0, k1, k2, k3]
  have so : ∀ o, o < 22 ∨ 25 < o → fX9_hush S o = S o := fun o ho => by
    rw [eS, sl_n (by omega), sl_n (by omega), sl_n (by omega), sl_n (by omega)]
  have to : ∀ o, o ≠ 3 → o ≠ 4 → o ≠ 12 → fX11_hush T o = up2 T 18 0 0 o := fun o h3 h4 h12 => by
    rw [eT, SC_n h3 h4 h12, SC_n h3 h4 h12, SC_n h3 h4 h12, SC_n h3 h4 h12]
  refine ⟨?_, ⟨RSet_fr hset (fun o ho => so o (by omega)) (to 1 (by decide) (by decide) (by decide)) (to 2 (by decide) (by decide) (by decide)) (to 15 (by decide) (by decide) (by decide)) (to 16 (by decide) (by decide) (by decide)) (fun k hk => by rw [to 0 (by decide) (by decide) (by decide)]), by rw [eS, eT]; exact st, RQ_fr hQ (so 18 (by decide)) (to 0 (by decide) (by decide) (by decide)), RLf_fr hL (by rw [so 18 (by decide)]) (by rw [to 0 (by decide) (by decide) (by decide)]) (by rw [to 0 (by decide) (by decide) (by decide)]), RDl_fr hDl (so _ (by decide)) (so _ (by decide)) (to 14 (by decide) (by decide) (by decide)) (fun k hk => by rw [to 0 (by decide) (by decide) (by decide)])⟩, RMt_fr hM (so _ (by decide)) (so _ (by decide)) (to 17 (by decide) (by decide) (by decide)) (fun k hk => by rw [to 0 (by decide) (by decide) (by decide)]), iD_mk hD (fun o ho => to o (by omega) (by omega) (by omega)) (by rw [to 0 (by decide) (by decide) (by decide)]; exact hD.2.2.1) (by rw [to 0 (by decide) (by decide) (by decide)]; exact hD.2.2.2.1) (by rw [to 0 (by decide) (by decide) (by decide)]; exact hD.2.2.2.2.1)⟩
  unfold rX9_hush rX11_hush
  exact sounding_ok hR
