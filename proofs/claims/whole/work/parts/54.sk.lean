/-! calls that are taken, there and there: tracks, tempo, playing -/
theorem tr_ok {B K : Int} {S S' T T' : Mm} {L L' : Int64} (h : RAll B K S L T L') (hS : ∀ o, o ≠ 7 → o ≠ 9 → o ≠ 11 → o ≠ 13 → S' o = S o) (hT : ∀ o, o < 18 → o ≠ 15 → o ≠ 16 → T' o = T o) (h15 : ∀ t, t < 3 → S' 7 t = T' 15 t ∧ vp_in (T' 15 t) 4) (h16 : ∀ k, k < 24 → (S' 9 k = T' 16 (3 * k) ∧ S' 11 k = T' 16 (3 * k + 1) ∧ S' 13 k = T' 16 (3 * k + 2)) ∧ (T' 16 (3 * k) = -1 ∨ vp_in (T' 16 (3 * k)) 48)) : RAll B K S' L T' L' := by
  obtain ⟨hA, hM, hD⟩ := h
  obtain ⟨a1, a2, a3, a4, a5, a6, a7, a8, a9⟩ := hA.1
  have t0 : T' 0 = T 0 := hT 0 (by decide) (by decide) (by decide)
  refine ⟨RA_set hA ⟨RW_fr (hS 4 (by decide) (by decide) (by decide) (by decide)) (hT 1 (by decide) (by decide) (by decide)) a1, fun k hk => by rw [hS 37 (by decide) (by decide) (by decide) (by decide)]; exact a2 k hk, fun i hi k hk => by rw [hS _ (by omega) (by omega) (by omega) (by omega), hT 2 (by decide) (by decide) (by decide)]; exact a3 i hi k hk, fun t ht => (h15 t ht).1, fun k hk => (h16 k hk).1, by rw [hS 5 (by decide) (by decide) (by decide) (by decide), hS 1 (by decide) (by decide) (by decide) (by decide), t0]; exact ⟨a6, a7, a8, a9⟩⟩ (fun o q1 q2 => hS o (by omega) (by omega) (by omega) (by omega)) (fun o q1 q2 => hT o (by omega) (by omega) (by omega)) (fun k _ => by rw [t0]), RMt_fr hM (hS _ (by decide) (by decide) (by decide) (by decide)) (hS _ (by decide) (by decide) (by decide) (by decide)) (hT 17 (by decide) (by decide) (by decide)) (fun k _ => by rw [t0]), ?_⟩
  obtain ⟨d1, d2, d3, d4, d5, d6, d7⟩ := hD
  refine ⟨fun v hv => ?_, fun i hi => iJ_fr (hT 2 (by decide) (by decide) (by decide)) (d2 i hi), by rw [t0]; exact d3, by rw [t0]; exact d4, by rw [t0]; exact d5, fun t ht => (h15 t ht).2, fun k hk => (h16 k hk).2⟩
  have q := d1 v hv
  unfold iV at q ⊢
  rw [hT 5 (by decide) (by decide) (by decide), hT 6 (by decide) (by decide) (by decide), hT 8 (by decide) (by decide) (by decide), hT 9 (by decide) (by decide) (by decide)]
  exact q
theorem setTrack_ok {B K : Int} {S T : Mm} {L L' : Int64} {p1 p2 : Int32} (h : RAll B K S L T L') (h1 : vp_in p1 3) (h2 : vp_in p2 4) : rX9_setTrack S p1 p2 = T 15 p1.toNatClampNeg ∧ RAll B K (fX9_setTrack S p1 p2) L (up2 T 15 p1.toNatClampNeg p2) L' := by
  obtain ⟨j, hj, e⟩ := vp_in_of h1 (by decide)
  subst e
  rw [nI_clamp (by omega)]
  have ef : fX9_setTrack S (nI j) p2 = up2 S 7 j p2 := by
    unfold fX9_setTrack
    rw [put_at (N := 3) rfl hj]
  refine ⟨?_, ?_⟩
  · unfold rX9_setTrack
    rw [get_at (N := 3) rfl hj]
    exact h.1.1.2.2.2.1 j hj
  · rw [ef]
    refine tr_ok h (fun o q1 _ _ _ => up2_n q1) (fun o _ q1 _ => up2_n q1) (fun t ht => ?_) (fun k hk => ?_)
    · by_cases q : t = j
      · subst q; rw [up2_h, up2_h]; exact ⟨rfl, h2⟩
      · rw [up2_k q, up2_k q]; exact ⟨h.1.1.2.2.2.1 t ht, h.2.2.2.2.2.2.2.1 t ht⟩
    · rw [up2_n (by decide), up2_n (by decide), up2_n (by decide), up2_n (by decide)]
      exact ⟨h.1.1.2.2.2.2.1 k hk, h.2.2.2.2.2.2.2.2 k hk⟩
theorem note_f {S : Mm} {t s : Nat} {a b c : Int32} (ht : t < 3) (hs : s < 8) : fX4_note S (nI t) (nI s) a b c = up2 (up2 (up2 S 9 (8 * t + s) a) 11 (8 * t + s) b) 13 (8 * t + s) c := by
  have ix : (nI t * 8) + nI s = nI (8 * t + s) := by rw [show (8 : Int32) = nI 8 from rfl, pk_mul, nI_add, Nat.mul_comm]
  unfold fX4_note mX4_note_1
  rw [ix, put_at (N := 24) rfl (by omega), put_at (N := 24) rfl (by omega), put_at (N := 24) rfl (by omega)]
theorem note_ok {B K : Int} {S T : Mm} {L L' : Int64} {t s : Nat} {a b c : Int32} (h : RAll B K S L T L') (ht : t < 3) (hs : s < 8) (ha : a = -1 ∨ vp_in a 48) : RAll B K (fX4_note S (nI t) (nI s) a b c) L (up2 (up2 (up2 T 16 (3 * (8 * t + s)) a) 16 (3 * (8 * t + s) + 1) b) 16 (3 * (8 * t + s) + 2) c) L' := by
  rw [note_f ht hs]
  refine tr_ok h (fun o _ q1 q2 q3 => by rw [up2_n q3, up2_n q2, up2_n q1]) (fun o _ _ q1 => by rw [up2_n q1, up2_n q1, up2_n q1]) (fun t ht => ?_) (fun k hk => ?_)
  · rw [up2_n (by decide), up2_n (by decide), up2_n (by decide), up2_n (by decide), up2_n (by decide), up2_n (by decide)]
    exact ⟨h.1.1.2.2.2.1 t ht, h.2.2.2.2.2.2.2.1 t ht⟩
  · by_cases q : k = 8 * t + s
    · subst q
      have e9 : up2 (up2 (up2 S 9 (8 * t + s) a) 11 (8 * t + s) b) 13 (8 * t + s) c 9 (8 * t + s) = a := by rw [up2_n (by decide), up2_n (by decide), up2_h]
      have e11 : up2 (up2 (up2 S 9 (8 * t + s) a) 11 (8 * t + s) b) 13 (8 * t + s) c 11 (8 * t + s) = b := by rw [up2_n (by decide), up2_h]
      have e13 : up2 (up2 (up2 S 9 (8 * t + s) a) 11 (8 * t + s) b) 13 (8 * t + s) c 13 (8 * t + s) = c := up2_h
      have f0 : up2 (up2 (up2 T 16 (3 * (8 * t + s)) a) 16 (3 * (8 * t + s) + 1) b) 16 (3 * (8 * t + s) + 2) c 16 (3 * (8 * t + s)) = a := by rw [up2_k (by omega), up2_k (by omega), up2_h]
      have f1 : up2 (up2 (up2 T 16 (3 * (8 * t + s)) a) 16 (3 * (8 * t + s) + 1) b) 16 (3 * (8 * t + s) + 2) c 16 (3 * (8 * t + s) + 1) = b := by rw [up2_k (by omega), up2_h]
      have f2 : up2 (up2 (up2 T 16 (3 * (8 * t + s)) a) 16 (3 * (8 * t + s) + 1) b) 16 (3 * (8 * t + s) + 2) c 16 (3 * (8 * t + s) + 2) = c := up2_h
      rw [e9, e11, e13, f0, f1, f2]
      exact ⟨⟨rfl, rfl, rfl⟩, ha⟩
    · have eS : ∀ o, up2 (up2 (up2 S 9 (8 * t + s) a) 11 (8 * t + s) b) 13 (8 * t + s) c o k = S o k := fun o => by rw [up2_k q, up2_k q, up2_k q]
      have eT : ∀ d, d < 3 → up2 (up2 (up2 T 16 (3 * (8 * t + s)) a) 16 (3 * (8 * t + s) + 1) b) 16 (3 * (8 * t + s) + 2) c 16 (3 * k + d) = T 16 (3 * k + d) := fun d hd => by rw [up2_k (by omega), up2_k (by omega), up2_k (by omega)]
      have eT0 : up2 (up2 (up2 T 16 (3 * (8 * t + s)) a) 16 (3 * (8 * t + s) + 1) b) 16 (3 * (8 * t + s) + 2) c 16 (3 * k) = T 16 (3 * k) := eT 0 (by decide)
      rw [eS, eS, eS, eT0, eT 1 (by decide), eT 2 (by decide)]
      exact ⟨h.1.1.2.2.2.2.1 k hk, h.2.2.2.2.2.2.2.2 k hk⟩
theorem ix3 {t s : Nat} (ht : t < 3) (hs : s < 8) : (((nI t * 8) + nI s) * 3).toNatClampNeg = 3 * (8 * t + s) ∧ ((((nI t * 8) + nI s) * 3) + 1).toNatClampNeg = 3 * (8 * t + s) + 1 ∧ ((((nI t * 8) + nI s) * 3) + 2).toNatClampNeg = 3 * (8 * t + s) + 2 := by
  have e : ((nI t * 8) + nI s) * 3 = nI (3 * (8 * t + s)) := by
    rw [show (8 : Int32) = nI 8 from rfl, pk_mul, nI_add, show (3 : Int32) = nI 3 from rfl, pk_mul, Nat.mul_comm t 8, Nat.mul_comm _ 3]
  rw [e]
  refine ⟨nI_clamp (by omega), ?_, ?_⟩
  · rw [nI_1, nI_clamp (by omega)]
  · rw [show (2 : Int32) = nI 2 from rfl, nI_add, nI_clamp (by omega)]
theorem write_ok {B K : Int} {S T : Mm} {L L' : Int64} {p1 p2 p3 p4 p5 : Int32} (h : RAll B K S L T L') (h1 : vp_in p1 3) (h2 : vp_in p2 8) (h3 : p3 = -1 ∨ vp_in p3 48) : rX9_write S p1 p2 p3 p4 p5 = up2 T 18 0 0 16 (((p1 * 8) + p2) * 3).toNatClampNeg ∧ RAll B K (fX9_write S p1 p2 p3 p4 p5) L (if p3 = (-1) then (mX11_write_2 T p1 p2 p3 p4 p5) else (mX11_write_4 T p1 p2 p3 p4 p5)) L' := by
  obtain ⟨t, ht, e⟩ := vp_in_of h1 (by decide)
  obtain ⟨s, hs, e2⟩ := vp_in_of h2 (by decide)
  subst e
  subst e2
  obtain ⟨i0, i1, i2⟩ := ix3 ht hs
  refine ⟨?_, ?_⟩
  · have ix : (nI t * 8) + nI s = nI (8 * t + s) := by rw [show (8 : Int32) = nI 8 from rfl, pk_mul, nI_add, Nat.mul_comm]
    unfold rX9_write rX4_pitchOf
    rw [i0, up2_n (by decide), ix, get_at (N := 24) rfl (by omega)]
    exact (h.1.1.2.2.2.2.1 _ (by omega)).1
  · by_cases q : p3 = -1
    · rw [if_pos q]
      unfold fX9_write
      rw [if_pos q]
      unfold mX11_write_2 mX11_write_1
      rw [i0, i1, i2, q]
      exact note_ok (RAll_18 h 0) ht hs (Or.inl rfl)
    · rw [if_neg q]
      unfold fX9_write
      rw [if_neg q]
      unfold mX11_write_4 mX11_write_3
      rw [i0, i1, i2]
      exact note_ok (RAll_18 h 0) ht hs h3
theorem setTempo_ok {B K : Int} {S T : Mm} {L L' : Int64} {p1 p2 : Int32} (h : RAll B K S L T L') (h1 : rg p1 1 200) (h2 : ¬ p2 < 0) (h3 : p2 ≤ p1 - 1) : rX9_setTempo S p1 p2 = T 0 22 ∧ RAll B K (fX9_setTempo S p1 p2) L (up2 (up2 T 0 22 p1) 0 23 p2) L' := by
  obtain ⟨hA, hM, hD⟩ := h
  obtain ⟨a1, a2, a3, a4, a5, a6, a7, a8, a9⟩ := hA.1
  obtain ⟨a, ha, ha2, ea⟩ := rg_nI (rg_w h1 (by decide) (Int.le_refl _))
  have ha1 : 1 ≤ a := by
    have q := h1.1
    rw [ea, nI_toInt ha2] at q
    omega
  obtain ⟨b, hb, eb⟩ := nI_of h2
  have hba : b < a := by
    rw [ea, eb, show (1 : Int32) = nI 1 from rfl, pk_sub ha1, nI_leI hb (by omega)] at h3
    omega
  unfold fX9_setTempo
  refine ⟨a6, RA_set hA ⟨RW_fr (by rw [up2_n (by decide), up2_n (by decide)]) (by rw [up2_n (by decide), up2_n (by decide)]) a1, fun k hk => ?_, fun i hi k hk => ?_, fun t ht => ?_, fun k hk => ?_, ?_, ?_, ?_, a, b, by omega, hba, ?_, ?_⟩ (fun o q1 q2 => by rw [up2_n (by omega), up2_n (by omega)]) (fun o q1 q2 => by rw [up2_n (by omega), up2_n (by omega)]) (fun k hk => by rw [up2_k (by omega), up2_k (by omega)]), RMt_fr hM (by rw [up2_n (by decide), up2_n (by decide)]) (by rw [up2_n (by decide), up2_n (by decide)]) (by rw [up2_n (by decide), up2_n (by decide)]) (fun k hk => by rw [up2_k (by omega), up2_k (by omega)]), iD_0 (iD_0 hD (by decide) (by decide) (by decide)) (by decide) (by decide) (by decide)⟩
  · rw [up2_n (by decide), up2_n (by decide)]; exact a2 k hk
  · rw [up2_n (by omega), up2_n (by omega), up2_n (by decide), up2_n (by decide)]; exact a3 i hi k hk
  · rw [up2_n (by decide), up2_n (by decide), up2_n (by decide), up2_n (by decide)]; exact a4 t ht
  · rw [up2_n (o' := 9) (by decide), up2_n (o' := 9) (by decide), up2_n (o' := 11) (by decide), up2_n (o' := 11) (by decide), up2_n (o' := 13) (by decide), up2_n (o' := 13) (by decide), up2_n (o' := 16) (by decide), up2_n (o' := 16) (by decide)]; exact a5 k hk
  · rw [up2_k (by decide), up2_h, up2_k (by decide), up2_h]
  · rw [up2_h, up2_h]
  · rw [up2_n (by decide), up2_n (by decide), up2_k (by decide), up2_k (by decide)]; exact a8
  · rw [up2_k (by decide), up2_h]; exact ea
  · rw [up2_h]; exact eb
theorem sc_ok {B K : Int} {S S' T T' : Mm} {L L' : Int64} (h : RAll B K S L T L') (hS : ∀ o, o ≠ 18 → S' o = S o) (hT : ∀ o, o < 18 → o ≠ 0 → T' o = T o) (hk : ∀ k, k ≠ 24 → k ≠ 25 → k ≠ 26 → T' 0 k = T 0 k) (hQ : RQ B 18 S' T') (hL : RLf 18 S' T') (h25 : vp_in (T' 0 25) 8) : RAll B K S' L T' L' := by
  obtain ⟨hA, hM, hD⟩ := h
  exact ⟨⟨RSet_fr hA.1 (fun o ho => hS o (by omega)) (hT 1 (by decide) (by decide)) (hT 2 (by decide) (by decide)) (hT 15 (by decide) (by decide)) (hT 16 (by decide) (by decide)) (fun k q => hk k (by omega) (by omega) (by omega)), RVs_fr hA.2.1 (fun o' _ _ => hS o' (by omega)) (fun j _ _ => hT j (by omega) (by omega)), hQ, hL, RDl_fr hA.2.2.2.2 (hS _ (by omega)) (hS _ (by omega)) (hT 14 (by decide) (by decide)) (fun k q => hk k (by omega) (by omega) (by omega))⟩, RMt_fr hM (hS _ (by decide)) (hS _ (by decide)) (hT 17 (by decide) (by decide)) (fun k q => hk k (by omega) (by omega) (by omega)), iD_mk hD (fun o ho => hT o (by omega) (by omega)) h25 (by rw [hk 16 (by decide) (by decide) (by decide)]; exact hD.2.2.2.1) (by rw [hk 28 (by decide) (by decide) (by decide)]; exact hD.2.2.2.2.1)⟩
theorem play_ok {B K : Int} {S T : Mm} {L L' : Int64} {p1 : Int32} (h : RAll B K S L T L') (h1 : vp_in p1 8) : rX9_play S p1 = T 0 24 ∧ RAll B K (fX9_play S p1) L (up2 (up2 (up2 T 0 24 1) 0 25 p1) 0 26 0) L' := by
  obtain ⟨q1, q2, q3, q4, q5, q6, q7⟩ := h.1.2.2.1
  unfold fX9_play
  refine ⟨q4, sc_ok h (fun o ho => by rw [up2_n ho, up2_n ho, up2_n ho]) (fun o _ ho => by rw [up2_n ho, up2_n ho, up2_n ho]) (fun k h24 h25 h26 => by rw [up2_k h26, up2_k h25, up2_k h24]) ⟨?_, ?_, ?_, ?_, ?_, ?_, ?_⟩ (Or.inl ⟨up2_h, up2_h⟩) (by rw [up2_k (by decide), up2_h]; exact h1)⟩
  · rw [up2_k (by decide), up2_k (by decide), up2_k (by decide), up2_k (by decide), up2_k (by decide), up2_k (by decide)]; exact q1
  · rw [up2_k (by decide), up2_k (by decide), up2_k (by decide), up2_k (by decide), up2_k (by decide), up2_k (by decide)]; exact q2
  · rw [up2_k (by decide), up2_k (by decide), up2_k (by decide), up2_k (by decide), up2_k (by decide), up2_k (by decide)]; exact q3
  · rw [up2_k (by decide), up2_k (by decide), up2_h, up2_k (by decide), up2_k (by decide), up2_h]
  · rw [up2_k (by decide), up2_k (by decide), up2_h]; exact Or.inr rfl
  · rw [up2_k (by decide), up2_h, up2_k (by decide), up2_h]
  · rw [up2_k (by decide), up2_k (by decide), up2_k (by decide)]; exact q7
theorem stop_ok {B K : Int} {S T : Mm} {L L' : Int64} (h : RAll B K S L T L') : rX9_stop S = rX11_stepNow T ∧ RAll B K (fX9_stop S) L (up2 T 0 24 0) L' := by
  obtain ⟨q1, q2, q3, q4, q5, q6, q7⟩ := h.1.2.2.1
  unfold fX9_stop
  refine ⟨?_, sc_ok h (fun o ho => by rw [up2_n ho]) (fun o _ ho => by rw [up2_n ho]) (fun k h24 h25 h26 => by rw [up2_k h24]) ⟨?_, ?_, ?_, ?_, ?_, ?_, ?_⟩ (RLf_fr h.1.2.2.2.1 (up2_k (by decide) _) (up2_k (by decide) _) (up2_k (by decide) _)) (by rw [up2_k (by decide)]; exact h.2.2.2.2.1)⟩
  · unfold rX9_stop rX6_stepOrNone rX11_stepNow
    rw [q4, q6]
  · rw [up2_k (by decide), up2_k (by decide)]; exact q1
  · rw [up2_k (by decide), up2_k (by decide)]; exact q2
  · rw [up2_k (by decide), up2_k (by decide)]; exact q3
  · rw [up2_h, up2_h]
  · rw [up2_h]; exact Or.inl rfl
  · rw [up2_k (by decide), up2_k (by decide)]; exact q6
  · rw [up2_k (by decide)]; exact q7
theorem reset_ok {B K : Int} {S T : Mm} {L L' : Int64} (h : RAll B K S L T L') : rX9_reset S L = rX11_reset T L' ∧ RAll B K (fX9_reset S L) (lX9_reset S L) (fX11_reset T L') (lX11_reset T L') := by
  obtain ⟨hA, hM, hD⟩ := RAll_18 h 0
  obtain ⟨m1, m2, m3, m4, m5, m6, x, hx, e1, hr⟩ := hM
  have so : ∀ o, o ≠ 34 → fX9_reset S L o = S o := fun o ho => by
    unfold fX9_reset fX2_countAnew
    rw [up2_n ho, up2_n ho, up2_n ho, up2_n ho]
  have to : ∀ o, o ≠ 0 → fX11_reset T L' o = up2 T 18 0 0 o := fun o ho => by
    unfold fX11_reset
    rw [up2_n ho, up2_n ho, up2_n ho, up2_n ho]
  have tk : ∀ k, k ≠ 30 → k ≠ 31 → k ≠ 32 → k ≠ 33 → fX11_reset T L' 0 k = up2 T 18 0 0 0 k := fun k h0 h1 h2 h3 => by
    unfold fX11_reset
    rw [up2_k h3, up2_k h2, up2_k h1, up2_k h0]
  refine ⟨m2, ⟨RSet_fr hA.1 (fun o ho => so o (by omega)) (to 1 (by decide)) (to 2 (by decide)) (to 15 (by decide)) (to 16 (by decide)) (fun k q => tk k (by omega) (by omega) (by omega) (by omega)), RVs_fr hA.2.1 (fun o' _ _ => so o' (by omega)) (fun j _ _ => to j (by omega)), ?_, RLf_fr hA.2.2.2.1 (by rw [so 18 (by decide)]) (tk 26 (by decide) (by decide) (by decide) (by decide)) (tk 27 (by decide) (by decide) (by decide) (by decide)), RDl_fr hA.2.2.2.2 (so _ (by decide)) (so _ (by decide)) (to 14 (by decide)) (fun k q => tk k (by omega) (by omega) (by omega) (by omega))⟩, ⟨rfl, ?_, ?_, ?_, ?_, ?_, x, hx, ?_, fun k hk => ?_⟩, iD_mk hD (fun o ho => to o (by omega)) (by rw [tk 25 (by decide) (by decide) (by decide) (by decide)]; exact hD.2.2.1) (by rw [tk 16 (by decide) (by decide) (by decide) (by decide)]; exact hD.2.2.2.1) (by rw [tk 28 (by decide) (by decide) (by decide) (by decide)]; exact hD.2.2.2.2.1)⟩
  · unfold RQ
    rw [so 18 (by decide), tk 28 (by decide) (by decide) (by decide) (by decide), tk 13 (by decide) (by decide) (by decide) (by decide), tk 14 (by decide) (by decide) (by decide) (by decide), tk 24 (by decide) (by decide) (by decide) (by decide), tk 25 (by decide) (by decide) (by decide) (by decide)]
    exact hA.2.2.1
  · unfold fX9_reset fX2_countAnew fX11_reset
    rw [up2_k (by decide), up2_k (by decide), up2_k (by decide), up2_h, up2_k (by decide), up2_k (by decide), up2_k (by decide), up2_h]
  · unfold fX9_reset fX2_countAnew fX11_reset
    rw [up2_k (by decide), up2_k (by decide), up2_h, up2_k (by decide), up2_k (by decide), up2_h]
  · unfold fX9_reset fX2_countAnew fX11_reset
    rw [up2_k (by decide), up2_h, up2_k (by decide), up2_h]
  · unfold fX9_reset fX2_countAnew fX11_reset
    rw [up2_h, up2_h]
  · rw [to 17 (by decide), ← m6]
    unfold fX9_reset fX2_countAnew
    rw [up2_k (by decide), up2_k (by decide), up2_k (by decide), up2_k (by decide)]
  · rw [← e1]
    unfold fX9_reset fX2_countAnew
    rw [up2_k (by decide), up2_k (by decide), up2_k (by decide), up2_k (by decide)]
  · rw [to 17 (by decide), so 36 (by decide)]
    exact hr k hk
