/-! the calls keep what holds -/
def IV (S : Mm) : Prop := VS S ∧ JI S ∧ (S 18 9 = 0 ∨ S 18 9 = 1)
theorem IV_far {S S' : Mm} (h : far S S') (i : IV S) : IV S' := ⟨VS_fr i.1 (fun o h1 h2 => h o (by omega)), JI_fr (fun o h1 h2 => h o (by omega)) i.2.1, by rw [h 18 (by decide)]; exact i.2.2⟩
theorem smp_n {S : Mm} {L : Int64} {o : Nat} (h : o < 18 ∨ 26 ≤ o) (h34 : o ≠ 34) (h36 : o ≠ 36) : fX9_sample S L o = S o := by
  unfold fX9_sample
  rw [ct_o h34 h36, adv_n h]
theorem smp_v {S : Mm} {L : Int64} {o : Nat} (h : o < 34) : fX9_sample S L o = fX6_advance S 18 o := by
  unfold fX9_sample
  rw [ct_o (by omega) (by omega)]
theorem IV_sample {S : Mm} {L : Int64} (i : IV S) : IV (fX9_sample S L) := by
  refine ⟨VS_fr (adv_ok i.1 i.2.1).1 (fun o h1 h2 => smp_v (by omega)), JI_fr (fun o h1 h2 => smp_n (by omega) (by omega) (by omega)) i.2.1, ?_⟩
  rw [smp_v (by decide), adv_9]
  exact i.2.2
theorem tr_sample {S : Mm} {L : Int64} (i : IV S) (h9 : S 18 9 = 0) (v : Nat) (hv : v < 4) : Tr (cgS (S (22 + v) 0) (S (22 + v) 9)) (fX9_sample S L (22 + v) 0) := by
  rw [smp_v (by omega)]
  exact (adv_ok i.1 i.2.1).2 h9 v hv
theorem IV_o {S S' : Mm} (i : IV S) (hv : VS S') (hn : ∀ o, 14 ≤ o → o < 18 → S' o = S o) (h9 : S' 18 9 = S 18 9) : IV S' := ⟨hv, JI_fr hn i.2.1, by rw [h9]; exact i.2.2⟩
theorem bg_n {S : Mm} {p1 p2 p3 : Int32} {o : Nat} (h : o < 18 ∨ 26 ≤ o) : fX9_begin S p1 p2 p3 o = S o := by
  unfold fX9_begin
  exact sn_n (by omega) (by omega)
theorem bg_k {S : Mm} {p1 p2 p3 : Int32} {k : Nat} (h7 : k ≠ 7) (h8 : k ≠ 8) : fX9_begin S p1 p2 p3 18 k = S 18 k := by
  unfold fX9_begin
  exact sn_18 h7 h8
theorem IV_begin {S : Mm} {p1 p2 p3 : Int32} (i : IV S) : IV (fX9_begin S p1 p2 p3) := IV_o i (VS_start i.1) (fun o h1 h2 => bg_n (Or.inl h2)) (bg_k (by decide) (by decide))
theorem en_n {S : Mm} {p : Int32} {o : Nat} (h : o < 22 ∨ 26 ≤ o) : fX9_end S p o = S o := by
  have hw := vo_in (p := p)
  unfold fX9_end
  exact rel_n (by omega)
theorem VI_rel {S : Mm} {o : Nat} (hv : VI S o) : VI (fX7_release S o) o := by
  unfold fX7_release
  by_cases h0 : S o 0 = 0
  · rw [if_pos h0]
    exact hv
  · rw [if_neg h0]
    have ek : ∀ k, k ≠ 0 → up2 S o 0 4 o k = S o k := fun k h1 => up2_k h1 o
    unfold VI
    rw [up2_h, ek 1 (by decide), ek 5 (by decide), ek 6 (by decide), ek 7 (by decide), ek 8 (by decide)]
    exact ⟨by unfold vp_in; decide, hv.2.1, fun q => absurd q (by decide), hv.2.2.2⟩
theorem IV_end {S : Mm} {p : Int32} (i : IV S) : IV (fX9_end S p) := by
  refine IV_o i (fun v hv => ?_) (fun o h1 h2 => en_n (by omega)) (by rw [en_n (by decide)])
  unfold fX9_end
  by_cases e : 22 + v = rX6_voiceOf 18 p
  · rw [← e]
    exact VI_rel (i.1 v hv)
  · exact VI_row (rel_n e) (i.1 v hv)
theorem sp_n {S : Mm} {o : Nat} (h : o ≠ 18) : fX9_stop S o = S o := by
  unfold fX9_stop
  exact up2_n h
theorem IV_stop {S : Mm} (i : IV S) : IV (fX9_stop S) := by
  refine ⟨VS_fr i.1 (fun o h1 h2 => sp_n (by omega)), JI_fr (fun o h1 h2 => sp_n (by omega)) i.2.1, Or.inl ?_⟩
  unfold fX9_stop
  exact up2_h
theorem sp_6 {S : Mm} : fX9_stop S 18 6 = S 18 6 := by
  unfold fX9_stop
  exact up2_k (by decide) 18
theorem py_n {S : Mm} {p : Int32} {o : Nat} (h : o ≠ 18) : fX9_play S p o = S o := by
  unfold fX9_play
  rw [up2_n h, up2_n h, up2_n h]
theorem IV_play {S : Mm} {p : Int32} (i : IV S) : IV (fX9_play S p) := by
  refine ⟨VS_fr i.1 (fun o h1 h2 => py_n (by omega)), JI_fr (fun o h1 h2 => py_n (by omega)) i.2.1, Or.inr ?_⟩
  unfold fX9_play
  rw [up2_k (by decide), up2_k (by decide), up2_h]
theorem py_6 {S : Mm} {p : Int32} : fX9_play S p 18 6 = S 18 6 := by
  unfold fX9_play
  rw [up2_k (by decide), up2_k (by decide), up2_k (by decide)]
theorem tp_n {S : Mm} {p q : Int32} {o : Nat} (h : o ≠ 5) : fX9_setTempo S p q o = S o := by
  unfold fX9_setTempo
  rw [up2_n h, up2_n h]
theorem IV_tempo {S : Mm} {p q : Int32} (i : IV S) : IV (fX9_setTempo S p q) := IV_o i (VS_fr i.1 (fun o h1 h2 => tp_n (by omega))) (fun o h1 h2 => tp_n (by omega)) (by rw [tp_n (by decide)])
theorem dl_n {S : Mm} {p q r : Int32} {o : Nat} (h : o ≠ 19) (h2 : o ≠ 21) : fX9_setDelay S p q r o = S o := by
  unfold fX9_setDelay fX0_tell mX0_tell_1 fX3_fill
  rw [fill_n (by omega), up2_n h, up2_n h, up2_n h, up2_n h]
theorem dl_0 {S : Mm} {p q r : Int32} : fX9_setDelay S p q r 19 0 = p := by
  unfold fX9_setDelay fX0_tell mX0_tell_1 fX3_fill
  rw [fill_n (by decide), up2_k (by decide), up2_k (by decide), up2_k (by decide), up2_h]
theorem IV_delay {S : Mm} {p q r : Int32} (i : IV S) : IV (fX9_setDelay S p q r) := IV_o i (VS_fr i.1 (fun o h1 h2 => dl_n (by omega) (by omega))) (fun o h1 h2 => dl_n (by omega) (by omega)) (by rw [dl_n (by decide) (by decide)])
theorem sl_r {S : Mm} {o : Nat} : fX7_silence S o o 0 = 0 ∧ fX7_silence S o o 9 = -1 := by
  unfold fX7_silence
  rw [up2_h, up2_k (by decide), up2_k (by decide), up2_h]
  exact ⟨rfl, rfl⟩
theorem hs_n {S : Mm} {o : Nat} (h : o < 22 ∨ 26 ≤ o) : fX9_hush S o = S o := by
  unfold fX9_hush mX9_hush_2 mX9_hush_1
  rw [vo0, vo1, vo2, vo3, sl_n (by omega), sl_n (by omega), sl_n (by omega), sl_n (by omega)]
/-- behind stop, no delay and hush all is quiet -/
theorem QT_end {S : Mm} : QT (fX9_hush (fX9_setDelay (fX9_stop S) 0 0 0)) := by
  refine ⟨?_, ?_, ?_⟩
  · unfold fX9_hush mX9_hush_2 mX9_hush_1
    rw [vo0, vo1, vo2, vo3]
    refine v4c ?_ ?_ ?_ ?_
    · rw [show 22 + 0 = 22 from rfl, sl_n (by decide), sl_n (by decide), sl_n (by decide)]
      exact sl_r
    · rw [show 22 + 1 = 23 from rfl, sl_n (by decide), sl_n (by decide)]
      exact sl_r
    · rw [show 22 + 2 = 24 from rfl, sl_n (by decide)]
      exact sl_r
    · exact sl_r
  · rw [hs_n (by decide), dl_n (by decide) (by decide)]
    unfold fX9_stop
    exact up2_h
  · rw [hs_n (by decide)]
    exact dl_0
theorem QT_sample {S : Mm} {L : Int64} (h : QT S) : rX9_sample S L = 0 ∧ QT (fX9_sample S L) := by
  obtain ⟨h1, h2, h3, h4⟩ := adv_q h
  refine ⟨?_, fun v hv => ?_, ?_, ?_⟩
  · unfold rX9_sample rX2_count
    rw [h1]
    decide
  · rw [smp_v (by omega)]
    exact h2 v hv
  · rw [smp_v (by decide)]
    exact h3
  · rw [smp_v (by decide)]
    exact h4
theorem QT_far {S S' : Mm} (h : far S S') (q : QT S) : QT S' := ⟨fun v hv => by rw [h _ (by omega)]; exact q.1 v hv, by rw [h 18 (by decide)]; exact q.2.1, by rw [h 19 (by decide)]; exact q.2.2⟩
theorem QT_run {S : Mm} {L : Int64} {p : Int32} (h : QT S) : ∀ i : Nat, (lpX9_run_12 S L p i).2.1 = 0 ∧ QT (lpX9_run_12 S L p i).1 := by
  intro i
  induction i with
  | zero =>
    rw [lpX9_run_12_0]
    exact ⟨rfl, h⟩
  | succ i ih =>
    rw [lpX9_run_12_s]
    dsimp only
    unfold bX9_run_12_zS bX9_run_12_z2
    obtain ⟨a, b⟩ := QT_sample (L := (lpX9_run_12 S L p i).2.2) ih.2
    unfold rX9_sample at a
    unfold fX9_sample at b
    exact ⟨a, b⟩
theorem QT_cs {S : Mm} (h : QT S) : rX6_countSounding S 18 = 0 := by
  rw [cs_val, if_pos (show S 22 0 = 0 from (h.1 0 (by decide)).1), if_pos (show S 23 0 = 0 from (h.1 1 (by decide)).1), if_pos (show S 24 0 = 0 from (h.1 2 (by decide)).1), if_pos (show S 25 0 = 0 from (h.1 3 (by decide)).1)]
  rfl
theorem QT_wp {S : Mm} {L : Int64} {p : Int32} (h : QT S) : rX9_wouldPeak S p = 0 := by
  have key : ∀ i, mxs S L i = 0 ∧ QT (sq S L i).1 := by
    intro i
    induction i with
    | zero =>
      rw [mxs_0, sq_0]
      exact ⟨rfl, h⟩
    | succ i ih =>
      obtain ⟨a, b⟩ := QT_sample (L := (sq S L i).2) ih.2
      rw [mxs_s, sq_s]
      refine ⟨?_, b⟩
      have e : itz S L i = 0 := a
      rw [e, ih.1]
      decide
  unfold rX9_wouldPeak
  rw [(wp_sq (L := L) rfl _).1, (key _).1]
theorem QT_si {S : Mm} {p : Int32} (h : QT S) : rX9_silentIn S p = 0 := by
  unfold rX9_silentIn
  rw [if_pos (QT_cs h)]
theorem e6_n {S : Mm} (h : S 18 9 = 0 ∨ S 18 9 = 1) : narrow .boolean (.int (eX6_copy S 26 18)) = .int (eX6_copy S 26 18) := by
  rw [e6_eq]
  rcases h with q | q <;> rw [q] <;> rfl
theorem e6_f {S : Mm} (h : S 18 9 = 0 ∨ S 18 9 = 1) : fits .boolean (.int (eX6_copy S 26 18)) = true := by
  rw [e6_eq]
  rcases h with q | q <;> rw [q] <;> rfl
