/-! what was heard, and how loud it was -/
def MT (S : Mm) (L : Int64) (m : Nat) (t : Nat → Int32) : Prop := S 18 6 = nI m ∧ S 34 3 = nI m ∧ S 34 1 = nI (m % 64) ∧ (∀ j, j < m → m ≤ j + 64 → S 36 (j % 64) = t j) ∧ ∃ pk sm : Nat, pk ≤ 32767 ∧ S 34 4 = nI pk ∧ (∀ j, j < m → (abv (t j)).toInt ≤ pk) ∧ L.toInt = sm ∧ sm ≤ m * pk
theorem MT_fr {S S' : Mm} {L : Int64} {m : Nat} {t : Nat → Int32} (h : MT S L m t) (h6 : S' 18 6 = S 18 6) (h34 : S' 34 = S 34) (h36 : S' 36 = S 36) : MT S' L m t := by
  unfold MT
  rw [h6, h34, h36]
  exact h
theorem abv_rg {x : Int32} {C : Int} (h : rg x (-C) C) (hC : C < 2147483648) : 0 ≤ (abv x).toInt ∧ (abv x).toInt ≤ C ∧ (x.toInt = (abv x).toInt ∨ x.toInt = -(abv x).toInt) := by
  have e0 : (0 : Int32).toInt = 0 := by decide
  unfold abv
  by_cases a : 0 ≤ x
  · rw [if_pos a]
    rw [Int32.le_iff_toInt_le, e0] at a
    unfold rg at h
    omega
  · rw [if_neg a]
    rw [Int32.le_iff_toInt_le, e0] at a
    have e : (0 - x).toInt = 0 - x.toInt := by
      rw [Int32.toInt_sub, e0]
      unfold rg at h
      exact bm (by omega) (by omega)
    rw [e]
    unfold rg at h
    omega
theorem smp_rg {S : Mm} {L : Int64} : rg (rX9_sample S L) (-32767) 32767 := by
  unfold rX9_sample rX2_count
  exact kept_rg (by decide) (by decide)
theorem MT_sample {S : Mm} {L : Int64} {m : Nat} {t t' : Nat → Int32} (h : MT S L m t) (hm : m < 400) (h1 : ∀ j, j < m → t' j = t j) (h2 : t' m = rX9_sample S L) : MT (fX9_sample S L) (lX9_sample S L) (m + 1) t' := by
  obtain ⟨a1, a2, a3, a4, pk, sm, b1, b2, b3, b4, b5⟩ := h
  have hr := smp_rg (S := S) (L := L)
  obtain ⟨r1, r2, -⟩ := abv_rg hr (by decide)
  have u34 : fX6_advance S 18 34 = S 34 := adv_n (by omega)
  have u36 : fX6_advance S 18 36 = S 36 := adv_n (by omega)
  have hx : m % 64 < 64 := Nat.mod_lt _ (by decide)
  have e1 : fX6_advance S 18 34 1 = nI (m % 64) := by rw [u34]; exact a3
  have ev : vX2_count_3 (fX6_advance S 18) L (rX6_advance S 18) = abv (rX9_sample S L) := rfl
  have ek : rX9_kept (rX6_advance S 18) 32767 = rX9_sample S L := rfl
  have hf := ct_f (U := fX6_advance S 18) (L := L) (p := rX6_advance S 18) hx e1
  rw [ev, ek, u34] at hf
  have epk : (nI pk).toInt = pk := nI_toInt (by omega)
  refine ⟨?_, ?_, ?_, ?_, ?_⟩
  · unfold fX9_sample
    rw [ct_o (by decide) (by decide), adv_6, a1]
    exact nI_1 m
  · unfold fX9_sample
    rw [hf, up2_k (by decide), up2_n (by decide), up2_k (by decide), up2_k (by decide), up2_h, a2]
    exact nI_1 m
  · unfold fX9_sample
    rw [hf, up2_h, show (m % 64 + 1) % 64 = (m + 1) % 64 by omega]
  · intro j hj1 hj2
    unfold fX9_sample
    rw [hf, up2_n (by decide)]
    by_cases q : j = m
    · subst q
      rw [up2_h, h2]
    · rw [up2_s, pk_un (by omega), up2_n (by decide), up2_n (by decide), up2_n (by decide), ct_J1 (by decide), u36, h1 j (by omega)]
      exact a4 j (by omega) (by omega)
  · have e4 : fX9_sample S L 34 4 = if nI pk < abv (rX9_sample S L) then abv (rX9_sample S L) else nI pk := by
      unfold fX9_sample
      rw [hf, up2_k (by decide), up2_n (by decide), up2_k (by decide), up2_h, b2]
    have eL : (lX9_sample S L).toInt = L.toInt + (abv (rX9_sample S L)).toInt := by
      have q : lX9_sample S L = L + (abv (rX9_sample S L)).toInt64 := rfl
      have hsm : sm ≤ 400 * 32767 := Nat.le_trans b5 (Nat.mul_le_mul (by omega) b1)
      rw [q, Int64.toInt_add, Int32.toInt_toInt64]
      have e64 : ((2 ^ 64 : Nat) : Int) = 18446744073709551616 := by decide
      exact Int.bmod_eq_of_le_mul_two (by rw [e64]; omega) (by rw [e64]; omega)
    obtain ⟨av, hav⟩ : ∃ av : Nat, (abv (rX9_sample S L)).toInt = av := ⟨(abv (rX9_sample S L)).toInt.toNat, by omega⟩
    by_cases c : nI pk < abv (rX9_sample S L)
    · rw [if_pos c] at e4
      rw [Int32.lt_iff_toInt_lt, epk, hav] at c
      refine ⟨av, sm + av, by omega, ?_, fun j hj => ?_, by rw [eL, b4, hav]; omega, ?_⟩
      · rw [e4]
        refine Int32.toInt_inj.mp ?_
        rw [hav, nI_toInt (by omega)]
      · by_cases q : j = m
        · rw [q, h2, hav]
          exact Int.le_refl _
        · rw [h1 j (by omega)]
          have := b3 j (by omega)
          omega
      · have : m * pk ≤ m * av := Nat.mul_le_mul_left _ (by omega)
        rw [Nat.succ_mul]
        omega
    · rw [if_neg c] at e4
      rw [Int32.lt_iff_toInt_lt, epk, hav] at c
      refine ⟨pk, sm + av, b1, e4, fun j hj => ?_, by rw [eL, b4, hav]; omega, ?_⟩
      · by_cases q : j = m
        · rw [q, h2, hav]
          omega
        · rw [h1 j (by omega)]
          exact b3 j (by omega)
      · rw [Nat.succ_mul]
        omega
theorem heard_MT {S : Mm} {L : Int64} {m k : Nat} {t : Nat → Int32} (h : MT S L m t) (hk : k < 64) (hm : k < m) : rX9_heard S (nI k) = t (m - 1 - k) := by
  have hx : m % 64 < 64 := Nat.mod_lt _ (by decide)
  unfold rX9_heard rX2_latest
  rw [h.2.2.1, fm64 _ hx k hk]
  by_cases c : k < m % 64
  · rw [if_pos c, get_at (N := 64) rfl (by omega), show 35 + 1 = 36 from rfl, show m % 64 - 1 - k = (m - 1 - k) % 64 by omega]
    exact h.2.2.2.1 _ (by omega) (by omega)
  · rw [if_neg c, get_at (N := 64) rfl (by omega), show 35 + 1 = 36 from rfl, show m % 64 + 63 - k = (m - 1 - k) % 64 by omega]
    exact h.2.2.2.1 _ (by omega) (by omega)
/-! how many sound; which voice comes next -/
theorem cs_val {S : Mm} : rX6_countSounding S 18 = nI ((if S 22 0 = 0 then 0 else 1) + (if S 23 0 = 0 then 0 else 1) + (if S 24 0 = 0 then 0 else 1) + (if S 25 0 = 0 then 0 else 1)) := by
  unfold rX6_countSounding jX6_countSounding_4 jX6_countSounding_3 jX6_countSounding_2 jX6_countSounding_1
  rw [vo0, vo1, vo2, vo3]
  by_cases h0 : S 22 0 = 0 <;> by_cases h1 : S 23 0 = 0 <;> by_cases h2 : S 24 0 = 0 <;> by_cases h3 : S 25 0 = 0 <;> simp only [h0, h1, h2, h3, eq_self, if_true, if_false] <;> rfl
theorem cs_le {S : Mm} : ∃ n : Nat, n ≤ 4 ∧ rX6_countSounding S 18 = nI n ∧ (n < 4 → ∃ v, v < 4 ∧ S (22 + v) 0 = 0) ∧ (n = 4 → ∀ v, v < 4 → ¬ S (22 + v) 0 = 0) := by
  refine ⟨_, ?_, cs_val, ?_, ?_⟩
  · (repeat' split) <;> omega
  · intro h
    by_cases h0 : S 22 0 = 0
    · exact ⟨0, by decide, h0⟩
    · by_cases h1 : S 23 0 = 0
      · exact ⟨1, by decide, h1⟩
      · by_cases h2 : S 24 0 = 0
        · exact ⟨2, by decide, h2⟩
        · by_cases h3 : S 25 0 = 0
          · exact ⟨3, by decide, h3⟩
          · rw [if_neg h0, if_neg h1, if_neg h2, if_neg h3] at h
            omega
  · intro h
    have h0 : ¬ S 22 0 = 0 := fun q => by
      rw [if_pos q] at h
      revert h
      (repeat' split) <;> omega
    have h1 : ¬ S 23 0 = 0 := fun q => by
      rw [if_pos q] at h
      revert h
      (repeat' split) <;> omega
    have h2 : ¬ S 24 0 = 0 := fun q => by
      rw [if_pos q] at h
      revert h
      (repeat' split) <;> omega
    have h3 : ¬ S 25 0 = 0 := fun q => by
      rw [if_pos q] at h
      revert h
      (repeat' split) <;> omega
    exact v4c h0 h1 h2 h3
theorem tk_step {S : Mm} {b n : Int32} (h : S (rX6_voiceOf 18 b) 0 = 0 ∨ S (rX6_voiceOf 18 n) 0 = 0) : S (rX6_voiceOf 18 (if rX7_isTakenBefore S (rX6_voiceOf 18 n) (rX6_voiceOf 18 b) = 0 then b else n)) 0 = 0 := by
  by_cases hb : S (rX6_voiceOf 18 b) 0 = 0
  · have e : rX7_isTakenBefore S (rX6_voiceOf 18 n) (rX6_voiceOf 18 b) = 0 := by
      rw [tb_e, hb]
      exact tb_xz
    rw [if_pos e]
    exact hb
  · have hn := h.resolve_left hb
    have e : rX7_isTakenBefore S (rX6_voiceOf 18 n) (rX6_voiceOf 18 b) = 1 := by
      rw [tb_e, hn]
      exact tb_zx hb
    rw [if_neg (by rw [e]; decide)]
    exact hn
theorem tk_free {S : Mm} (h : ∃ v, v < 4 ∧ S (22 + v) 0 = 0) : S (rX6_voiceOf 18 (rX6_voiceToTake S 18)) 0 = 0 := by
  unfold rX6_voiceToTake
  obtain ⟨v, hv, h0⟩ := h
  have k1 : (v = 0 ∨ v = 1) → S (rX6_voiceOf 18 (jX6_voiceToTake_1 S 18)) 0 = 0 := by
    intro q
    unfold jX6_voiceToTake_1
    refine tk_step ?_
    rcases q with rfl | rfl
    · exact Or.inl h0
    · exact Or.inr h0
  have k2 : (v = 0 ∨ v = 1 ∨ v = 2) → S (rX6_voiceOf 18 (jX6_voiceToTake_2 S 18)) 0 = 0 := by
    intro q
    unfold jX6_voiceToTake_2
    refine tk_step ?_
    rcases q with q | q | rfl
    · exact Or.inl (k1 (Or.inl q))
    · exact Or.inl (k1 (Or.inr q))
    · exact Or.inr h0
  unfold jX6_voiceToTake_3
  refine tk_step ?_
  rcases v4 hv with q | q | q | rfl
  · exact Or.inl (k2 (Or.inl q))
  · exact Or.inl (k2 (Or.inr (Or.inl q)))
  · exact Or.inl (k2 (Or.inr (Or.inr q)))
  · exact Or.inr h0
theorem tk_in {S : Mm} : vp_in (rX6_voiceToTake S 18) 4 := by
  have a0 : vp_in (0 : Int32) 4 := by unfold vp_in; decide
  have a1 : vp_in (1 : Int32) 4 := by unfold vp_in; decide
  have a2 : vp_in (2 : Int32) 4 := by unfold vp_in; decide
  have a3 : vp_in (3 : Int32) 4 := by unfold vp_in; decide
  have k1 : vp_in (jX6_voiceToTake_1 S 18) 4 := by
    unfold jX6_voiceToTake_1
    split
    · exact a0
    · exact a1
  have k2 : vp_in (jX6_voiceToTake_2 S 18) 4 := by
    unfold jX6_voiceToTake_2
    split
    · exact k1
    · exact a2
  unfold rX6_voiceToTake jX6_voiceToTake_3
  split
  · exact k2
  · exact a3
/-! what lies beside the stage ahead is left as it was -/
def far (S S' : Mm) : Prop := ∀ o, o < 26 ∨ 34 ≤ o → S' o = S o
theorem ssg_n {S : Mm} {g o : Nat} (h : o < g ∨ g + 8 ≤ o) : fX6_startStep S g o = S o := by
  have hn : ∀ (U : Mm) (p1 p2 p3 p4 : Int32), fX6_startNote U g p1 p2 p3 p4 o = U o := fun U p1 p2 p3 p4 => sn_n (by omega) (by omega)
  have h6 : jX6_startStep_6 S g o = S o := by
    unfold jX6_startStep_6
    split
    · rw [up2_n (by omega)]
    · unfold mX6_startStep_4
      rw [hn, up2_n (by omega)]
  have h9 : jX6_startStep_9 S g o = S o := by
    unfold jX6_startStep_9
    split
    · exact h6
    · unfold mX6_startStep_7
      rw [hn, h6]
  unfold fX6_startStep jX6_startStep_12
  split
  · exact h9
  · unfold mX6_startStep_10
    rw [hn, h9]
theorem advg_n {S : Mm} {g o : Nat} (hg : isG g) (h : o < g ∨ g + 8 ≤ o) : fX6_advance S g o = S o := by
  have ec : fX6_closeGates S g o = S o := cgs_n (by omega)
  have e1 : jX6_advance_1 S g o = S o := by
    unfold jX6_advance_1
    split
    · exact ec
    · split
      · rw [ssg_n h, ec]
      · exact ec
  have e2 : mX6_advance_2 S g o = S o := by
    unfold mX6_advance_2
    rw [ps_n hg (by omega) (by omega), mix_n (by omega), e1]
  have e3 : fX6_countGates (mX6_advance_2 S g) g o = S o := (cng_n (by omega)).trans e2
  have hs : ∀ U : Mm, fX6_countStep U g o = U o := by
    intro U
    unfold fX6_countStep mX6_countStep_1
    split
    · rw [up2_n (by omega), up2_n (by omega)]
    · rw [up2_n (by omega)]
  unfold fX6_advance
  rw [up2_n (by omega)]
  unfold jX6_advance_4
  split
  · exact e3
  · rw [hs, e3]
theorem wp_far {S : Mm} {p : Int32} : far S (fX9_wouldPeak S p) := by
  intro o ho
  have key : ∀ i, (lpX9_wouldPeak_23 S p i).1 o = S o := by
    intro i
    induction i with
    | zero =>
      rw [lpX9_wouldPeak_23_0]
      exact c6_n (by omega)
    | succ i ih =>
      rw [lpX9_wouldPeak_23_s]
      dsimp only
      unfold bX9_wouldPeak_23_zS
      rw [advg_n (Or.inr rfl) (by omega), ih]
  exact key _
theorem si_far {S : Mm} {p : Int32} : far S (fX9_silentIn S p) := by
  intro o ho
  have key : ∀ i, lpX9_silentIn_33 S p i o = S o := by
    intro i
    induction i with
    | zero =>
      rw [lpX9_silentIn_33_0]
      exact c6_n (by omega)
    | succ i ih =>
      rw [lpX9_silentIn_33_s]
      unfold blpX9_silentIn_33
      rw [advg_n (Or.inr rfl) (by omega), ih]
  have k2 : ∀ k i, (seX9_silentIn_33 S p k i).2 o = S o := by
    intro k
    induction k with
    | zero =>
      intro i
      rw [seX9_silentIn_33_0]
      exact key i
    | succ k ih =>
      intro i
      rw [seX9_silentIn_33_s]
      unfold eseX9_silentIn_33
      split
      · show fX6_advance (lpX9_silentIn_33 S p i) 26 o = S o
        rw [advg_n (Or.inr rfl) (by omega), key]
      · exact ih (i + 1)
  unfold fX9_silentIn
  split
  · rfl
  · exact k2 _ _
theorem Q_far {S S' : Mm} (h : far S S') : Qs 0 S' = Qs 0 S := by
  funext o k
  unfold Qs
  by_cases c : okK o k
  · rw [if_pos c, if_pos c]
    have h26 : shO 0 o < 26 := by
      unfold shO
      split <;> omega
    rw [h _ (Or.inl h26)]
  · rw [if_neg c, if_neg c]
/-! asking leaves the checksum -/
theorem dg_heard {S S' : Mm} (h : far S S') (p : Int32) : rX9_heard S' p = rX9_heard S p := by
  unfold rX9_heard rX2_latest rX3_get
  rw [h 34 (by decide), h (35 + 1) (by decide)]
theorem dg_row {S S' : Mm} (h : far S S') {o : Nat} (ho : o < 24) (p : Int32) : rX3_get S' o p = rX3_get S o p := by
  unfold rX3_get
  rw [h (o + 1) (by omega)]
theorem dg_ofStep {S S' : Mm} (h : far S S') (a b c : Int32) : rX9_ofStep S' a b c = rX9_ofStep S a b c := by
  unfold rX9_ofStep rX4_fact rX4_pitchOf rX4_forceOf rX4_gateOf
  rw [dg_row h (by decide), dg_row h (by decide), dg_row h (by decide)]
theorem dg_v {S S' : Mm} (h : far S S') (p : Int32) : S' (rX6_voiceOf 18 p) = S (rX6_voiceOf 18 p) := h _ (Or.inl (vo_in).2)
theorem dg_ofVoice {S S' : Mm} (h : far S S') (a b : Int32) : rX9_ofVoice S' a b = rX9_ofVoice S a b := by
  unfold rX9_ofVoice rX7_fact
  rw [dg_v h]
theorem dg_tb {S S' : Mm} (h : far S S') (a b : Int32) : rX7_isTakenBefore S' (rX6_voiceOf 18 a) (rX6_voiceOf 18 b) = rX7_isTakenBefore S (rX6_voiceOf 18 a) (rX6_voiceOf 18 b) := by
  rw [tb_e, tb_e, dg_v h, dg_v h]
theorem dg_nv {S S' : Mm} (h : far S S') : rX9_nextVoice S' = rX9_nextVoice S := by
  unfold rX9_nextVoice rX6_voiceToTake jX6_voiceToTake_3 jX6_voiceToTake_2 jX6_voiceToTake_1
  simp only [dg_tb h]
theorem dg_cs {S S' : Mm} (h : far S S') : rX9_sounding S' = rX9_sounding S := by
  unfold rX9_sounding
  rw [cs_val, cs_val, h 22 (by decide), h 23 (by decide), h 24 (by decide), h 25 (by decide)]
theorem dg_step {S S' : Mm} (h : far S S') : rX9_step S' = rX9_step S := by
  unfold rX9_step rX6_stepOrNone
  rw [h 18 (by decide)]
theorem dg_dl {S S' : Mm} (h : far S S') (a : Int32) : rX9_inDelay S' a = rX9_inDelay S a := by
  unfold rX9_inDelay rX0_at jX0_at_1
  rw [h 19 (by decide), dg_row h (by decide)]
theorem dg_fv {S S' : Mm} (h : far S S') (p : Int64) : rX9_foldVoices S' p = rX9_foldVoices S p := by
  unfold rX9_foldVoices vX9_foldVoices_20 vX9_foldVoices_19 vX9_foldVoices_18 vX9_foldVoices_17 vX9_foldVoices_16 vX9_foldVoices_15 vX9_foldVoices_14 vX9_foldVoices_13 vX9_foldVoices_12 vX9_foldVoices_11 vX9_foldVoices_10 vX9_foldVoices_9 vX9_foldVoices_8 vX9_foldVoices_7 vX9_foldVoices_6 vX9_foldVoices_5 vX9_foldVoices_4 vX9_foldVoices_3 vX9_foldVoices_2 vX9_foldVoices_1
  simp only [dg_ofVoice h]
theorem dg_fs {S S' : Mm} (h : far S S') (p : Int64) : rX9_foldSteps S' p = rX9_foldSteps S p := by
  unfold rX9_foldSteps vX9_foldSteps_36 vX9_foldSteps_35 vX9_foldSteps_34 vX9_foldSteps_33 vX9_foldSteps_32 vX9_foldSteps_31 vX9_foldSteps_30 vX9_foldSteps_29 vX9_foldSteps_28 vX9_foldSteps_27 vX9_foldSteps_26 vX9_foldSteps_25 vX9_foldSteps_24 vX9_foldSteps_23 vX9_foldSteps_22 vX9_foldSteps_21 vX9_foldSteps_20 vX9_foldSteps_19 vX9_foldSteps_18 vX9_foldSteps_17 vX9_foldSteps_16 vX9_foldSteps_15 vX9_foldSteps_14 vX9_foldSteps_13 vX9_foldSteps_12 vX9_foldSteps_11 vX9_foldSteps_10 vX9_foldSteps_9 vX9_foldSteps_8 vX9_foldSteps_7 vX9_foldSteps_6 vX9_foldSteps_5 vX9_foldSteps_4 vX9_foldSteps_3 vX9_foldSteps_2 vX9_foldSteps_1
  simp only [dg_ofStep h]
theorem dg_fd {S S' : Mm} (h : far S S') (p : Int64) : rX9_foldDelay S' p = rX9_foldDelay S p := by
  have key : ∀ i, lpX9_foldDelay_5 S' p i = lpX9_foldDelay_5 S p i := by
    intro i
    induction i with
    | zero => rw [lpX9_foldDelay_5_0, lpX9_foldDelay_5_0]
    | succ i ih =>
      rw [lpX9_foldDelay_5_s, lpX9_foldDelay_5_s, ih]
      unfold bX9_foldDelay_5_z3
      rw [dg_dl h]
  unfold rX9_foldDelay
  rw [h 19 (by decide), key]
theorem dg_ok {S S' : Mm} (h : far S S') : rX9_digest S' = rX9_digest S := by
  have e18 : S' 18 = S 18 := h 18 (by decide)
  have e34 : S' 34 = S 34 := h 34 (by decide)
  unfold rX9_digest
  rw [dg_fd h, dg_fs h]
  unfold vX9_digest_8
  rw [dg_fv h, dg_step h, dg_nv h]
  unfold vX9_digest_7
  rw [dg_cs h]
  unfold vX9_digest_5 vX9_digest_4 vX9_digest_3 vX9_digest_2 vX9_digest_1 jX9_digest_6 rX9_clock rX9_peak rX9_clipped rX9_crossings rX9_taken rX9_isPlaying
  rw [e18, e34]
  simp only [dg_heard h]
