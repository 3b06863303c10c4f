/-! silentIn and the checksum, there and there -/
theorem si_ok {B K : Int} {S T : Mm} {L L' : Int64} {p1 : Int32} (hB : B < 1000000000) (hK : K < 1000000000) (h : RAll B K S L T L') (hp : p1.toNatClampNeg ≤ 200) : ∀ k i : Nat, i + k = p1.toNatClampNeg → RA (B + 3 * i) 26 (lpX9_silentIn_33 S p1 i) (lpX11_silentIn_32 T p1 i).1 → ¬ rX10_sounding (lpX11_silentIn_32 T p1 i).1 = 0 → (∀ o, o < 26 ∨ 34 ≤ o → lpX9_silentIn_33 S p1 i o = S o) → (seX9_silentIn_33 S p1 k i).1 = (seX11_silentIn_32 T p1 (k) (i + 1)).1 ∧ (∀ o, o < 26 ∨ 34 ≤ o → (seX9_silentIn_33 S p1 k i).2 o = S o) := by
  intro k
  induction k with
  | zero =>
    intro i hi hA hs hf
    rw [seX9_silentIn_33_0, seX11_silentIn_32_0]
    exact ⟨rfl, hf⟩
  | succ k ih =>
    intro i hi hA hs hf
    have hD := lpX11_silentIn_iD (p1 := p1) h.2.2 hK i (by omega)
    obtain ⟨a1, a2, a3⟩ := adv_eq (lpX11_silentIn_32 T p1 i).2 (Or.inr rfl) (by omega) hA hD
    have hx0 : p1.toNatClampNeg = p1.toInt.toNat := rfl
    have hlt : ¬ p1 ≤ nI i := by
      rw [Int32.le_iff_toInt_le, nI_toInt (by omega)]
      omega
    have eT : (lpX11_silentIn_32 T p1 (i + 1)).1 = fX10_sample (lpX11_silentIn_32 T p1 i).1 (lpX11_silentIn_32 T p1 i).2 := by
      rw [lpX11_silentIn_32_s]
      dsimp only
      unfold blpX11_silentIn_32_zS
      rw [if_neg hs, if_neg hlt]
    have eS : lpX9_silentIn_33 S p1 (i + 1) = fX6_advance (lpX9_silentIn_33 S p1 i) 26 := by
      rw [lpX9_silentIn_33_s]
      unfold blpX9_silentIn_33
      rfl
    have so : rX6_countSounding (fX6_advance (lpX9_silentIn_33 S p1 i) 26) 26 = rX10_sounding (fX10_sample (lpX11_silentIn_32 T p1 i).1 (lpX11_silentIn_32 T p1 i).2) := sounding_ok a2.2.1
    have fo : ∀ o, o < 26 ∨ 34 ≤ o → fX6_advance (lpX9_silentIn_33 S p1 i) 26 o = S o := fun o ho => by rw [a3 o (by omega), hf o ho]
    rw [seX9_silentIn_33_s, seX11_silentIn_32_s]
    unfold eseX9_silentIn_33 eseX11_silentIn_32
    rw [so, eT]
    by_cases c : rX10_sounding (fX10_sample (lpX11_silentIn_32 T p1 i).1 (lpX11_silentIn_32 T p1 i).2) = 0
    · rw [if_pos c, if_pos c]
      exact ⟨rfl, fo⟩
    · rw [if_neg c, if_neg c]
      refine ih (i + 1) (by omega) (by rw [eT, eS]; exact RA_w a2 (by omega)) (by rw [eT]; exact c) (fun o ho => by rw [eS]; exact fo o ho)
theorem silent_ok {B K : Int} {S T : Mm} {L L' : Int64} {p1 : Int32} (hB : B < 1000000000) (hK : K < 1000000000) (h : RAll B K S L T L') (hp : p1.toNatClampNeg ≤ 200) : rX9_silentIn S p1 = (seX11_silentIn_32 T p1 (p1.toNatClampNeg + 1) 0).1 ∧ (∀ o, o < 26 ∨ 34 ≤ o → fX9_silentIn S p1 o = S o) := by
  have h0 := RAll_18 h 0
  have cA : RA B 26 (fX6_copy S 26 18) (cpD (up2 T 18 0 0)) := copy_RA h0.1
  have s18 : rX6_countSounding S 18 = rX10_sounding (cpD (up2 T 18 0 0)) := by
    rw [← sounding_ok cA.2.1, sounding_ok h.1.2.1, sounding_ok cA.2.1]
    have e3 : ∀ v, v < 4 → cpD (up2 T 18 0 0) 3 v = T 3 v := fun v hv => by rw [cpD_3 hv, up2_n (by decide)]
    have k0 : (0 : Int32).toNatClampNeg = 0 := by decide
    have k1 : (1 : Int32).toNatClampNeg = 1 := by decide
    have k2 : (2 : Int32).toNatClampNeg = 2 := by decide
    have k3 : (3 : Int32).toNatClampNeg = 3 := by decide
    unfold rX10_sounding jX10_sounding_1 jX10_sounding_2 jX10_sounding_3 jX10_sounding_4
    rw [k0, k1, k2, k3, e3 0 (by decide), e3 1 (by decide), e3 2 (by decide), e3 3 (by decide)]
  have e0 : (lpX11_silentIn_32 T p1 0).1 = cpD (up2 T 18 0 0) := by rw [lpX11_silentIn_32_0]
  rw [seX11_silentIn_32_s]
  unfold rX9_silentIn fX9_silentIn eseX11_silentIn_32
  rw [e0, s18]
  by_cases c : rX10_sounding (cpD (up2 T 18 0 0)) = 0
  · rw [if_pos c, if_pos c, if_pos c]
    exact ⟨rfl, fun _ _ => rfl⟩
  · rw [if_neg c, if_neg c, if_neg c]
    exact si_ok hB hK h hp p1.toNatClampNeg 0 (by omega) (by rw [e0, lpX9_silentIn_33_0]; exact RA_w cA (by omega)) (by rw [e0]; exact c) (fun o ho => by rw [lpX9_silentIn_33_0]; exact c6_n (by omega))
theorem fs {a b x y : Int64} (h : a = b) (h2 : x = y) : rX9_fold a x = b * 31 + y := by
  rw [h, h2]
  rfl
theorem fi {a b : Int64} {x y : Int32} (h : a = b) (h2 : x = y) : rX9_fold a x.toInt64 = b * 31 + y.toInt64 := fs h (by rw [h2])
theorem dg_0 {B K : Int} {S T : Mm} {L L' : Int64} (hB : B < 2000000000) (h : RAll B K S L T L') : vX9_digest_7 S = vX11_digest_7 T * 31 + (jX11_digest_8 T).toInt64 := by
  have hM := h.2.1
  have hQ := h.1.2.2.1
  have e9 : rX9_isPlaying S = T 0 24 := hQ.2.2.2.1
  have j6 : jX9_digest_6 S = (jX11_digest_8 T).toInt64 := by
    unfold jX9_digest_6 jX11_digest_8
    rw [e9, up2_n (by decide)]
    by_cases c : T 0 24 = 0
    · rw [if_pos c, if_pos c]; rfl
    · rw [if_neg c, if_neg c]; rfl
  have hd : ∀ k, k < 8 → rX9_heard S (nI k) = up2 T 18 0 0 17 (nI k).toNatClampNeg := fun k hk => heard_ok h (vp_in_nI (by omega) (by decide))
  have q28 : rX9_clock S = up2 T 18 0 0 0 28 := by rw [up2_n (by decide)]; exact hQ.1
  have q31 : rX9_peak S = up2 T 18 0 0 0 31 := by rw [up2_n (by decide)]; exact hM.2.2.1
  have q32 : rX9_clipped S = up2 T 18 0 0 0 32 := by rw [up2_n (by decide)]; exact hM.2.2.2.1
  have q33 : rX9_crossings S = up2 T 18 0 0 0 33 := by rw [up2_n (by decide)]; exact hM.2.2.2.2.1
  have qs : rX9_sounding S = rX10_sounding (up2 T 18 0 0) := sounding_ok (RAll_18 h 0).1.2.1
  have q14 : rX9_taken S = up2 T 18 0 0 0 14 := by rw [up2_n (by decide)]; exact hQ.2.2.1
  have b : rX9_fold 58051 (rX9_clock S).toInt64 = 1799581 + (up2 T 18 0 0 0 28).toInt64 := by rw [q28]; rfl
  unfold vX9_digest_7 vX9_digest_5 vX9_digest_4 vX9_digest_3 vX9_digest_2 vX9_digest_1 vX11_digest_7 vX11_digest_6 vX11_digest_5 vX11_digest_4 vX11_digest_3 vX11_digest_2 vX11_digest_1
  exact fs (fi (fi (fi (fi (fi (fi (fi (fi (fi (fi (fi (fi (fi b (hd 0 (by decide))) (hd 1 (by decide))) (hd 2 (by decide))) (hd 3 (by decide))) (hd 4 (by decide))) (hd 5 (by decide))) (hd 6 (by decide))) (hd 7 (by decide))) q31) q32) q33) qs) q14) j6
theorem dg_1 {B K : Int} {S T : Mm} {L L' : Int64} (hB : B < 2000000000) (h : RAll B K S L T L') : rX9_fold (rX9_fold (vX9_digest_7 S) ((rX9_step S).toInt64)) ((rX9_nextVoice S).toInt64) = ((vX11_digest_9 T) * 31) + ((rX10_nextVoice (up2 T 18 0 0)).toInt64) := by
  unfold vX11_digest_9
  exact fi (fi (dg_0 hB h) (step_ok (RAll_18 h 0))) (next_ok hB (RAll_18 h 0))
theorem dg_v {B K : Int} {S T : Mm} {L L' : Int64} (hB : B < 2000000000) (h : RAll B K S L T L') : vX9_digest_8 S = vX11_digest_29 T * 31 + ((rX11_voiceNow (up2 T 18 0 0) (3 : Int32) (9 : Int32)).toInt64) := by
  have ov : ∀ v w, v < 4 → rX9_ofVoice S (nI v) (nI w) = rX11_voiceNow (up2 T 18 0 0) (nI v) (nI w) := fun v w hv => ofVoice_ok h (vp_in_nI hv (by decide))
  have b0 := dg_1 hB h
  unfold vX9_digest_8 rX9_foldVoices
  have c0 : rX9_fold (rX9_fold (rX9_fold (vX9_digest_7 S) ((rX9_step S).toInt64)) ((rX9_nextVoice S).toInt64)) ((rX9_ofVoice S (0 : Int32) (0 : Int32)).toInt64) = vX11_digest_10 T := by
    unfold vX11_digest_10
    exact fi b0 (ov 0 0 (by decide))
  have c1 : rX9_fold (vX9_foldVoices_1 S (rX9_fold (rX9_fold (vX9_digest_7 S) ((rX9_step S).toInt64)) ((rX9_nextVoice S).toInt64))) ((rX9_ofVoice S (0 : Int32) (2 : Int32)).toInt64) = vX11_digest_11 T := by
    unfold vX9_foldVoices_1 vX11_digest_11
    exact fi (fi c0 (ov 0 1 (by decide))) (ov 0 2 (by decide))
  have c2 : rX9_fold (vX9_foldVoices_2 S (rX9_fold (rX9_fold (vX9_digest_7 S) ((rX9_step S).toInt64)) ((rX9_nextVoice S).toInt64))) ((rX9_ofVoice S (0 : Int32) (4 : Int32)).toInt64) = vX11_digest_12 T := by
    unfold vX9_foldVoices_2 vX11_digest_12
    exact fi (fi c1 (ov 0 3 (by decide))) (ov 0 4 (by decide))
  have c3 : rX9_fold (vX9_foldVoices_3 S (rX9_fold (rX9_fold (vX9_digest_7 S) ((rX9_step S).toInt64)) ((rX9_nextVoice S).toInt64))) ((rX9_ofVoice S (0 : Int32) (6 : Int32)).toInt64) = vX11_digest_13 T := by
    unfold vX9_foldVoices_3 vX11_digest_13
    exact fi (fi c2 (ov 0 5 (by decide))) (ov 0 6 (by decide))
  have c4 : rX9_fold (vX9_foldVoices_4 S (rX9_fold (rX9_fold (vX9_digest_7 S) ((rX9_step S).toInt64)) ((rX9_nextVoice S).toInt64))) ((rX9_ofVoice S (0 : Int32) (8 : Int32)).toInt64) = vX11_digest_14 T := by
    unfold vX9_foldVoices_4 vX11_digest_14
    exact fi (fi c3 (ov 0 7 (by decide))) (ov 0 8 (by decide))
  have c5 : rX9_fold (vX9_foldVoices_5 S (rX9_fold (rX9_fold (vX9_digest_7 S) ((rX9_step S).toInt64)) ((rX9_nextVoice S).toInt64))) ((rX9_ofVoice S (1 : Int32) (0 : Int32)).toInt64) = vX11_digest_15 T := by
    unfold vX9_foldVoices_5 vX11_digest_15
    exact fi (fi c4 (ov 0 9 (by decide))) (ov 1 0 (by decide))
  have c6 : rX9_fold (vX9_foldVoices_6 S (rX9_fold (rX9_fold (vX9_digest_7 S) ((rX9_step S).toInt64)) ((rX9_nextVoice S).toInt64))) ((rX9_ofVoice S (1 : Int32) (2 : Int32)).toInt64) = vX11_digest_16 T := by
    unfold vX9_foldVoices_6 vX11_digest_16
    exact fi (fi c5 (ov 1 1 (by decide))) (ov 1 2 (by decide))
  have c7 : rX9_fold (vX9_foldVoices_7 S (rX9_fold (rX9_fold (vX9_digest_7 S) ((rX9_step S).toInt64)) ((rX9_nextVoice S).toInt64))) ((rX9_ofVoice S (1 : Int32) (4 : Int32)).toInt64) = vX11_digest_17 T := by
    unfold vX9_foldVoices_7 vX11_digest_17
    exact fi (fi c6 (ov 1 3 (by decide))) (ov 1 4 (by decide))
  have c8 : rX9_fold (vX9_foldVoices_8 S (rX9_fold (rX9_fold (vX9_digest_7 S) ((rX9_step S).toInt64)) ((rX9_nextVoice S).toInt64))) ((rX9_ofVoice S (1 : Int32) (6 : Int32)).toInt64) = vX11_digest_18 T := by
    unfold vX9_foldVoices_8 vX11_digest_18
    exact fi (fi c7 (ov 1 5 (by decide))) (ov 1 6 (by decide))
  have c9 : rX9_fold (vX9_foldVoices_9 S (rX9_fold (rX9_fold (vX9_digest_7 S) ((rX9_step S).toInt64)) ((rX9_nextVoice S).toInt64))) ((rX9_ofVoice S (1 : Int32) (8 : Int32)).toInt64) = vX11_digest_19 T := by
    unfold vX9_foldVoices_9 vX11_digest_19
    exact fi (fi c8 (ov 1 7 (by decide))) (ov 1 8 (by decide))
  have c10 : rX9_fold (vX9_foldVoices_10 S (rX9_fold (rX9_fold (vX9_digest_7 S) ((rX9_step S).toInt64)) ((rX9_nextVoice S).toInt64))) ((rX9_ofVoice S (2 : Int32) (0 : Int32)).toInt64) = vX11_digest_20 T := by
    unfold vX9_foldVoices_10 vX11_digest_20
    exact fi (fi c9 (ov 1 9 (by decide))) (ov 2 0 (by decide))
  have c11 : rX9_fold (vX9_foldVoices_11 S (rX9_fold (rX9_fold (vX9_digest_7 S) ((rX9_step S).toInt64)) ((rX9_nextVoice S).toInt64))) ((rX9_ofVoice S (2 : Int32) (2 : Int32)).toInt64) = vX11_digest_21 T := by
    unfold vX9_foldVoices_11 vX11_digest_21
    exact fi (fi c10 (ov 2 1 (by decide))) (ov 2 2 (by decide))
  have c12 : rX9_fold (vX9_foldVoices_12 S (rX9_fold (rX9_fold (vX9_digest_7 S) ((rX9_step S).toInt64)) ((rX9_nextVoice S).toInt64))) ((rX9_ofVoice S (2 : Int32) (4 : Int32)).toInt64) = vX11_digest_22 T := by
    unfold vX9_foldVoices_12 vX11_digest_22
    exact fi (fi c11 (ov 2 3 (by decide))) (ov 2 4 (by decide))
  have c13 : rX9_fold (vX9_foldVoices_13 S (rX9_fold (rX9_fold (vX9_digest_7 S) ((rX9_step S).toInt64)) ((rX9_nextVoice S).toInt64))) ((rX9_ofVoice S (2 : Int32) (6 : Int32)).toInt64) = vX11_digest_23 T := by
    unfold vX9_foldVoices_13 vX11_digest_23
    exact fi (fi c12 (ov 2 5 (by decide))) (ov 2 6 (by decide))
  have c14 : rX9_fold (vX9_foldVoices_14 S (rX9_fold (rX9_fold (vX9_digest_7 S) ((rX9_step S).toInt64)) ((rX9_nextVoice S).toInt64))) ((rX9_ofVoice S (2 : Int32) (8 : Int32)).toInt64) = vX11_digest_24 T := by
    unfold vX9_foldVoices_14 vX11_digest_24
    exact fi (fi c13 (ov 2 7 (by decide))) (ov 2 8 (by decide))
  have c15 : rX9_fold (vX9_foldVoices_15 S (rX9_fold (rX9_fold (vX9_digest_7 S) ((rX9_step S).toInt64)) ((rX9_nextVoice S).toInt64))) ((rX9_ofVoice S (3 : Int32) (0 : Int32)).toInt64) = vX11_digest_25 T := by
    unfold vX9_foldVoices_15 vX11_digest_25
    exact fi (fi c14 (ov 2 9 (by decide))) (ov 3 0 (by decide))
  have c16 : rX9_fold (vX9_foldVoices_16 S (rX9_fold (rX9_fold (vX9_digest_7 S) ((rX9_step S).toInt64)) ((rX9_nextVoice S).toInt64))) ((rX9_ofVoice S (3 : Int32) (2 : Int32)).toInt64) = vX11_digest_26 T := by
    unfold vX9_foldVoices_16 vX11_digest_26
    exact fi (fi c15 (ov 3 1 (by decide))) (ov 3 2 (by decide))
  have c17 : rX9_fold (vX9_foldVoices_17 S (rX9_fold (rX9_fold (vX9_digest_7 S) ((rX9_step S).toInt64)) ((rX9_nextVoice S).toInt64))) ((rX9_ofVoice S (3 : Int32) (4 : Int32)).toInt64) = vX11_digest_27 T := by
    unfold vX9_foldVoices_17 vX11_digest_27
    exact fi (fi c16 (ov 3 3 (by decide))) (ov 3 4 (by decide))
  have c18 : rX9_fold (vX9_foldVoices_18 S (rX9_fold (rX9_fold (vX9_digest_7 S) ((rX9_step S).toInt64)) ((rX9_nextVoice S).toInt64))) ((rX9_ofVoice S (3 : Int32) (6 : Int32)).toInt64) = vX11_digest_28 T := by
    unfold vX9_foldVoices_18 vX11_digest_28
    exact fi (fi c17 (ov 3 5 (by decide))) (ov 3 6 (by decide))
  have c19 : rX9_fold (vX9_foldVoices_19 S (rX9_fold (rX9_fold (vX9_digest_7 S) ((rX9_step S).toInt64)) ((rX9_nextVoice S).toInt64))) ((rX9_ofVoice S (3 : Int32) (8 : Int32)).toInt64) = vX11_digest_29 T := by
    unfold vX9_foldVoices_19 vX11_digest_29
    exact fi (fi c18 (ov 3 7 (by decide))) (ov 3 8 (by decide))
  unfold vX9_foldVoices_20
  exact fi c19 (ov 3 9 (by decide))
theorem dg_s {B K : Int} {S T : Mm} {L L' : Int64} (hB : B < 2000000000) (h : RAll B K S L T L') : rX9_foldSteps S (vX9_digest_8 S) = lpX11_digest_252 T 0 := by
  have os : ∀ t s w, t < 3 → s < 8 → w < 3 → rX9_ofStep S (nI t) (nI s) (nI w) = up2 T 18 0 0 16 (nI (3 * (8 * t + s) + w)).toNatClampNeg := fun t s w ht hs hw => by
    rw [ofStep_ok h (vp_in_nI ht (by decide)) (vp_in_nI hs (by decide)) (vp_in_nI hw (by decide))]
    have e : ((nI t * 8) + nI s) * 3 + nI w = nI (3 * (8 * t + s) + w) := by
      rw [show (8 : Int32) = nI 8 from rfl, pk_mul, nI_add, show (3 : Int32) = nI 3 from rfl, pk_mul, nI_add, Nat.mul_comm t 8, Nat.mul_comm _ 3]
    rw [e]
  have b0 := dg_v hB h
  unfold rX9_foldSteps
  have c0 : rX9_fold (vX9_digest_8 S) ((rX9_ofStep S (0 : Int32) (0 : Int32) (0 : Int32)).toInt64) = vX11_digest_30 T := by
    unfold vX11_digest_30
    exact fi b0 (os 0 0 0 (by decide) (by decide) (by decide))
  have c1 : rX9_fold (vX9_foldSteps_1 S (vX9_digest_8 S)) ((rX9_ofStep S (0 : Int32) (0 : Int32) (2 : Int32)).toInt64) = vX11_digest_31 T := by
    unfold vX9_foldSteps_1 vX11_digest_31
    exact fi (fi c0 (os 0 0 1 (by decide) (by decide) (by decide))) (os 0 0 2 (by decide) (by decide) (by decide))
  have c2 : rX9_fold (vX9_foldSteps_2 S (vX9_digest_8 S)) ((rX9_ofStep S (0 : Int32) (1 : Int32) (1 : Int32)).toInt64) = vX11_digest_32 T := by
    unfold vX9_foldSteps_2 vX11_digest_32
    exact fi (fi c1 (os 0 1 0 (by decide) (by decide) (by decide))) (os 0 1 1 (by decide) (by decide) (by decide))
  have c3 : rX9_fold (vX9_foldSteps_3 S (vX9_digest_8 S)) ((rX9_ofStep S (0 : Int32) (2 : Int32) (0 : Int32)).toInt64) = vX11_digest_33 T := by
    unfold vX9_foldSteps_3 vX11_digest_33
    exact fi (fi c2 (os 0 1 2 (by decide) (by decide) (by decide))) (os 0 2 0 (by decide) (by decide) (by decide))
  have c4 : rX9_fold (vX9_foldSteps_4 S (vX9_digest_8 S)) ((rX9_ofStep S (0 : Int32) (2 : Int32) (2 : Int32)).toInt64) = vX11_digest_34 T := by
    unfold vX9_foldSteps_4 vX11_digest_34
    exact fi (fi c3 (os 0 2 1 (by decide) (by decide) (by decide))) (os 0 2 2 (by decide) (by decide) (by decide))
  have c5 : rX9_fold (vX9_foldSteps_5 S (vX9_digest_8 S)) ((rX9_ofStep S (0 : Int32) (3 : Int32) (1 : Int32)).toInt64) = vX11_digest_35 T := by
    unfold vX9_foldSteps_5 vX11_digest_35
    exact fi (fi c4 (os 0 3 0 (by decide) (by decide) (by decide))) (os 0 3 1 (by decide) (by decide) (by decide))
  have c6 : rX9_fold (vX9_foldSteps_6 S (vX9_digest_8 S)) ((rX9_ofStep S (0 : Int32) (4 : Int32) (0 : Int32)).toInt64) = vX11_digest_36 T := by
    unfold vX9_foldSteps_6 vX11_digest_36
    exact fi (fi c5 (os 0 3 2 (by decide) (by decide) (by decide))) (os 0 4 0 (by decide) (by decide) (by decide))
  have c7 : rX9_fold (vX9_foldSteps_7 S (vX9_digest_8 S)) ((rX9_ofStep S (0 : Int32) (4 : Int32) (2 : Int32)).toInt64) = vX11_digest_37 T := by
    unfold vX9_foldSteps_7 vX11_digest_37
    exact fi (fi c6 (os 0 4 1 (by decide) (by decide) (by decide))) (os 0 4 2 (by decide) (by decide) (by decide))
  have c8 : rX9_fold (vX9_foldSteps_8 S (vX9_digest_8 S)) ((rX9_ofStep S (0 : Int32) (5 : Int32) (1 : Int32)).toInt64) = vX11_digest_38 T := by
    unfold vX9_foldSteps_8 vX11_digest_38
    exact fi (fi c7 (os 0 5 0 (by decide) (by decide) (by decide))) (os 0 5 1 (by decide) (by decide) (by decide))
  have c9 : rX9_fold (vX9_foldSteps_9 S (vX9_digest_8 S)) ((rX9_ofStep S (0 : Int32) (6 : Int32) (0 : Int32)).toInt64) = vX11_digest_39 T := by
    unfold vX9_foldSteps_9 vX11_digest_39
    exact fi (fi c8 (os 0 5 2 (by decide) (by decide) (by decide))) (os 0 6 0 (by decide) (by decide) (by decide))
  have c10 : rX9_fold (vX9_foldSteps_10 S (vX9_digest_8 S)) ((rX9_ofStep S (0 : Int32) (6 : Int32) (2 : Int32)).toInt64) = vX11_digest_40 T := by
    unfold vX9_foldSteps_10 vX11_digest_40
    exact fi (fi c9 (os 0 6 1 (by decide) (by decide) (by decide))) (os 0 6 2 (by decide) (by decide) (by decide))
  have c11 : rX9_fold (vX9_foldSteps_11 S (vX9_digest_8 S)) ((rX9_ofStep S (0 : Int32) (7 : Int32) (1 : Int32)).toInt64) = vX11_digest_41 T := by
    unfold vX9_foldSteps_11 vX11_digest_41
    exact fi (fi c10 (os 0 7 0 (by decide) (by decide) (by decide))) (os 0 7 1 (by decide) (by decide) (by decide))
  have c12 : rX9_fold (vX9_foldSteps_12 S (vX9_digest_8 S)) ((rX9_ofStep S (1 : Int32) (0 : Int32) (0 : Int32)).toInt64) = vX11_digest_42 T := by
    unfold vX9_foldSteps_12 vX11_digest_42
    exact fi (fi c11 (os 0 7 2 (by decide) (by decide) (by decide))) (os 1 0 0 (by decide) (by decide) (by decide))
  have c13 : rX9_fold (vX9_foldSteps_13 S (vX9_digest_8 S)) ((rX9_ofStep S (1 : Int32) (0 : Int32) (2 : Int32)).toInt64) = vX11_digest_43 T := by
    unfold vX9_foldSteps_13 vX11_digest_43
    exact fi (fi c12 (os 1 0 1 (by decide) (by decide) (by decide))) (os 1 0 2 (by decide) (by decide) (by decide))
  have c14 : rX9_fold (vX9_foldSteps_14 S (vX9_digest_8 S)) ((rX9_ofStep S (1 : Int32) (1 : Int32) (1 : Int32)).toInt64) = vX11_digest_44 T := by
    unfold vX9_foldSteps_14 vX11_digest_44
    exact fi (fi c13 (os 1 1 0 (by decide) (by decide) (by decide))) (os 1 1 1 (by decide) (by decide) (by decide))
  have c15 : rX9_fold (vX9_foldSteps_15 S (vX9_digest_8 S)) ((rX9_ofStep S (1 : Int32) (2 : Int32) (0 : Int32)).toInt64) = vX11_digest_45 T := by
    unfold vX9_foldSteps_15 vX11_digest_45
    exact fi (fi c14 (os 1 1 2 (by decide) (by decide) (by decide))) (os 1 2 0 (by decide) (by decide) (by decide))
  have c16 : rX9_fold (vX9_foldSteps_16 S (vX9_digest_8 S)) ((rX9_ofStep S (1 : Int32) (2 : Int32) (2 : Int32)).toInt64) = vX11_digest_46 T := by
    unfold vX9_foldSteps_16 vX11_digest_46
    exact fi (fi c15 (os 1 2 1 (by decide) (by decide) (by decide))) (os 1 2 2 (by decide) (by decide) (by decide))
  have c17 : rX9_fold (vX9_foldSteps_17 S (vX9_digest_8 S)) ((rX9_ofStep S (1 : Int32) (3 : Int32) (1 : Int32)).toInt64) = vX11_digest_47 T := by
    unfold vX9_foldSteps_17 vX11_digest_47
    exact fi (fi c16 (os 1 3 0 (by decide) (by decide) (by decide))) (os 1 3 1 (by decide) (by decide) (by decide))
  have c18 : rX9_fold (vX9_foldSteps_18 S (vX9_digest_8 S)) ((rX9_ofStep S (1 : Int32) (4 : Int32) (0 : Int32)).toInt64) = vX11_digest_48 T := by
    unfold vX9_foldSteps_18 vX11_digest_48
    exact fi (fi c17 (os 1 3 2 (by decide) (by decide) (by decide))) (os 1 4 0 (by decide) (by decide) (by decide))
  have c19 : rX9_fold (vX9_foldSteps_19 S (vX9_digest_8 S)) ((rX9_ofStep S (1 : Int32) (4 : Int32) (2 : Int32)).toInt64) = vX11_digest_49 T := by
    unfold vX9_foldSteps_19 vX11_digest_49
    exact fi (fi c18 (os 1 4 1 (by decide) (by decide) (by decide))) (os 1 4 2 (by decide) (by decide) (by decide))
  have c20 : rX9_fold (vX9_foldSteps_20 S (vX9_digest_8 S)) ((rX9_ofStep S (1 : Int32) (5 : Int32) (1 : Int32)).toInt64) = vX11_digest_50 T := by
    unfold vX9_foldSteps_20 vX11_digest_50
    exact fi (fi c19 (os 1 5 0 (by decide) (by decide) (by decide))) (os 1 5 1 (by decide) (by decide) (by decide))
  have c21 : rX9_fold (vX9_foldSteps_21 S (vX9_digest_8 S)) ((rX9_ofStep S (1 : Int32) (6 : Int32) (0 : Int32)).toInt64) = vX11_digest_51 T := by
    unfold vX9_foldSteps_21 vX11_digest_51
    exact fi (fi c20 (os 1 5 2 (by decide) (by decide) (by decide))) (os 1 6 0 (by decide) (by decide) (by decide))
  have c22 : rX9_fold (vX9_foldSteps_22 S (vX9_digest_8 S)) ((rX9_ofStep S (1 : Int32) (6 : Int32) (2 : Int32)).toInt64) = vX11_digest_52 T := by
    unfold vX9_foldSteps_22 vX11_digest_52
    exact fi (fi c21 (os 1 6 1 (by decide) (by decide) (by decide))) (os 1 6 2 (by decide) (by decide) (by decide))
  have c23 : rX9_fold (vX9_foldSteps_23 S (vX9_digest_8 S)) ((rX9_ofStep S (1 : Int32) (7 : Int32) (1 : Int32)).toInt64) = vX11_digest_53 T := by
    unfold vX9_foldSteps_23 vX11_digest_53
    exact fi (fi c22 (os 1 7 0 (by decide) (by decide) (by decide))) (os 1 7 1 (by decide) (by decide) (by decide))
  have c24 : rX9_fold (vX9_foldSteps_24 S (vX9_digest_8 S)) ((rX9_ofStep S (2 : Int32) (0 : Int32) (0 : Int32)).toInt64) = vX11_digest_54 T := by
    unfold vX9_foldSteps_24 vX11_digest_54
    exact fi (fi c23 (os 1 7 2 (by decide) (by decide) (by decide))) (os 2 0 0 (by decide) (by decide) (by decide))
  have c25 : rX9_fold (vX9_foldSteps_25 S (vX9_digest_8 S)) ((rX9_ofStep S (2 : Int32) (0 : Int32) (2 : Int32)).toInt64) = vX11_digest_55 T := by
    unfold vX9_foldSteps_25 vX11_digest_55
    exact fi (fi c24 (os 2 0 1 (by decide) (by decide) (by decide))) (os 2 0 2 (by decide) (by decide) (by decide))
  have c26 : rX9_fold (vX9_foldSteps_26 S (vX9_digest_8 S)) ((rX9_ofStep S (2 : Int32) (1 : Int32) (1 : Int32)).toInt64) = vX11_digest_56 T := by
    unfold vX9_foldSteps_26 vX11_digest_56
    exact fi (fi c25 (os 2 1 0 (by decide) (by decide) (by decide))) (os 2 1 1 (by decide) (by decide) (by decide))
  have c27 : rX9_fold (vX9_foldSteps_27 S (vX9_digest_8 S)) ((rX9_ofStep S (2 : Int32) (2 : Int32) (0 : Int32)).toInt64) = vX11_digest_57 T := by
    unfold vX9_foldSteps_27 vX11_digest_57
    exact fi (fi c26 (os 2 1 2 (by decide) (by decide) (by decide))) (os 2 2 0 (by decide) (by decide) (by decide))
  have c28 : rX9_fold (vX9_foldSteps_28 S (vX9_digest_8 S)) ((rX9_ofStep S (2 : Int32) (2 : Int32) (2 : Int32)).toInt64) = vX11_digest_58 T := by
    unfold vX9_foldSteps_28 vX11_digest_58
    exact fi (fi c27 (os 2 2 1 (by decide) (by decide) (by decide))) (os 2 2 2 (by decide) (by decide) (by decide))
  have c29 : rX9_fold (vX9_foldSteps_29 S (vX9_digest_8 S)) ((rX9_ofStep S (2 : Int32) (3 : Int32) (1 : Int32)).toInt64) = vX11_digest_59 T := by
    unfold vX9_foldSteps_29 vX11_digest_59
    exact fi (fi c28 (os 2 3 0 (by decide) (by decide) (by decide))) (os 2 3 1 (by decide) (by decide) (by decide))
  have c30 : rX9_fold (vX9_foldSteps_30 S (vX9_digest_8 S)) ((rX9_ofStep S (2 : Int32) (4 : Int32) (0 : Int32)).toInt64) = vX11_digest_60 T := by
    unfold vX9_foldSteps_30 vX11_digest_60
    exact fi (fi c29 (os 2 3 2 (by decide) (by decide) (by decide))) (os 2 4 0 (by decide) (by decide) (by decide))
  have c31 : rX9_fold (vX9_foldSteps_31 S (vX9_digest_8 S)) ((rX9_ofStep S (2 : Int32) (4 : Int32) (2 : Int32)).toInt64) = vX11_digest_61 T := by
    unfold vX9_foldSteps_31 vX11_digest_61
    exact fi (fi c30 (os 2 4 1 (by decide) (by decide) (by decide))) (os 2 4 2 (by decide) (by decide) (by decide))
  have c32 : rX9_fold (vX9_foldSteps_32 S (vX9_digest_8 S)) ((rX9_ofStep S (2 : Int32) (5 : Int32) (1 : Int32)).toInt64) = vX11_digest_62 T := by
    unfold vX9_foldSteps_32 vX11_digest_62
    exact fi (fi c31 (os 2 5 0 (by decide) (by decide) (by decide))) (os 2 5 1 (by decide) (by decide) (by decide))
  have c33 : rX9_fold (vX9_foldSteps_33 S (vX9_digest_8 S)) ((rX9_ofStep S (2 : Int32) (6 : Int32) (0 : Int32)).toInt64) = vX11_digest_63 T := by
    unfold vX9_foldSteps_33 vX11_digest_63
    exact fi (fi c32 (os 2 5 2 (by decide) (by decide) (by decide))) (os 2 6 0 (by decide) (by decide) (by decide))
  have c34 : rX9_fold (vX9_foldSteps_34 S (vX9_digest_8 S)) ((rX9_ofStep S (2 : Int32) (6 : Int32) (2 : Int32)).toInt64) = vX11_digest_64 T := by
    unfold vX9_foldSteps_34 vX11_digest_64
    exact fi (fi c33 (os 2 6 1 (by decide) (by decide) (by decide))) (os 2 6 2 (by decide) (by decide) (by decide))
  have c35 : rX9_fold (vX9_foldSteps_35 S (vX9_digest_8 S)) ((rX9_ofStep S (2 : Int32) (7 : Int32) (1 : Int32)).toInt64) = vX11_digest_65 T := by
    unfold vX9_foldSteps_35 vX11_digest_65
    exact fi (fi c34 (os 2 7 0 (by decide) (by decide) (by decide))) (os 2 7 1 (by decide) (by decide) (by decide))
  unfold vX9_foldSteps_36
  rw [lpX11_digest_252_0]
  exact fi c35 (os 2 7 2 (by decide) (by decide) (by decide))
theorem dg_d {B K : Int} {S T : Mm} {L L' : Int64} (hB : B < 2000000000) (h : RAll B K S L T L') : ∀ i : Nat, i ≤ (S 19 0).toNatClampNeg → lpX9_foldDelay_5 S (rX9_foldSteps S (vX9_digest_8 S)) i = lpX11_digest_252 T i := by
  intro i
  induction i with
  | zero =>
    intro _
    rw [lpX9_foldDelay_5_0]
    exact dg_s hB h
  | succ i ih =>
    intro hi
    have hx0 : (S 19 0).toNatClampNeg = (S 19 0).toInt.toNat := rfl
    have hb : (S 19 0).toInt < 2 ^ 31 := Int32.toInt_lt _
    have hlt : nI i < S 19 0 := by
      rw [Int32.lt_iff_toInt_lt, nI_toInt (by omega)]
      omega
    rw [lpX9_foldDelay_5_s, lpX11_digest_252_s]
    unfold bX9_foldDelay_5_z3 bX11_digest_252_z1
    exact fi (ih (by omega)) (inDelay_ok h (nI_pos (by omega)) hlt)
theorem digest_ok {B K : Int} {S T : Mm} {L L' : Int64} (hB : B < 2000000000) (h : RAll B K S L T L') : rX9_digest S = rX11_digest T := by
  have e : up2 T 18 0 0 0 16 = S 19 0 := by
    rw [up2_n (by decide)]
    exact h.1.2.2.2.2.1.symm
  unfold rX9_digest rX9_foldDelay rX11_digest
  rw [e]
  exact dg_d hB h _ (Nat.le_refl _)
