/-! what is asked, there and there -/
theorem ofVoice_ok {B K : Int} {S T : Mm} {L L' : Int64} {p1 p2 : Int32} (h : RAll B K S L T L') (h1 : vp_in p1 4) : rX9_ofVoice S p1 p2 = rX11_voiceNow (up2 T 18 0 0) p1 p2 := by
  obtain ⟨v, hv, e⟩ := vp_in_of h1 (by decide)
  subst e
  have r := (h.1.2.1 v hv).1
  have r0 : S (18 + 4 + v) 0 = T 3 v := r 0 (by decide)
  have r1 : S (18 + 4 + v) 1 = T 4 v := r 1 (by decide)
  have r2 : S (18 + 4 + v) 2 = T 5 v := r 2 (by decide)
  have r3 : S (18 + 4 + v) 3 = T 6 v := r 3 (by decide)
  have r4 : S (18 + 4 + v) 4 = T 7 v := r 4 (by decide)
  have r5 : S (18 + 4 + v) 5 = T 8 v := r 5 (by decide)
  have r6 : S (18 + 4 + v) 6 = T 9 v := r 6 (by decide)
  have r7 : S (18 + 4 + v) 7 = T 10 v := r 7 (by decide)
  have r8 : S (18 + 4 + v) 8 = T 11 v := r 8 (by decide)
  have r9 : S (18 + 4 + v) 9 = T 12 v := r 9 (by decide)
  have hcl : (nI v).toNatClampNeg = v := nI_clamp (by omega)
  unfold rX9_ofVoice rX7_fact rX11_voiceNow
  rw [vo_n hv, r0, r1, r2, r3, r4, r5, r6, r7, r8, r9, hcl]
  rw [up2_n (o' := 3) (by decide), up2_n (o' := 4) (by decide), up2_n (o' := 5) (by decide), up2_n (o' := 6) (by decide), up2_n (o' := 7) (by decide), up2_n (o' := 8) (by decide), up2_n (o' := 9) (by decide), up2_n (o' := 10) (by decide), up2_n (o' := 11) (by decide), up2_n (o' := 12) (by decide)]
theorem fm64 : ∀ x : Nat, x < 64 → ∀ k : Nat, k < 64 → rJ9_floorMod_7cf53 ((nI x - 1) - nI k) 64 = nI (if k < x then x - 1 - k else x + 63 - k) := by decide +kernel
theorem heard_ok {B K : Int} {S T : Mm} {L L' : Int64} {p1 : Int32} (h : RAll B K S L T L') (h1 : vp_in p1 64) : rX9_heard S p1 = up2 T 18 0 0 17 p1.toNatClampNeg := by
  obtain ⟨k, hk, e⟩ := vp_in_of h1 (by decide)
  subst e
  obtain ⟨-, -, -, -, -, -, x, hx, e1, hr⟩ := h.2.1
  unfold rX9_heard rX2_latest
  rw [e1, fm64 x hx k hk, get_at (N := 64) rfl (by split <;> omega), nI_clamp (by omega), up2_n (by decide)]
  exact (hr k hk).symm
theorem ofStep_ok {B K : Int} {S T : Mm} {L L' : Int64} {p1 p2 p3 : Int32} (h : RAll B K S L T L') (h1 : vp_in p1 3) (h2 : vp_in p2 8) (h3 : vp_in p3 3) : rX9_ofStep S p1 p2 p3 = up2 T 18 0 0 16 ((((p1 * 8) + p2) * 3) + p3).toNatClampNeg := by
  obtain ⟨t, ht, e⟩ := vp_in_of h1 (by decide)
  obtain ⟨s, hs, e2⟩ := vp_in_of h2 (by decide)
  obtain ⟨w, hw, e3⟩ := vp_in_of h3 (by decide)
  subst e
  subst e2
  subst e3
  have ix : (nI t * 8) + nI s = nI (8 * t + s) := by rw [show (8 : Int32) = nI 8 from rfl, pk_mul, nI_add, Nat.mul_comm]
  have iy : (((nI t * 8) + nI s) * 3 + nI w).toNatClampNeg = 3 * (8 * t + s) + w := by
    rw [ix, show (3 : Int32) = nI 3 from rfl, pk_mul, nI_add, nI_clamp (by omega), Nat.mul_comm]
  have q := h.1.1.2.2.2.2.1 (8 * t + s) (by omega)
  rw [iy, up2_n (by decide)]
  unfold rX9_ofStep rX4_fact rX4_pitchOf rX4_forceOf rX4_gateOf
  rw [ix, get_at (N := 24) rfl (by omega), get_at (N := 24) rfl (by omega), get_at (N := 24) rfl (by omega)]
  have : w = 0 ∨ w = 1 ∨ w = 2 := by omega
  rcases this with e | e | e
  · subst e; exact q.1
  · subst e; exact q.2.1
  · subst e; exact q.2.2
theorem inDelay_ok {B K : Int} {S T : Mm} {L L' : Int64} {p1 : Int32} (h : RAll B K S L T L') (h1 : ¬ p1 < 0) (h2 : p1 < S 19 0) : rX9_inDelay S p1 = up2 T 18 0 0 14 p1.toNatClampNeg := by
  obtain ⟨l0, -, -, n, f, hn, en, ef, hf, hk⟩ := h.1.2.2.2.2
  have l0 : S 19 0 = nI n := l0.trans en
  have ef : S 19 3 = nI f := ef
  obtain ⟨k, hk2, e⟩ := nI_of h1
  subst e
  rw [l0] at h2
  have hkn : k < n := by
    have := (nI_ltI hk2 (by omega)).mp h2
    exact this
  have hf' : f < n := by omega
  rw [nI_clamp (by omega), up2_n (by decide), hk k hkn]
  unfold rX9_inDelay rX0_at jX0_at_1
  rw [l0, ef, nI_add]
  by_cases c : f + k < n
  · rw [if_neg (nI_ge c (by omega)), if_pos c, get_at (N := 200) rfl (by omega)]
  · rw [if_pos (nI_le (by omega) (by omega)), if_neg c, pk_sub (by omega), get_at (N := 200) rfl (by omega)]
theorem inDelay_len {B K : Int} {S T : Mm} {L L' : Int64} {p1 : Int32} (h : RAll B K S L T L') : rX11_isIn p1 (0 : Int32) ((up2 T 18 0 0 0 16) - 1) = 0 ↔ (p1 < 0 ∨ (S 19 0) ≤ p1) := by
  obtain ⟨l0, -, -, n, f, hn, en, ef, hf, hk⟩ := h.1.2.2.2.2
  have l0 : S 19 0 = T 0 16 := l0
  rw [up2_n (by decide), l0]
  refine isIn_s ?_
  have h1 : rg (1 : Int32) 1 1 := by unfold rg; decide
  have e1 : (1 : Int32).toInt = 1 := by decide
  have q := (rg_sub (rg_n (n := n) (by omega)) h1 (by omega) (by omega)).2
  rw [en, q, e1]
  omega
theorem step_ok {B K : Int} {S T : Mm} {L L' : Int64} (h : RAll B K S L T L') : rX9_step S = rX11_stepNow T := by
  obtain ⟨q1, q2, q3, q4, q5, q6, q7⟩ := h.1.2.2.1
  unfold rX9_step rX6_stepOrNone rX11_stepNow
  rw [q4, q6]
theorem next_ok {B K : Int} {S T : Mm} {L L' : Int64} (hB : B < 2000000000) (h : RAll B K S L T L') : rX9_nextVoice S = rX10_nextVoice T := vt_eq hB h.1.2.1
theorem wave_ok {B K : Int} {S T : Mm} {L L' : Int64} {p1 p2 : Int32} (h : RAll B K S L T L') (h1 : vp_in p1 4) (h2 : vp_in p2 65536) : rX9_wave S p1 p2 = rX10_wave T p1 p2 := at_eq h.1.1.1 h1 h2
theorem stride_ok {B K : Int} {S T : Mm} {L L' : Int64} {p1 : Int32} (h : RAll B K S L T L') (h1 : vp_in p1 48) : rX9_stride S p1 = rX10_stride p1 := str_eq h.1.1.2.1 h1
theorem run_ok {B K : Int} {S T : Mm} {L L' : Int64} {p1 : Int32} (hB : B < 1000000000) (hK : K < 1000000000) (h : RAll B K S L T L') : ∀ i : Nat, i ≤ 200 → (lpX9_run_12 S L p1 i).2.1 = (lpX11_run_26 T L' p1 i).2.1 ∧ RAll (B + 3 * i) (K + i) (lpX9_run_12 S L p1 i).1 (lpX9_run_12 S L p1 i).2.2 (lpX11_run_26 T L' p1 i).1 (lpX11_run_26 T L' p1 i).2.2 := by
  intro i
  induction i with
  | zero =>
    intro _
    rw [lpX9_run_12_0, lpX11_run_26_0]
    exact ⟨rfl, RAll_w (RAll_18 h 0) (by omega) (by omega)⟩
  | succ i ih =>
    intro hi
    obtain ⟨_, h2⟩ := ih (by omega)
    have sm := sam_eq (by omega) (by omega) h2
    rw [lpX9_run_12_s, lpX11_run_26_s]
    dsimp only
    unfold bX9_run_12_zS bX9_run_12_z2 bX9_run_12_zL bX11_run_26_zS bX11_run_26_z2 bX11_run_26_zL
    exact ⟨sm.1, RAll_w sm.2 (by omega) (by omega)⟩
/-! a stage that is copied -/
theorem c7_v {S : Mm} {o o1 : Nat} (h : o1 ≠ o) : ∀ k, k < 11 → fX7_copy S o o1 o k = S o1 k := by
  have m1 : ∀ k, mX7_copy_1 S o o1 o1 k = S o1 k := fun k => by unfold mX7_copy_1; rw [up2_n h, up2_n h, up2_n h]
  have m2 : ∀ k, mX7_copy_2 S o o1 o1 k = S o1 k := fun k => by unfold mX7_copy_2; rw [up2_n h, up2_n h, m1]
  have m3 : ∀ k, mX7_copy_3 S o o1 o1 k = S o1 k := fun k => by unfold mX7_copy_3; rw [up2_n h, up2_n h, m2]
  have m4 : ∀ k, mX7_copy_4 S o o1 o1 k = S o1 k := fun k => by unfold mX7_copy_4; rw [up2_n h, up2_n h, m3]
  have n1 : mX7_copy_1 S o o1 o 0 = S o1 0 ∧ mX7_copy_1 S o o1 o 1 = S o1 1 ∧ mX7_copy_1 S o o1 o 2 = S o1 2 := by
    unfold mX7_copy_1
    refine ⟨?_, ?_, ?_⟩
    · rw [up2_k (by decide), up2_k (by decide), up2_h]
    · rw [up2_k (by decide), up2_h, up2_n h]
    · rw [up2_h, up2_n h, up2_n h]
  have n2 : (∀ k, k < 3 → mX7_copy_2 S o o1 o k = S o1 k) ∧ mX7_copy_2 S o o1 o 3 = S o1 3 ∧ mX7_copy_2 S o o1 o 4 = S o1 4 := by
    unfold mX7_copy_2
    refine ⟨fun k hk => ?_, ?_, ?_⟩
    · rw [up2_k (by omega), up2_k (by omega)]
      have : k = 0 ∨ k = 1 ∨ k = 2 := by omega
      rcases this with e | e | e <;> subst e
      · exact n1.1
      · exact n1.2.1
      · exact n1.2.2
    · rw [up2_k (by decide), up2_h, m1]
    · rw [up2_h, up2_n h, m1]
  have n3 : (∀ k, k < 5 → mX7_copy_3 S o o1 o k = S o1 k) ∧ mX7_copy_3 S o o1 o 5 = S o1 5 ∧ mX7_copy_3 S o o1 o 6 = S o1 6 := by
    unfold mX7_copy_3
    refine ⟨fun k hk => ?_, ?_, ?_⟩
    · rw [up2_k (by omega), up2_k (by omega)]
      by_cases q : k < 3
      · exact n2.1 k q
      · have : k = 3 ∨ k = 4 := by omega
        rcases this with e | e <;> subst e
        · exact n2.2.1
        · exact n2.2.2
    · rw [up2_k (by decide), up2_h, m2]
    · rw [up2_h, up2_n h, m2]
  have n4 : (∀ k, k < 7 → mX7_copy_4 S o o1 o k = S o1 k) ∧ mX7_copy_4 S o o1 o 7 = S o1 7 ∧ mX7_copy_4 S o o1 o 8 = S o1 8 := by
    unfold mX7_copy_4
    refine ⟨fun k hk => ?_, ?_, ?_⟩
    · rw [up2_k (by omega), up2_k (by omega)]
      by_cases q : k < 5
      · exact n3.1 k q
      · have : k = 5 ∨ k = 6 := by omega
        rcases this with e | e <;> subst e
        · exact n3.2.1
        · exact n3.2.2
    · rw [up2_k (by decide), up2_h, m3]
    · rw [up2_h, up2_n h, m3]
  intro k hk
  unfold fX7_copy mX7_copy_5
  by_cases q : k < 9
  · rw [up2_k (by omega), up2_k (by omega)]
    by_cases q2 : k < 7
    · exact n4.1 k q2
    · have : k = 7 ∨ k = 8 := by omega
      rcases this with e | e <;> subst e
      · exact n4.2.1
      · exact n4.2.2
  · have : k = 9 ∨ k = 10 := by omega
    rcases this with e | e <;> subst e
    · rw [up2_k (by decide), up2_h, m4]
    · rw [up2_h, up2_n h, m4]
theorem c3_v {S : Mm} : ∀ i, i ≤ 200 → ∀ k, k < i → lpX3_copy_2 S 28 20 i 29 k = S 21 k := by
  intro i
  induction i with
  | zero => intro _ k hk; omega
  | succ i ih =>
    intro h k hk
    rw [lpX3_copy_2_s]
    unfold bX3_copy_2_zS
    rw [nI_clamp (by omega), get_at (N := 200) rfl (by omega), c3c_n0 (by decide)]
    by_cases e : k = i
    · subst e; rw [up2_h]
    · rw [up2_k e, ih (by omega) k (by omega)]
theorem c0_v {S : Mm} : (∀ k, k < 4 → fX0_copy S 27 19 27 k = S 19 k) ∧ (∀ k, k < 200 → fX0_copy S 27 19 29 k = S 21 k) := by
  have kr : (Int32.ofNat (rowN (27 + 1))).toNatClampNeg = 200 := by decide
  have m1 : ∀ q, q ≠ 27 → mX0_copy_1 S 27 19 q = S q := fun q hq => by
    unfold mX0_copy_1
    rw [up2_n hq, up2_n hq, up2_n hq]
  refine ⟨fun k hk => ?_, fun k hk => ?_⟩
  · unfold fX0_copy mX0_copy_2
    rw [c3c_n (by decide)]
    have : k = 0 ∨ k = 1 ∨ k = 2 ∨ k = 3 := by omega
    rcases this with e | e | e | e <;> subst e
    · rw [up2_k (by decide)]
      unfold mX0_copy_1
      rw [up2_k (by decide), up2_k (by decide), up2_h]
    · rw [up2_k (by decide)]
      unfold mX0_copy_1
      rw [up2_k (by decide), up2_h, up2_n (by decide)]
    · rw [up2_k (by decide)]
      unfold mX0_copy_1
      rw [up2_h, up2_n (by decide), up2_n (by decide)]
    · rw [up2_h, m1 19 (by decide)]
  · unfold fX0_copy mX0_copy_2 fX3_copy
    rw [kr]
    refine (c3_v 200 (by decide) k hk).trans ?_
    rw [up2_n (by decide), m1 21 (by decide)]
/-- the class's copying: what is where -/
theorem c6_n {S : Mm} {o : Nat} (h : o < 26 ∨ 33 < o) : fX6_copy S 26 18 o = S o := by
  have e0 : rX6_voiceOf 26 (0 : Int32) = 30 := rfl
  have e1 : rX6_voiceOf 26 (1 : Int32) = 31 := rfl
  have e2 : rX6_voiceOf 26 (2 : Int32) = 32 := rfl
  have e3 : rX6_voiceOf 26 (3 : Int32) = 33 := rfl
  unfold fX6_copy mX6_copy_6 mX6_copy_5 mX6_copy_4
  rw [up2_n (by omega), up2_n (by omega), up2_n (by omega), up2_n (by omega), up2_n (by omega), up2_n (by omega), c0c_n (by omega) (by omega)]
  unfold mX6_copy_3 mX6_copy_2 mX6_copy_1
  rw [e0, e1, e2, e3, c7c_n (by omega), c7c_n (by omega), c7c_n (by omega), c7c_n (by omega)]
theorem c63_n {S : Mm} {o : Nat} (h : o < 30) : mX6_copy_3 S 26 18 o = S o := by
  have e0 : rX6_voiceOf 26 (0 : Int32) = 30 := rfl
  have e1 : rX6_voiceOf 26 (1 : Int32) = 31 := rfl
  have e2 : rX6_voiceOf 26 (2 : Int32) = 32 := rfl
  have e3 : rX6_voiceOf 26 (3 : Int32) = 33 := rfl
  unfold mX6_copy_3 mX6_copy_2 mX6_copy_1
  rw [e0, e1, e2, e3, c7c_n (by omega), c7c_n (by omega), c7c_n (by omega), c7c_n (by omega)]
theorem c6_d {S : Mm} {o : Nat} (h : o ≠ 26) : fX6_copy S 26 18 o = fX0_copy (mX6_copy_3 S 26 18) 27 19 o := by
  unfold fX6_copy mX6_copy_6 mX6_copy_5 mX6_copy_4
  rw [up2_n h, up2_n h, up2_n h, up2_n h, up2_n h, up2_n h]
theorem c6_v {S : Mm} : ∀ v, v < 4 → ∀ k, k < 11 → fX6_copy S 26 18 (26 + 4 + v) k = S (18 + 4 + v) k := by
  have e0 : rX6_voiceOf 26 (0 : Int32) = 30 := rfl
  have e1 : rX6_voiceOf 26 (1 : Int32) = 31 := rfl
  have e2 : rX6_voiceOf 26 (2 : Int32) = 32 := rfl
  have e3 : rX6_voiceOf 26 (3 : Int32) = 33 := rfl
  have f0 : rX6_voiceOf 18 (0 : Int32) = 22 := rfl
  have f1 : rX6_voiceOf 18 (1 : Int32) = 23 := rfl
  have f2 : rX6_voiceOf 18 (2 : Int32) = 24 := rfl
  have f3 : rX6_voiceOf 18 (3 : Int32) = 25 := rfl
  intro v hv k hk
  rw [c6_d (by omega), c0c_n (by omega) (by omega)]
  unfold mX6_copy_3 mX6_copy_2 mX6_copy_1
  rw [e0, e1, e2, e3, f0, f1, f2, f3]
  rcases v4 hv with q | q | q | q <;> subst q
  · rw [c7c_n (by decide), c7c_n (by decide), c7c_n (by decide)]
    exact c7_v (by decide) k hk
  · rw [c7c_n (by decide), c7c_n (by decide)]
    refine (c7_v (by decide) k hk).trans ?_
    rw [c7c_n (by decide)]
  · rw [c7c_n (by decide)]
    refine (c7_v (by decide) k hk).trans ?_
    rw [c7c_n (by decide), c7c_n (by decide)]
  · refine (c7_v (by decide) k hk).trans ?_
    rw [c7c_n (by decide), c7c_n (by decide), c7c_n (by decide)]
theorem c6_g {S : Mm} : ∀ k, 6 ≤ k → k < 12 → fX6_copy S 26 18 26 k = S 18 k := by
  have m4 : ∀ k, mX6_copy_4 S 26 18 18 k = S 18 k := fun k => by
    unfold mX6_copy_4
    rw [up2_n (by decide), c0c_n (by decide) (by decide), c63_n (by decide)]
  have m5 : ∀ k, mX6_copy_5 S 26 18 18 k = S 18 k := fun k => by
    unfold mX6_copy_5
    rw [up2_n (by decide), up2_n (by decide), m4]
  have m6 : ∀ k, mX6_copy_6 S 26 18 18 k = S 18 k := fun k => by
    unfold mX6_copy_6
    rw [up2_n (by decide), up2_n (by decide), m5]
  intro k h1 h2
  have : k = 6 ∨ k = 7 ∨ k = 8 ∨ k = 9 ∨ k = 10 ∨ k = 11 := by omega
  rcases this with e | e | e | e | e | e <;> subst e
  · unfold fX6_copy
    rw [up2_k (by decide)]
    unfold mX6_copy_6
    rw [up2_k (by decide), up2_k (by decide)]
    unfold mX6_copy_5
    rw [up2_k (by decide), up2_k (by decide)]
    unfold mX6_copy_4
    rw [up2_h, c0c_n (by decide) (by decide), c63_n (by decide)]
  · unfold fX6_copy
    rw [up2_k (by decide)]
    unfold mX6_copy_6
    rw [up2_k (by decide), up2_k (by decide)]
    unfold mX6_copy_5
    rw [up2_k (by decide), up2_h, m4]
  · unfold fX6_copy
    rw [up2_k (by decide)]
    unfold mX6_copy_6
    rw [up2_k (by decide), up2_k (by decide)]
    unfold mX6_copy_5
    rw [up2_h, up2_n (by decide), m4]
  · unfold fX6_copy
    rw [up2_k (by decide)]
    unfold mX6_copy_6
    rw [up2_k (by decide), up2_h, m5]
  · unfold fX6_copy
    rw [up2_k (by decide)]
    unfold mX6_copy_6
    rw [up2_h, up2_n (by decide), m5]
  · unfold fX6_copy
    rw [up2_h, m6]
theorem val_cp {T : Mm} {w k : Nat} (hk : k < 32) : rX10_value (cpD T) (nI w) (nI k) = rX10_value T (nI w) (nI k) := by
  unfold rX10_value
  rw [nI_clamp (by omega), cpD_1 hk]
theorem copy_RA {B : Int} {S T : Mm} (h : RA B 18 S T) : RA B 26 (fX6_copy S 26 18) (cpD T) := by
  obtain ⟨⟨a1, a2, a3, a4, a5, a6, a7, a8, a9⟩, hR, hQ, hL, hDl⟩ := h
  have co : ∀ o, o < 26 ∨ 33 < o → fX6_copy S 26 18 o = S o := fun o ho => c6_n ho
  have d13 : ∀ j v, 3 ≤ j → j ≤ 13 → v < 4 → cpD T j v = T j v := fun j v h1 h2 h3 => by
    have : j = 3 ∨ j = 4 ∨ j = 5 ∨ j = 6 ∨ j = 7 ∨ j = 8 ∨ j = 9 ∨ j = 10 ∨ j = 11 ∨ j = 12 ∨ j = 13 := by omega
    rcases this with e | e | e | e | e | e | e | e | e | e | e <;> subst e
    · exact cpD_3 h3
    · exact cpD_4 h3
    · exact cpD_5 h3
    · exact cpD_6 h3
    · exact cpD_7 h3
    · exact cpD_8 h3
    · exact cpD_9 h3
    · exact cpD_10 h3
    · exact cpD_11 h3
    · exact cpD_12 h3
    · exact cpD_13 h3
  refine ⟨⟨fun w hw k hk => ?_, fun k hk => ?_, fun i hi k hk => ?_, fun t ht => ?_, fun k hk => ?_, ?_, ?_, ?_, ?_⟩, fun v hv => ?_, ?_, ?_, ?_⟩
  · rw [co 4 (by decide), val_cp hk]; exact a1 w hw k hk
  · rw [co 37 (by decide)]; exact a2 k hk
  · rw [co _ (by omega), cpD_2 (by omega)]; exact a3 i hi k hk
  · rw [co 7 (by decide), cpD_15 ht]; exact a4 t ht
  · rw [co 9 (by decide), co 11 (by decide), co 13 (by decide), cpD_16 (by omega), cpD_16 (by omega), cpD_16 (by omega)]; exact a5 k hk
  · rw [co 5 (by decide), cpF_22]; exact a6
  · rw [co 5 (by decide), cpF_23]; exact a7
  · rw [co 1 (by decide), cpF_15]; exact a8
  · rw [cpF_22, cpF_23]; exact a9
  · obtain ⟨q1, q2, q3, q4⟩ := hR v hv
    refine ⟨fun k hk => ?_, ?_, ?_, ?_⟩
    · rw [c6_v v hv k (by omega), d13 _ v (by omega) (by omega) hv]; exact q1 k hk
    · rw [c6_v v hv 10 (by decide), d13 3 v (by decide) (by decide) hv, d13 13 v (by decide) (by decide) hv]; exact q2
    · rw [d13 3 v (by decide) (by decide) hv]; exact q3
    · rw [d13 13 v (by decide) (by decide) hv]; exact q4
  · unfold RQ
    rw [c6_g 6 (by decide) (by decide), c6_g 7 (by decide) (by decide), c6_g 8 (by decide) (by decide), c6_g 9 (by decide) (by decide), c6_g 10 (by decide) (by decide), cpF_28, cpF_13, cpF_14, cpF_24, cpF_25]
    exact hQ
  · unfold RLf
    rw [c6_g 11 (by decide) (by decide), cpF_26, cpF_27]
    exact hL
  · obtain ⟨l0, l1, l2, n, f, hn, en, ef, hf, hk⟩ := hDl
    have e27 : ∀ k, k < 4 → fX6_copy S 26 18 (26 + 1) k = S 19 k := fun k hk => by
      rw [c6_d (by decide)]
      refine (c0_v.1 k hk).trans ?_
      rw [c63_n (by decide)]
    have e29 : ∀ k, k < 200 → fX6_copy S 26 18 (26 + 3) k = S 21 k := fun k hk => by
      rw [c6_d (by decide)]
      refine (c0_v.2 k hk).trans ?_
      rw [c63_n (by decide)]
    refine ⟨by rw [e27 0 (by decide), cpF_16]; exact l0, by rw [e27 1 (by decide), cpF_17]; exact l1, by rw [e27 2 (by decide), cpF_18]; exact l2, n, f, hn, by rw [cpF_16]; exact en, by rw [e27 3 (by decide)]; exact ef, hf, fun k hkn => ?_⟩
    rw [cpD_14 (by omega), e29 _ (by split <;> omega)]
    exact hk k hkn
theorem wp_ok {B K : Int} {S T : Mm} {L L' : Int64} {p1 : Int32} (hB : B < 1000000000) (hK : K < 1000000000) (h : RAll B K S L T L') : ∀ i : Nat, i ≤ 200 → (lpX9_wouldPeak_23 S p1 i).2 = (lpX11_wouldPeak_35 T p1 i).2.1 ∧ RA (B + 3 * i) 26 (lpX9_wouldPeak_23 S p1 i).1 (lpX11_wouldPeak_35 T p1 i).1 ∧ (∀ o, o < 26 ∨ 34 ≤ o → (lpX9_wouldPeak_23 S p1 i).1 o = S o) := by
  intro i
  induction i with
  | zero =>
    intro _
    rw [lpX9_wouldPeak_23_0, lpX11_wouldPeak_35_0]
    exact ⟨rfl, RA_w (copy_RA (RAll_18 h 0).1) (by omega), fun o ho => c6_n (by omega)⟩
  | succ i ih =>
    intro hi
    obtain ⟨h1, h2, h3⟩ := ih (by omega)
    have hD := lpX11_wouldPeak_iD (p1 := p1) h.2.2 hK i (by omega)
    obtain ⟨a1, a2, a3⟩ := adv_eq (lpX11_wouldPeak_35 T p1 i).2.2 (Or.inr rfl) (by omega) h2 hD
    rw [lpX9_wouldPeak_23_s, lpX11_wouldPeak_35_s]
    dsimp only
    unfold bX9_wouldPeak_23_zS bX9_wouldPeak_23_z2 bX11_wouldPeak_35_zS bX11_wouldPeak_35_z3 vX9_wouldPeak_1 vX11_wouldPeak_1
    refine ⟨?_, RA_w a2 (by omega), fun o ho => by rw [a3 o (by omega), h3 o ho]⟩
    rw [a1, h1]
    rfl
theorem RAll_far {B K : Int} {S S' T : Mm} {L L' : Int64} (h : RAll B K S L T L') (hS : ∀ o, o < 26 ∨ 34 ≤ o → S' o = S o) : RAll B K S' L T L' :=
  ⟨RA_fr (by decide) h.1 (fun o ho => hS o (by omega)) (fun _ _ => rfl), RMt_fr h.2.1 (hS _ (by decide)) (hS _ (by decide)) rfl (fun _ _ => rfl), h.2.2⟩
