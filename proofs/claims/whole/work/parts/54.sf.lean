/-! The class beside the reference: the delay, and a whole sample of a stage -/
def RDl (g : Nat) (S T : Mm) : Prop := S (g + 1) 0 = T 0 16 ∧ S (g + 1) 1 = T 0 17 ∧ S (g + 1) 2 = T 0 18 ∧ ∃ n f : Nat, n ≤ 200 ∧ T 0 16 = nI n ∧ S (g + 1) 3 = nI f ∧ (f < n ∨ (n = 0 ∧ f = 0)) ∧ ∀ k, k < n → T 14 k = S (g + 3) (if f + k < n then f + k else f + k - n)
def DT (T : Mm) (m : Int32) : Mm := if T 0 16 ≤ 0 then T else up2 (upR T 14 (va_cpy (T 14) (T 14) 1 0 (T 0 16 - 1).toNatClampNeg)) 14 (T 0 16 - 1).toNatClampNeg (rX11_keep (m + (T 14 0 * T 0 18) / 256) 100000)
def DR (T : Mm) (m : Int32) : Int32 := if T 0 16 ≤ 0 then m else m + (T 14 0 * T 0 17) / 256
theorem DT_n {T : Mm} {m : Int32} {o : Nat} (h : o ≠ 14) : DT T m o = T o := by
  unfold DT
  split
  · rfl
  · rw [up2_n h, upR_n h]
theorem rowN_g {g : Nat} (hg : isG g) : rowN (g + 1 + 1) = 200 := by rcases hg with e | e <;> subst e <;> rfl
theorem ps_n {S : Mm} {g o : Nat} {m : Int32} (hg : isG g) (h1 : o ≠ g + 1) (h3 : o ≠ g + 3) : fX0_pass S (g + 1) m o = S o := by
  unfold fX0_pass
  split
  · rfl
  · rw [up2_n h1]
    unfold mX0_pass_1 fX3_put
    (repeat' split) <;> first | rfl | exact up2_n (by omega)
theorem ps_k {S : Mm} {g k : Nat} {m : Int32} (h3 : k ≠ 3) : fX0_pass S (g + 1) m (g + 1) k = S (g + 1) k := by
  unfold fX0_pass
  split
  · rfl
  · rw [up2_k h3]
    unfold mX0_pass_1 fX3_put
    (repeat' split) <;> first | rfl | rw [up2_n (by omega)]
theorem dl_eq {g : Nat} {S T : Mm} {m : Int32} (hg : isG g) (h : RDl g S T) : rX0_pass S (g + 1) m = DR T m ∧ RDl g (fX0_pass S (g + 1) m) (DT T m) := by
  obtain ⟨h0, h1, h2, n, f, hn, en, ef, hf, hk⟩ := h
  by_cases z : n = 0
  · have c : S (g + 1) 0 = 0 := by rw [h0, en, z]; rfl
    have c2 : T 0 16 ≤ 0 := by rw [en, z]; decide
    unfold rX0_pass DR fX0_pass DT
    rw [if_pos c, if_pos c2, if_pos c, if_pos c2]
    exact ⟨rfl, h0, h1, h2, n, f, hn, en, ef, hf, hk⟩
  · have hf : f < n := hf.resolve_right (fun q => z q.1)
    have c : ¬ S (g + 1) 0 = 0 := by rw [h0, en]; exact nI_ne0 (by omega) (by omega)
    have c2 : ¬ T 0 16 ≤ 0 := by rw [en]; exact nI_nle (by omega) (by omega)
    have n1 : (T 0 16 - 1).toNatClampNeg = n - 1 := by
      rw [en, show (1 : Int32) = nI 1 from rfl, pk_sub (by omega), nI_clamp (by omega)]
    have gt : rX3_get S (g + 1 + 1) (S (g + 1) 3) = T 14 0 := by
      rw [ef, get_at (rowN_g hg) (by omega), hk 0 (by omega), if_pos (by omega)]
      rfl
    have m1 : mX0_pass_1 S (g + 1) m = up2 S (g + 3) f (rX9_kept (m + (T 14 0 * S (g + 1) 2) / 256) 100000) := by
      unfold mX0_pass_1
      rw [gt, ef, put_at (rowN_g hg) (by omega)]
    have mo : mX0_pass_1 S (g + 1) m (g + 1) = S (g + 1) := by rw [m1, up2_n (by omega)]
    have j2 : jX0_pass_2 S (g + 1) m = nI (if n ≤ f + 1 then 0 else f + 1) := by
      unfold jX0_pass_2
      rw [mo, h0, en, ef, nI_1]
      by_cases q : n ≤ f + 1
      · rw [if_pos (nI_le q (by omega)), if_pos q]; rfl
      · rw [if_neg (nI_ge (by omega) (by omega)), if_neg q]
    refine ⟨?_, ?_, ?_, ?_, n, (if n ≤ f + 1 then 0 else f + 1), hn, ?_, ?_, Or.inl (by split <;> omega), fun k hkn => ?_⟩
    · unfold rX0_pass DR
      rw [if_neg c, if_neg c2, gt, up2_k (by decide), mo, h1]
    · rw [ps_k (by decide), DT_n (by decide)]; exact h0
    · rw [ps_k (by decide), DT_n (by decide)]; exact h1
    · rw [ps_k (by decide), DT_n (by decide)]; exact h2
    · rw [DT_n (by decide)]; exact en
    · unfold fX0_pass
      rw [if_neg c, up2_h, j2]
    · have eS : fX0_pass S (g + 1) m (g + 3) = upd (S (g + 3)) f (rX9_kept (m + (T 14 0 * S (g + 1) 2) / 256) 100000) := by
        unfold fX0_pass
        rw [if_neg c, up2_n (by omega), m1, up2_s]
      have eT : DT T m 14 = upd (va_cpy (T 14) (T 14) 1 0 (n - 1)) (n - 1) (rX9_kept (m + (T 14 0 * S (g + 1) 2) / 256) 100000) := by
        unfold DT
        rw [if_neg c2, n1, up2_s, upR_s, h2]
        rfl
      rw [eS, eT]
      by_cases q : k = n - 1
      · subst q
        have e : (if (if n ≤ f + 1 then 0 else f + 1) + (n - 1) < n then (if n ≤ f + 1 then 0 else f + 1) + (n - 1) else (if n ≤ f + 1 then 0 else f + 1) + (n - 1) - n) = f := by
          by_cases q : n ≤ f + 1
          · rw [if_pos q, if_pos (by omega)]; omega
          · rw [if_neg q, if_neg (by omega)]; omega
        rw [e, pk_us, pk_us]
      · have e : (if (if n ≤ f + 1 then 0 else f + 1) + k < n then (if n ≤ f + 1 then 0 else f + 1) + k else (if n ≤ f + 1 then 0 else f + 1) + k - n) = (if f + (1 + (k - 0)) < n then f + (1 + (k - 0)) else f + (1 + (k - 0)) - n) := by
          by_cases q : n ≤ f + 1
          · rw [if_pos q, if_pos (by omega), if_neg (by omega)]; omega
          · rw [if_neg q]
            by_cases q2 : f + 1 + k < n
            · rw [if_pos q2, if_pos (by omega)]; omega
            · rw [if_neg q2, if_neg (by omega)]; omega
        rw [e, pk_un q, pk_cpy_in (by omega) (by omega), hk _ (by omega), pk_un]
        split <;> omega
theorem RDl_fr {g : Nat} {S S' T T' : Mm} (h : RDl g S T) (h1 : S' (g + 1) = S (g + 1)) (h3 : S' (g + 3) = S (g + 3)) (h14 : T' 14 = T 14) (h0 : ∀ k, k = 16 ∨ k = 17 ∨ k = 18 → T' 0 k = T 0 k) : RDl g S' T' := by
  unfold RDl
  rw [h1, h3, h14, h0 16 (by omega), h0 17 (by omega), h0 18 (by omega)]
  exact h
/-- a stage of the class beside the reference's desk -/
def RA (B : Int) (g : Nat) (S T : Mm) : Prop := RSet S T ∧ RVs B g S T ∧ RQ B g S T ∧ RLf g S T ∧ RDl g S T
theorem mx_fr {T : Mm} {o : Nat} (h3 : o ≠ 3) (h4 : o ≠ 4) (h8 : o ≠ 8) (h9 : o ≠ 9) (h10 : o ≠ 10) (h11 : o ≠ 11) : mxT T o = T o := by
  unfold mxT
  rw [gv_fr h3 h4 h8 h9 h10 h11, gv_fr h3 h4 h8 h9 h10 h11, gv_fr h3 h4 h8 h9 h10 h11, gv_fr h3 h4 h8 h9 h10 h11]
theorem mx_0 {T : Mm} : mxT T 0 = T 0 := mx_fr (by decide) (by decide) (by decide) (by decide) (by decide) (by decide)
theorem mx_14 {T : Mm} : mxT T 14 = T 14 := mx_fr (by decide) (by decide) (by decide) (by decide) (by decide) (by decide)
theorem sm_4 {T : Mm} {L : Int64} : vX10_sample_4 T L = mxR (fX10_goOnTracks T) * mxT (fX10_goOnTracks T) 0 15 := by
  unfold vX10_sample_4 vX10_sample_3 vX10_sample_1 mX10_sample_2
  rfl
theorem sm_X {T : Mm} {L : Int64} : fX10_gives (mX10_sample_2 T L) 3 = mxT (fX10_goOnTracks T) := by
  unfold mX10_sample_2
  rfl
theorem sm_9 {T : Mm} {L : Int64} : jX10_sample_9 T L = DT (mxT (fX10_goOnTracks T)) (vX10_sample_4 T L / 16) := by
  have k0 : (0 : Int32).toNatClampNeg = 0 := by decide
  have k1 : (1 : Int32).toNatClampNeg = 1 := by decide
  unfold jX10_sample_9 DT
  rw [sm_X]
  by_cases c : mxT (fX10_goOnTracks T) 0 16 ≤ 0
  · rw [if_pos c, if_pos c]
  · rw [if_neg c, if_neg c]
    unfold mX10_sample_7 vX10_sample_6 mX10_sample_5
    rw [sm_X, upR_n (by decide), k0, k1]
theorem sm_10 {T : Mm} {L : Int64} : jX10_sample_10 T L = DR (mxT (fX10_goOnTracks T)) (vX10_sample_4 T L / 16) := by
  have k0 : (0 : Int32).toNatClampNeg = 0 := by decide
  unfold jX10_sample_10 DR
  rw [sm_X]
  by_cases c : mxT (fX10_goOnTracks T) 0 16 ≤ 0
  · rw [if_pos c, if_pos c]
  · rw [if_neg c, if_neg c]
    unfold vX10_sample_8 mX10_sample_7 mX10_sample_5
    rw [sm_X, up2_n (by decide), upR_n (by decide), k0]
theorem sm_27 {T : Mm} {L : Int64} : jX10_sample_27 T L = HC (HC (HC (HC (up2 (mX10_sample_19 T L) 0 28 (((mX10_sample_19 T L) 0 28) + 1)) 0) 1) 2) 3 := by
  have a : jX10_sample_21 T L = HC (up2 (mX10_sample_19 T L) 0 28 (((mX10_sample_19 T L) 0 28) + 1)) 0 := by
    unfold jX10_sample_21 mX10_sample_20 HC
    rfl
  have b : jX10_sample_23 T L = HC (jX10_sample_21 T L) 1 := by
    unfold jX10_sample_23 mX10_sample_22 HC
    rfl
  have c : jX10_sample_25 T L = HC (jX10_sample_23 T L) 2 := by
    unfold jX10_sample_25 mX10_sample_24 HC
    rfl
  have d : jX10_sample_27 T L = HC (jX10_sample_25 T L) 3 := by
    unfold jX10_sample_27 mX10_sample_26 HC
    rfl
  rw [d, c, b, a]
theorem fin_n {T : Mm} {L : Int64} {o : Nat} (h : o ≠ 0) : fX10_sample T L o = jX10_sample_27 T L o := by
  unfold fX10_sample mX10_sample_29 mX10_sample_28
  (repeat' split)
  · rfl
  · rw [up2_n h, up2_n h, up2_n h]
  · rw [up2_n h]
theorem fin_k {T : Mm} {L : Int64} {k : Nat} (h : k ≠ 25) (h2 : k ≠ 26) : fX10_sample T L 0 k = jX10_sample_27 T L 0 k := by
  unfold fX10_sample mX10_sample_29 mX10_sample_28
  (repeat' split)
  · rfl
  · rw [up2_k h, up2_k h2, up2_k h2]
  · rw [up2_k h2]
theorem s27_0 {T : Mm} {L : Int64} {k : Nat} (h28 : k ≠ 28) (h30 : k ≠ 30) (h31 : k ≠ 31) (h32 : k ≠ 32) (h33 : k ≠ 33) : jX10_sample_27 T L 0 k = fX10_goOnTracks T 0 k := by
  rw [s27_fr (by decide), up2_k h28, s19_0 h30 h31 h32 h33, sm_9, DT_n (by decide), mx_0]
theorem s27_28 {T : Mm} {L : Int64} : jX10_sample_27 T L 0 28 = fX10_goOnTracks T 0 28 + 1 := by
  rw [s27_fr (by decide), up2_h, s19_0 (by decide) (by decide) (by decide) (by decide), sm_9, DT_n (by decide), mx_0]
theorem s27_o {T : Mm} {L : Int64} {o : Nat} (h0 : o ≠ 0) (h17 : o ≠ 17) (h12 : o ≠ 12) (h14 : o ≠ 14) : jX10_sample_27 T L o = mxT (fX10_goOnTracks T) o := by
  rw [s27_fr h12, up2_n h0, s19_fr h0 h17, sm_9, DT_n h14]
theorem st8 {x y : Int32} (h : x = y) : (x + 1) - (x + 1) / 8 * 8 = (y + 1) - (y + 1) / 8 * 8 := by rw [h]
theorem adv_eq {B K : Int} {g : Nat} {S T : Mm} (L : Int64) (hg : isG g) (hB : B < 1800000000) (h : RA B g S T) (hD : iD T K) : rX6_advance S g = jX10_sample_10 T L ∧ RA (B + 3) g (fX6_advance S g) (fX10_sample T L) ∧ (∀ o, o < g ∨ g + 8 ≤ o → fX6_advance S g o = S o) := by
  have hgl : 18 ≤ g := by rcases hg with e | e <;> omega
  have hgu : g ≤ 26 := by rcases hg with e | e <;> omega
  obtain ⟨hset, hR, hQ, hL, hDl⟩ := h
  obtain ⟨a1, a2, a3, a4, a5, a6, a7⟩ := gt_eq hgl hgu hB hset hR hQ hD hL
  have aD : iD (fX10_goOnTracks T) K := gt_iD hD
  obtain ⟨b1, b2, b3, b4⟩ := mix_eq hgl hgu a1 a2 aD a3.1
  have em : rX6_mixVoices (jX6_advance_1 S g) g * fX6_mixVoices (jX6_advance_1 S g) g 1 2 / 16 = vX10_sample_4 T L / 16 := by
    rw [b1, sm_4, b3.2.2.2.2.2.2.2.1]
  have c0 : RDl g (fX6_mixVoices (jX6_advance_1 S g) g) (mxT (fX10_goOnTracks T)) := by
    refine RDl_fr hDl ?_ ?_ ?_ (fun k hk => ?_)
    · rw [mix_n (by omega), a5 _ (by omega) (by omega)]
    · rw [mix_n (by omega), a5 _ (by omega) (by omega)]
    · rw [mx_14, a6 14 (by decide) (by decide)]
    · rw [mx_0, a7 k (by omega) (by omega) (by omega)]
  obtain ⟨d1, d2⟩ := dl_eq (m := vX10_sample_4 T L / 16) hg c0
  have e3 : mX6_advance_2 S g = fX0_pass (fX6_mixVoices (jX6_advance_1 S g) g) (g + 1) (vX10_sample_4 T L / 16) := by
    unfold mX6_advance_2
    rw [em]
  have r3 : RVs (B + 3) g (mX6_advance_2 S g) (up2 (mX10_sample_19 T L) 0 28 (((mX10_sample_19 T L) 0 28) + 1)) := by
    refine RVs_fr b2 (fun o' h1 h2 => ?_) (fun j h1 h2 => ?_)
    · rw [e3, ps_n hg (by omega) (by omega)]
    · rw [up2_n (by omega), s19_fr (by omega) (by omega), sm_9, DT_n (by omega)]
  have r4 : RVs (B + 3) g (fX6_countGates (mX6_advance_2 S g) g) (jX10_sample_27 T L) := by rw [sm_27]; exact cng_eq r3
  have s4g : fX6_countGates (mX6_advance_2 S g) g g = jX6_advance_1 S g g := by rw [cng_n (by omega), e3, ps_n hg (by omega) (by omega), mix_n (by omega)]
  have u24 : jX10_sample_27 T L 0 24 = fX10_goOnTracks T 0 24 := s27_0 (by decide) (by decide) (by decide) (by decide) (by decide)
  have u25 : jX10_sample_27 T L 0 25 = fX10_goOnTracks T 0 25 := s27_0 (by decide) (by decide) (by decide) (by decide) (by decide)
  have u26 : jX10_sample_27 T L 0 26 = fX10_goOnTracks T 0 26 := s27_0 (by decide) (by decide) (by decide) (by decide) (by decide)
  have u27 : jX10_sample_27 T L 0 27 = fX10_goOnTracks T 0 27 := s27_0 (by decide) (by decide) (by decide) (by decide) (by decide)
  -- what the class's end leaves
  have n5 : ∀ o, o ≠ g → jX6_advance_4 S g o = fX6_countGates (mX6_advance_2 S g) g o := fun o ho => by
    unfold jX6_advance_4
    split
    · rfl
    · unfold fX6_countStep mX6_countStep_1
      split
      · rw [up2_n ho, up2_n ho]
      · rw [up2_n ho]
  have k5 : ∀ k, k ≠ 10 → k ≠ 11 → jX6_advance_4 S g g k = jX6_advance_1 S g g k := fun k h10 h11 => by
    unfold jX6_advance_4
    split
    · rw [s4g]
    · unfold fX6_countStep mX6_countStep_1
      split
      · rw [up2_k h10, up2_k h11, s4g]
      · rw [up2_k h11, s4g]
  have n6 : ∀ o, o ≠ g → fX6_advance S g o = fX6_countGates (mX6_advance_2 S g) g o := fun o ho => by
    unfold fX6_advance
    rw [up2_n ho, n5 o ho]
  have k6 : ∀ k, k ≠ 6 → k ≠ 10 → k ≠ 11 → fX6_advance S g g k = jX6_advance_1 S g g k := fun k h6 h10 h11 => by
    unfold fX6_advance
    rw [up2_k h6, k5 k h10 h11]
  have k66 : fX6_advance S g g 6 = jX6_advance_1 S g g 6 + 1 := by
    unfold fX6_advance
    rw [up2_h, k5 6 (by decide) (by decide)]
  have fout : ∀ o, o < g ∨ g + 8 ≤ o → fX6_advance S g o = S o := fun o ho => by
    rw [n6 o (by omega), cng_n (by omega), e3, ps_n hg (by omega) (by omega), mix_n (by omega), a5 o (by omega) (by omega)]
  have fT0 : ∀ k, k ≠ 25 → k ≠ 26 → k ≠ 28 → k ≠ 30 → k ≠ 31 → k ≠ 32 → k ≠ 33 → fX10_sample T L 0 k = fX10_goOnTracks T 0 k := fun k h1 h2 h3 h4 h5 h6 h7 => by
    rw [fin_k h1 h2, s27_0 h3 h4 h5 h6 h7]
  refine ⟨?_, ⟨?_, ?_, ?_, ?_, ?_⟩, fout⟩
  · unfold rX6_advance vX6_advance_3
    rw [em, d1, sm_10]
  · refine RSet_fr b3 (fun o ho => ?_) ?_ ?_ ?_ ?_ (fun k hk => ?_)
    · rw [n6 o (by omega), cng_n (by omega), e3, ps_n hg (by omega) (by omega)]
    · rw [fin_n (by decide), s27_o (by decide) (by decide) (by decide) (by decide)]
    · rw [fin_n (by decide), s27_o (by decide) (by decide) (by decide) (by decide)]
    · rw [fin_n (by decide), s27_o (by decide) (by decide) (by decide) (by decide)]
    · rw [fin_n (by decide), s27_o (by decide) (by decide) (by decide) (by decide)]
    · rw [fT0 k (by omega) (by omega) (by omega) (by omega) (by omega) (by omega) (by omega), mx_0]
  · exact RVs_fr r4 (fun o' h1 h2 => n6 o' (by omega)) (fun j h1 h2 => fin_n (by omega))
  · obtain ⟨q1, q2, q3, q4, q5, q6, q7⟩ := a3
    refine ⟨?_, ?_, ?_, ?_, ?_, ?_, ?_⟩
    · rw [k66, fin_k (by decide) (by decide), s27_28, q1]
    · rw [k6 7 (by decide) (by decide) (by decide), fT0 13 (by decide) (by decide) (by decide) (by decide) (by decide) (by decide) (by decide)]; exact q2
    · rw [k6 8 (by decide) (by decide) (by decide), fT0 14 (by decide) (by decide) (by decide) (by decide) (by decide) (by decide) (by decide)]; exact q3
    · rw [k6 9 (by decide) (by decide) (by decide), fT0 24 (by decide) (by decide) (by decide) (by decide) (by decide) (by decide) (by decide)]; exact q4
    · rw [fT0 24 (by decide) (by decide) (by decide) (by decide) (by decide) (by decide) (by decide)]; exact q5
    · -- the step
      unfold fX6_advance
      rw [up2_k (by decide)]
      by_cases z : fX10_goOnTracks T 0 24 = 0
      · have e : jX6_advance_4 S g = fX6_countGates (mX6_advance_2 S g) g := by unfold jX6_advance_4; rw [s4g, if_pos (q4.trans z)]
        have e2 : fX10_sample T L = jX10_sample_27 T L := by unfold fX10_sample; rw [u24, if_pos z]
        rw [e, e2, s4g, u25]; exact q6
      · obtain ⟨p, q, hpq, hq, e26, e27, el⟩ := a4.2 z
        have e : jX6_advance_4 S g = fX6_countStep (fX6_countGates (mX6_advance_2 S g) g) g := by unfold jX6_advance_4; rw [s4g, if_neg (fun w => z (q4.symm.trans w))]
        rw [e]
        unfold fX6_countStep fX10_sample
        rw [u24, if_neg z, up2_h, s4g, el, up2_k (by decide), u27, e27, u26, e26, show (1 : Int32) = nI 1 from rfl, pk_sub (by omega), nI_add]
        by_cases w : p + 1 = q
        · rw [if_pos (show nI (q - p - 1) = 0 by rw [show q - p - 1 = 0 by omega]; rfl), if_pos (by rw [w])]
          unfold mX6_countStep_1 mX10_sample_29 mX10_sample_28
          rw [up2_h, up2_h, up2_k (by decide), up2_k (by decide), up2_k (by decide), s4g, u25]
          exact st8 q6
        · rw [if_neg (nI_ne0 (by omega) (by omega)), if_neg (fun v => w ((nI_eq (by omega) (by omega)).mp v)), up2_k (by decide), up2_k (by decide), s4g, u25]
          exact q6
    · rw [fT0 13 (by decide) (by decide) (by decide) (by decide) (by decide) (by decide) (by decide)]; exact q7
  · -- what is left of the step
    obtain ⟨q1, q2, q3, q4, q5, q6, q7⟩ := a3
    by_cases z : fX10_goOnTracks T 0 24 = 0
    · have e : jX6_advance_4 S g = fX6_countGates (mX6_advance_2 S g) g := by unfold jX6_advance_4; rw [s4g, if_pos (q4.trans z)]
      have e2 : fX10_sample T L = jX10_sample_27 T L := by unfold fX10_sample; rw [u24, if_pos z]
      refine RLf_fr (a4.1 z) ?_ (by rw [e2, u26]) (by rw [e2, u27])
      unfold fX6_advance
      rw [up2_k (by decide), e, s4g]
    · obtain ⟨p, q, hpq, hq, e26, e27, el⟩ := a4.2 z
      have e : jX6_advance_4 S g = fX6_countStep (fX6_countGates (mX6_advance_2 S g) g) g := by unfold jX6_advance_4; rw [s4g, if_neg (fun w => z (q4.symm.trans w))]
      have e11 : fX6_advance S g g 11 = nI (q - p - 1) := by
        unfold fX6_advance
        rw [up2_k (by decide), e]
        unfold fX6_countStep mX6_countStep_1
        split
        · rw [up2_k (by decide), up2_h, s4g, el, show (1 : Int32) = nI 1 from rfl, pk_sub (by omega)]
        · rw [up2_h, s4g, el, show (1 : Int32) = nI 1 from rfl, pk_sub (by omega)]
      have f27 : fX10_sample T L 0 27 = nI q := by rw [fin_k (by decide) (by decide), u27]; exact e27
      have cnd : (nI (p + 1) = nI q) ↔ p + 1 = q := nI_eq (by omega) (by omega)
      by_cases w : p + 1 = q
      · refine Or.inl ⟨by rw [e11, show q - p - 1 = 0 by omega]; rfl, ?_⟩
        unfold fX10_sample
        rw [u24, if_neg z, up2_k (by decide), u27, e27, u26, e26, show (1 : Int32) = nI 1 from rfl, nI_add, if_pos (cnd.mpr w)]
        unfold mX10_sample_29 mX10_sample_28
        rw [up2_k (by decide), up2_h]
      · refine Or.inr ⟨p + 1, q, by omega, by omega, hq, ?_, f27, by rw [e11]; rfl⟩
        unfold fX10_sample
        rw [u24, if_neg z, up2_k (by decide), u27, e27, u26, e26, show (1 : Int32) = nI 1 from rfl, nI_add, if_neg (fun v => w (cnd.mp v)), up2_h]
  · have e1 : fX6_advance S g (g + 1) = fX0_pass (fX6_mixVoices (jX6_advance_1 S g) g) (g + 1) (vX10_sample_4 T L / 16) (g + 1) := by rw [n6 _ (by omega), cng_n (by omega), e3]
    have e3' : fX6_advance S g (g + 3) = fX0_pass (fX6_mixVoices (jX6_advance_1 S g) g) (g + 1) (vX10_sample_4 T L / 16) (g + 3) := by rw [n6 _ (by omega), cng_n (by omega), e3]
    refine RDl_fr d2 e1 e3' ?_ (fun k hk => ?_)
    · rw [fin_n (by decide), s27_fr (by decide), up2_n (by decide), s19_fr (by decide) (by decide), sm_9]
    · rw [fT0 k (by omega) (by omega) (by omega) (by omega) (by omega) (by omega) (by omega), DT_n (by decide), mx_0]
