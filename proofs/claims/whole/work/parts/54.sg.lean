/-! The class beside the reference: what was heard; a whole sample -/
def RMt (S : Mm) (L : Int64) (T : Mm) (L' : Int64) : Prop := L = L' ∧ S 34 3 = T 0 30 ∧ S 34 4 = T 0 31 ∧ S 34 6 = T 0 32 ∧ S 34 7 = T 0 33 ∧ S 34 2 = T 17 0 ∧ ∃ x : Nat, x < 64 ∧ S 34 1 = nI x ∧ ∀ k, k < 64 → T 17 k = S 36 (if k < x then x - 1 - k else x + 63 - k)
def RAll (B K : Int) (S : Mm) (L : Int64) (T : Mm) (L' : Int64) : Prop := RA B 18 S T ∧ RMt S L T L' ∧ iD T K
theorem RA_fr {B : Int} {g : Nat} {S S' T T' : Mm} (hg2 : g ≤ 26) (h : RA B g S T) (hS : ∀ o, o < 18 ∨ o = 37 ∨ (g ≤ o ∧ o < g + 8) → S' o = S o) (hT : ∀ o, o < 17 → T' o = T o) : RA B g S' T' := by
  obtain ⟨h1, h2, h3, h4, h5⟩ := h
  refine ⟨RSet_fr h1 (fun o ho => hS o (by omega)) (hT 1 (by decide)) (hT 2 (by decide)) (hT 15 (by decide)) (hT 16 (by decide)) (fun k _ => by rw [hT 0 (by decide)]), RVs_fr h2 (fun o' q1 q2 => hS o' (by omega)) (fun j q1 q2 => hT j (by omega)), RQ_fr h3 (hS g (by omega)) (hT 0 (by decide)), RLf_fr h4 (by rw [hS g (by omega)]) (by rw [hT 0 (by decide)]) (by rw [hT 0 (by decide)]), RDl_fr h5 (hS _ (by omega)) (hS _ (by omega)) (hT 14 (by decide)) (fun k _ => by rw [hT 0 (by decide)])⟩
theorem RA_w {B B' : Int} {g : Nat} {S T : Mm} (h : RA B g S T) (hB : B ≤ B') : RA B' g S T := ⟨h.1, RVs_w h.2.1 hB, RQ_w h.2.2.1 hB, h.2.2.2⟩
theorem RMt_fr {S S' T T' : Mm} {L L' : Int64} (h : RMt S L T L') (h34 : S' 34 = S 34) (h36 : S' 36 = S 36) (h17 : T' 17 = T 17) (h0 : ∀ k, k = 30 ∨ k = 31 ∨ k = 32 ∨ k = 33 → T' 0 k = T 0 k) : RMt S' L T' L' := by
  unfold RMt
  rw [h34, h36, h17, h0 30 (by omega), h0 31 (by omega), h0 32 (by omega), h0 33 (by omega)]
  exact h
theorem RAll_w {B B' K K' : Int} {S T : Mm} {L L' : Int64} (h : RAll B K S L T L') (hB : B ≤ B') (hK : K ≤ K') : RAll B' K' S L T L' := ⟨RA_w h.1 hB, h.2.1, iD_K h.2.2 hK⟩
theorem RAll_18 {B K : Int} {S T : Mm} {L L' : Int64} (h : RAll B K S L T L') (x : Int32) : RAll B K S L (up2 T 18 0 x) L' :=
  ⟨RA_fr (by decide) h.1 (fun _ _ => rfl) (fun o ho => up2_n (by omega)), RMt_fr h.2.1 rfl rfl (up2_n (by decide)) (fun k _ => by rw [up2_n (by decide)]), iD_18 h.2.2⟩
def ctJ (U : Mm) (p : Int32) : Mm := jX2_count_2 U 0 p
theorem ct_1o {U : Mm} {L : Int64} {p : Int32} {o : Nat} (h : o ≠ 34) : jX2_count_1 U L p o = U o := by
  unfold jX2_count_1
  split
  · rfl
  · rw [up2_n h]
theorem ct_1k {U : Mm} {L : Int64} {p : Int32} {k : Nat} (h : k ≠ 6) : jX2_count_1 U L p 34 k = U 34 k := by
  unfold jX2_count_1
  split
  · rfl
  · rw [up2_k h]
theorem ct_16 {U : Mm} {L : Int64} {p : Int32} : jX2_count_1 U L p 34 6 = if rX9_kept p 32767 = p then U 34 6 else U 34 6 + 1 := by
  unfold jX2_count_1
  by_cases c : rX9_kept p 32767 = p
  · rw [if_pos c, if_pos c]
  · rw [if_neg c, if_neg c, up2_h]
theorem ct_2 {U : Mm} {L : Int64} {p : Int32} : jX2_count_2 U L p = jX2_count_1 U L p ∨ jX2_count_2 U L p = up2 (jX2_count_1 U L p) 34 7 (jX2_count_1 U L p 34 7 + 1) := by
  unfold jX2_count_2
  by_cases c : rX9_kept p 32767 ≤ 0
  · rw [if_pos c]; exact Or.inl rfl
  · rw [if_neg c]
    by_cases d : 0 < jX2_count_1 U L p 34 2
    · rw [if_pos d]; exact Or.inl rfl
    · rw [if_neg d]; exact Or.inr rfl
theorem ct_J1 {U : Mm} {L : Int64} {p : Int32} {o : Nat} (h : o ≠ 34) : jX2_count_2 U L p o = U o := by
  rcases ct_2 (U := U) (L := L) (p := p) with e | e
  · rw [e, ct_1o h]
  · rw [e, up2_n h, ct_1o h]
theorem ct_Jk {U : Mm} {L : Int64} {p : Int32} {k : Nat} (h : k ≠ 6) (h7 : k ≠ 7) : jX2_count_2 U L p 34 k = U 34 k := by
  rcases ct_2 (U := U) (L := L) (p := p) with e | e
  · rw [e, ct_1k h]
  · rw [e, up2_k h7, ct_1k h]
theorem ct_J6 {U : Mm} {L : Int64} {p : Int32} : jX2_count_2 U L p 34 6 = if rX9_kept p 32767 = p then U 34 6 else U 34 6 + 1 := by
  rcases ct_2 (U := U) (L := L) (p := p) with e | e
  · rw [e, ct_16]
  · rw [e, up2_k (by decide), ct_16]
theorem ct_J7 {U : Mm} {L : Int64} {p : Int32} : jX2_count_2 U L p 34 7 = if rX9_kept p 32767 ≤ 0 then U 34 7 else if 0 < U 34 2 then U 34 7 else U 34 7 + 1 := by
  have a : jX2_count_1 U L p 34 7 = U 34 7 := by
    unfold jX2_count_1
    split
    · rfl
    · rw [up2_k (by decide)]
  have b : jX2_count_1 U L p 34 2 = U 34 2 := by
    unfold jX2_count_1
    split
    · rfl
    · rw [up2_k (by decide)]
  unfold jX2_count_2
  rw [b]
  by_cases c : rX9_kept p 32767 ≤ 0
  · rw [if_pos c, if_pos c]; exact a
  · rw [if_neg c, if_neg c]
    by_cases d : 0 < U 34 2
    · rw [if_pos d, if_pos d]; exact a
    · rw [if_neg d, if_neg d, up2_h, a]
theorem ct_f {U : Mm} {L : Int64} {p : Int32} {x : Nat} (hx : x < 64) (e : U 34 1 = nI x) : fX2_count U L p = up2 (up2 (up2 (up2 (up2 (jX2_count_2 U L p) 34 3 (U 34 3 + 1)) 34 4 (if U 34 4 < vX2_count_3 U L p then vX2_count_3 U L p else U 34 4)) 34 2 (rX9_kept p 32767)) 36 x (rX9_kept p 32767)) 34 1 (nI ((x + 1) % 64)) := by
  have e5 : mX2_count_5 U L p = up2 (up2 (jX2_count_2 U L p) 34 3 (U 34 3 + 1)) 34 4 (if U 34 4 < vX2_count_3 U L p then vX2_count_3 U L p else U 34 4) := by
    unfold mX2_count_5 vX2_count_4
    rw [ct_Jk (by decide) (by decide), up2_k (by decide), ct_Jk (by decide) (by decide)]
  have e51 : mX2_count_5 U L p 34 1 = nI x := by rw [e5, up2_k (by decide), up2_k (by decide), ct_Jk (by decide) (by decide), e]
  have e6 : mX2_count_6 U L p = up2 (up2 (mX2_count_5 U L p) 34 2 (rX9_kept p 32767)) 36 x (rX9_kept p 32767) := by
    unfold mX2_count_6
    rw [up2_k (by decide), e51, put_at (N := 64) rfl hx]
  have e61 : mX2_count_6 U L p 34 1 = nI x := by rw [e6, up2_n (by decide), up2_k (by decide), e51]
  unfold fX2_count mX2_count_7
  rw [e61, nI_1, show (64 : Int32) = nI 64 from rfl, pk_rem (by omega) (by decide) (by decide), e6, e5]
theorem ct_n {U : Mm} {L : Int64} {p : Int32} {x : Nat} (hx : x < 64) (e : U 34 1 = nI x) {o : Nat} (h : o ≠ 34) (h2 : o ≠ 36) : fX2_count U L p o = U o := by
  rw [ct_f hx e, up2_n h, up2_n h2, up2_n h, up2_n h, up2_n h, ct_J1 h]
theorem m19_17 {T : Mm} {L : Int64} : mX10_sample_19 T L 17 = upd (va_cpy (jX10_sample_9 T L 17) (jX10_sample_9 T L 17) 0 1 63) 0 (rX11_keep (jX10_sample_10 T L) 32767) := by
  have k0 : (0 : Int32).toNatClampNeg = 0 := by decide
  have k1 : (1 : Int32).toNatClampNeg = 1 := by decide
  have k63 : (63 : Int32).toNatClampNeg = 63 := by decide
  have e17 : mX10_sample_17 T L 17 = jX10_sample_9 T L 17 := by
    unfold mX10_sample_17
    rw [up2_n (by decide), up2_n (by decide)]
    unfold mX10_sample_14
    rw [up2_n (by decide)]
    unfold mX10_sample_12
    rw [up2_n (by decide)]
  unfold mX10_sample_19
  rw [up2_s]
  unfold mX10_sample_18
  rw [upR_s, e17, k0, k1, k63]
theorem m14_31 {T : Mm} {L : Int64} : mX10_sample_14 T L 0 31 = jX10_sample_9 T L 0 31 := by
  unfold mX10_sample_14
  rw [up2_k (by decide)]
  unfold mX10_sample_12
  rw [up2_k (by decide)]
theorem m19_30 {T : Mm} {L : Int64} : mX10_sample_19 T L 0 30 = jX10_sample_9 T L 0 30 + 1 := by
  unfold mX10_sample_19
  rw [up2_n (by decide)]
  unfold mX10_sample_18
  rw [upR_n (by decide)]
  unfold mX10_sample_17
  rw [up2_h, up2_k (by decide)]
  unfold mX10_sample_14
  rw [up2_k (by decide)]
  unfold mX10_sample_12
  rw [up2_k (by decide)]
theorem m19_31 {T : Mm} {L : Int64} : mX10_sample_19 T L 0 31 = if jX10_sample_9 T L 0 31 < vX10_sample_15 T L then vX10_sample_15 T L else jX10_sample_9 T L 0 31 := by
  unfold mX10_sample_19
  rw [up2_n (by decide)]
  unfold mX10_sample_18
  rw [upR_n (by decide)]
  unfold mX10_sample_17
  rw [up2_k (by decide), up2_h]
  unfold vX10_sample_16
  rw [m14_31]
theorem m19_32 {T : Mm} {L : Int64} : mX10_sample_19 T L 0 32 = jX10_sample_9 T L 0 32 + jX10_sample_11 T L := by
  unfold mX10_sample_19
  rw [up2_n (by decide)]
  unfold mX10_sample_18
  rw [upR_n (by decide)]
  unfold mX10_sample_17
  rw [up2_k (by decide), up2_k (by decide)]
  unfold mX10_sample_14
  rw [up2_k (by decide)]
  unfold mX10_sample_12
  rw [up2_h]
theorem m19_33 {T : Mm} {L : Int64} : mX10_sample_19 T L 0 33 = jX10_sample_9 T L 0 33 + jX10_sample_13 T L := by
  unfold mX10_sample_19
  rw [up2_n (by decide)]
  unfold mX10_sample_18
  rw [upR_n (by decide)]
  unfold mX10_sample_17
  rw [up2_k (by decide), up2_k (by decide)]
  unfold mX10_sample_14
  rw [up2_h]
  unfold mX10_sample_12
  rw [up2_k (by decide)]
theorem mt_eq {U T : Mm} {L L' : Int64} {p : Int32} (h : RMt U L T L') (hp : p = jX10_sample_10 T L') (h9 : ∀ k, k = 30 ∨ k = 31 ∨ k = 32 ∨ k = 33 → jX10_sample_9 T L' 0 k = T 0 k) (h17 : jX10_sample_9 T L' 17 = T 17) : RMt (fX2_count U L p) (lX2_count U L p) (fX10_sample T L') (lX10_sample T L') := by
  obtain ⟨hL, h3, h4, h6, h7, h2, x, hx, e1, hr⟩ := h
  have k0 : (0 : Int32).toNatClampNeg = 0 := by decide
  have kp : rX9_kept p 32767 = rX11_keep (jX10_sample_10 T L') 32767 := by rw [hp]; rfl
  have v3 : vX2_count_3 U L p = vX10_sample_15 T L' := by
    unfold vX2_count_3 vX10_sample_15
    rw [kp]
  have fT : ∀ k, k = 30 ∨ k = 31 ∨ k = 32 ∨ k = 33 → fX10_sample T L' 0 k = mX10_sample_19 T L' 0 k := fun k hk => by
    rw [fin_k (by omega) (by omega), s27_fr (by decide), up2_k (by omega)]
  have f17 : fX10_sample T L' 17 = upd (va_cpy (T 17) (T 17) 0 1 63) 0 (rX9_kept p 32767) := by
    rw [fin_n (by decide), s27_fr (by decide), up2_n (by decide), m19_17, h17, kp]
  refine ⟨?_, ?_, ?_, ?_, ?_, ?_, (x + 1) % 64, Nat.mod_lt _ (by decide), ?_, fun k hk => ?_⟩
  · unfold lX2_count lX10_sample
    rw [v3, hL]
  · rw [ct_f hx e1, up2_k (by decide), up2_n (by decide), up2_k (by decide), up2_k (by decide), up2_h, fT 30 (by omega), m19_30, h9 30 (by omega), h3]
  · rw [ct_f hx e1, up2_k (by decide), up2_n (by decide), up2_k (by decide), up2_h, fT 31 (by omega), m19_31, h9 31 (by omega), h4, v3]
  · rw [ct_f hx e1, up2_k (by decide), up2_n (by decide), up2_k (by decide), up2_k (by decide), up2_k (by decide), ct_J6, fT 32 (by omega), m19_32, h9 32 (by omega), h6]
    unfold jX10_sample_11
    rw [kp, ← hp]
    by_cases c : rX11_keep p 32767 = p
    · rw [if_pos c, if_pos c, Int32.add_zero]
    · rw [if_neg c, if_neg c]
  · rw [ct_f hx e1, up2_k (by decide), up2_n (by decide), up2_k (by decide), up2_k (by decide), up2_k (by decide), ct_J7, fT 33 (by omega), m19_33, h9 33 (by omega), h7]
    have e12 : mX10_sample_12 T L' 17 = T 17 := by
      unfold mX10_sample_12
      rw [up2_n (by decide), h17]
    unfold jX10_sample_13
    rw [kp, e12, k0, ← h2]
    by_cases c : rX11_keep (jX10_sample_10 T L') 32767 ≤ 0
    · rw [if_pos c, if_pos c, Int32.add_zero]
    · rw [if_neg c, if_neg c]
      by_cases d : 0 < U 34 2
      · rw [if_pos d, if_pos d, Int32.add_zero]
      · rw [if_neg d, if_neg d]
  · rw [ct_f hx e1, up2_k (by decide), up2_n (by decide), up2_h, f17, pk_us]
  · rw [ct_f hx e1, up2_h]
  · have e36 : fX2_count U L p 36 = upd (U 36) x (rX9_kept p 32767) := by
      rw [ct_f hx e1, up2_n (by decide), up2_s, up2_n (by decide), up2_n (by decide), up2_n (by decide), ct_J1 (by decide)]
    rw [f17, e36]
    have hm : (x + 1) % 64 = if x = 63 then 0 else x + 1 := by
      split
      · rename_i q; rw [q]
      · exact Nat.mod_eq_of_lt (by omega)
    rw [hm]
    by_cases z : k = 0
    · subst z
      have e : (if 0 < (if x = 63 then 0 else x + 1) then (if x = 63 then 0 else x + 1) - 1 - 0 else (if x = 63 then 0 else x + 1) + 63 - 0) = x := by
        by_cases q : x = 63
        · rw [if_pos q, if_neg (by omega)]; omega
        · rw [if_neg q, if_pos (by omega)]; omega
      rw [e, pk_us, pk_us]
    · have e : (if k < (if x = 63 then 0 else x + 1) then (if x = 63 then 0 else x + 1) - 1 - k else (if x = 63 then 0 else x + 1) + 63 - k) = (if 0 + (k - 1) < x then x - 1 - (0 + (k - 1)) else x + 63 - (0 + (k - 1))) := by
        by_cases q : x = 63
        · rw [if_pos q, if_neg (by omega)]
          by_cases q2 : 0 + (k - 1) < x
          · rw [if_pos q2]; omega
          · omega
        · rw [if_neg q]
          by_cases q2 : k < x + 1
          · rw [if_pos q2, if_pos (by omega)]; omega
          · rw [if_neg q2, if_neg (by omega)]; omega
      rw [e, pk_un z, pk_cpy_in (by omega) (by omega), hr _ (by omega), pk_un]
      split <;> omega
theorem sam_eq {B K : Int} {S T : Mm} {L L' : Int64} (hB : B < 1800000000) (hK : K < 2000000000) (h : RAll B K S L T L') : rX9_sample S L = rX10_sample T L' ∧ RAll (B + 3) (K + 1) (fX9_sample S L) (lX9_sample S L) (fX10_sample T L') (lX10_sample T L') := by
  obtain ⟨hA, hM, hD⟩ := h
  obtain ⟨a1, a2, a3⟩ := adv_eq L' (Or.inl rfl) hB hA hD
  obtain ⟨hset, hR, hQ, hL, hDl⟩ := hA
  have gt := gt_eq (by decide) (by decide) hB hset hR hQ hD hL
  have j9 : ∀ k, k = 30 ∨ k = 31 ∨ k = 32 ∨ k = 33 → jX10_sample_9 T L' 0 k = T 0 k := fun k hk => by
    rw [sm_9, DT_n (by decide), mx_0]
    exact gt.2.2.2.2.2.2 k (by omega) (by omega) (by omega)
  have j17 : jX10_sample_9 T L' 17 = T 17 := by
    rw [sm_9, DT_n (by decide), mx_fr (by decide) (by decide) (by decide) (by decide) (by decide) (by decide)]
    exact gt.2.2.2.2.2.1 17 (by decide) (by decide)
  have hU : RMt (fX6_advance S 18) L T L' := RMt_fr hM (a3 34 (by decide)) (a3 36 (by decide)) rfl (fun _ _ => rfl)
  have mt := mt_eq hU a1 j9 j17
  obtain ⟨x, hx, e1, -⟩ := hU.2.2.2.2.2.2
  refine ⟨?_, ?_, mt, sm_iD hD hK⟩
  · unfold rX9_sample rX2_count rX10_sample
    rw [a1]
    rfl
  · unfold fX9_sample
    exact RA_fr (by decide) a2 (fun o ho => ct_n hx e1 (by omega) (by omega)) (fun _ _ => rfl)
