/-! calls that are taken, there and there: what is told -/
theorem vp_lt {x M : Int32} {N : Nat} (hM : M.toInt = N) (h1 : ¬ x < 0) (h2 : x < M) : vp_in x N := by
  rw [Int32.lt_iff_toInt_lt] at h1 h2
  have h0 : (0 : Int32).toInt = 0 := by decide
  exact vp_in_iff.mpr ⟨by omega, by omega⟩
theorem vp_le {x M : Int32} {N : Nat} (hM : M.toInt + 1 = N) (h1 : ¬ x < 0) (h2 : x ≤ M) : vp_in x N := by
  rw [Int32.lt_iff_toInt_lt] at h1
  rw [Int32.le_iff_toInt_le] at h2
  have h0 : (0 : Int32).toInt = 0 := by decide
  exact vp_in_iff.mpr ⟨by omega, by omega⟩
theorem rg_of {x a b : Int32} {A B : Int} (ha : a.toInt = A) (hb : b.toInt = B) (h1 : ¬ x < a) (h2 : x ≤ b) : rg x A B := by
  rw [Int32.lt_iff_toInt_lt] at h1
  rw [Int32.le_iff_toInt_le] at h2
  exact ⟨by omega, by omega⟩
theorem RA_set {B : Int} {g : Nat} {S S' T T' : Mm} (h : RA B g S T) (hset : RSet S' T') (hS : ∀ o, g ≤ o → o < g + 8 → S' o = S o) (hT : ∀ o, 3 ≤ o → o ≤ 14 → T' o = T o) (h0 : ∀ k, k = 13 ∨ k = 14 ∨ k = 16 ∨ k = 17 ∨ k = 18 ∨ k = 24 ∨ k = 25 ∨ k = 26 ∨ k = 27 ∨ k = 28 → T' 0 k = T 0 k) : RA B g S' T' := by
  obtain ⟨h1, h2, h3, h4, h5⟩ := h
  refine ⟨hset, RVs_fr h2 (fun o' q1 q2 => hS o' (by omega) (by omega)) (fun j q1 q2 => hT j (by omega) (by omega)), ?_, RLf_fr h4 (by rw [hS g (by omega) (by omega)]) (h0 26 (by omega)) (h0 27 (by omega)), RDl_fr h5 (hS _ (by omega) (by omega)) (hS _ (by omega) (by omega)) (hT 14 (by decide) (by decide)) (fun k hk => h0 k (by omega))⟩
  unfold RQ
  rw [hS g (by omega) (by omega), h0 28 (by omega), h0 13 (by omega), h0 14 (by omega), h0 24 (by omega), h0 25 (by omega)]
  exact h3
theorem draw_ok {B K : Int} {S T : Mm} {L L' : Int64} {p1 p2 : Int32} (h : RAll B K S L T L') (h1 : vp_in p1 32) : rX9_draw S p1 p2 = T 1 p1.toNatClampNeg ∧ RAll B K (fX9_draw S p1 p2) L (up2 T 1 p1.toNatClampNeg p2) L' := by
  obtain ⟨j, hj, e⟩ := vp_in_of h1 (by decide)
  subst e
  have hcl : (nI j).toNatClampNeg = j := nI_clamp (by omega)
  obtain ⟨hA, hM, hD⟩ := h
  have hW := hA.1.1
  have w3 : ∀ k, k < 32 → S 4 (96 + k) = T 1 k := fun k hk => by
    have q := hW 3 (by decide) k hk
    rw [show 32 * 3 + k = 96 + k by omega] at q
    rw [q]
    show T 1 (nI k).toNatClampNeg = T 1 k
    rw [nI_clamp (by omega)]
  have e96 : (96 : Int32) + nI j = nI (96 + j) := nI_add 96 j
  rw [hcl]
  have ef : fX9_draw S (nI j) p2 = up2 S 4 (96 + j) p2 := by
    unfold fX9_draw fX8_redraw
    rw [e96, put_at (N := 128) rfl (by omega)]
  refine ⟨?_, ?_⟩
  · unfold rX9_draw rX8_redraw
    rw [e96, get_at (N := 128) rfl (by omega)]
    exact w3 j hj
  · rw [ef]
    refine ⟨RA_set hA ⟨?_, fun k hk => by rw [up2_n (by decide)]; exact hA.1.2.1 k hk, fun i hi k hk => by rw [up2_n (by omega), up2_n (by decide)]; exact hA.1.2.2.1 i hi k hk, fun t ht => by rw [up2_n (by decide), up2_n (by decide)]; exact hA.1.2.2.2.1 t ht, fun k hk => by rw [up2_n (by decide), up2_n (by decide), up2_n (by decide), up2_n (by decide)]; exact hA.1.2.2.2.2.1 k hk, by rw [up2_n (by decide), up2_n (by decide)]; exact hA.1.2.2.2.2.2⟩ (fun o q1 q2 => up2_n (by omega)) (fun o q1 q2 => up2_n (by omega)) (fun k _ => by rw [up2_n (by decide)]), RMt_fr hM (up2_n (by decide)) (up2_n (by decide)) (up2_n (by decide)) (fun k _ => by rw [up2_n (by decide)]), iD_mk hD (fun o ho => up2_n (by omega)) (by rw [up2_n (by decide)]; exact hD.2.2.1) (by rw [up2_n (by decide)]; exact hD.2.2.2.1) (by rw [up2_n (by decide)]; exact hD.2.2.2.2.1)⟩
    intro w hw k hk
    have w4 := v4 hw
    by_cases q : w = 3
    · subst q
      have e2 : rX10_value (up2 T 1 j p2) (nI 3) (nI k) = up2 T 1 j p2 1 k := by
        show up2 T 1 j p2 1 (nI k).toNatClampNeg = _
        rw [nI_clamp (by omega)]
      rw [e2]
      by_cases q2 : k = j
      · subst q2
        rw [show 32 * 3 + k = 96 + k by omega, up2_h, up2_h]
      · rw [up2_k (by omega), up2_k q2, show 32 * 3 + k = 96 + k by omega]
        exact w3 k hk
    · rw [up2_k (by omega)]
      have e2 : rX10_value (up2 T 1 j p2) (nI w) (nI k) = rX10_value T (nI w) (nI k) := by
        rcases w4 with e | e | e | e
        · subst e; rfl
        · subst e; rfl
        · subst e; rfl
        · exact absurd e q
      rw [e2]
      exact hW w hw k hk
theorem ins_ok {B K : Int} {S S' T T' : Mm} {L L' : Int64} {i0 fr n : Nat} {vals : Nat → Int32} (h : RAll B K S L T L') (hi : i0 < 4) (hfr : fr + n ≤ 12) (hS' : ∀ o, o ≠ 14 + i0 → S' o = S o) (hSv : ∀ k, k < 12 → S' (14 + i0) k = if fr ≤ k ∧ k < fr + n then vals (k - fr) else S (14 + i0) k) (hT' : ∀ o, o < 18 → o ≠ 2 → T' o = T o) (hT2 : ∀ j, T' 2 j = if 12 * i0 + fr ≤ j ∧ j < 12 * i0 + fr + n then vals (j - (12 * i0 + fr)) else T 2 j) (hJ : iJ T' i0) : RAll B K S' L T' L' := by
  obtain ⟨hA, hM, hD⟩ := h
  have h0 : T' 0 = T 0 := hT' 0 (by decide) (by decide)
  have oth : ∀ i, i < 4 → i ≠ i0 → ∀ k, k < 12 → T' 2 (12 * i + k) = T 2 (12 * i + k) := fun i hi' hne k hk => by
    rw [hT2, if_neg (by omega)]
  refine ⟨RA_set hA ⟨RW_fr (hS' 4 (by omega)) (hT' 1 (by decide) (by decide)) hA.1.1, fun k hk => by rw [hS' 37 (by omega)]; exact hA.1.2.1 k hk, fun i hi' k hk => ?_, fun t ht => by rw [hS' 7 (by omega), hT' 15 (by decide) (by decide)]; exact hA.1.2.2.2.1 t ht, fun k hk => by rw [hS' 9 (by omega), hS' 11 (by omega), hS' 13 (by omega), hT' 16 (by decide) (by decide)]; exact hA.1.2.2.2.2.1 k hk, by rw [hS' 5 (by omega), hS' 1 (by omega), h0]; exact hA.1.2.2.2.2.2⟩ (fun o q1 q2 => hS' o (by omega)) (fun o q1 q2 => hT' o (by omega) (by omega)) (fun k _ => by rw [h0]), RMt_fr hM (hS' _ (by omega)) (hS' _ (by omega)) (hT' 17 (by decide) (by decide)) (fun k _ => by rw [h0]), ?_, fun i hi' => ?_, ?_⟩
  · by_cases e : i = i0
    · subst e
      rw [hSv k hk, hT2]
      by_cases c : fr ≤ k ∧ k < fr + n
      · rw [if_pos c, if_pos (by omega), show 12 * i + k - (12 * i + fr) = k - fr by omega]
      · rw [if_neg c, if_neg (by omega)]
        exact hA.1.2.2.1 i hi k hk
    · rw [hS' _ (by omega), oth i hi' e k hk]
      exact hA.1.2.2.1 i hi' k hk
  · intro v hv
    have q := hD.1 v hv
    unfold iV at q ⊢
    rw [hT' 5 (by decide) (by decide), hT' 6 (by decide) (by decide), hT' 8 (by decide) (by decide), hT' 9 (by decide) (by decide)]
    exact q
  · by_cases e : i = i0
    · subst e; exact hJ
    · have q := hD.2.1 i hi'
      unfold iJ at q ⊢
      rw [oth i hi' e 0 (by decide), oth i hi' e 1 (by decide), oth i hi' e 2 (by decide), oth i hi' e 3 (by decide), oth i hi' e 4 (by decide), oth i hi' e 5 (by decide), oth i hi' e 6 (by decide), oth i hi' e 7 (by decide), oth i hi' e 8 (by decide), oth i hi' e 9 (by decide), oth i hi' e 10 (by decide), oth i hi' e 11 (by decide)]
      exact q
  · rw [h0, hT' 15 (by decide) (by decide), hT' 16 (by decide) (by decide)]
    exact hD.2.2
theorem put_d {p1 : Int32} {i k : Nat} (e : p1 = nI i) (hi : i < 4) (hk : k < 12) : ((p1 * 12) + nI k).toNatClampNeg = 12 * i + k := by
  rw [e, show (12 : Int32) = nI 12 from rfl, pk_mul, nI_add, nI_clamp (by omega), Nat.mul_comm]
theorem put_2 {U : Mm} {N : Nat} {p1 : Int32} {i fr to : Nat} (e : p1 = nI i) (hi : i < 4) (hN : N < 13) (hf : fr < 12) (ht : to < 12) : (∀ o, o ≠ 2 → fX11_put_ U N p1 (nI fr) (nI to) o = U o) ∧ (∀ j, fX11_put_ U N p1 (nI fr) (nI to) 2 j = if 12 * i + fr ≤ j ∧ j < 12 * i + fr + N then U 19 (j - (12 * i + fr)) else U 2 j) ∧ rX11_put_ U N p1 (nI fr) (nI to) = U 2 (12 * i + to) := by
  have k0 : (0 : Int32).toNatClampNeg = 0 := by decide
  have kN : (Int32.ofNat N).toNatClampNeg = N := nI_clamp (n := N) (by omega)
  refine ⟨fun o ho => ?_, fun j => ?_, ?_⟩
  · unfold fX11_put_ mX11_put__1
    rw [upR_n ho]
  · unfold fX11_put_ mX11_put__1
    rw [upR_s, put_d e hi hf, k0, kN]
    unfold va_cpy
    rw [Nat.zero_add]
  · unfold rX11_put_
    rw [put_d e hi ht]
theorem c4_0 : (0 : Int32).toNatClampNeg = 0 := by decide
theorem c4_1 : (1 : Int32).toNatClampNeg = 1 := by decide
theorem c4_2 : (2 : Int32).toNatClampNeg = 2 := by decide
theorem c4_3 : (3 : Int32).toNatClampNeg = 3 := by decide
theorem setWaves_ok {B K : Int} {S T : Mm} {L L' : Int64} {p1 p2 p3 p4 p5 : Int32} (h : RAll B K S L T L') (h1 : vp_in p1 4) (h2 : vp_in p2 4) (h3 : vp_in p3 4) (h4 : rg p4 (-64) 64) (h5 : rg p5 0 100) : rX9_setWaves S p1 p2 p3 p4 p5 = vX11_setWaves_3 T p1 p2 p3 p4 p5 ∧ RAll B K (fX9_setWaves S p1 p2 p3 p4 p5) L (mX11_setWaves_2 T p1 p2 p3 p4 p5) L' := by
  obtain ⟨i, hi, e⟩ := vp_in_of h1 (by decide)
  have eo : rX5_instrumentOf p1 = 14 + i := by rw [e, io_n hi]
  have pt := put_2 (U := upR (up2 T 18 0 0) 19 (upd (gX11_setWaves_1 T p1 p2 p3 p4 p5) (3 : Int32).toNatClampNeg p5)) (N := 4) (fr := 0) (to := 3) e hi (by decide) (by decide) (by decide)
  have u2 : upR (up2 T 18 0 0) 19 (upd (gX11_setWaves_1 T p1 p2 p3 p4 p5) (3 : Int32).toNatClampNeg p5) 2 = T 2 := by rw [upR_n (by decide), up2_n (by decide)]
  have gv : ∀ j, j < 4 → upR (up2 T 18 0 0) 19 (upd (gX11_setWaves_1 T p1 p2 p3 p4 p5) (3 : Int32).toNatClampNeg p5) 19 j = if j = 0 then p2 else if j = 1 then p3 else if j = 2 then p4 else p5 := fun j hj => by
    rw [upR_s]
    unfold gX11_setWaves_1
    rw [c4_0, c4_1, c4_2, c4_3]
    rcases v4 hj with q | q | q | q <;> subst q <;> rfl
  have hT2 : ∀ j, mX11_setWaves_2 T p1 p2 p3 p4 p5 2 j = if 12 * i + 0 ≤ j ∧ j < 12 * i + 0 + 4 then (fun j => if j = 0 then p2 else if j = 1 then p3 else if j = 2 then p4 else p5) (j - (12 * i + 0)) else T 2 j := fun j => by
    have q := pt.2.1 j
    rw [u2] at q
    unfold mX11_setWaves_2
    refine q.trans ?_
    by_cases c : 12 * i + 0 ≤ j ∧ j < 12 * i + 0 + 4
    · rw [if_pos c, if_pos c, gv _ (by omega)]
    · rw [if_neg c, if_neg c]
  refine ⟨?_, ins_ok (i0 := i) (fr := 0) (n := 4) (vals := fun j => if j = 0 then p2 else if j = 1 then p3 else if j = 2 then p4 else p5) h hi (by decide) (fun o ho => ?_) (fun k hk => ?_) (fun o ho h2 => ?_) hT2 ?_⟩
  · unfold rX9_setWaves vX11_setWaves_3
    rw [eo]
    refine Eq.trans ?_ pt.2.2.symm
    rw [u2]
    exact h.1.1.2.2.1 i hi 3 (by decide)
  · unfold fX9_setWaves mX9_setWaves_1
    rw [eo, up2_n ho, up2_n ho, up2_n ho, up2_n ho]
  · unfold fX9_setWaves mX9_setWaves_1
    rw [eo, up2_s, up2_s, up2_s, up2_s]
    unfold upd
    have : k = 0 ∨ k = 1 ∨ k = 2 ∨ k = 3 ∨ 3 < k := by omega
    rcases this with q | q | q | q | q
    · subst q; rfl
    · subst q; rfl
    · subst q; rfl
    · subst q; rfl
    · rw [if_neg (by omega), if_neg (by omega), if_neg (by omega), if_neg (by omega), if_neg (by omega)]
  · refine (pt.1 o h2).trans ?_
    rw [upR_n (by omega), up2_n (by omega)]
  · have q := h.2.2.2.1 i hi
    unfold iJ at q ⊢
    have b : ∀ c, (c < 0 ∨ 4 ≤ c) → mX11_setWaves_2 T p1 p2 p3 p4 p5 2 (12 * i + c) = T 2 (12 * i + c) := fun c hc => by rw [hT2, if_neg (by omega)]
    have a : ∀ c, 0 ≤ c → c < 4 → mX11_setWaves_2 T p1 p2 p3 p4 p5 2 (12 * i + c) = (fun j => if j = 0 then p2 else if j = 1 then p3 else if j = 2 then p4 else p5) (c - 0) := fun c h1 h2 => by rw [hT2, if_pos (by omega), show 12 * i + c - (12 * i + 0) = c - 0 by omega]
    exact ⟨by rw [a 0 (by decide) (by decide)]; exact h2, by rw [a 1 (by decide) (by decide)]; exact h3, by rw [a 2 (by decide) (by decide)]; exact h4, by rw [a 3 (by decide) (by decide)]; exact h5, by rw [b 4 (by decide)]; exact q.2.2.2.2.1, by rw [b 5 (by decide)]; exact q.2.2.2.2.2.1, by rw [b 6 (by decide)]; exact q.2.2.2.2.2.2.1, by rw [b 7 (by decide)]; exact q.2.2.2.2.2.2.2.1, by rw [b 8 (by decide)]; exact q.2.2.2.2.2.2.2.2.1, by rw [b 9 (by decide)]; exact q.2.2.2.2.2.2.2.2.2.1, by rw [b 10 (by decide)]; exact q.2.2.2.2.2.2.2.2.2.2.1, by rw [b 11 (by decide)]; exact q.2.2.2.2.2.2.2.2.2.2.2⟩
theorem setEnvelope_ok {B K : Int} {S T : Mm} {L L' : Int64} {p1 p2 p3 p4 p5 : Int32} (h : RAll B K S L T L') (h1 : vp_in p1 4) (h2 : rg p2 1 400) (h3 : rg p3 1 400) (h4 : rg p4 0 1000) (h5 : rg p5 1 400) : rX9_setEnvelope S p1 p2 p3 p4 p5 = vX11_setEnvelope_3 T p1 p2 p3 p4 p5 ∧ RAll B K (fX9_setEnvelope S p1 p2 p3 p4 p5) L (mX11_setEnvelope_2 T p1 p2 p3 p4 p5) L' := by
  obtain ⟨i, hi, e⟩ := vp_in_of h1 (by decide)
  have eo : rX5_instrumentOf p1 = 14 + i := by rw [e, io_n hi]
  have pt := put_2 (U := upR (up2 T 18 0 0) 19 (upd (gX11_setEnvelope_1 T p1 p2 p3 p4 p5) (3 : Int32).toNatClampNeg p5)) (N := 4) (fr := 4) (to := 6) e hi (by decide) (by decide) (by decide)
  have u2 : upR (up2 T 18 0 0) 19 (upd (gX11_setEnvelope_1 T p1 p2 p3 p4 p5) (3 : Int32).toNatClampNeg p5) 2 = T 2 := by rw [upR_n (by decide), up2_n (by decide)]
  have gv : ∀ j, j < 4 → upR (up2 T 18 0 0) 19 (upd (gX11_setEnvelope_1 T p1 p2 p3 p4 p5) (3 : Int32).toNatClampNeg p5) 19 j = if j = 0 then p2 else if j = 1 then p3 else if j = 2 then p4 else p5 := fun j hj => by
    rw [upR_s]
    unfold gX11_setEnvelope_1
    rw [c4_0, c4_1, c4_2, c4_3]
    rcases v4 hj with q | q | q | q <;> subst q <;> rfl
  have hT2 : ∀ j, mX11_setEnvelope_2 T p1 p2 p3 p4 p5 2 j = if 12 * i + 4 ≤ j ∧ j < 12 * i + 4 + 4 then (fun j => if j = 0 then p2 else if j = 1 then p3 else if j = 2 then p4 else p5) (j - (12 * i + 4)) else T 2 j := fun j => by
    have q := pt.2.1 j
    rw [u2] at q
    unfold mX11_setEnvelope_2
    refine q.trans ?_
    by_cases c : 12 * i + 4 ≤ j ∧ j < 12 * i + 4 + 4
    · rw [if_pos c, if_pos c, gv _ (by omega)]
    · rw [if_neg c, if_neg c]
  refine ⟨?_, ins_ok (i0 := i) (fr := 4) (n := 4) (vals := fun j => if j = 0 then p2 else if j = 1 then p3 else if j = 2 then p4 else p5) h hi (by decide) (fun o ho => ?_) (fun k hk => ?_) (fun o ho h2 => ?_) hT2 ?_⟩
  · unfold rX9_setEnvelope vX11_setEnvelope_3
    rw [eo]
    refine Eq.trans ?_ pt.2.2.symm
    rw [u2]
    exact h.1.1.2.2.1 i hi 6 (by decide)
  · unfold fX9_setEnvelope mX9_setEnvelope_1
    rw [eo, up2_n ho, up2_n ho, up2_n ho, up2_n ho]
  · unfold fX9_setEnvelope mX9_setEnvelope_1
    rw [eo, up2_s, up2_s, up2_s, up2_s]
    unfold upd
    have : k < 4 ∨ k = 4 ∨ k = 5 ∨ k = 6 ∨ k = 7 ∨ 7 < k := by omega
    rcases this with q | q | q | q | q | q
    · rw [if_neg (by omega), if_neg (by omega), if_neg (by omega), if_neg (by omega), if_neg (by omega)]
    · subst q; rfl
    · subst q; rfl
    · subst q; rfl
    · subst q; rfl
    · rw [if_neg (by omega), if_neg (by omega), if_neg (by omega), if_neg (by omega), if_neg (by omega)]
  · refine (pt.1 o h2).trans ?_
    rw [upR_n (by omega), up2_n (by omega)]
  · have q := h.2.2.2.1 i hi
    unfold iJ at q ⊢
    have b : ∀ c, (c < 4 ∨ 8 ≤ c) → mX11_setEnvelope_2 T p1 p2 p3 p4 p5 2 (12 * i + c) = T 2 (12 * i + c) := fun c hc => by rw [hT2, if_neg (by omega)]
    have a : ∀ c, 4 ≤ c → c < 8 → mX11_setEnvelope_2 T p1 p2 p3 p4 p5 2 (12 * i + c) = (fun j => if j = 0 then p2 else if j = 1 then p3 else if j = 2 then p4 else p5) (c - 4) := fun c h1 h2 => by rw [hT2, if_pos (by omega), show 12 * i + c - (12 * i + 4) = c - 4 by omega]
    exact ⟨by rw [b 0 (by decide)]; exact q.1, by rw [b 1 (by decide)]; exact q.2.1, by rw [b 2 (by decide)]; exact q.2.2.1, by rw [b 3 (by decide)]; exact q.2.2.2.1, by rw [a 4 (by decide) (by decide)]; exact h2, by rw [a 5 (by decide) (by decide)]; exact h3, by rw [a 6 (by decide) (by decide)]; exact h4, by rw [a 7 (by decide) (by decide)]; exact h5, by rw [b 8 (by decide)]; exact q.2.2.2.2.2.2.2.2.1, by rw [b 9 (by decide)]; exact q.2.2.2.2.2.2.2.2.2.1, by rw [b 10 (by decide)]; exact q.2.2.2.2.2.2.2.2.2.2.1, by rw [b 11 (by decide)]; exact q.2.2.2.2.2.2.2.2.2.2.2⟩
theorem setFilter_ok {B K : Int} {S T : Mm} {L L' : Int64} {p1 p2 p3 : Int32} (h : RAll B K S L T L') (h1 : vp_in p1 4) (h2 : rg p2 1 128) (h3 : rg p3 16 256) : rX9_setFilter S p1 p2 p3 = vX11_setFilter_2 T p1 p2 p3 ∧ RAll B K (fX9_setFilter S p1 p2 p3) L (mX11_setFilter_1 T p1 p2 p3) L' := by
  obtain ⟨i, hi, e⟩ := vp_in_of h1 (by decide)
  have eo : rX5_instrumentOf p1 = 14 + i := by rw [e, io_n hi]
  have pt := put_2 (U := upR (up2 T 18 0 0) 19 (upd (upd (fun _ => 0) (0 : Int32).toNatClampNeg p2) (1 : Int32).toNatClampNeg p3)) (N := 2) (fr := 8) (to := 8) e hi (by decide) (by decide) (by decide)
  have u2 : upR (up2 T 18 0 0) 19 (upd (upd (fun _ => 0) (0 : Int32).toNatClampNeg p2) (1 : Int32).toNatClampNeg p3) 2 = T 2 := by rw [upR_n (by decide), up2_n (by decide)]
  have gv : ∀ j, j < 2 → upR (up2 T 18 0 0) 19 (upd (upd (fun _ => 0) (0 : Int32).toNatClampNeg p2) (1 : Int32).toNatClampNeg p3) 19 j = if j = 0 then p2 else p3 := fun j hj => by
    rw [upR_s, c4_0, c4_1]
    have : j = 0 ∨ j = 1 := by omega
    rcases this with q | q <;> subst q <;> rfl
  have hT2 : ∀ j, mX11_setFilter_1 T p1 p2 p3 2 j = if 12 * i + 8 ≤ j ∧ j < 12 * i + 8 + 2 then (fun j => if j = 0 then p2 else p3) (j - (12 * i + 8)) else T 2 j := fun j => by
    have q := pt.2.1 j
    rw [u2] at q
    unfold mX11_setFilter_1
    refine q.trans ?_
    by_cases c : 12 * i + 8 ≤ j ∧ j < 12 * i + 8 + 2
    · rw [if_pos c, if_pos c, gv _ (by omega)]
    · rw [if_neg c, if_neg c]
  refine ⟨?_, ins_ok (i0 := i) (fr := 8) (n := 2) (vals := fun j => if j = 0 then p2 else p3) h hi (by decide) (fun o ho => ?_) (fun k hk => ?_) (fun o ho h2 => ?_) hT2 ?_⟩
  · unfold rX9_setFilter vX11_setFilter_2
    rw [eo]
    refine Eq.trans ?_ pt.2.2.symm
    rw [u2]
    exact h.1.1.2.2.1 i hi 8 (by decide)
  · unfold fX9_setFilter
    rw [eo, up2_n ho, up2_n ho]
  · unfold fX9_setFilter
    rw [eo, up2_s, up2_s]
    unfold upd
    have : k < 8 ∨ k = 8 ∨ k = 9 ∨ 9 < k := by omega
    rcases this with q | q | q | q
    · rw [if_neg (by omega), if_neg (by omega), if_neg (by omega)]
    · subst q; rfl
    · subst q; rfl
    · rw [if_neg (by omega), if_neg (by omega), if_neg (by omega)]
  · refine (pt.1 o h2).trans ?_
    rw [upR_n (by omega), up2_n (by omega)]
  · have q := h.2.2.2.1 i hi
    unfold iJ at q ⊢
    have b : ∀ c, (c < 8 ∨ 10 ≤ c) → mX11_setFilter_1 T p1 p2 p3 2 (12 * i + c) = T 2 (12 * i + c) := fun c hc => by rw [hT2, if_neg (by omega)]
    have a : ∀ c, 8 ≤ c → c < 10 → mX11_setFilter_1 T p1 p2 p3 2 (12 * i + c) = (fun j => if j = 0 then p2 else p3) (c - 8) := fun c h1 h2 => by rw [hT2, if_pos (by omega), show 12 * i + c - (12 * i + 8) = c - 8 by omega]
    exact ⟨by rw [b 0 (by decide)]; exact q.1, by rw [b 1 (by decide)]; exact q.2.1, by rw [b 2 (by decide)]; exact q.2.2.1, by rw [b 3 (by decide)]; exact q.2.2.2.1, by rw [b 4 (by decide)]; exact q.2.2.2.2.1, by rw [b 5 (by decide)]; exact q.2.2.2.2.2.1, by rw [b 6 (by decide)]; exact q.2.2.2.2.2.2.1, by rw [b 7 (by decide)]; exact q.2.2.2.2.2.2.2.1, by rw [a 8 (by decide) (by decide)]; exact h2, by rw [a 9 (by decide) (by decide)]; exact h3, by rw [b 10 (by decide)]; exact q.2.2.2.2.2.2.2.2.2.2.1, by rw [b 11 (by decide)]; exact q.2.2.2.2.2.2.2.2.2.2.2⟩
theorem setVibrato_ok {B K : Int} {S T : Mm} {L L' : Int64} {p1 p2 p3 : Int32} (h : RAll B K S L T L') (h1 : vp_in p1 4) (h2 : rg p2 0 64) (h3 : rg p3 8 255) : rX9_setVibrato S p1 p2 p3 = vX11_setVibrato_2 T p1 p2 p3 ∧ RAll B K (fX9_setVibrato S p1 p2 p3) L (mX11_setVibrato_1 T p1 p2 p3) L' := by
  obtain ⟨i, hi, e⟩ := vp_in_of h1 (by decide)
  have eo : rX5_instrumentOf p1 = 14 + i := by rw [e, io_n hi]
  have pt := put_2 (U := upR (up2 T 18 0 0) 19 (upd (upd (fun _ => 0) (0 : Int32).toNatClampNeg p2) (1 : Int32).toNatClampNeg p3)) (N := 2) (fr := 10) (to := 10) e hi (by decide) (by decide) (by decide)
  have u2 : upR (up2 T 18 0 0) 19 (upd (upd (fun _ => 0) (0 : Int32).toNatClampNeg p2) (1 : Int32).toNatClampNeg p3) 2 = T 2 := by rw [upR_n (by decide), up2_n (by decide)]
  have gv : ∀ j, j < 2 → upR (up2 T 18 0 0) 19 (upd (upd (fun _ => 0) (0 : Int32).toNatClampNeg p2) (1 : Int32).toNatClampNeg p3) 19 j = if j = 0 then p2 else p3 := fun j hj => by
    rw [upR_s, c4_0, c4_1]
    have : j = 0 ∨ j = 1 := by omega
    rcases this with q | q <;> subst q <;> rfl
  have hT2 : ∀ j, mX11_setVibrato_1 T p1 p2 p3 2 j = if 12 * i + 10 ≤ j ∧ j < 12 * i + 10 + 2 then (fun j => if j = 0 then p2 else p3) (j - (12 * i + 10)) else T 2 j := fun j => by
    have q := pt.2.1 j
    rw [u2] at q
    unfold mX11_setVibrato_1
    refine q.trans ?_
    by_cases c : 12 * i + 10 ≤ j ∧ j < 12 * i + 10 + 2
    · rw [if_pos c, if_pos c, gv _ (by omega)]
    · rw [if_neg c, if_neg c]
  refine ⟨?_, ins_ok (i0 := i) (fr := 10) (n := 2) (vals := fun j => if j = 0 then p2 else p3) h hi (by decide) (fun o ho => ?_) (fun k hk => ?_) (fun o ho h2 => ?_) hT2 ?_⟩
  · unfold rX9_setVibrato vX11_setVibrato_2
    rw [eo]
    refine Eq.trans ?_ pt.2.2.symm
    rw [u2]
    exact h.1.1.2.2.1 i hi 10 (by decide)
  · unfold fX9_setVibrato
    rw [eo, up2_n ho, up2_n ho]
  · unfold fX9_setVibrato
    rw [eo, up2_s, up2_s]
    unfold upd
    have : k < 10 ∨ k = 10 ∨ k = 11 := by omega
    rcases this with q | q | q
    · rw [if_neg (by omega), if_neg (by omega), if_neg (by omega)]
    · subst q; rfl
    · subst q; rfl
  · refine (pt.1 o h2).trans ?_
    rw [upR_n (by omega), up2_n (by omega)]
  · have q := h.2.2.2.1 i hi
    unfold iJ at q ⊢
    have b : ∀ c, (c < 10 ∨ 12 ≤ c) → mX11_setVibrato_1 T p1 p2 p3 2 (12 * i + c) = T 2 (12 * i + c) := fun c hc => by rw [hT2, if_neg (by omega)]
    have a : ∀ c, 10 ≤ c → c < 12 → mX11_setVibrato_1 T p1 p2 p3 2 (12 * i + c) = (fun j => if j = 0 then p2 else p3) (c - 10) := fun c h1 h2 => by rw [hT2, if_pos (by omega), show 12 * i + c - (12 * i + 10) = c - 10 by omega]
    exact ⟨by rw [b 0 (by decide)]; exact q.1, by rw [b 1 (by decide)]; exact q.2.1, by rw [b 2 (by decide)]; exact q.2.2.1, by rw [b 3 (by decide)]; exact q.2.2.2.1, by rw [b 4 (by decide)]; exact q.2.2.2.2.1, by rw [b 5 (by decide)]; exact q.2.2.2.2.2.1, by rw [b 6 (by decide)]; exact q.2.2.2.2.2.2.1, by rw [b 7 (by decide)]; exact q.2.2.2.2.2.2.2.1, by rw [b 8 (by decide)]; exact q.2.2.2.2.2.2.2.2.1, by rw [b 9 (by decide)]; exact q.2.2.2.2.2.2.2.2.2.1, by rw [a 10 (by decide) (by decide)]; exact h2, by rw [a 11 (by decide) (by decide)]; exact h3⟩
