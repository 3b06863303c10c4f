theorem bg_5 {S : Mm} {p1 p2 p3 p4 : Int32} : fX10_begin S p1 p2 p3 p4 5 = upd (S 5) (rX10_nextVoice S).toNatClampNeg p1 := by
  unfold fX10_begin mX10_begin_8 mX10_begin_7 mX10_begin_6 mX10_begin_5 mX10_begin_4 mX10_begin_3 mX10_begin_2
  rw [up2_n (by decide), up2_n (by decide), up2_n (by decide), up2_n (by decide), up2_n (by decide), up2_n (by decide), up2_n (by decide), up2_n (by decide), up2_n (by decide), up2_s, up2_n (by decide), up2_n (by decide)]
theorem bg_6 {S : Mm} {p1 p2 p3 p4 : Int32} : fX10_begin S p1 p2 p3 p4 6 = upd (S 6) (rX10_nextVoice S).toNatClampNeg p2 := by
  unfold fX10_begin mX10_begin_8 mX10_begin_7 mX10_begin_6 mX10_begin_5 mX10_begin_4 mX10_begin_3 mX10_begin_2
  rw [up2_n (by decide), up2_n (by decide), up2_n (by decide), up2_n (by decide), up2_n (by decide), up2_n (by decide), up2_n (by decide), up2_n (by decide), up2_s, up2_n (by decide), up2_n (by decide), up2_n (by decide)]
theorem bg_8 {S : Mm} {p1 p2 p3 p4 : Int32} : fX10_begin S p1 p2 p3 p4 8 = upd (S 8) (rX10_nextVoice S).toNatClampNeg 0 := by
  unfold fX10_begin mX10_begin_8 mX10_begin_7 mX10_begin_6 mX10_begin_5 mX10_begin_4 mX10_begin_3 mX10_begin_2
  rw [up2_n (by decide), up2_n (by decide), up2_n (by decide), up2_n (by decide), up2_n (by decide), up2_n (by decide), up2_s, up2_n (by decide), up2_n (by decide), up2_n (by decide), up2_n (by decide), up2_n (by decide)]
theorem bg_9 {S : Mm} {p1 p2 p3 p4 : Int32} : fX10_begin S p1 p2 p3 p4 9 = upd (S 9) (rX10_nextVoice S).toNatClampNeg 0 := by
  unfold fX10_begin mX10_begin_8 mX10_begin_7 mX10_begin_6 mX10_begin_5 mX10_begin_4 mX10_begin_3 mX10_begin_2
  rw [up2_n (by decide), up2_n (by decide), up2_n (by decide), up2_n (by decide), up2_n (by decide), up2_s, up2_n (by decide), up2_n (by decide), up2_n (by decide), up2_n (by decide), up2_n (by decide), up2_n (by decide)]
theorem bg_iD {S : Mm} {p1 p2 p3 p4 : Int32} {K : Int} (h : iD S K) (h1 : vp_in p1 4) (h2 : vp_in p2 48) : iD (fX10_begin S p1 p2 p3 p4) K := by
  obtain ⟨hV, hI, h25, h16, h28, ht, hw⟩ := h
  refine ⟨fun v hv => ?_, fun i hi => iJ_fr (bg_fr (by decide) (by decide)) (hI i hi), ?_, ?_, ?_, ?_, ?_⟩
  · have q := hV v hv
    unfold iV at q ⊢
    rw [bg_5, bg_6, bg_8, bg_9]
    exact ⟨upd_in h1 q.1, upd_in h2 q.2.1, upd_in (vp_in_lit (by decide)) q.2.2.1, upd_in (vp_in_lit (by decide)) q.2.2.2⟩
  · rw [bg_0 (by decide) (by decide)]; exact h25
  · rw [bg_0 (by decide) (by decide)]; exact h16
  · rw [bg_0 (by decide) (by decide)]; exact h28
  · rw [bg_fr (by decide) (by decide)]; exact ht
  · rw [bg_fr (by decide) (by decide)]; exact hw
theorem iD_fr {S S' : Mm} {K : Int} (h : iD S K) (hf : ∀ o, o ≠ 3 → o ≠ 12 → S' o = S o) : iD S' K := by
  obtain ⟨hV, hI, h25, h16, h28, ht, hw⟩ := h
  refine ⟨fun v hv => ?_, fun i hi => iJ_fr (hf 2 (by decide) (by decide)) (hI i hi), ?_, ?_, ?_, ?_, ?_⟩
  · have q := hV v hv
    unfold iV at q ⊢
    rw [hf 5 (by decide) (by decide), hf 6 (by decide) (by decide), hf 8 (by decide) (by decide), hf 9 (by decide) (by decide)]
    exact q
  · rw [hf 0 (by decide) (by decide)]; exact h25
  · rw [hf 0 (by decide) (by decide)]; exact h16
  · rw [hf 0 (by decide) (by decide)]; exact h28
  · rw [hf 15 (by decide) (by decide)]; exact ht
  · rw [hf 16 (by decide) (by decide)]; exact hw
/-- a number of the desk itself changes, none of those that iD speaks of -/
theorem iD_0 {S : Mm} {K : Int} {k : Nat} {x : Int32} (h : iD S K) (h1 : k ≠ 25) (h2 : k ≠ 16) (h3 : k ≠ 28) : iD (up2 S 0 k x) K := by
  obtain ⟨hV, hI, h25, h16, h28, ht, hw⟩ := h
  refine ⟨fun v hv => ?_, fun i hi => iJ_fr (up2_n (by decide)) (hI i hi), ?_, ?_, ?_, ?_, ?_⟩
  · have q := hV v hv
    unfold iV at q ⊢
    rw [up2_n (by decide), up2_n (by decide), up2_n (by decide), up2_n (by decide)]
    exact q
  · rw [up2_k h1.symm]; exact h25
  · rw [up2_k h2.symm]; exact h16
  · rw [up2_k h3.symm]; exact h28
  · rw [up2_n (by decide)]; exact ht
  · rw [up2_n (by decide)]; exact hw
theorem trk {U : Mm} {K : Int} (h : iD U K) (b : Nat) (hb : b ≤ 16) (hne : ¬ U 16 ((nI b + U 0 25) * 3).toNatClampNeg = -1) : vp_in (U 16 ((nI b + U 0 25) * 3).toNatClampNeg) 48 := by
  obtain ⟨-, -, h25, -, -, -, hw⟩ := h
  obtain ⟨j, hj, e⟩ := vp_in_of h25 (by decide)
  have e2 : ((nI b + U 0 25) * 3).toNatClampNeg = 3 * (b + j) := by
    rw [e, nI_add, show (3 : Int32) = nI 3 from rfl, pk_mul, nI_clamp (by omega), Nat.mul_comm]
  rw [e2] at hne ⊢
  exact (hw (b + j) (by omega)).resolve_left hne
theorem gt_iD {S : Mm} {K : Int} (h : iD S K) : iD (fX10_goOnTracks S) K := by
  have t0 : (0 : Int32).toNatClampNeg = 0 := by decide
  have t1 : (1 : Int32).toNatClampNeg = 1 := by decide
  have t2 : (2 : Int32).toNatClampNeg = 2 := by decide
  have h7 : iD (jX10_goOnTracks_7 S) K := iD_fr h (fun o a b => gt7_fr a b)
  have hu : iD (up2 (jX10_goOnTracks_7 S) 0 27 (jX10_goOnTracks_8 S)) K := iD_0 h7 (by decide) (by decide) (by decide)
  have h14 : iD (jX10_goOnTracks_14 S) K := by
    unfold jX10_goOnTracks_14
    split
    · exact hu
    · rename_i hne
      unfold mX10_goOnTracks_12
      refine bg_iD hu ?_ ?_
      · rw [t0]; exact hu.2.2.2.2.2.1 0 (by decide)
      · unfold vX10_goOnTracks_9 at hne ⊢
        exact trk hu 0 (by decide) hne
  have h17 : iD (jX10_goOnTracks_17 S) K := by
    unfold jX10_goOnTracks_17
    split
    · exact h14
    · rename_i hne
      unfold mX10_goOnTracks_15
      refine bg_iD h14 ?_ ?_
      · rw [t1]; exact h14.2.2.2.2.2.1 1 (by decide)
      · exact trk h14 8 (by decide) hne
  have h20 : iD (jX10_goOnTracks_20 S) K := by
    unfold jX10_goOnTracks_20
    split
    · exact h17
    · rename_i hne
      unfold mX10_goOnTracks_18
      refine bg_iD h17 ?_ ?_
      · rw [t2]; exact h17.2.2.2.2.2.1 2 (by decide)
      · exact trk h17 16 (by decide) hne
  unfold fX10_goOnTracks
  (repeat' split)
  · exact h7
  · exact h20
  · exact h7
theorem len_ok {x : Int32} (h : rg x 0 200) (hn : ¬ x ≤ 0) : (¬ x - 1 < 0) ∧ 1 + (x - 1).toNatClampNeg ≤ 200 ∧ 0 + (x - 1).toNatClampNeg ≤ 200 ∧ vp_in (x - 1) 200 := by
  obtain ⟨j, hj, hj2, e⟩ := rg_nI h
  rw [e] at hn ⊢
  have hp : 0 < j := by
    rcases Nat.eq_zero_or_pos j with q | q
    · subst q
      exact absurd (by decide) hn
    · exact q
  obtain ⟨i, rfl⟩ : ∃ i, j = i + 1 := ⟨j - 1, by omega⟩
  rw [nI_pred, nI_clamp (by omega)]
  exact ⟨nI_pos (by omega), by omega, by omega, vp_in_nI (by omega) (by decide)⟩
