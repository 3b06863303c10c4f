/-! what the reference's numbers are, so that its indices are in their rows and its divisors aren't 0 -/
def rg (x : Int32) (a b : Int) : Prop := a ≤ x.toInt ∧ x.toInt ≤ b
def iV (S : Mm) (v : Nat) : Prop := vp_in (S 5 v) 4 ∧ vp_in (S 6 v) 48 ∧ vp_in (S 8 v) 65536 ∧ vp_in (S 9 v) 65536
def iJ (S : Mm) (i : Nat) : Prop := vp_in (S 2 (12 * i + 0)) 4 ∧ vp_in (S 2 (12 * i + 1)) 4 ∧ rg (S 2 (12 * i + 2)) (-64) 64 ∧ rg (S 2 (12 * i + 3)) 0 100 ∧ rg (S 2 (12 * i + 4)) 1 400 ∧ rg (S 2 (12 * i + 5)) 1 400 ∧ rg (S 2 (12 * i + 6)) 0 1000 ∧ rg (S 2 (12 * i + 7)) 1 400 ∧ rg (S 2 (12 * i + 8)) 1 128 ∧ rg (S 2 (12 * i + 9)) 16 256 ∧ rg (S 2 (12 * i + 10)) 0 64 ∧ rg (S 2 (12 * i + 11)) 8 255
theorem rg_ne {x : Int32} {a b : Int} (h : rg x a b) (ha : 0 < a) : ¬ x = 0 := by
  intro e
  have h1 := h.1
  rw [e] at h1
  have : (0 : Int32).toInt = 0 := by decide
  omega
theorem vN {p : Int32} (h : vp_in p 4) : p.toNatClampNeg < 4 := by
  obtain ⟨j, hj, e⟩ := vp_in_of h (by decide)
  rw [e, nI_clamp (by omega)]
  exact hj
theorem told_at {S : Mm} {p : Int32} (h : vp_in (S 5 p.toNatClampNeg) 4) : ∃ i : Nat, i < 4 ∧ S 5 p.toNatClampNeg = nI i ∧ ∀ k : Nat, k < 12 → rX10_told S p (nI k) = S 2 (12 * i + k) := by
  obtain ⟨i, hi, e⟩ := vp_in_of h (by decide)
  refine ⟨i, hi, e, fun k hk => ?_⟩
  unfold rX10_told
  rw [e, show (12 : Int32) = nI 12 from rfl, pk_mul, nI_add, nI_clamp (by omega), Nat.mul_comm]
theorem in12 {x : Int32} (h : vp_in x 4) (k : Nat) (hk : k < 12) : vp_in ((x * 12) + nI k) 48 := by
  obtain ⟨i, hi, e⟩ := vp_in_of h (by decide)
  rw [e, show (12 : Int32) = nI 12 from rfl, pk_mul, nI_add]
  exact vp_in_nI (by omega) (by decide)
theorem ph_div {x : Int32} (h : vp_in x 65536) : vp_in (x / 2048) 32 := by
  obtain ⟨i, hi, e⟩ := vp_in_of h (by decide)
  rw [e, show (2048 : Int32) = nI 2048 from rfl, pk_div (by omega) (by decide) (by decide)]
  exact vp_in_nI (by omega) (by decide)
theorem ph_div1 {x : Int32} (h : vp_in x 65536) : vp_in (((x / 2048) + 1) - ((x / 2048) + 1) / 32 * 32) 32 := by
  obtain ⟨i, hi, e⟩ := vp_in_of h (by decide)
  rw [e, show (2048 : Int32) = nI 2048 from rfl, pk_div (by omega) (by decide) (by decide), nI_1, show (32 : Int32) = nI 32 from rfl, pk_rem (by omega) (by decide) (by decide)]
  exact vp_in_nI (Nat.mod_lt _ (by decide)) (by decide)
theorem pt_rem {x : Int32} (h : vp_in x 48) : vp_in (x - x / 12 * 12) 12 := by
  obtain ⟨i, hi, e⟩ := vp_in_of h (by decide)
  rw [e, show (12 : Int32) = nI 12 from rfl, pk_rem (by omega) (by decide) (by decide)]
  exact vp_in_nI (Nat.mod_lt _ (by decide)) (by decide)
theorem tr_in {x : Int32} (h : vp_in x 8) (b c : Nat) (hb : b ≤ 16) (hc : c < 3) : vp_in (((nI b + x) * 3) + nI c) 72 := by
  obtain ⟨i, hi, e⟩ := vp_in_of h (by decide)
  rw [e, nI_add, show (3 : Int32) = nI 3 from rfl, pk_mul, nI_add]
  exact vp_in_nI (by omega) (by decide)
theorem tr_in0 {x : Int32} (h : vp_in x 8) (b : Nat) (hb : b ≤ 16) : vp_in ((nI b + x) * 3) 72 := by
  obtain ⟨i, hi, e⟩ := vp_in_of h (by decide)
  rw [e, nI_add, show (3 : Int32) = nI 3 from rfl, pk_mul]
  exact vp_in_nI (by omega) (by decide)
/-! frames: which rows a method of the desk leaves as they are -/
theorem gl_fr {S : Mm} {p : Int32} {o : Nat} (h3 : o ≠ 3) (h4 : o ≠ 4) : fX10_goOnLevel S p o = S o := by
  unfold fX10_goOnLevel
  (repeat' split) <;> simp [mX10_goOnLevel_2, mX10_goOnLevel_5, mX10_goOnLevel_7, up2_n h3, up2_n h4]
theorem gl_0 {S : Mm} {p : Int32} : fX10_goOnLevel S p 0 = S 0 := gl_fr (by decide) (by decide)
theorem gl_2 {S : Mm} {p : Int32} : fX10_goOnLevel S p 2 = S 2 := gl_fr (by decide) (by decide)
theorem gl_5 {S : Mm} {p : Int32} : fX10_goOnLevel S p 5 = S 5 := gl_fr (by decide) (by decide)
theorem gl_6 {S : Mm} {p : Int32} : fX10_goOnLevel S p 6 = S 6 := gl_fr (by decide) (by decide)
theorem gl_8 {S : Mm} {p : Int32} : fX10_goOnLevel S p 8 = S 8 := gl_fr (by decide) (by decide)
theorem gl_9 {S : Mm} {p : Int32} : fX10_goOnLevel S p 9 = S 9 := gl_fr (by decide) (by decide)
theorem told_fr {S S' : Mm} {p k : Int32} (h5 : S' 5 = S 5) (h2 : S' 2 = S 2) : rX10_told S' p k = rX10_told S p k := by
  unfold rX10_told
  rw [h5, h2]
theorem gl_told {S : Mm} {p q k : Int32} : rX10_told (fX10_goOnLevel S p) q k = rX10_told S q k := told_fr gl_5 gl_2
theorem g8_fr {S : Mm} {p : Int32} {o : Nat} (h3 : o ≠ 3) (h4 : o ≠ 4) (h8 : o ≠ 8) : mX10_gives_8 S p o = S o := by
  unfold mX10_gives_8
  rw [up2_n h8, gl_fr h3 h4]
theorem g13_fr {S : Mm} {p : Int32} {o : Nat} (h3 : o ≠ 3) (h4 : o ≠ 4) (h8 : o ≠ 8) (h9 : o ≠ 9) (h10 : o ≠ 10) : mX10_gives_13 S p o = S o := by
  unfold mX10_gives_13
  rw [up2_n h10, up2_n h9, g8_fr h3 h4 h8]
theorem g16_fr {S : Mm} {p : Int32} {o : Nat} (h3 : o ≠ 3) (h4 : o ≠ 4) (h8 : o ≠ 8) (h9 : o ≠ 9) (h10 : o ≠ 10) (h11 : o ≠ 11) : mX10_gives_16 S p o = S o := by
  unfold mX10_gives_16
  rw [up2_n h11, g13_fr h3 h4 h8 h9 h10]
theorem gv_fr {S : Mm} {p : Int32} {o : Nat} (h3 : o ≠ 3) (h4 : o ≠ 4) (h8 : o ≠ 8) (h9 : o ≠ 9) (h10 : o ≠ 10) (h11 : o ≠ 11) : fX10_gives S p o = S o := by
  unfold fX10_gives
  (repeat' split)
  · rfl
  · exact gl_fr h3 h4
  · exact g16_fr h3 h4 h8 h9 h10 h11
theorem g8_5 {S : Mm} {p : Int32} : mX10_gives_8 S p 5 = S 5 := g8_fr (by decide) (by decide) (by decide)
theorem g13_5 {S : Mm} {p : Int32} : mX10_gives_13 S p 5 = S 5 := g13_fr (by decide) (by decide) (by decide) (by decide) (by decide)
theorem u9_5 {S : Mm} {k : Nat} {x : Int32} : up2 S 9 k x 5 = S 5 := up2_n (by decide)
theorem end_fr {S : Mm} {p : Int32} {o : Nat} (h3 : o ≠ 3) : fX10_end S p o = S o := by
  unfold fX10_end
  split
  · rfl
  · exact up2_n h3
theorem bg_fr {S : Mm} {p1 p2 p3 p4 : Int32} {o : Nat} (h0 : o ≠ 0) (h3 : o < 3 ∨ o = 4 ∨ 13 < o) : fX10_begin S p1 p2 p3 p4 o = S o := by
  unfold fX10_begin mX10_begin_8 mX10_begin_7 mX10_begin_6 mX10_begin_5 mX10_begin_4 mX10_begin_3 mX10_begin_2
  rw [up2_n (by omega), up2_n (by omega), up2_n (by omega), up2_n (by omega), up2_n (by omega), up2_n (by omega), up2_n (by omega), up2_n (by omega), up2_n (by omega), up2_n (by omega), up2_n (by omega), up2_n (by omega)]
theorem up2_k {S : Mm} {o k k' : Nat} {x : Int32} (h : k' ≠ k) (o' : Nat) : up2 S o k x o' k' = S o' k' := by
  unfold up2
  split
  · rename_i e
    subst e
    simp [upd, h]
  · rfl
theorem bg_0 {S : Mm} {p1 p2 p3 p4 : Int32} {k : Nat} (h13 : k ≠ 13) (h14 : k ≠ 14) : fX10_begin S p1 p2 p3 p4 0 k = S 0 k := by
  unfold fX10_begin mX10_begin_8
  rw [up2_n (by decide)]
  unfold mX10_begin_7
  rw [up2_k h13]
  unfold mX10_begin_6 mX10_begin_5 mX10_begin_4 mX10_begin_3 mX10_begin_2
  rw [up2_n (by decide), up2_n (by decide), up2_n (by decide), up2_n (by decide), up2_n (by decide), up2_n (by decide), up2_n (by decide), up2_n (by decide), up2_n (by decide), up2_k h14]
theorem gt1_fr {S : Mm} {o : Nat} (h3 : o ≠ 3) (h12 : o ≠ 12) : jX10_goOnTracks_1 S o = S o := by
  unfold jX10_goOnTracks_1
  split
  · rw [end_fr h3, up2_n h12]
  · rfl
theorem gt3_fr {S : Mm} {o : Nat} (h3 : o ≠ 3) (h12 : o ≠ 12) : jX10_goOnTracks_3 S o = S o := by
  unfold jX10_goOnTracks_3 mX10_goOnTracks_2
  split
  · rw [end_fr h3, up2_n h12, gt1_fr h3 h12]
  · exact gt1_fr h3 h12
theorem gt5_fr {S : Mm} {o : Nat} (h3 : o ≠ 3) (h12 : o ≠ 12) : jX10_goOnTracks_5 S o = S o := by
  unfold jX10_goOnTracks_5 mX10_goOnTracks_4
  split
  · rw [end_fr h3, up2_n h12, gt3_fr h3 h12]
  · exact gt3_fr h3 h12
theorem gt7_fr {S : Mm} {o : Nat} (h3 : o ≠ 3) (h12 : o ≠ 12) : jX10_goOnTracks_7 S o = S o := by
  unfold jX10_goOnTracks_7 mX10_goOnTracks_6
  split
  · rw [end_fr h3, up2_n h12, gt5_fr h3 h12]
  · exact gt5_fr h3 h12
theorem gt7u {S : Mm} {x : Int32} : up2 (jX10_goOnTracks_7 S) 0 27 x 0 25 = S 0 25 := by
  rw [up2_k (by decide), gt7_fr (by decide) (by decide)]
theorem gt14 {S : Mm} : jX10_goOnTracks_14 S 0 25 = S 0 25 := by
  unfold jX10_goOnTracks_14 mX10_goOnTracks_12
  split
  · exact gt7u
  · rw [bg_0 (by decide) (by decide)]; exact gt7u
theorem gt17 {S : Mm} : jX10_goOnTracks_17 S 0 25 = S 0 25 := by
  unfold jX10_goOnTracks_17 mX10_goOnTracks_15
  split
  · exact gt14
  · rw [bg_0 (by decide) (by decide)]; exact gt14
theorem gt20 {S : Mm} : jX10_goOnTracks_20 S 0 25 = S 0 25 := by
  unfold jX10_goOnTracks_20 mX10_goOnTracks_18
  split
  · exact gt17
  · rw [bg_0 (by decide) (by decide)]; exact gt17
/-- the divisors that are told -/
theorem tn0 {S : Mm} {p : Int32} (hV : iV S p.toNatClampNeg) (hI : ∀ i, i < 4 → iJ S i) : ¬ rX10_told S p 4 = 0 ∧ ¬ rX10_told S p 5 = 0 ∧ ¬ rX10_told S p 7 = 0 ∧ ¬ rX10_told S p 11 = 0 := by
  obtain ⟨i, hi, -, ht⟩ := told_at hV.1
  have hJ := hI i hi
  unfold iJ at hJ
  obtain ⟨-, -, -, -, h4, h5, -, h7, -, -, -, h11⟩ := hJ
  refine ⟨?_, ?_, ?_, ?_⟩
  · rw [show (4 : Int32) = nI 4 from rfl, ht 4 (by decide)]; exact rg_ne h4 (by decide)
  · rw [show (5 : Int32) = nI 5 from rfl, ht 5 (by decide)]; exact rg_ne h5 (by decide)
  · rw [show (7 : Int32) = nI 7 from rfl, ht 7 (by decide)]; exact rg_ne h7 (by decide)
  · rw [show (11 : Int32) = nI 11 from rfl, ht 11 (by decide)]; exact rg_ne h11 (by decide)
