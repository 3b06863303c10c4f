set_option maxRecDepth 100000 in
theorem d_X10_goOnTracks_hh1 (S : Mm)  (hs : vp_in (S 0 25) 8) : ¬ ((jX10_goOnTracks_7 S) 0 24 = 0) → (jX10_goOnTracks_7 S) 0 26 ≤ 0 → vp_in ((0 + ((up2 (jX10_goOnTracks_7 S) 0 27 (jX10_goOnTracks_8 S)) 0 25)) * 3) 72 := by
  intros
  rw [gt7u]
  exact tr_in0 hs 0 (by decide)
set_option maxRecDepth 100000 in
theorem d_X10_goOnTracks_hh2 (S : Mm)  (hs : vp_in (S 0 25) 8) : ¬ ((jX10_goOnTracks_7 S) 0 24 = 0) → (jX10_goOnTracks_7 S) 0 26 ≤ 0 → ¬ ((vX10_goOnTracks_9 S) = (-1)) → vp_in ((0 + ((up2 (jX10_goOnTracks_7 S) 0 27 (jX10_goOnTracks_8 S)) 0 25)) * 3) 72 := by
  intros
  rw [gt7u]
  exact tr_in0 hs 0 (by decide)
set_option maxRecDepth 100000 in
theorem d_X10_goOnTracks_hh3 (S : Mm)  (hs : vp_in (S 0 25) 8) : ¬ ((jX10_goOnTracks_7 S) 0 24 = 0) → (jX10_goOnTracks_7 S) 0 26 ≤ 0 → ¬ ((vX10_goOnTracks_9 S) = (-1)) → vp_in (((0 + ((up2 (jX10_goOnTracks_7 S) 0 27 (jX10_goOnTracks_8 S)) 0 25)) * 3) + 1) 72 := by
  intros
  rw [gt7u]
  exact tr_in hs 0 1 (by decide) (by decide)
set_option maxRecDepth 100000 in
theorem d_X10_goOnTracks_hh4 (S : Mm)  (hs : vp_in (S 0 25) 8) : ¬ ((jX10_goOnTracks_7 S) 0 24 = 0) → (jX10_goOnTracks_7 S) 0 26 ≤ 0 → ¬ ((vX10_goOnTracks_9 S) = (-1)) → vp_in (((0 + ((up2 (jX10_goOnTracks_7 S) 0 27 (jX10_goOnTracks_8 S)) 0 25)) * 3) + 2) 72 := by
  intros
  rw [gt7u]
  exact tr_in hs 0 2 (by decide) (by decide)
set_option maxRecDepth 100000 in
theorem d_X10_goOnTracks_hh5 (S : Mm)  (hs : vp_in (S 0 25) 8) : ¬ ((jX10_goOnTracks_7 S) 0 24 = 0) → (jX10_goOnTracks_7 S) 0 26 ≤ 0 → vp_in ((8 + ((jX10_goOnTracks_14 S) 0 25)) * 3) 72 := by
  intros
  rw [gt14]
  exact tr_in0 hs 8 (by decide)
set_option maxRecDepth 100000 in
theorem d_X10_goOnTracks_hh6 (S : Mm)  (hs : vp_in (S 0 25) 8) : ¬ ((jX10_goOnTracks_7 S) 0 24 = 0) → (jX10_goOnTracks_7 S) 0 26 ≤ 0 → ¬ ((jX10_goOnTracks_14 S) 16 ((8 + ((jX10_goOnTracks_14 S) 0 25)) * 3).toNatClampNeg = (-1)) → vp_in ((8 + ((jX10_goOnTracks_14 S) 0 25)) * 3) 72 := by
  intros
  rw [gt14]
  exact tr_in0 hs 8 (by decide)
set_option maxRecDepth 100000 in
theorem d_X10_goOnTracks_hh7 (S : Mm)  (hs : vp_in (S 0 25) 8) : ¬ ((jX10_goOnTracks_7 S) 0 24 = 0) → (jX10_goOnTracks_7 S) 0 26 ≤ 0 → ¬ ((jX10_goOnTracks_14 S) 16 ((8 + ((jX10_goOnTracks_14 S) 0 25)) * 3).toNatClampNeg = (-1)) → vp_in (((8 + ((jX10_goOnTracks_14 S) 0 25)) * 3) + 1) 72 := by
  intros
  rw [gt14]
  exact tr_in hs 8 1 (by decide) (by decide)
set_option maxRecDepth 100000 in
theorem d_X10_goOnTracks_hh8 (S : Mm)  (hs : vp_in (S 0 25) 8) : ¬ ((jX10_goOnTracks_7 S) 0 24 = 0) → (jX10_goOnTracks_7 S) 0 26 ≤ 0 → ¬ ((jX10_goOnTracks_14 S) 16 ((8 + ((jX10_goOnTracks_14 S) 0 25)) * 3).toNatClampNeg = (-1)) → vp_in (((8 + ((jX10_goOnTracks_14 S) 0 25)) * 3) + 2) 72 := by
  intros
  rw [gt14]
  exact tr_in hs 8 2 (by decide) (by decide)
set_option maxRecDepth 100000 in
theorem d_X10_goOnTracks_hh9 (S : Mm)  (hs : vp_in (S 0 25) 8) : ¬ ((jX10_goOnTracks_7 S) 0 24 = 0) → (jX10_goOnTracks_7 S) 0 26 ≤ 0 → vp_in ((16 + ((jX10_goOnTracks_17 S) 0 25)) * 3) 72 := by
  intros
  rw [gt17]
  exact tr_in0 hs 16 (by decide)
set_option maxRecDepth 100000 in
theorem d_X10_goOnTracks_hh10 (S : Mm)  (hs : vp_in (S 0 25) 8) : ¬ ((jX10_goOnTracks_7 S) 0 24 = 0) → (jX10_goOnTracks_7 S) 0 26 ≤ 0 → ¬ ((jX10_goOnTracks_17 S) 16 ((16 + ((jX10_goOnTracks_17 S) 0 25)) * 3).toNatClampNeg = (-1)) → vp_in ((16 + ((jX10_goOnTracks_17 S) 0 25)) * 3) 72 := by
  intros
  rw [gt17]
  exact tr_in0 hs 16 (by decide)
set_option maxRecDepth 100000 in
theorem d_X10_goOnTracks_hh11 (S : Mm)  (hs : vp_in (S 0 25) 8) : ¬ ((jX10_goOnTracks_7 S) 0 24 = 0) → (jX10_goOnTracks_7 S) 0 26 ≤ 0 → ¬ ((jX10_goOnTracks_17 S) 16 ((16 + ((jX10_goOnTracks_17 S) 0 25)) * 3).toNatClampNeg = (-1)) → vp_in (((16 + ((jX10_goOnTracks_17 S) 0 25)) * 3) + 1) 72 := by
  intros
  rw [gt17]
  exact tr_in hs 16 1 (by decide) (by decide)
set_option maxRecDepth 100000 in
theorem d_X10_goOnTracks_hh12 (S : Mm)  (hs : vp_in (S 0 25) 8) : ¬ ((jX10_goOnTracks_7 S) 0 24 = 0) → (jX10_goOnTracks_7 S) 0 26 ≤ 0 → ¬ ((jX10_goOnTracks_17 S) 16 ((16 + ((jX10_goOnTracks_17 S) 0 25)) * 3).toNatClampNeg = (-1)) → vp_in (((16 + ((jX10_goOnTracks_17 S) 0 25)) * 3) + 2) 72 := by
  intros
  rw [gt17]
  exact tr_in hs 16 2 (by decide) (by decide)
theorem c1_X10_goOnTracks (l : Launch) (G : va_G) (cA : ClassId) (zq n : Nat) (hn : 18 ≤ n) (a : Nat → Nat) (ha : apart n a) (S : Mm) (L : Int64) (sz : Nat)   (hs : vp_in (S 0 25) 8) : Met l yX10_goOnTracks wsX10_goOnTracks ({ frames := 2, cells := 0, slots := 0, locals := 47 } : Room) (va_Pc [.ref (a 0)] (gI G cA zq n a (cD a cA) S L sz)) (gQv G n a (cD a cA) (fX10_goOnTracks S) L sz) 0 0 (mA n a sz) :=
  c_X10_goOnTracks l G cA zq n hn a ha S L sz   (d_X10_goOnTracks_hh1 S  hs) (d_X10_goOnTracks_hh2 S  hs) (d_X10_goOnTracks_hh3 S  hs) (d_X10_goOnTracks_hh4 S  hs) (d_X10_goOnTracks_hh5 S  hs) (d_X10_goOnTracks_hh6 S  hs) (d_X10_goOnTracks_hh7 S  hs) (d_X10_goOnTracks_hh8 S  hs) (d_X10_goOnTracks_hh9 S  hs) (d_X10_goOnTracks_hh10 S  hs) (d_X10_goOnTracks_hh11 S  hs) (d_X10_goOnTracks_hh12 S  hs)

set_option maxRecDepth 100000 in
theorem d_X10_gives_hh1 (S : Mm) (p1 : Int32)  (hv : vp_in p1 4) (hV : iV S p1.toNatClampNeg) (hI : ∀ i, i < 4 → iJ S i) : vp_in p1 4 := by
  exact hv
set_option maxRecDepth 100000 in
theorem d_X10_gives_hh2 (S : Mm) (p1 : Int32)  (hv : vp_in p1 4) (hV : iV S p1.toNatClampNeg) (hI : ∀ i, i < 4 → iJ S i) : ¬ (S 3 p1.toNatClampNeg = 0) → vp_in (((S 5 p1.toNatClampNeg) * 12) + (6 : Int32)) 48 := by
  intros
  (try simp only [gl_5, g8_5, g13_5, u9_5])
  exact in12 hV.1 6 (by decide)
set_option maxRecDepth 100000 in
theorem d_X10_gives_hh3 (S : Mm) (p1 : Int32)  (hv : vp_in p1 4) (hV : iV S p1.toNatClampNeg) (hI : ∀ i, i < 4 → iJ S i) : ¬ (S 3 p1.toNatClampNeg = 0) → S 3 p1.toNatClampNeg = 1 → vp_in (((S 5 p1.toNatClampNeg) * 12) + (4 : Int32)) 48 := by
  intros
  (try simp only [gl_5, g8_5, g13_5, u9_5])
  exact in12 hV.1 4 (by decide)
set_option maxRecDepth 100000 in
theorem d_X10_gives_hh4 (S : Mm) (p1 : Int32)  (hv : vp_in p1 4) (hV : iV S p1.toNatClampNeg) (hI : ∀ i, i < 4 → iJ S i) : ¬ (S 3 p1.toNatClampNeg = 0) → S 3 p1.toNatClampNeg = 1 → ¬ rX10_told S p1 (4 : Int32) = 0 := by
  intros
  (try simp only [gl_told])
  exact (tn0 hV hI).1
set_option maxRecDepth 100000 in
theorem d_X10_gives_hh5 (S : Mm) (p1 : Int32)  (hv : vp_in p1 4) (hV : iV S p1.toNatClampNeg) (hI : ∀ i, i < 4 → iJ S i) : ¬ (S 3 p1.toNatClampNeg = 0) → ¬ (S 3 p1.toNatClampNeg = 1) → S 3 p1.toNatClampNeg = 2 → vp_in (((S 5 p1.toNatClampNeg) * 12) + (5 : Int32)) 48 := by
  intros
  (try simp only [gl_5, g8_5, g13_5, u9_5])
  exact in12 hV.1 5 (by decide)
set_option maxRecDepth 100000 in
theorem d_X10_gives_hh6 (S : Mm) (p1 : Int32)  (hv : vp_in p1 4) (hV : iV S p1.toNatClampNeg) (hI : ∀ i, i < 4 → iJ S i) : ¬ (S 3 p1.toNatClampNeg = 0) → ¬ (S 3 p1.toNatClampNeg = 1) → S 3 p1.toNatClampNeg = 2 → ¬ rX10_told S p1 (5 : Int32) = 0 := by
  intros
  (try simp only [gl_told])
  exact (tn0 hV hI).2.1
set_option maxRecDepth 100000 in
theorem d_X10_gives_hh7 (S : Mm) (p1 : Int32)  (hv : vp_in p1 4) (hV : iV S p1.toNatClampNeg) (hI : ∀ i, i < 4 → iJ S i) : ¬ (S 3 p1.toNatClampNeg = 0) → ¬ (S 3 p1.toNatClampNeg = 1) → ¬ (S 3 p1.toNatClampNeg = 2) → ¬ (S 3 p1.toNatClampNeg = 3) → vp_in (((S 5 p1.toNatClampNeg) * 12) + (7 : Int32)) 48 := by
  intros
  (try simp only [gl_5, g8_5, g13_5, u9_5])
  exact in12 hV.1 7 (by decide)
set_option maxRecDepth 100000 in
theorem d_X10_gives_hh8 (S : Mm) (p1 : Int32)  (hv : vp_in p1 4) (hV : iV S p1.toNatClampNeg) (hI : ∀ i, i < 4 → iJ S i) : ¬ (S 3 p1.toNatClampNeg = 0) → ¬ (S 3 p1.toNatClampNeg = 1) → ¬ (S 3 p1.toNatClampNeg = 2) → ¬ (S 3 p1.toNatClampNeg = 3) → ¬ rX10_told S p1 (7 : Int32) = 0 := by
  intros
  (try simp only [gl_told])
  exact (tn0 hV hI).2.2.1
set_option maxRecDepth 100000 in
theorem d_X10_gives_hh9 (S : Mm) (p1 : Int32)  (hv : vp_in p1 4) (hV : iV S p1.toNatClampNeg) (hI : ∀ i, i < 4 → iJ S i) : ¬ (S 3 p1.toNatClampNeg = 0) → ¬ ((fX10_goOnLevel S p1) 3 p1.toNatClampNeg = 0) → vp_in ((((fX10_goOnLevel S p1) 5 p1.toNatClampNeg) * 12) + (11 : Int32)) 48 := by
  intros
  (try simp only [gl_5, g8_5, g13_5, u9_5])
  exact in12 hV.1 11 (by decide)
set_option maxRecDepth 100000 in
theorem d_X10_gives_hh10 (S : Mm) (p1 : Int32)  (hv : vp_in p1 4) (hV : iV S p1.toNatClampNeg) (hI : ∀ i, i < 4 → iJ S i) : ¬ (S 3 p1.toNatClampNeg = 0) → ¬ ((fX10_goOnLevel S p1) 3 p1.toNatClampNeg = 0) → vp_in ((((fX10_goOnLevel S p1) 5 p1.toNatClampNeg) * 12) + (10 : Int32)) 48 := by
  intros
  (try simp only [gl_5, g8_5, g13_5, u9_5])
  exact in12 hV.1 10 (by decide)
set_option maxRecDepth 100000 in
theorem d_X10_gives_hh11 (S : Mm) (p1 : Int32)  (hv : vp_in p1 4) (hV : iV S p1.toNatClampNeg) (hI : ∀ i, i < 4 → iJ S i) : ¬ (S 3 p1.toNatClampNeg = 0) → ¬ ((fX10_goOnLevel S p1) 3 p1.toNatClampNeg = 0) → ¬ rX10_told (fX10_goOnLevel S p1) p1 (11 : Int32) = 0 := by
  intros
  (try simp only [gl_told])
  exact (tn0 hV hI).2.2.2
set_option maxRecDepth 100000 in
theorem d_X10_gives_hh12 (S : Mm) (p1 : Int32)  (hv : vp_in p1 4) (hV : iV S p1.toNatClampNeg) (hI : ∀ i, i < 4 → iJ S i) : ¬ (S 3 p1.toNatClampNeg = 0) → ¬ ((fX10_goOnLevel S p1) 3 p1.toNatClampNeg = 0) → ¬ ((2 : Int32) = 0) → ¬ ((2 : Int32) = 1) → ¬ ((2 : Int32) = 2) → vp_in ((((vX10_gives_1 S p1) * 65536) / (rX10_told (fX10_goOnLevel S p1) p1 (11 : Int32))) / 2048) 32 := by
  intro _ _ _ _ h
  exact absurd rfl h
set_option maxRecDepth 100000 in
theorem d_X10_gives_hh13 (S : Mm) (p1 : Int32)  (hv : vp_in p1 4) (hV : iV S p1.toNatClampNeg) (hI : ∀ i, i < 4 → iJ S i) : ¬ (S 3 p1.toNatClampNeg = 0) → ¬ ((fX10_goOnLevel S p1) 3 p1.toNatClampNeg = 0) → ¬ ((2 : Int32) = 0) → ¬ ((2 : Int32) = 1) → ¬ ((2 : Int32) = 2) → vp_in ((((((vX10_gives_1 S p1) * 65536) / (rX10_told (fX10_goOnLevel S p1) p1 (11 : Int32))) / 2048) + 1) - (((((vX10_gives_1 S p1) * 65536) / (rX10_told (fX10_goOnLevel S p1) p1 (11 : Int32))) / 2048) + 1) / 32 * 32) 32 := by
  intro _ _ _ _ h
  exact absurd rfl h
set_option maxRecDepth 100000 in
theorem d_X10_gives_hh14 (S : Mm) (p1 : Int32)  (hv : vp_in p1 4) (hV : iV S p1.toNatClampNeg) (hI : ∀ i, i < 4 → iJ S i) : ¬ (S 3 p1.toNatClampNeg = 0) → ¬ ((fX10_goOnLevel S p1) 3 p1.toNatClampNeg = 0) → vp_in ((((fX10_goOnLevel S p1) 5 p1.toNatClampNeg) * 12) + (0 : Int32)) 48 := by
  intros
  (try simp only [gl_5, g8_5, g13_5, u9_5])
  exact in12 hV.1 0 (by decide)
set_option maxRecDepth 100000 in
theorem d_X10_gives_hh15 (S : Mm) (p1 : Int32)  (hv : vp_in p1 4) (hV : iV S p1.toNatClampNeg) (hI : ∀ i, i < 4 → iJ S i) : ¬ (S 3 p1.toNatClampNeg = 0) → ¬ ((fX10_goOnLevel S p1) 3 p1.toNatClampNeg = 0) → ¬ ((rX10_told (fX10_goOnLevel S p1) p1 (0 : Int32)) = 0) → ¬ ((rX10_told (fX10_goOnLevel S p1) p1 (0 : Int32)) = 1) → ¬ ((rX10_told (fX10_goOnLevel S p1) p1 (0 : Int32)) = 2) → vp_in (((fX10_goOnLevel S p1) 8 p1.toNatClampNeg) / 2048) 32 := by
  intros
  simp only [gl_8, gl_9]
  exact ph_div hV.2.2.1
set_option maxRecDepth 100000 in
theorem d_X10_gives_hh16 (S : Mm) (p1 : Int32)  (hv : vp_in p1 4) (hV : iV S p1.toNatClampNeg) (hI : ∀ i, i < 4 → iJ S i) : ¬ (S 3 p1.toNatClampNeg = 0) → ¬ ((fX10_goOnLevel S p1) 3 p1.toNatClampNeg = 0) → ¬ ((rX10_told (fX10_goOnLevel S p1) p1 (0 : Int32)) = 0) → ¬ ((rX10_told (fX10_goOnLevel S p1) p1 (0 : Int32)) = 1) → ¬ ((rX10_told (fX10_goOnLevel S p1) p1 (0 : Int32)) = 2) → vp_in (((((fX10_goOnLevel S p1) 8 p1.toNatClampNeg) / 2048) + 1) - ((((fX10_goOnLevel S p1) 8 p1.toNatClampNeg) / 2048) + 1) / 32 * 32) 32 := by
  intros
  simp only [gl_8, gl_9]
  exact ph_div1 hV.2.2.1
set_option maxRecDepth 100000 in
theorem d_X10_gives_hh17 (S : Mm) (p1 : Int32)  (hv : vp_in p1 4) (hV : iV S p1.toNatClampNeg) (hI : ∀ i, i < 4 → iJ S i) : ¬ (S 3 p1.toNatClampNeg = 0) → ¬ ((fX10_goOnLevel S p1) 3 p1.toNatClampNeg = 0) → vp_in ((((fX10_goOnLevel S p1) 5 p1.toNatClampNeg) * 12) + (3 : Int32)) 48 := by
  intros
  (try simp only [gl_5, g8_5, g13_5, u9_5])
  exact in12 hV.1 3 (by decide)
set_option maxRecDepth 100000 in
theorem d_X10_gives_hh18 (S : Mm) (p1 : Int32)  (hv : vp_in p1 4) (hV : iV S p1.toNatClampNeg) (hI : ∀ i, i < 4 → iJ S i) : ¬ (S 3 p1.toNatClampNeg = 0) → ¬ ((fX10_goOnLevel S p1) 3 p1.toNatClampNeg = 0) → vp_in ((((fX10_goOnLevel S p1) 5 p1.toNatClampNeg) * 12) + (1 : Int32)) 48 := by
  intros
  (try simp only [gl_5, g8_5, g13_5, u9_5])
  exact in12 hV.1 1 (by decide)
set_option maxRecDepth 100000 in
theorem d_X10_gives_hh19 (S : Mm) (p1 : Int32)  (hv : vp_in p1 4) (hV : iV S p1.toNatClampNeg) (hI : ∀ i, i < 4 → iJ S i) : ¬ (S 3 p1.toNatClampNeg = 0) → ¬ ((fX10_goOnLevel S p1) 3 p1.toNatClampNeg = 0) → ¬ ((rX10_told (fX10_goOnLevel S p1) p1 (1 : Int32)) = 0) → ¬ ((rX10_told (fX10_goOnLevel S p1) p1 (1 : Int32)) = 1) → ¬ ((rX10_told (fX10_goOnLevel S p1) p1 (1 : Int32)) = 2) → vp_in (((fX10_goOnLevel S p1) 9 p1.toNatClampNeg) / 2048) 32 := by
  intros
  simp only [gl_8, gl_9]
  exact ph_div hV.2.2.2
set_option maxRecDepth 100000 in
theorem d_X10_gives_hh20 (S : Mm) (p1 : Int32)  (hv : vp_in p1 4) (hV : iV S p1.toNatClampNeg) (hI : ∀ i, i < 4 → iJ S i) : ¬ (S 3 p1.toNatClampNeg = 0) → ¬ ((fX10_goOnLevel S p1) 3 p1.toNatClampNeg = 0) → ¬ ((rX10_told (fX10_goOnLevel S p1) p1 (1 : Int32)) = 0) → ¬ ((rX10_told (fX10_goOnLevel S p1) p1 (1 : Int32)) = 1) → ¬ ((rX10_told (fX10_goOnLevel S p1) p1 (1 : Int32)) = 2) → vp_in (((((fX10_goOnLevel S p1) 9 p1.toNatClampNeg) / 2048) + 1) - ((((fX10_goOnLevel S p1) 9 p1.toNatClampNeg) / 2048) + 1) / 32 * 32) 32 := by
  intros
  simp only [gl_8, gl_9]
  exact ph_div1 hV.2.2.2
set_option maxRecDepth 100000 in
theorem d_X10_gives_hh21 (S : Mm) (p1 : Int32)  (hv : vp_in p1 4) (hV : iV S p1.toNatClampNeg) (hI : ∀ i, i < 4 → iJ S i) : ¬ (S 3 p1.toNatClampNeg = 0) → ¬ ((fX10_goOnLevel S p1) 3 p1.toNatClampNeg = 0) → vp_in (((fX10_goOnLevel S p1) 6 p1.toNatClampNeg) - ((fX10_goOnLevel S p1) 6 p1.toNatClampNeg) / 12 * 12) 12 := by
  intros
  simp only [gl_6]
  exact pt_rem hV.2.1
set_option maxRecDepth 100000 in
theorem d_X10_gives_hh22 (S : Mm) (p1 : Int32)  (hv : vp_in p1 4) (hV : iV S p1.toNatClampNeg) (hI : ∀ i, i < 4 → iJ S i) : ¬ (S 3 p1.toNatClampNeg = 0) → ¬ ((fX10_goOnLevel S p1) 3 p1.toNatClampNeg = 0) → vp_in ((((mX10_gives_8 S p1) 5 p1.toNatClampNeg) * 12) + (2 : Int32)) 48 := by
  intros
  (try simp only [gl_5, g8_5, g13_5, u9_5])
  exact in12 hV.1 2 (by decide)
set_option maxRecDepth 100000 in
theorem d_X10_gives_hh23 (S : Mm) (p1 : Int32)  (hv : vp_in p1 4) (hV : iV S p1.toNatClampNeg) (hI : ∀ i, i < 4 → iJ S i) : ¬ (S 3 p1.toNatClampNeg = 0) → ¬ ((fX10_goOnLevel S p1) 3 p1.toNatClampNeg = 0) → vp_in ((((up2 (mX10_gives_8 S p1) 9 p1.toNatClampNeg (vX10_gives_10 S p1)) 5 p1.toNatClampNeg) * 12) + (8 : Int32)) 48 := by
  intros
  (try simp only [gl_5, g8_5, g13_5, u9_5])
  exact in12 hV.1 8 (by decide)
set_option maxRecDepth 100000 in
theorem d_X10_gives_hh24 (S : Mm) (p1 : Int32)  (hv : vp_in p1 4) (hV : iV S p1.toNatClampNeg) (hI : ∀ i, i < 4 → iJ S i) : ¬ (S 3 p1.toNatClampNeg = 0) → ¬ ((fX10_goOnLevel S p1) 3 p1.toNatClampNeg = 0) → vp_in ((((mX10_gives_13 S p1) 5 p1.toNatClampNeg) * 12) + (9 : Int32)) 48 := by
  intros
  (try simp only [gl_5, g8_5, g13_5, u9_5])
  exact in12 hV.1 9 (by decide)
set_option maxRecDepth 100000 in
theorem d_X10_gives_hh25 (S : Mm) (p1 : Int32)  (hv : vp_in p1 4) (hV : iV S p1.toNatClampNeg) (hI : ∀ i, i < 4 → iJ S i) : ¬ (S 3 p1.toNatClampNeg = 0) → ¬ ((fX10_goOnLevel S p1) 3 p1.toNatClampNeg = 0) → vp_in ((((mX10_gives_13 S p1) 5 p1.toNatClampNeg) * 12) + (8 : Int32)) 48 := by
  intros
  (try simp only [gl_5, g8_5, g13_5, u9_5])
  exact in12 hV.1 8 (by decide)
theorem c1_X10_gives (l : Launch) (G : va_G) (cA : ClassId) (zq n : Nat) (hn : 18 ≤ n) (a : Nat → Nat) (ha : apart n a) (S : Mm) (L : Int64) (sz : Nat) (p1 : Int32)  (hv : vp_in p1 4) (hV : iV S p1.toNatClampNeg) (hI : ∀ i, i < 4 → iJ S i) : Met l yX10_gives wsX10_gives ({ frames := 2, cells := 1, slots := 12, locals := 47 } : Room) (va_Pc [.ref (a 0), .int p1] (gI G cA zq n a (cD a cA) S L sz)) (gQi (rX10_gives S p1) G n a (cD a cA) (fX10_gives S p1) L sz) 1 12 (mA n a sz) :=
  c_X10_gives l G cA zq n hn a ha S L sz p1  (d_X10_gives_hh1 S p1  hv hV hI) (d_X10_gives_hh2 S p1  hv hV hI) (d_X10_gives_hh3 S p1  hv hV hI) (d_X10_gives_hh4 S p1  hv hV hI) (d_X10_gives_hh5 S p1  hv hV hI) (d_X10_gives_hh6 S p1  hv hV hI) (d_X10_gives_hh7 S p1  hv hV hI) (d_X10_gives_hh8 S p1  hv hV hI) (d_X10_gives_hh9 S p1  hv hV hI) (d_X10_gives_hh10 S p1  hv hV hI) (d_X10_gives_hh11 S p1  hv hV hI) (d_X10_gives_hh12 S p1  hv hV hI) (d_X10_gives_hh13 S p1  hv hV hI) (d_X10_gives_hh14 S p1  hv hV hI) (d_X10_gives_hh15 S p1  hv hV hI) (d_X10_gives_hh16 S p1  hv hV hI) (d_X10_gives_hh17 S p1  hv hV hI) (d_X10_gives_hh18 S p1  hv hV hI) (d_X10_gives_hh19 S p1  hv hV hI) (d_X10_gives_hh20 S p1  hv hV hI) (d_X10_gives_hh21 S p1  hv hV hI) (d_X10_gives_hh22 S p1  hv hV hI) (d_X10_gives_hh23 S p1  hv hV hI) (d_X10_gives_hh24 S p1  hv hV hI) (d_X10_gives_hh25 S p1  hv hV hI)
