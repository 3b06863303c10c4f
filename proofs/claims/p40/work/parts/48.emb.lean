/-! a stage seen by itself, brought to the places 18 .. 25: a sample of it depends on nothing else -/
abbrev okK (o k : Nat) : Prop := o < 18 ∨ (o = 18 ∧ 6 ≤ k ∧ k < 12) ∨ (o = 19 ∧ k < 4) ∨ (o = 21 ∧ k < 200) ∨ (22 ≤ o ∧ o < 26 ∧ k < 11)
def shO (d o : Nat) : Nat := if o < 18 then o else o + d
def Qs (d : Nat) (S : Mm) : Mm := fun o k => if okK o k then S (shO d o) k else 0
theorem shO_lo {d o : Nat} (h : o < 18) : shO d o = o := if_pos h
theorem shO_hi {d o : Nat} (h : 18 ≤ o) : shO d o = o + d := if_neg (by omega)
theorem shO_inj {d o o' : Nat} (h : shO d o = shO d o') : o = o' := by
  unfold shO at h
  split at h <;> split at h <;> omega
theorem Qs_r {d : Nat} {S : Mm} {o k : Nat} (h : okK o k) : Qs d S o k = S (shO d o) k := if_pos h
theorem Qs_u {d : Nat} {S : Mm} {o k : Nat} {x : Int32} (h : okK o k) : up2 (Qs d S) o k x = Qs d (up2 S (shO d o) k x) := by
  funext o' k'
  by_cases e : o' = o
  · subst e
    rw [up2_s]
    by_cases e2 : k' = k
    · subst e2
      rw [pk_us, Qs_r h, up2_s, pk_us]
    · rw [pk_un e2]
      unfold Qs
      rw [up2_s, pk_un e2]
  · rw [up2_n e]
    unfold Qs
    rw [up2_n (fun q => e (shO_inj q))]
theorem Qi {d : Nat} {S : Mm} {o k : Nat} (h : o < 18) : Qs d S o k = S o k := by rw [Qs_r (Or.inl h), shO_lo h]
abbrev isW (o : Nat) : Prop := 22 ≤ o ∧ o < 26
theorem Qv {d : Nat} {S : Mm} {o k : Nat} (h : isW o) (hk : k < 11) : Qs d S o k = S (o + d) k := by rw [Qs_r (Or.inr (Or.inr (Or.inr (Or.inr ⟨h.1, h.2, hk⟩)))), shO_hi (by omega)]
theorem Qw {d : Nat} {S : Mm} {o k : Nat} {x : Int32} (h : isW o) (hk : k < 11) : up2 (Qs d S) o k x = Qs d (up2 S (o + d) k x) := by rw [Qs_u (Or.inr (Or.inr (Or.inr (Or.inr ⟨h.1, h.2, hk⟩)))), shO_hi (by omega)]
theorem Qg {d : Nat} {S : Mm} {k : Nat} (hk : 6 ≤ k ∧ k < 12) : Qs d S 18 k = S (18 + d) k := by rw [Qs_r (Or.inr (Or.inl ⟨rfl, hk⟩)), shO_hi (by omega)]
theorem Qh {d : Nat} {S : Mm} {k : Nat} {x : Int32} (hk : 6 ≤ k ∧ k < 12) : up2 (Qs d S) 18 k x = Qs d (up2 S (18 + d) k x) := by rw [Qs_u (Or.inr (Or.inl ⟨rfl, hk⟩)), shO_hi (by omega)]
theorem Qd {d : Nat} {S : Mm} {k : Nat} (hk : k < 4) : Qs d S 19 k = S (19 + d) k := by rw [Qs_r (Or.inr (Or.inr (Or.inl ⟨rfl, hk⟩))), shO_hi (by omega)]
theorem Qe {d : Nat} {S : Mm} {k : Nat} {x : Int32} (hk : k < 4) : up2 (Qs d S) 19 k x = Qs d (up2 S (19 + d) k x) := by rw [Qs_u (Or.inr (Or.inr (Or.inl ⟨rfl, hk⟩))), shO_hi (by omega)]
theorem Qr {d : Nat} {S : Mm} {k : Nat} (hk : k < 200) : Qs d S 21 k = S (21 + d) k := by rw [Qs_r (Or.inr (Or.inr (Or.inr (Or.inl ⟨rfl, hk⟩)))), shO_hi (by omega)]
theorem Qq {d : Nat} {S : Mm} {k : Nat} {x : Int32} (hk : k < 200) : up2 (Qs d S) 21 k x = Qs d (up2 S (21 + d) k x) := by rw [Qs_u (Or.inr (Or.inr (Or.inr (Or.inl ⟨rfl, hk⟩)))), shO_hi (by omega)]
theorem Q_if {c : Prop} [Decidable c] {d : Nat} {A B : Mm} : Qs d (if c then A else B) = if c then Qs d A else Qs d B := by
  split <;> rfl
theorem vo_in {p : Int32} : isW (rX6_voiceOf 18 p) := by
  unfold rX6_voiceOf isW
  (repeat' split) <;> omega
theorem vo_d {d : Nat} {p : Int32} : rX6_voiceOf (18 + d) p = rX6_voiceOf 18 p + d := by
  unfold rX6_voiceOf
  (repeat' split) <;> omega
theorem io_lt {p : Int32} : rX5_instrumentOf p < 18 := by
  unfold rX5_instrumentOf
  (repeat' split) <;> omega
abbrev isd (d : Nat) : Prop := d = 0 ∨ d = 8
theorem rowN_d {d : Nat} (h : isd d) : rowN (20 + d) = 200 := by rcases h with rfl | rfl <;> rfl
theorem rin {p : Int32} (h1 : ¬ p < 0) (h2 : ¬ Int32.ofNat 200 ≤ p) : p.toNatClampNeg < 200 := by
  have h := in_ge (N := 200) h1 h2 (by decide)
  exact Nat.not_le.mp fun q => h (Or.inr q)
theorem Q_rX3_get_lo {d : Nat} {S : Mm} {o : Nat} {p : Int32} (h : o + 1 < 18) : rX3_get (Qs d S) o p = rX3_get S o p := by
  unfold rX3_get
  rw [Qi h]
theorem Q_rX3_get {d : Nat} {S : Mm} {p : Int32} (hd : isd d) : rX3_get (Qs d S) 20 p = rX3_get S (20 + d) p := by
  unfold rX3_get
  rw [rowN_d hd, show rowN 20 = 200 from rfl]
  split
  · rfl
  · rename_i h1
    split
    · rfl
    · rename_i h2
      rw [show 20 + 1 = 21 from rfl, Qr (rin h1 h2), show 20 + d + 1 = 21 + d by omega]
theorem Q_fX3_put {d : Nat} {S : Mm} {p x : Int32} (hd : isd d) : fX3_put (Qs d S) 20 p x = Qs d (fX3_put S (20 + d) p x) := by
  unfold fX3_put
  rw [rowN_d hd, show rowN 20 = 200 from rfl]
  split
  · rfl
  · rename_i h1
    split
    · rfl
    · rename_i h2
      rw [show 20 + 1 = 21 from rfl, Qq (rin h1 h2), show 20 + d + 1 = 21 + d by omega]
theorem Q_vX8_at_1 {d : Nat} {S : Mm} {p1 : Int32} {p2 : Int32}  : vX8_at_1 (Qs d S) p1 p2 = vX8_at_1 S p1 p2 := by
  unfold vX8_at_1
  simp only [Q_rX3_get_lo (o := 3) (by decide)]
theorem Q_rX8_at {d : Nat} {S : Mm} {p1 : Int32} {p2 : Int32}  : rX8_at (Qs d S) p1 p2 = rX8_at S p1 p2 := by
  unfold rX8_at
  simp only [Q_rX3_get_lo (o := 3) (by decide), Q_vX8_at_1]
theorem Q_rX9_strideOf {d : Nat} {S : Mm} {p1 : Int32} : rX9_strideOf (Qs d S) p1 = rX9_strideOf S p1 := rfl
theorem Q_jX1_vibratoAt_1 {d : Nat} {S : Mm} {o : Nat} {p1 : Int32} (h1 : o < 18) : jX1_vibratoAt_1 (Qs d S) o p1 = jX1_vibratoAt_1 S o p1 := by
  unfold jX1_vibratoAt_1
  simp only [Qi h1, Q_rX8_at]
theorem Q_vX1_vibratoAt_2 {d : Nat} {S : Mm} {o : Nat} {p1 : Int32} (h1 : o < 18) : vX1_vibratoAt_2 (Qs d S) o p1 = vX1_vibratoAt_2 S o p1 := by
  unfold vX1_vibratoAt_2
  simp only [Qi h1, Q_rX8_at, Q_jX1_vibratoAt_1 h1]
theorem Q_rX1_vibratoAt {d : Nat} {S : Mm} {o : Nat} {p1 : Int32} (h1 : o < 18) : rX1_vibratoAt (Qs d S) o p1 = rX1_vibratoAt S o p1 := by
  unfold rX1_vibratoAt
  simp only [Qi h1, Q_rX8_at, Q_vX1_vibratoAt_2 h1]
theorem Q_fX7_release {d : Nat} {S : Mm} {o : Nat} (h : isW o) : fX7_release (Qs d S) o = Qs d (fX7_release S (o + d)) := by
  unfold fX7_release
  simp only [Qv h (k := 0) (by decide), Qv h (k := 1) (by decide), Qv h (k := 2) (by decide), Qv h (k := 3) (by decide), Qv h (k := 4) (by decide), Qv h (k := 5) (by decide), Qv h (k := 6) (by decide), Qv h (k := 7) (by decide), Qv h (k := 8) (by decide), Qv h (k := 9) (by decide), Qv h (k := 10) (by decide), Qw h (k := 0) (by decide), Qw h (k := 1) (by decide), Qw h (k := 2) (by decide), Qw h (k := 3) (by decide), Qw h (k := 4) (by decide), Qw h (k := 5) (by decide), Qw h (k := 6) (by decide), Qw h (k := 7) (by decide), Qw h (k := 8) (by decide), Qw h (k := 9) (by decide), Qw h (k := 10) (by decide), Q_if]
theorem Q_rX7_rankToTake {d : Nat} {S : Mm} {o : Nat} (h : isW o) : rX7_rankToTake (Qs d S) o = rX7_rankToTake S (o + d) := by
  unfold rX7_rankToTake
  simp only [Qv h (k := 0) (by decide), Qv h (k := 1) (by decide), Qv h (k := 2) (by decide), Qv h (k := 3) (by decide), Qv h (k := 4) (by decide), Qv h (k := 5) (by decide), Qv h (k := 6) (by decide), Qv h (k := 7) (by decide), Qv h (k := 8) (by decide), Qv h (k := 9) (by decide), Qv h (k := 10) (by decide), Qw h (k := 0) (by decide), Qw h (k := 1) (by decide), Qw h (k := 2) (by decide), Qw h (k := 3) (by decide), Qw h (k := 4) (by decide), Qw h (k := 5) (by decide), Qw h (k := 6) (by decide), Qw h (k := 7) (by decide), Qw h (k := 8) (by decide), Qw h (k := 9) (by decide), Qw h (k := 10) (by decide), Q_if]
theorem Q_mX7_start_1 {d : Nat} {S : Mm} {o : Nat} {p1 : Int32} {p2 : Int32} {p3 : Int32} {p4 : Int32} {p5 : Int32} (h : isW o) : mX7_start_1 (Qs d S) o p1 p2 p3 p4 p5 = Qs d (mX7_start_1 S (o + d) p1 p2 p3 p4 p5) := by
  unfold mX7_start_1
  simp only [Qv h (k := 0) (by decide), Qv h (k := 1) (by decide), Qv h (k := 2) (by decide), Qv h (k := 3) (by decide), Qv h (k := 4) (by decide), Qv h (k := 5) (by decide), Qv h (k := 6) (by decide), Qv h (k := 7) (by decide), Qv h (k := 8) (by decide), Qv h (k := 9) (by decide), Qv h (k := 10) (by decide), Qw h (k := 0) (by decide), Qw h (k := 1) (by decide), Qw h (k := 2) (by decide), Qw h (k := 3) (by decide), Qw h (k := 4) (by decide), Qw h (k := 5) (by decide), Qw h (k := 6) (by decide), Qw h (k := 7) (by decide), Qw h (k := 8) (by decide), Qw h (k := 9) (by decide), Qw h (k := 10) (by decide), Q_if]
theorem Q_mX7_start_2 {d : Nat} {S : Mm} {o : Nat} {p1 : Int32} {p2 : Int32} {p3 : Int32} {p4 : Int32} {p5 : Int32} (h : isW o) : mX7_start_2 (Qs d S) o p1 p2 p3 p4 p5 = Qs d (mX7_start_2 S (o + d) p1 p2 p3 p4 p5) := by
  unfold mX7_start_2
  simp only [Qv h (k := 0) (by decide), Qv h (k := 1) (by decide), Qv h (k := 2) (by decide), Qv h (k := 3) (by decide), Qv h (k := 4) (by decide), Qv h (k := 5) (by decide), Qv h (k := 6) (by decide), Qv h (k := 7) (by decide), Qv h (k := 8) (by decide), Qv h (k := 9) (by decide), Qv h (k := 10) (by decide), Qw h (k := 0) (by decide), Qw h (k := 1) (by decide), Qw h (k := 2) (by decide), Qw h (k := 3) (by decide), Qw h (k := 4) (by decide), Qw h (k := 5) (by decide), Qw h (k := 6) (by decide), Qw h (k := 7) (by decide), Qw h (k := 8) (by decide), Qw h (k := 9) (by decide), Qw h (k := 10) (by decide), Q_mX7_start_1 h, Q_if]
theorem Q_fX7_start {d : Nat} {S : Mm} {o : Nat} {p1 : Int32} {p2 : Int32} {p3 : Int32} {p4 : Int32} {p5 : Int32} (h : isW o) : fX7_start (Qs d S) o p1 p2 p3 p4 p5 = Qs d (fX7_start S (o + d) p1 p2 p3 p4 p5) := by
  unfold fX7_start
  simp only [Qv h (k := 0) (by decide), Qv h (k := 1) (by decide), Qv h (k := 2) (by decide), Qv h (k := 3) (by decide), Qv h (k := 4) (by decide), Qv h (k := 5) (by decide), Qv h (k := 6) (by decide), Qv h (k := 7) (by decide), Qv h (k := 8) (by decide), Qv h (k := 9) (by decide), Qv h (k := 10) (by decide), Qw h (k := 0) (by decide), Qw h (k := 1) (by decide), Qw h (k := 2) (by decide), Qw h (k := 3) (by decide), Qw h (k := 4) (by decide), Qw h (k := 5) (by decide), Qw h (k := 6) (by decide), Qw h (k := 7) (by decide), Qw h (k := 8) (by decide), Qw h (k := 9) (by decide), Qw h (k := 10) (by decide), Q_mX7_start_2 h, Q_if]
theorem Q_fX7_closeGate {d : Nat} {S : Mm} {o : Nat} (h : isW o) : fX7_closeGate (Qs d S) o = Qs d (fX7_closeGate S (o + d)) := by
  unfold fX7_closeGate
  simp only [Qv h (k := 0) (by decide), Qv h (k := 1) (by decide), Qv h (k := 2) (by decide), Qv h (k := 3) (by decide), Qv h (k := 4) (by decide), Qv h (k := 5) (by decide), Qv h (k := 6) (by decide), Qv h (k := 7) (by decide), Qv h (k := 8) (by decide), Qv h (k := 9) (by decide), Qv h (k := 10) (by decide), Qw h (k := 0) (by decide), Qw h (k := 1) (by decide), Qw h (k := 2) (by decide), Qw h (k := 3) (by decide), Qw h (k := 4) (by decide), Qw h (k := 5) (by decide), Qw h (k := 6) (by decide), Qw h (k := 7) (by decide), Qw h (k := 8) (by decide), Qw h (k := 9) (by decide), Qw h (k := 10) (by decide), Q_fX7_release h, Q_if]
theorem Q_fX7_countGate {d : Nat} {S : Mm} {o : Nat} (h : isW o) : fX7_countGate (Qs d S) o = Qs d (fX7_countGate S (o + d)) := by
  unfold fX7_countGate
  simp only [Qv h (k := 0) (by decide), Qv h (k := 1) (by decide), Qv h (k := 2) (by decide), Qv h (k := 3) (by decide), Qv h (k := 4) (by decide), Qv h (k := 5) (by decide), Qv h (k := 6) (by decide), Qv h (k := 7) (by decide), Qv h (k := 8) (by decide), Qv h (k := 9) (by decide), Qv h (k := 10) (by decide), Qw h (k := 0) (by decide), Qw h (k := 1) (by decide), Qw h (k := 2) (by decide), Qw h (k := 3) (by decide), Qw h (k := 4) (by decide), Qw h (k := 5) (by decide), Qw h (k := 6) (by decide), Qw h (k := 7) (by decide), Qw h (k := 8) (by decide), Qw h (k := 9) (by decide), Qw h (k := 10) (by decide), Q_if]
theorem Q_mX7_moveLevel_1 {d : Nat} {S : Mm} {o : Nat} {o1 : Nat} (h : isW o) (h1 : o1 < 18) : mX7_moveLevel_1 (Qs d S) o o1 = Qs d (mX7_moveLevel_1 S (o + d) o1) := by
  unfold mX7_moveLevel_1
  simp only [Qv h (k := 0) (by decide), Qv h (k := 1) (by decide), Qv h (k := 2) (by decide), Qv h (k := 3) (by decide), Qv h (k := 4) (by decide), Qv h (k := 5) (by decide), Qv h (k := 6) (by decide), Qv h (k := 7) (by decide), Qv h (k := 8) (by decide), Qv h (k := 9) (by decide), Qv h (k := 10) (by decide), Qw h (k := 0) (by decide), Qw h (k := 1) (by decide), Qw h (k := 2) (by decide), Qw h (k := 3) (by decide), Qw h (k := 4) (by decide), Qw h (k := 5) (by decide), Qw h (k := 6) (by decide), Qw h (k := 7) (by decide), Qw h (k := 8) (by decide), Qw h (k := 9) (by decide), Qw h (k := 10) (by decide), Qi h1, Q_if]
theorem Q_mX7_moveLevel_2 {d : Nat} {S : Mm} {o : Nat} {o1 : Nat} (h : isW o) (h1 : o1 < 18) : mX7_moveLevel_2 (Qs d S) o o1 = Qs d (mX7_moveLevel_2 S (o + d) o1) := by
  unfold mX7_moveLevel_2
  simp only [Qv h (k := 0) (by decide), Qv h (k := 1) (by decide), Qv h (k := 2) (by decide), Qv h (k := 3) (by decide), Qv h (k := 4) (by decide), Qv h (k := 5) (by decide), Qv h (k := 6) (by decide), Qv h (k := 7) (by decide), Qv h (k := 8) (by decide), Qv h (k := 9) (by decide), Qv h (k := 10) (by decide), Qw h (k := 0) (by decide), Qw h (k := 1) (by decide), Qw h (k := 2) (by decide), Qw h (k := 3) (by decide), Qw h (k := 4) (by decide), Qw h (k := 5) (by decide), Qw h (k := 6) (by decide), Qw h (k := 7) (by decide), Qw h (k := 8) (by decide), Qw h (k := 9) (by decide), Qw h (k := 10) (by decide), Qi h1, Q_if]
theorem Q_mX7_moveLevel_3 {d : Nat} {S : Mm} {o : Nat} {o1 : Nat} (h : isW o) (h1 : o1 < 18) : mX7_moveLevel_3 (Qs d S) o o1 = Qs d (mX7_moveLevel_3 S (o + d) o1) := by
  unfold mX7_moveLevel_3
  simp only [Qv h (k := 0) (by decide), Qv h (k := 1) (by decide), Qv h (k := 2) (by decide), Qv h (k := 3) (by decide), Qv h (k := 4) (by decide), Qv h (k := 5) (by decide), Qv h (k := 6) (by decide), Qv h (k := 7) (by decide), Qv h (k := 8) (by decide), Qv h (k := 9) (by decide), Qv h (k := 10) (by decide), Qw h (k := 0) (by decide), Qw h (k := 1) (by decide), Qw h (k := 2) (by decide), Qw h (k := 3) (by decide), Qw h (k := 4) (by decide), Qw h (k := 5) (by decide), Qw h (k := 6) (by decide), Qw h (k := 7) (by decide), Qw h (k := 8) (by decide), Qw h (k := 9) (by decide), Qw h (k := 10) (by decide), Qi h1, Q_if]
theorem Q_fX7_moveLevel {d : Nat} {S : Mm} {o : Nat} {o1 : Nat} (h : isW o) (h1 : o1 < 18) : fX7_moveLevel (Qs d S) o o1 = Qs d (fX7_moveLevel S (o + d) o1) := by
  unfold fX7_moveLevel
  simp only [Qv h (k := 0) (by decide), Qv h (k := 1) (by decide), Qv h (k := 2) (by decide), Qv h (k := 3) (by decide), Qv h (k := 4) (by decide), Qv h (k := 5) (by decide), Qv h (k := 6) (by decide), Qv h (k := 7) (by decide), Qv h (k := 8) (by decide), Qv h (k := 9) (by decide), Qv h (k := 10) (by decide), Qw h (k := 0) (by decide), Qw h (k := 1) (by decide), Qw h (k := 2) (by decide), Qw h (k := 3) (by decide), Qw h (k := 4) (by decide), Qw h (k := 5) (by decide), Qw h (k := 6) (by decide), Qw h (k := 7) (by decide), Qw h (k := 8) (by decide), Qw h (k := 9) (by decide), Qw h (k := 10) (by decide), Qi h1, Q_mX7_moveLevel_1 h h1, Q_mX7_moveLevel_2 h h1, Q_mX7_moveLevel_3 h h1, Q_if]
theorem Q_mX7_oscillate_1 {d : Nat} {S : Mm} {o : Nat} {o1 : Nat} {p3 : Int32} (h : isW o) (h1 : o1 < 18) : mX7_oscillate_1 (Qs d S) o o1 p3 = Qs d (mX7_oscillate_1 S (o + d) o1 p3) := by
  unfold mX7_oscillate_1
  simp only [Qv h (k := 0) (by decide), Qv h (k := 1) (by decide), Qv h (k := 2) (by decide), Qv h (k := 3) (by decide), Qv h (k := 4) (by decide), Qv h (k := 5) (by decide), Qv h (k := 6) (by decide), Qv h (k := 7) (by decide), Qv h (k := 8) (by decide), Qv h (k := 9) (by decide), Qv h (k := 10) (by decide), Qw h (k := 0) (by decide), Qw h (k := 1) (by decide), Qw h (k := 2) (by decide), Qw h (k := 3) (by decide), Qw h (k := 4) (by decide), Qw h (k := 5) (by decide), Qw h (k := 6) (by decide), Qw h (k := 7) (by decide), Qw h (k := 8) (by decide), Qw h (k := 9) (by decide), Qw h (k := 10) (by decide), Qi h1, Q_rX1_vibratoAt h1, Q_rX9_strideOf, Q_if]
theorem Q_vX7_oscillate_2 {d : Nat} {S : Mm} {o : Nat} {o1 : Nat} {p3 : Int32} (h : isW o) (h1 : o1 < 18) : vX7_oscillate_2 (Qs d S) o o1 p3 = vX7_oscillate_2 S (o + d) o1 p3 := by
  unfold vX7_oscillate_2
  simp only [Qv h (k := 0) (by decide), Qv h (k := 1) (by decide), Qv h (k := 2) (by decide), Qv h (k := 3) (by decide), Qv h (k := 4) (by decide), Qv h (k := 5) (by decide), Qv h (k := 6) (by decide), Qv h (k := 7) (by decide), Qv h (k := 8) (by decide), Qv h (k := 9) (by decide), Qv h (k := 10) (by decide), Qw h (k := 0) (by decide), Qw h (k := 1) (by decide), Qw h (k := 2) (by decide), Qw h (k := 3) (by decide), Qw h (k := 4) (by decide), Qw h (k := 5) (by decide), Qw h (k := 6) (by decide), Qw h (k := 7) (by decide), Qw h (k := 8) (by decide), Qw h (k := 9) (by decide), Qw h (k := 10) (by decide), Qi h1, Q_rX1_vibratoAt h1, Q_rX9_strideOf, Q_mX7_oscillate_1 h h1, Q_if]
theorem Q_mX7_oscillate_3 {d : Nat} {S : Mm} {o : Nat} {o1 : Nat} {p3 : Int32} (h : isW o) (h1 : o1 < 18) : mX7_oscillate_3 (Qs d S) o o1 p3 = Qs d (mX7_oscillate_3 S (o + d) o1 p3) := by
  unfold mX7_oscillate_3
  simp only [Qv h (k := 0) (by decide), Qv h (k := 1) (by decide), Qv h (k := 2) (by decide), Qv h (k := 3) (by decide), Qv h (k := 4) (by decide), Qv h (k := 5) (by decide), Qv h (k := 6) (by decide), Qv h (k := 7) (by decide), Qv h (k := 8) (by decide), Qv h (k := 9) (by decide), Qv h (k := 10) (by decide), Qw h (k := 0) (by decide), Qw h (k := 1) (by decide), Qw h (k := 2) (by decide), Qw h (k := 3) (by decide), Qw h (k := 4) (by decide), Qw h (k := 5) (by decide), Qw h (k := 6) (by decide), Qw h (k := 7) (by decide), Qw h (k := 8) (by decide), Qw h (k := 9) (by decide), Qw h (k := 10) (by decide), Qi h1, Q_mX7_oscillate_1 h h1, Q_vX7_oscillate_2 h h1, Q_if]
theorem Q_vX7_oscillate_4 {d : Nat} {S : Mm} {o : Nat} {o1 : Nat} {p3 : Int32} (h : isW o) (h1 : o1 < 18) : vX7_oscillate_4 (Qs d S) o o1 p3 = vX7_oscillate_4 S (o + d) o1 p3 := by
  unfold vX7_oscillate_4
  simp only [Qv h (k := 0) (by decide), Qv h (k := 1) (by decide), Qv h (k := 2) (by decide), Qv h (k := 3) (by decide), Qv h (k := 4) (by decide), Qv h (k := 5) (by decide), Qv h (k := 6) (by decide), Qv h (k := 7) (by decide), Qv h (k := 8) (by decide), Qv h (k := 9) (by decide), Qv h (k := 10) (by decide), Qw h (k := 0) (by decide), Qw h (k := 1) (by decide), Qw h (k := 2) (by decide), Qw h (k := 3) (by decide), Qw h (k := 4) (by decide), Qw h (k := 5) (by decide), Qw h (k := 6) (by decide), Qw h (k := 7) (by decide), Qw h (k := 8) (by decide), Qw h (k := 9) (by decide), Qw h (k := 10) (by decide), Qi h1, Q_rX8_at, Q_mX7_oscillate_3 h h1, Q_if]
theorem Q_rX7_oscillate {d : Nat} {S : Mm} {o : Nat} {o1 : Nat} {p3 : Int32} (h : isW o) (h1 : o1 < 18) : rX7_oscillate (Qs d S) o o1 p3 = rX7_oscillate S (o + d) o1 p3 := by
  unfold rX7_oscillate
  simp only [Qv h (k := 0) (by decide), Qv h (k := 1) (by decide), Qv h (k := 2) (by decide), Qv h (k := 3) (by decide), Qv h (k := 4) (by decide), Qv h (k := 5) (by decide), Qv h (k := 6) (by decide), Qv h (k := 7) (by decide), Qv h (k := 8) (by decide), Qv h (k := 9) (by decide), Qv h (k := 10) (by decide), Qw h (k := 0) (by decide), Qw h (k := 1) (by decide), Qw h (k := 2) (by decide), Qw h (k := 3) (by decide), Qw h (k := 4) (by decide), Qw h (k := 5) (by decide), Qw h (k := 6) (by decide), Qw h (k := 7) (by decide), Qw h (k := 8) (by decide), Qw h (k := 9) (by decide), Qw h (k := 10) (by decide), Qi h1, Q_vX7_oscillate_4 h h1, Q_if]
theorem Q_fX7_oscillate {d : Nat} {S : Mm} {o : Nat} {o1 : Nat} {p3 : Int32} (h : isW o) (h1 : o1 < 18) : fX7_oscillate (Qs d S) o o1 p3 = Qs d (fX7_oscillate S (o + d) o1 p3) := by
  unfold fX7_oscillate
  simp only [Qv h (k := 0) (by decide), Qv h (k := 1) (by decide), Qv h (k := 2) (by decide), Qv h (k := 3) (by decide), Qv h (k := 4) (by decide), Qv h (k := 5) (by decide), Qv h (k := 6) (by decide), Qv h (k := 7) (by decide), Qv h (k := 8) (by decide), Qv h (k := 9) (by decide), Qv h (k := 10) (by decide), Qw h (k := 0) (by decide), Qw h (k := 1) (by decide), Qw h (k := 2) (by decide), Qw h (k := 3) (by decide), Qw h (k := 4) (by decide), Qw h (k := 5) (by decide), Qw h (k := 6) (by decide), Qw h (k := 7) (by decide), Qw h (k := 8) (by decide), Qw h (k := 9) (by decide), Qw h (k := 10) (by decide), Qi h1, Q_mX7_oscillate_3 h h1, Q_if]
theorem Q_mX7_filter_1 {d : Nat} {S : Mm} {o : Nat} {o1 : Nat} {p2 : Int32} (h : isW o) (h1 : o1 < 18) : mX7_filter_1 (Qs d S) o o1 p2 = Qs d (mX7_filter_1 S (o + d) o1 p2) := by
  unfold mX7_filter_1
  simp only [Qv h (k := 0) (by decide), Qv h (k := 1) (by decide), Qv h (k := 2) (by decide), Qv h (k := 3) (by decide), Qv h (k := 4) (by decide), Qv h (k := 5) (by decide), Qv h (k := 6) (by decide), Qv h (k := 7) (by decide), Qv h (k := 8) (by decide), Qv h (k := 9) (by decide), Qv h (k := 10) (by decide), Qw h (k := 0) (by decide), Qw h (k := 1) (by decide), Qw h (k := 2) (by decide), Qw h (k := 3) (by decide), Qw h (k := 4) (by decide), Qw h (k := 5) (by decide), Qw h (k := 6) (by decide), Qw h (k := 7) (by decide), Qw h (k := 8) (by decide), Qw h (k := 9) (by decide), Qw h (k := 10) (by decide), Qi h1, Q_if]
theorem Q_vX7_filter_2 {d : Nat} {S : Mm} {o : Nat} {o1 : Nat} {p2 : Int32} (h : isW o) (h1 : o1 < 18) : vX7_filter_2 (Qs d S) o o1 p2 = vX7_filter_2 S (o + d) o1 p2 := by
  unfold vX7_filter_2
  simp only [Qv h (k := 0) (by decide), Qv h (k := 1) (by decide), Qv h (k := 2) (by decide), Qv h (k := 3) (by decide), Qv h (k := 4) (by decide), Qv h (k := 5) (by decide), Qv h (k := 6) (by decide), Qv h (k := 7) (by decide), Qv h (k := 8) (by decide), Qv h (k := 9) (by decide), Qv h (k := 10) (by decide), Qw h (k := 0) (by decide), Qw h (k := 1) (by decide), Qw h (k := 2) (by decide), Qw h (k := 3) (by decide), Qw h (k := 4) (by decide), Qw h (k := 5) (by decide), Qw h (k := 6) (by decide), Qw h (k := 7) (by decide), Qw h (k := 8) (by decide), Qw h (k := 9) (by decide), Qw h (k := 10) (by decide), Qi h1, Q_mX7_filter_1 h h1, Q_if]
theorem Q_vX7_filter_3 {d : Nat} {S : Mm} {o : Nat} {o1 : Nat} {p2 : Int32} (h : isW o) (h1 : o1 < 18) : vX7_filter_3 (Qs d S) o o1 p2 = vX7_filter_3 S (o + d) o1 p2 := by
  unfold vX7_filter_3
  simp only [Qv h (k := 0) (by decide), Qv h (k := 1) (by decide), Qv h (k := 2) (by decide), Qv h (k := 3) (by decide), Qv h (k := 4) (by decide), Qv h (k := 5) (by decide), Qv h (k := 6) (by decide), Qv h (k := 7) (by decide), Qv h (k := 8) (by decide), Qv h (k := 9) (by decide), Qv h (k := 10) (by decide), Qw h (k := 0) (by decide), Qw h (k := 1) (by decide), Qw h (k := 2) (by decide), Qw h (k := 3) (by decide), Qw h (k := 4) (by decide), Qw h (k := 5) (by decide), Qw h (k := 6) (by decide), Qw h (k := 7) (by decide), Qw h (k := 8) (by decide), Qw h (k := 9) (by decide), Qw h (k := 10) (by decide), Qi h1, Q_mX7_filter_1 h h1, Q_vX7_filter_2 h h1, Q_if]
theorem Q_mX7_filter_4 {d : Nat} {S : Mm} {o : Nat} {o1 : Nat} {p2 : Int32} (h : isW o) (h1 : o1 < 18) : mX7_filter_4 (Qs d S) o o1 p2 = Qs d (mX7_filter_4 S (o + d) o1 p2) := by
  unfold mX7_filter_4
  simp only [Qv h (k := 0) (by decide), Qv h (k := 1) (by decide), Qv h (k := 2) (by decide), Qv h (k := 3) (by decide), Qv h (k := 4) (by decide), Qv h (k := 5) (by decide), Qv h (k := 6) (by decide), Qv h (k := 7) (by decide), Qv h (k := 8) (by decide), Qv h (k := 9) (by decide), Qv h (k := 10) (by decide), Qw h (k := 0) (by decide), Qw h (k := 1) (by decide), Qw h (k := 2) (by decide), Qw h (k := 3) (by decide), Qw h (k := 4) (by decide), Qw h (k := 5) (by decide), Qw h (k := 6) (by decide), Qw h (k := 7) (by decide), Qw h (k := 8) (by decide), Qw h (k := 9) (by decide), Qw h (k := 10) (by decide), Qi h1, Q_mX7_filter_1 h h1, Q_vX7_filter_3 h h1, Q_if]
theorem Q_fX7_filter {d : Nat} {S : Mm} {o : Nat} {o1 : Nat} {p2 : Int32} (h : isW o) (h1 : o1 < 18) : fX7_filter (Qs d S) o o1 p2 = Qs d (fX7_filter S (o + d) o1 p2) := by
  unfold fX7_filter
  simp only [Qv h (k := 0) (by decide), Qv h (k := 1) (by decide), Qv h (k := 2) (by decide), Qv h (k := 3) (by decide), Qv h (k := 4) (by decide), Qv h (k := 5) (by decide), Qv h (k := 6) (by decide), Qv h (k := 7) (by decide), Qv h (k := 8) (by decide), Qv h (k := 9) (by decide), Qv h (k := 10) (by decide), Qw h (k := 0) (by decide), Qw h (k := 1) (by decide), Qw h (k := 2) (by decide), Qw h (k := 3) (by decide), Qw h (k := 4) (by decide), Qw h (k := 5) (by decide), Qw h (k := 6) (by decide), Qw h (k := 7) (by decide), Qw h (k := 8) (by decide), Qw h (k := 9) (by decide), Qw h (k := 10) (by decide), Qi h1, Q_mX7_filter_4 h h1, Q_if]
theorem Q_mX7_give_1 {d : Nat} {S : Mm} {o : Nat} {o1 : Nat} {p3 : Int32} (h : isW o) (h1 : o1 < 18) : mX7_give_1 (Qs d S) o o1 p3 = Qs d (mX7_give_1 S (o + d) o1 p3) := by
  unfold mX7_give_1
  simp only [Qv h (k := 0) (by decide), Qv h (k := 1) (by decide), Qv h (k := 2) (by decide), Qv h (k := 3) (by decide), Qv h (k := 4) (by decide), Qv h (k := 5) (by decide), Qv h (k := 6) (by decide), Qv h (k := 7) (by decide), Qv h (k := 8) (by decide), Qv h (k := 9) (by decide), Qv h (k := 10) (by decide), Qw h (k := 0) (by decide), Qw h (k := 1) (by decide), Qw h (k := 2) (by decide), Qw h (k := 3) (by decide), Qw h (k := 4) (by decide), Qw h (k := 5) (by decide), Qw h (k := 6) (by decide), Qw h (k := 7) (by decide), Qw h (k := 8) (by decide), Qw h (k := 9) (by decide), Qw h (k := 10) (by decide), Qi h1, Q_fX7_moveLevel h h1, Q_rX7_oscillate h h1, Q_fX7_oscillate h h1, Q_fX7_filter h h1, Q_if]
theorem Q_vX7_give_2 {d : Nat} {S : Mm} {o : Nat} {o1 : Nat} {p3 : Int32} (h : isW o) (h1 : o1 < 18) : vX7_give_2 (Qs d S) o o1 p3 = vX7_give_2 S (o + d) o1 p3 := by
  unfold vX7_give_2
  simp only [Qv h (k := 0) (by decide), Qv h (k := 1) (by decide), Qv h (k := 2) (by decide), Qv h (k := 3) (by decide), Qv h (k := 4) (by decide), Qv h (k := 5) (by decide), Qv h (k := 6) (by decide), Qv h (k := 7) (by decide), Qv h (k := 8) (by decide), Qv h (k := 9) (by decide), Qv h (k := 10) (by decide), Qw h (k := 0) (by decide), Qw h (k := 1) (by decide), Qw h (k := 2) (by decide), Qw h (k := 3) (by decide), Qw h (k := 4) (by decide), Qw h (k := 5) (by decide), Qw h (k := 6) (by decide), Qw h (k := 7) (by decide), Qw h (k := 8) (by decide), Qw h (k := 9) (by decide), Qw h (k := 10) (by decide), Qi h1, Q_mX7_give_1 h h1, Q_if]
theorem Q_rX7_give {d : Nat} {S : Mm} {o : Nat} {o1 : Nat} {p3 : Int32} (h : isW o) (h1 : o1 < 18) : rX7_give (Qs d S) o o1 p3 = rX7_give S (o + d) o1 p3 := by
  unfold rX7_give
  simp only [Qv h (k := 0) (by decide), Qv h (k := 1) (by decide), Qv h (k := 2) (by decide), Qv h (k := 3) (by decide), Qv h (k := 4) (by decide), Qv h (k := 5) (by decide), Qv h (k := 6) (by decide), Qv h (k := 7) (by decide), Qv h (k := 8) (by decide), Qv h (k := 9) (by decide), Qv h (k := 10) (by decide), Qw h (k := 0) (by decide), Qw h (k := 1) (by decide), Qw h (k := 2) (by decide), Qw h (k := 3) (by decide), Qw h (k := 4) (by decide), Qw h (k := 5) (by decide), Qw h (k := 6) (by decide), Qw h (k := 7) (by decide), Qw h (k := 8) (by decide), Qw h (k := 9) (by decide), Qw h (k := 10) (by decide), Qi h1, Q_fX7_moveLevel h h1, Q_vX7_give_2 h h1, Q_if]
theorem Q_fX7_give {d : Nat} {S : Mm} {o : Nat} {o1 : Nat} {p3 : Int32} (h : isW o) (h1 : o1 < 18) : fX7_give (Qs d S) o o1 p3 = Qs d (fX7_give S (o + d) o1 p3) := by
  unfold fX7_give
  simp only [Qv h (k := 0) (by decide), Qv h (k := 1) (by decide), Qv h (k := 2) (by decide), Qv h (k := 3) (by decide), Qv h (k := 4) (by decide), Qv h (k := 5) (by decide), Qv h (k := 6) (by decide), Qv h (k := 7) (by decide), Qv h (k := 8) (by decide), Qv h (k := 9) (by decide), Qv h (k := 10) (by decide), Qw h (k := 0) (by decide), Qw h (k := 1) (by decide), Qw h (k := 2) (by decide), Qw h (k := 3) (by decide), Qw h (k := 4) (by decide), Qw h (k := 5) (by decide), Qw h (k := 6) (by decide), Qw h (k := 7) (by decide), Qw h (k := 8) (by decide), Qw h (k := 9) (by decide), Qw h (k := 10) (by decide), Qi h1, Q_fX7_moveLevel h h1, Q_mX7_give_1 h h1, Q_if]
theorem Q_rX7_isTakenBefore {d : Nat} {S : Mm} {o : Nat} {o1 : Nat} (h : isW o) (h1 : isW o1) : rX7_isTakenBefore (Qs d S) o o1 = rX7_isTakenBefore S (o + d) (o1 + d) := by
  unfold rX7_isTakenBefore
  simp only [Qv h (k := 0) (by decide), Qv h (k := 1) (by decide), Qv h (k := 2) (by decide), Qv h (k := 3) (by decide), Qv h (k := 4) (by decide), Qv h (k := 5) (by decide), Qv h (k := 6) (by decide), Qv h (k := 7) (by decide), Qv h (k := 8) (by decide), Qv h (k := 9) (by decide), Qv h (k := 10) (by decide), Qw h (k := 0) (by decide), Qw h (k := 1) (by decide), Qw h (k := 2) (by decide), Qw h (k := 3) (by decide), Qw h (k := 4) (by decide), Qw h (k := 5) (by decide), Qw h (k := 6) (by decide), Qw h (k := 7) (by decide), Qw h (k := 8) (by decide), Qw h (k := 9) (by decide), Qw h (k := 10) (by decide), Qv h1 (k := 0) (by decide), Qv h1 (k := 1) (by decide), Qv h1 (k := 2) (by decide), Qv h1 (k := 3) (by decide), Qv h1 (k := 4) (by decide), Qv h1 (k := 5) (by decide), Qv h1 (k := 6) (by decide), Qv h1 (k := 7) (by decide), Qv h1 (k := 8) (by decide), Qv h1 (k := 9) (by decide), Qv h1 (k := 10) (by decide), Q_rX7_rankToTake h, Q_rX7_rankToTake h1]
theorem Qa_fX7_release {d : Nat} {S : Mm} {v : Int32} : fX7_release (Qs d S) (rX6_voiceOf 18 v) = Qs d (fX7_release S (rX6_voiceOf 18 v + d)) := Q_fX7_release vo_in
theorem Qa_rX7_rankToTake {d : Nat} {S : Mm} {v : Int32} : rX7_rankToTake (Qs d S) (rX6_voiceOf 18 v) = rX7_rankToTake S (rX6_voiceOf 18 v + d) := Q_rX7_rankToTake vo_in
theorem Qa_mX7_start_1 {d : Nat} {S : Mm} {v : Int32} {p1 : Int32} {p2 : Int32} {p3 : Int32} {p4 : Int32} {p5 : Int32} : mX7_start_1 (Qs d S) (rX6_voiceOf 18 v) p1 p2 p3 p4 p5 = Qs d (mX7_start_1 S (rX6_voiceOf 18 v + d) p1 p2 p3 p4 p5) := Q_mX7_start_1 vo_in
theorem Qa_mX7_start_2 {d : Nat} {S : Mm} {v : Int32} {p1 : Int32} {p2 : Int32} {p3 : Int32} {p4 : Int32} {p5 : Int32} : mX7_start_2 (Qs d S) (rX6_voiceOf 18 v) p1 p2 p3 p4 p5 = Qs d (mX7_start_2 S (rX6_voiceOf 18 v + d) p1 p2 p3 p4 p5) := Q_mX7_start_2 vo_in
theorem Qa_fX7_start {d : Nat} {S : Mm} {v : Int32} {p1 : Int32} {p2 : Int32} {p3 : Int32} {p4 : Int32} {p5 : Int32} : fX7_start (Qs d S) (rX6_voiceOf 18 v) p1 p2 p3 p4 p5 = Qs d (fX7_start S (rX6_voiceOf 18 v + d) p1 p2 p3 p4 p5) := Q_fX7_start vo_in
theorem Qa_fX7_closeGate {d : Nat} {S : Mm} {v : Int32} : fX7_closeGate (Qs d S) (rX6_voiceOf 18 v) = Qs d (fX7_closeGate S (rX6_voiceOf 18 v + d)) := Q_fX7_closeGate vo_in
theorem Qa_fX7_countGate {d : Nat} {S : Mm} {v : Int32} : fX7_countGate (Qs d S) (rX6_voiceOf 18 v) = Qs d (fX7_countGate S (rX6_voiceOf 18 v + d)) := Q_fX7_countGate vo_in
theorem Qa_mX7_moveLevel_1 {d : Nat} {S : Mm} {v : Int32} {u : Int32} : mX7_moveLevel_1 (Qs d S) (rX6_voiceOf 18 v) (rX5_instrumentOf u) = Qs d (mX7_moveLevel_1 S (rX6_voiceOf 18 v + d) (rX5_instrumentOf u)) := Q_mX7_moveLevel_1 vo_in io_lt
theorem Qa_mX7_moveLevel_2 {d : Nat} {S : Mm} {v : Int32} {u : Int32} : mX7_moveLevel_2 (Qs d S) (rX6_voiceOf 18 v) (rX5_instrumentOf u) = Qs d (mX7_moveLevel_2 S (rX6_voiceOf 18 v + d) (rX5_instrumentOf u)) := Q_mX7_moveLevel_2 vo_in io_lt
theorem Qa_mX7_moveLevel_3 {d : Nat} {S : Mm} {v : Int32} {u : Int32} : mX7_moveLevel_3 (Qs d S) (rX6_voiceOf 18 v) (rX5_instrumentOf u) = Qs d (mX7_moveLevel_3 S (rX6_voiceOf 18 v + d) (rX5_instrumentOf u)) := Q_mX7_moveLevel_3 vo_in io_lt
theorem Qa_fX7_moveLevel {d : Nat} {S : Mm} {v : Int32} {u : Int32} : fX7_moveLevel (Qs d S) (rX6_voiceOf 18 v) (rX5_instrumentOf u) = Qs d (fX7_moveLevel S (rX6_voiceOf 18 v + d) (rX5_instrumentOf u)) := Q_fX7_moveLevel vo_in io_lt
theorem Qa_mX7_oscillate_1 {d : Nat} {S : Mm} {v : Int32} {u : Int32} {p3 : Int32} : mX7_oscillate_1 (Qs d S) (rX6_voiceOf 18 v) (rX5_instrumentOf u) p3 = Qs d (mX7_oscillate_1 S (rX6_voiceOf 18 v + d) (rX5_instrumentOf u) p3) := Q_mX7_oscillate_1 vo_in io_lt
theorem Qa_vX7_oscillate_2 {d : Nat} {S : Mm} {v : Int32} {u : Int32} {p3 : Int32} : vX7_oscillate_2 (Qs d S) (rX6_voiceOf 18 v) (rX5_instrumentOf u) p3 = vX7_oscillate_2 S (rX6_voiceOf 18 v + d) (rX5_instrumentOf u) p3 := Q_vX7_oscillate_2 vo_in io_lt
theorem Qa_mX7_oscillate_3 {d : Nat} {S : Mm} {v : Int32} {u : Int32} {p3 : Int32} : mX7_oscillate_3 (Qs d S) (rX6_voiceOf 18 v) (rX5_instrumentOf u) p3 = Qs d (mX7_oscillate_3 S (rX6_voiceOf 18 v + d) (rX5_instrumentOf u) p3) := Q_mX7_oscillate_3 vo_in io_lt
theorem Qa_vX7_oscillate_4 {d : Nat} {S : Mm} {v : Int32} {u : Int32} {p3 : Int32} : vX7_oscillate_4 (Qs d S) (rX6_voiceOf 18 v) (rX5_instrumentOf u) p3 = vX7_oscillate_4 S (rX6_voiceOf 18 v + d) (rX5_instrumentOf u) p3 := Q_vX7_oscillate_4 vo_in io_lt
theorem Qa_rX7_oscillate {d : Nat} {S : Mm} {v : Int32} {u : Int32} {p3 : Int32} : rX7_oscillate (Qs d S) (rX6_voiceOf 18 v) (rX5_instrumentOf u) p3 = rX7_oscillate S (rX6_voiceOf 18 v + d) (rX5_instrumentOf u) p3 := Q_rX7_oscillate vo_in io_lt
theorem Qa_fX7_oscillate {d : Nat} {S : Mm} {v : Int32} {u : Int32} {p3 : Int32} : fX7_oscillate (Qs d S) (rX6_voiceOf 18 v) (rX5_instrumentOf u) p3 = Qs d (fX7_oscillate S (rX6_voiceOf 18 v + d) (rX5_instrumentOf u) p3) := Q_fX7_oscillate vo_in io_lt
theorem Qa_mX7_filter_1 {d : Nat} {S : Mm} {v : Int32} {u : Int32} {p2 : Int32} : mX7_filter_1 (Qs d S) (rX6_voiceOf 18 v) (rX5_instrumentOf u) p2 = Qs d (mX7_filter_1 S (rX6_voiceOf 18 v + d) (rX5_instrumentOf u) p2) := Q_mX7_filter_1 vo_in io_lt
theorem Qa_vX7_filter_2 {d : Nat} {S : Mm} {v : Int32} {u : Int32} {p2 : Int32} : vX7_filter_2 (Qs d S) (rX6_voiceOf 18 v) (rX5_instrumentOf u) p2 = vX7_filter_2 S (rX6_voiceOf 18 v + d) (rX5_instrumentOf u) p2 := Q_vX7_filter_2 vo_in io_lt
theorem Qa_vX7_filter_3 {d : Nat} {S : Mm} {v : Int32} {u : Int32} {p2 : Int32} : vX7_filter_3 (Qs d S) (rX6_voiceOf 18 v) (rX5_instrumentOf u) p2 = vX7_filter_3 S (rX6_voiceOf 18 v + d) (rX5_instrumentOf u) p2 := Q_vX7_filter_3 vo_in io_lt
theorem Qa_mX7_filter_4 {d : Nat} {S : Mm} {v : Int32} {u : Int32} {p2 : Int32} : mX7_filter_4 (Qs d S) (rX6_voiceOf 18 v) (rX5_instrumentOf u) p2 = Qs d (mX7_filter_4 S (rX6_voiceOf 18 v + d) (rX5_instrumentOf u) p2) := Q_mX7_filter_4 vo_in io_lt
theorem Qa_fX7_filter {d : Nat} {S : Mm} {v : Int32} {u : Int32} {p2 : Int32} : fX7_filter (Qs d S) (rX6_voiceOf 18 v) (rX5_instrumentOf u) p2 = Qs d (fX7_filter S (rX6_voiceOf 18 v + d) (rX5_instrumentOf u) p2) := Q_fX7_filter vo_in io_lt
theorem Qa_mX7_give_1 {d : Nat} {S : Mm} {v : Int32} {u : Int32} {p3 : Int32} : mX7_give_1 (Qs d S) (rX6_voiceOf 18 v) (rX5_instrumentOf u) p3 = Qs d (mX7_give_1 S (rX6_voiceOf 18 v + d) (rX5_instrumentOf u) p3) := Q_mX7_give_1 vo_in io_lt
theorem Qa_vX7_give_2 {d : Nat} {S : Mm} {v : Int32} {u : Int32} {p3 : Int32} : vX7_give_2 (Qs d S) (rX6_voiceOf 18 v) (rX5_instrumentOf u) p3 = vX7_give_2 S (rX6_voiceOf 18 v + d) (rX5_instrumentOf u) p3 := Q_vX7_give_2 vo_in io_lt
theorem Qa_rX7_give {d : Nat} {S : Mm} {v : Int32} {u : Int32} {p3 : Int32} : rX7_give (Qs d S) (rX6_voiceOf 18 v) (rX5_instrumentOf u) p3 = rX7_give S (rX6_voiceOf 18 v + d) (rX5_instrumentOf u) p3 := Q_rX7_give vo_in io_lt
theorem Qa_fX7_give {d : Nat} {S : Mm} {v : Int32} {u : Int32} {p3 : Int32} : fX7_give (Qs d S) (rX6_voiceOf 18 v) (rX5_instrumentOf u) p3 = Qs d (fX7_give S (rX6_voiceOf 18 v + d) (rX5_instrumentOf u) p3) := Q_fX7_give vo_in io_lt
theorem Qa_rX7_isTakenBefore {d : Nat} {S : Mm} {v : Int32} {u : Int32} : rX7_isTakenBefore (Qs d S) (rX6_voiceOf 18 v) (rX6_voiceOf 18 u) = rX7_isTakenBefore S (rX6_voiceOf 18 v + d) (rX6_voiceOf 18 u + d) := Q_rX7_isTakenBefore vo_in vo_in
theorem Qa_v {d : Nat} {S : Mm} {v : Int32} {k : Nat} (hk : k < 11) : Qs d S (rX6_voiceOf 18 v) k = S (rX6_voiceOf 18 v + d) k := Qv vo_in hk
theorem Q_rX4_pitchOf {d : Nat} {S : Mm} {p1 : Int32} {p2 : Int32}  : rX4_pitchOf (Qs d S) p1 p2 = rX4_pitchOf S p1 p2 := by
  unfold rX4_pitchOf
  simp only [Q_rX3_get_lo (o := 8) (by decide)]
theorem Q_rX4_forceOf {d : Nat} {S : Mm} {p1 : Int32} {p2 : Int32}  : rX4_forceOf (Qs d S) p1 p2 = rX4_forceOf S p1 p2 := by
  unfold rX4_forceOf
  simp only [Q_rX3_get_lo (o := 10) (by decide)]
theorem Q_rX4_gateOf {d : Nat} {S : Mm} {p1 : Int32} {p2 : Int32}  : rX4_gateOf (Qs d S) p1 p2 = rX4_gateOf S p1 p2 := by
  unfold rX4_gateOf
  simp only [Q_rX3_get_lo (o := 12) (by decide)]
theorem Q_rX4_lengthOf {d : Nat} {S : Mm} {p1 : Int32}  : rX4_lengthOf (Qs d S) p1 = rX4_lengthOf S p1 := by
  unfold rX4_lengthOf
  simp only [Qi (o := 5) (by decide)]
theorem Q_mX0_pass_1 {d : Nat} {S : Mm} {p1 : Int32} (hd : isd d) : mX0_pass_1 (Qs d S) 19 p1 = Qs d (mX0_pass_1 S (19 + d) p1) := by
  unfold mX0_pass_1
  have e20 : 19 + 1 = 20 := rfl
  have e20d : 19 + d + 1 = 20 + d := by omega
  simp only [e20, e20d, Qd (k := 0) (by decide), Qd (k := 1) (by decide), Qd (k := 2) (by decide), Qd (k := 3) (by decide), Qe (k := 0) (by decide), Qe (k := 1) (by decide), Qe (k := 2) (by decide), Qe (k := 3) (by decide), Q_rX3_get hd, Q_fX3_put hd, Q_if]
theorem Q_jX0_pass_2 {d : Nat} {S : Mm} {p1 : Int32} (hd : isd d) : jX0_pass_2 (Qs d S) 19 p1 = jX0_pass_2 S (19 + d) p1 := by
  unfold jX0_pass_2
  have e20 : 19 + 1 = 20 := rfl
  have e20d : 19 + d + 1 = 20 + d := by omega
  simp only [e20, e20d, Qd (k := 0) (by decide), Qd (k := 1) (by decide), Qd (k := 2) (by decide), Qd (k := 3) (by decide), Qe (k := 0) (by decide), Qe (k := 1) (by decide), Qe (k := 2) (by decide), Qe (k := 3) (by decide), Q_rX3_get hd, Q_fX3_put hd, Q_mX0_pass_1 hd, Q_if]
theorem Q_rX0_pass {d : Nat} {S : Mm} {p1 : Int32} (hd : isd d) : rX0_pass (Qs d S) 19 p1 = rX0_pass S (19 + d) p1 := by
  unfold rX0_pass
  have e20 : 19 + 1 = 20 := rfl
  have e20d : 19 + d + 1 = 20 + d := by omega
  simp only [e20, e20d, Qd (k := 0) (by decide), Qd (k := 1) (by decide), Qd (k := 2) (by decide), Qd (k := 3) (by decide), Qe (k := 0) (by decide), Qe (k := 1) (by decide), Qe (k := 2) (by decide), Qe (k := 3) (by decide), Q_rX3_get hd, Q_fX3_put hd, Q_mX0_pass_1 hd, Q_jX0_pass_2 hd, Q_if]
theorem Q_fX0_pass {d : Nat} {S : Mm} {p1 : Int32} (hd : isd d) : fX0_pass (Qs d S) 19 p1 = Qs d (fX0_pass S (19 + d) p1) := by
  unfold fX0_pass
  have e20 : 19 + 1 = 20 := rfl
  have e20d : 19 + d + 1 = 20 + d := by omega
  simp only [e20, e20d, Qd (k := 0) (by decide), Qd (k := 1) (by decide), Qd (k := 2) (by decide), Qd (k := 3) (by decide), Qe (k := 0) (by decide), Qe (k := 1) (by decide), Qe (k := 2) (by decide), Qe (k := 3) (by decide), Q_rX3_get hd, Q_fX3_put hd, Q_mX0_pass_1 hd, Q_jX0_pass_2 hd, Q_if]
theorem Q_jX6_countSounding_1 {d : Nat} {S : Mm}  : jX6_countSounding_1 (Qs d S) 18 = jX6_countSounding_1 S (18 + d) := by
  unfold jX6_countSounding_1
  have e19 : 18 + 1 = 19 := rfl
  have e19d : 18 + d + 1 = 19 + d := by omega
  simp only [vo_d, Qa_v (k := 0) (by decide), Qa_v (k := 1) (by decide), Qa_v (k := 2) (by decide), Qa_v (k := 3) (by decide), Qa_v (k := 4) (by decide), Qa_v (k := 5) (by decide), Qa_v (k := 6) (by decide), Qa_v (k := 7) (by decide), Qa_v (k := 8) (by decide), Qa_v (k := 9) (by decide), Qa_v (k := 10) (by decide), Qg (k := 6) (by decide), Qg (k := 7) (by decide), Qg (k := 8) (by decide), Qg (k := 9) (by decide), Qg (k := 10) (by decide), Qg (k := 11) (by decide), Qh (k := 6) (by decide), Qh (k := 7) (by decide), Qh (k := 8) (by decide), Qh (k := 9) (by decide), Qh (k := 10) (by decide), Qh (k := 11) (by decide), Q_rX3_get_lo (o := 6) (by decide), Qi (o := 1) (k := 2) (by decide), Q_if]
theorem Q_jX6_countSounding_2 {d : Nat} {S : Mm}  : jX6_countSounding_2 (Qs d S) 18 = jX6_countSounding_2 S (18 + d) := by
  unfold jX6_countSounding_2
  have e19 : 18 + 1 = 19 := rfl
  have e19d : 18 + d + 1 = 19 + d := by omega
  simp only [vo_d, Qa_v (k := 0) (by decide), Qa_v (k := 1) (by decide), Qa_v (k := 2) (by decide), Qa_v (k := 3) (by decide), Qa_v (k := 4) (by decide), Qa_v (k := 5) (by decide), Qa_v (k := 6) (by decide), Qa_v (k := 7) (by decide), Qa_v (k := 8) (by decide), Qa_v (k := 9) (by decide), Qa_v (k := 10) (by decide), Qg (k := 6) (by decide), Qg (k := 7) (by decide), Qg (k := 8) (by decide), Qg (k := 9) (by decide), Qg (k := 10) (by decide), Qg (k := 11) (by decide), Qh (k := 6) (by decide), Qh (k := 7) (by decide), Qh (k := 8) (by decide), Qh (k := 9) (by decide), Qh (k := 10) (by decide), Qh (k := 11) (by decide), Q_rX3_get_lo (o := 6) (by decide), Qi (o := 1) (k := 2) (by decide), Q_jX6_countSounding_1, Q_if]
theorem Q_jX6_countSounding_3 {d : Nat} {S : Mm}  : jX6_countSounding_3 (Qs d S) 18 = jX6_countSounding_3 S (18 + d) := by
  unfold jX6_countSounding_3
  have e19 : 18 + 1 = 19 := rfl
  have e19d : 18 + d + 1 = 19 + d := by omega
  simp only [vo_d, Qa_v (k := 0) (by decide), Qa_v (k := 1) (by decide), Qa_v (k := 2) (by decide), Qa_v (k := 3) (by decide), Qa_v (k := 4) (by decide), Qa_v (k := 5) (by decide), Qa_v (k := 6) (by decide), Qa_v (k := 7) (by decide), Qa_v (k := 8) (by decide), Qa_v (k := 9) (by decide), Qa_v (k := 10) (by decide), Qg (k := 6) (by decide), Qg (k := 7) (by decide), Qg (k := 8) (by decide), Qg (k := 9) (by decide), Qg (k := 10) (by decide), Qg (k := 11) (by decide), Qh (k := 6) (by decide), Qh (k := 7) (by decide), Qh (k := 8) (by decide), Qh (k := 9) (by decide), Qh (k := 10) (by decide), Qh (k := 11) (by decide), Q_rX3_get_lo (o := 6) (by decide), Qi (o := 1) (k := 2) (by decide), Q_jX6_countSounding_2, Q_if]
theorem Q_jX6_countSounding_4 {d : Nat} {S : Mm}  : jX6_countSounding_4 (Qs d S) 18 = jX6_countSounding_4 S (18 + d) := by
  unfold jX6_countSounding_4
  have e19 : 18 + 1 = 19 := rfl
  have e19d : 18 + d + 1 = 19 + d := by omega
  simp only [vo_d, Qa_v (k := 0) (by decide), Qa_v (k := 1) (by decide), Qa_v (k := 2) (by decide), Qa_v (k := 3) (by decide), Qa_v (k := 4) (by decide), Qa_v (k := 5) (by decide), Qa_v (k := 6) (by decide), Qa_v (k := 7) (by decide), Qa_v (k := 8) (by decide), Qa_v (k := 9) (by decide), Qa_v (k := 10) (by decide), Qg (k := 6) (by decide), Qg (k := 7) (by decide), Qg (k := 8) (by decide), Qg (k := 9) (by decide), Qg (k := 10) (by decide), Qg (k := 11) (by decide), Qh (k := 6) (by decide), Qh (k := 7) (by decide), Qh (k := 8) (by decide), Qh (k := 9) (by decide), Qh (k := 10) (by decide), Qh (k := 11) (by decide), Q_rX3_get_lo (o := 6) (by decide), Qi (o := 1) (k := 2) (by decide), Q_jX6_countSounding_3, Q_if]
theorem Q_rX6_countSounding {d : Nat} {S : Mm}  : rX6_countSounding (Qs d S) 18 = rX6_countSounding S (18 + d) := by
  unfold rX6_countSounding
  have e19 : 18 + 1 = 19 := rfl
  have e19d : 18 + d + 1 = 19 + d := by omega
  simp only [vo_d, Qa_v (k := 0) (by decide), Qa_v (k := 1) (by decide), Qa_v (k := 2) (by decide), Qa_v (k := 3) (by decide), Qa_v (k := 4) (by decide), Qa_v (k := 5) (by decide), Qa_v (k := 6) (by decide), Qa_v (k := 7) (by decide), Qa_v (k := 8) (by decide), Qa_v (k := 9) (by decide), Qa_v (k := 10) (by decide), Qg (k := 6) (by decide), Qg (k := 7) (by decide), Qg (k := 8) (by decide), Qg (k := 9) (by decide), Qg (k := 10) (by decide), Qg (k := 11) (by decide), Qh (k := 6) (by decide), Qh (k := 7) (by decide), Qh (k := 8) (by decide), Qh (k := 9) (by decide), Qh (k := 10) (by decide), Qh (k := 11) (by decide), Q_rX3_get_lo (o := 6) (by decide), Qi (o := 1) (k := 2) (by decide), Q_jX6_countSounding_4, Q_if]
theorem Q_jX6_voiceToTake_1 {d : Nat} {S : Mm}  : jX6_voiceToTake_1 (Qs d S) 18 = jX6_voiceToTake_1 S (18 + d) := by
  unfold jX6_voiceToTake_1
  have e19 : 18 + 1 = 19 := rfl
  have e19d : 18 + d + 1 = 19 + d := by omega
  simp only [vo_d, Qa_v (k := 0) (by decide), Qa_v (k := 1) (by decide), Qa_v (k := 2) (by decide), Qa_v (k := 3) (by decide), Qa_v (k := 4) (by decide), Qa_v (k := 5) (by decide), Qa_v (k := 6) (by decide), Qa_v (k := 7) (by decide), Qa_v (k := 8) (by decide), Qa_v (k := 9) (by decide), Qa_v (k := 10) (by decide), Qg (k := 6) (by decide), Qg (k := 7) (by decide), Qg (k := 8) (by decide), Qg (k := 9) (by decide), Qg (k := 10) (by decide), Qg (k := 11) (by decide), Qh (k := 6) (by decide), Qh (k := 7) (by decide), Qh (k := 8) (by decide), Qh (k := 9) (by decide), Qh (k := 10) (by decide), Qh (k := 11) (by decide), Q_rX3_get_lo (o := 6) (by decide), Qi (o := 1) (k := 2) (by decide), Qa_rX7_isTakenBefore, Q_if]
theorem Q_jX6_voiceToTake_2 {d : Nat} {S : Mm}  : jX6_voiceToTake_2 (Qs d S) 18 = jX6_voiceToTake_2 S (18 + d) := by
  unfold jX6_voiceToTake_2
  have e19 : 18 + 1 = 19 := rfl
  have e19d : 18 + d + 1 = 19 + d := by omega
  simp only [vo_d, Qa_v (k := 0) (by decide), Qa_v (k := 1) (by decide), Qa_v (k := 2) (by decide), Qa_v (k := 3) (by decide), Qa_v (k := 4) (by decide), Qa_v (k := 5) (by decide), Qa_v (k := 6) (by decide), Qa_v (k := 7) (by decide), Qa_v (k := 8) (by decide), Qa_v (k := 9) (by decide), Qa_v (k := 10) (by decide), Qg (k := 6) (by decide), Qg (k := 7) (by decide), Qg (k := 8) (by decide), Qg (k := 9) (by decide), Qg (k := 10) (by decide), Qg (k := 11) (by decide), Qh (k := 6) (by decide), Qh (k := 7) (by decide), Qh (k := 8) (by decide), Qh (k := 9) (by decide), Qh (k := 10) (by decide), Qh (k := 11) (by decide), Q_rX3_get_lo (o := 6) (by decide), Qi (o := 1) (k := 2) (by decide), Qa_rX7_isTakenBefore, Q_jX6_voiceToTake_1, Q_if]
theorem Q_jX6_voiceToTake_3 {d : Nat} {S : Mm}  : jX6_voiceToTake_3 (Qs d S) 18 = jX6_voiceToTake_3 S (18 + d) := by
  unfold jX6_voiceToTake_3
  have e19 : 18 + 1 = 19 := rfl
  have e19d : 18 + d + 1 = 19 + d := by omega
  simp only [vo_d, Qa_v (k := 0) (by decide), Qa_v (k := 1) (by decide), Qa_v (k := 2) (by decide), Qa_v (k := 3) (by decide), Qa_v (k := 4) (by decide), Qa_v (k := 5) (by decide), Qa_v (k := 6) (by decide), Qa_v (k := 7) (by decide), Qa_v (k := 8) (by decide), Qa_v (k := 9) (by decide), Qa_v (k := 10) (by decide), Qg (k := 6) (by decide), Qg (k := 7) (by decide), Qg (k := 8) (by decide), Qg (k := 9) (by decide), Qg (k := 10) (by decide), Qg (k := 11) (by decide), Qh (k := 6) (by decide), Qh (k := 7) (by decide), Qh (k := 8) (by decide), Qh (k := 9) (by decide), Qh (k := 10) (by decide), Qh (k := 11) (by decide), Q_rX3_get_lo (o := 6) (by decide), Qi (o := 1) (k := 2) (by decide), Qa_rX7_isTakenBefore, Q_jX6_voiceToTake_2, Q_if]
theorem Q_rX6_voiceToTake {d : Nat} {S : Mm}  : rX6_voiceToTake (Qs d S) 18 = rX6_voiceToTake S (18 + d) := by
  unfold rX6_voiceToTake
  have e19 : 18 + 1 = 19 := rfl
  have e19d : 18 + d + 1 = 19 + d := by omega
  simp only [vo_d, Qa_v (k := 0) (by decide), Qa_v (k := 1) (by decide), Qa_v (k := 2) (by decide), Qa_v (k := 3) (by decide), Qa_v (k := 4) (by decide), Qa_v (k := 5) (by decide), Qa_v (k := 6) (by decide), Qa_v (k := 7) (by decide), Qa_v (k := 8) (by decide), Qa_v (k := 9) (by decide), Qa_v (k := 10) (by decide), Qg (k := 6) (by decide), Qg (k := 7) (by decide), Qg (k := 8) (by decide), Qg (k := 9) (by decide), Qg (k := 10) (by decide), Qg (k := 11) (by decide), Qh (k := 6) (by decide), Qh (k := 7) (by decide), Qh (k := 8) (by decide), Qh (k := 9) (by decide), Qh (k := 10) (by decide), Qh (k := 11) (by decide), Q_rX3_get_lo (o := 6) (by decide), Qi (o := 1) (k := 2) (by decide), Q_jX6_voiceToTake_3, Q_if]
theorem Q_jX6_startNote_1 {d : Nat} {S : Mm} {p1 : Int32} {p2 : Int32} {p3 : Int32} {p4 : Int32}  : jX6_startNote_1 (Qs d S) 18 p1 p2 p3 p4 = Qs d (jX6_startNote_1 S (18 + d) p1 p2 p3 p4) := by
  unfold jX6_startNote_1
  have e19 : 18 + 1 = 19 := rfl
  have e19d : 18 + d + 1 = 19 + d := by omega
  simp only [vo_d, Qa_v (k := 0) (by decide), Qa_v (k := 1) (by decide), Qa_v (k := 2) (by decide), Qa_v (k := 3) (by decide), Qa_v (k := 4) (by decide), Qa_v (k := 5) (by decide), Qa_v (k := 6) (by decide), Qa_v (k := 7) (by decide), Qa_v (k := 8) (by decide), Qa_v (k := 9) (by decide), Qa_v (k := 10) (by decide), Qg (k := 6) (by decide), Qg (k := 7) (by decide), Qg (k := 8) (by decide), Qg (k := 9) (by decide), Qg (k := 10) (by decide), Qg (k := 11) (by decide), Qh (k := 6) (by decide), Qh (k := 7) (by decide), Qh (k := 8) (by decide), Qh (k := 9) (by decide), Qh (k := 10) (by decide), Qh (k := 11) (by decide), Q_rX3_get_lo (o := 6) (by decide), Qi (o := 1) (k := 2) (by decide), Q_rX6_voiceToTake, Q_if]
theorem Q_mX6_startNote_2 {d : Nat} {S : Mm} {p1 : Int32} {p2 : Int32} {p3 : Int32} {p4 : Int32}  : mX6_startNote_2 (Qs d S) 18 p1 p2 p3 p4 = Qs d (mX6_startNote_2 S (18 + d) p1 p2 p3 p4) := by
  unfold mX6_startNote_2
  have e19 : 18 + 1 = 19 := rfl
  have e19d : 18 + d + 1 = 19 + d := by omega
  simp only [vo_d, Qa_v (k := 0) (by decide), Qa_v (k := 1) (by decide), Qa_v (k := 2) (by decide), Qa_v (k := 3) (by decide), Qa_v (k := 4) (by decide), Qa_v (k := 5) (by decide), Qa_v (k := 6) (by decide), Qa_v (k := 7) (by decide), Qa_v (k := 8) (by decide), Qa_v (k := 9) (by decide), Qa_v (k := 10) (by decide), Qg (k := 6) (by decide), Qg (k := 7) (by decide), Qg (k := 8) (by decide), Qg (k := 9) (by decide), Qg (k := 10) (by decide), Qg (k := 11) (by decide), Qh (k := 6) (by decide), Qh (k := 7) (by decide), Qh (k := 8) (by decide), Qh (k := 9) (by decide), Qh (k := 10) (by decide), Qh (k := 11) (by decide), Q_rX3_get_lo (o := 6) (by decide), Qi (o := 1) (k := 2) (by decide), Q_jX6_startNote_1, Q_if]
theorem Q_mX6_startNote_3 {d : Nat} {S : Mm} {p1 : Int32} {p2 : Int32} {p3 : Int32} {p4 : Int32}  : mX6_startNote_3 (Qs d S) 18 p1 p2 p3 p4 = Qs d (mX6_startNote_3 S (18 + d) p1 p2 p3 p4) := by
  unfold mX6_startNote_3
  have e19 : 18 + 1 = 19 := rfl
  have e19d : 18 + d + 1 = 19 + d := by omega
  simp only [vo_d, Qa_v (k := 0) (by decide), Qa_v (k := 1) (by decide), Qa_v (k := 2) (by decide), Qa_v (k := 3) (by decide), Qa_v (k := 4) (by decide), Qa_v (k := 5) (by decide), Qa_v (k := 6) (by decide), Qa_v (k := 7) (by decide), Qa_v (k := 8) (by decide), Qa_v (k := 9) (by decide), Qa_v (k := 10) (by decide), Qg (k := 6) (by decide), Qg (k := 7) (by decide), Qg (k := 8) (by decide), Qg (k := 9) (by decide), Qg (k := 10) (by decide), Qg (k := 11) (by decide), Qh (k := 6) (by decide), Qh (k := 7) (by decide), Qh (k := 8) (by decide), Qh (k := 9) (by decide), Qh (k := 10) (by decide), Qh (k := 11) (by decide), Q_rX3_get_lo (o := 6) (by decide), Qi (o := 1) (k := 2) (by decide), Qa_fX7_start, Q_rX6_voiceToTake, Q_mX6_startNote_2, Q_if]
theorem Q_rX6_startNote {d : Nat} {S : Mm} {p1 : Int32} {p2 : Int32} {p3 : Int32} {p4 : Int32}  : rX6_startNote (Qs d S) 18 p1 p2 p3 p4 = rX6_startNote S (18 + d) p1 p2 p3 p4 := by
  unfold rX6_startNote
  have e19 : 18 + 1 = 19 := rfl
  have e19d : 18 + d + 1 = 19 + d := by omega
  simp only [vo_d, Qa_v (k := 0) (by decide), Qa_v (k := 1) (by decide), Qa_v (k := 2) (by decide), Qa_v (k := 3) (by decide), Qa_v (k := 4) (by decide), Qa_v (k := 5) (by decide), Qa_v (k := 6) (by decide), Qa_v (k := 7) (by decide), Qa_v (k := 8) (by decide), Qa_v (k := 9) (by decide), Qa_v (k := 10) (by decide), Qg (k := 6) (by decide), Qg (k := 7) (by decide), Qg (k := 8) (by decide), Qg (k := 9) (by decide), Qg (k := 10) (by decide), Qg (k := 11) (by decide), Qh (k := 6) (by decide), Qh (k := 7) (by decide), Qh (k := 8) (by decide), Qh (k := 9) (by decide), Qh (k := 10) (by decide), Qh (k := 11) (by decide), Q_rX3_get_lo (o := 6) (by decide), Qi (o := 1) (k := 2) (by decide), Q_rX6_voiceToTake, Q_if]
theorem Q_fX6_startNote {d : Nat} {S : Mm} {p1 : Int32} {p2 : Int32} {p3 : Int32} {p4 : Int32}  : fX6_startNote (Qs d S) 18 p1 p2 p3 p4 = Qs d (fX6_startNote S (18 + d) p1 p2 p3 p4) := by
  unfold fX6_startNote
  have e19 : 18 + 1 = 19 := rfl
  have e19d : 18 + d + 1 = 19 + d := by omega
  simp only [vo_d, Qa_v (k := 0) (by decide), Qa_v (k := 1) (by decide), Qa_v (k := 2) (by decide), Qa_v (k := 3) (by decide), Qa_v (k := 4) (by decide), Qa_v (k := 5) (by decide), Qa_v (k := 6) (by decide), Qa_v (k := 7) (by decide), Qa_v (k := 8) (by decide), Qa_v (k := 9) (by decide), Qa_v (k := 10) (by decide), Qg (k := 6) (by decide), Qg (k := 7) (by decide), Qg (k := 8) (by decide), Qg (k := 9) (by decide), Qg (k := 10) (by decide), Qg (k := 11) (by decide), Qh (k := 6) (by decide), Qh (k := 7) (by decide), Qh (k := 8) (by decide), Qh (k := 9) (by decide), Qh (k := 10) (by decide), Qh (k := 11) (by decide), Q_rX3_get_lo (o := 6) (by decide), Qi (o := 1) (k := 2) (by decide), Q_mX6_startNote_3, Q_if]
theorem Q_mX6_closeGates_1 {d : Nat} {S : Mm}  : mX6_closeGates_1 (Qs d S) 18 = Qs d (mX6_closeGates_1 S (18 + d)) := by
  unfold mX6_closeGates_1
  have e19 : 18 + 1 = 19 := rfl
  have e19d : 18 + d + 1 = 19 + d := by omega
  simp only [vo_d, Qa_v (k := 0) (by decide), Qa_v (k := 1) (by decide), Qa_v (k := 2) (by decide), Qa_v (k := 3) (by decide), Qa_v (k := 4) (by decide), Qa_v (k := 5) (by decide), Qa_v (k := 6) (by decide), Qa_v (k := 7) (by decide), Qa_v (k := 8) (by decide), Qa_v (k := 9) (by decide), Qa_v (k := 10) (by decide), Qg (k := 6) (by decide), Qg (k := 7) (by decide), Qg (k := 8) (by decide), Qg (k := 9) (by decide), Qg (k := 10) (by decide), Qg (k := 11) (by decide), Qh (k := 6) (by decide), Qh (k := 7) (by decide), Qh (k := 8) (by decide), Qh (k := 9) (by decide), Qh (k := 10) (by decide), Qh (k := 11) (by decide), Q_rX3_get_lo (o := 6) (by decide), Qi (o := 1) (k := 2) (by decide), Qa_fX7_closeGate, Q_if]
theorem Q_mX6_closeGates_2 {d : Nat} {S : Mm}  : mX6_closeGates_2 (Qs d S) 18 = Qs d (mX6_closeGates_2 S (18 + d)) := by
  unfold mX6_closeGates_2
  have e19 : 18 + 1 = 19 := rfl
  have e19d : 18 + d + 1 = 19 + d := by omega
  simp only [vo_d, Qa_v (k := 0) (by decide), Qa_v (k := 1) (by decide), Qa_v (k := 2) (by decide), Qa_v (k := 3) (by decide), Qa_v (k := 4) (by decide), Qa_v (k := 5) (by decide), Qa_v (k := 6) (by decide), Qa_v (k := 7) (by decide), Qa_v (k := 8) (by decide), Qa_v (k := 9) (by decide), Qa_v (k := 10) (by decide), Qg (k := 6) (by decide), Qg (k := 7) (by decide), Qg (k := 8) (by decide), Qg (k := 9) (by decide), Qg (k := 10) (by decide), Qg (k := 11) (by decide), Qh (k := 6) (by decide), Qh (k := 7) (by decide), Qh (k := 8) (by decide), Qh (k := 9) (by decide), Qh (k := 10) (by decide), Qh (k := 11) (by decide), Q_rX3_get_lo (o := 6) (by decide), Qi (o := 1) (k := 2) (by decide), Qa_fX7_closeGate, Q_mX6_closeGates_1, Q_if]
theorem Q_fX6_closeGates {d : Nat} {S : Mm}  : fX6_closeGates (Qs d S) 18 = Qs d (fX6_closeGates S (18 + d)) := by
  unfold fX6_closeGates
  have e19 : 18 + 1 = 19 := rfl
  have e19d : 18 + d + 1 = 19 + d := by omega
  simp only [vo_d, Qa_v (k := 0) (by decide), Qa_v (k := 1) (by decide), Qa_v (k := 2) (by decide), Qa_v (k := 3) (by decide), Qa_v (k := 4) (by decide), Qa_v (k := 5) (by decide), Qa_v (k := 6) (by decide), Qa_v (k := 7) (by decide), Qa_v (k := 8) (by decide), Qa_v (k := 9) (by decide), Qa_v (k := 10) (by decide), Qg (k := 6) (by decide), Qg (k := 7) (by decide), Qg (k := 8) (by decide), Qg (k := 9) (by decide), Qg (k := 10) (by decide), Qg (k := 11) (by decide), Qh (k := 6) (by decide), Qh (k := 7) (by decide), Qh (k := 8) (by decide), Qh (k := 9) (by decide), Qh (k := 10) (by decide), Qh (k := 11) (by decide), Q_rX3_get_lo (o := 6) (by decide), Qi (o := 1) (k := 2) (by decide), Q_mX6_closeGates_2, Q_if]
theorem Q_mX6_countGates_1 {d : Nat} {S : Mm}  : mX6_countGates_1 (Qs d S) 18 = Qs d (mX6_countGates_1 S (18 + d)) := by
  unfold mX6_countGates_1
  have e19 : 18 + 1 = 19 := rfl
  have e19d : 18 + d + 1 = 19 + d := by omega
  simp only [vo_d, Qa_v (k := 0) (by decide), Qa_v (k := 1) (by decide), Qa_v (k := 2) (by decide), Qa_v (k := 3) (by decide), Qa_v (k := 4) (by decide), Qa_v (k := 5) (by decide), Qa_v (k := 6) (by decide), Qa_v (k := 7) (by decide), Qa_v (k := 8) (by decide), Qa_v (k := 9) (by decide), Qa_v (k := 10) (by decide), Qg (k := 6) (by decide), Qg (k := 7) (by decide), Qg (k := 8) (by decide), Qg (k := 9) (by decide), Qg (k := 10) (by decide), Qg (k := 11) (by decide), Qh (k := 6) (by decide), Qh (k := 7) (by decide), Qh (k := 8) (by decide), Qh (k := 9) (by decide), Qh (k := 10) (by decide), Qh (k := 11) (by decide), Q_rX3_get_lo (o := 6) (by decide), Qi (o := 1) (k := 2) (by decide), Qa_fX7_countGate, Q_if]
theorem Q_mX6_countGates_2 {d : Nat} {S : Mm}  : mX6_countGates_2 (Qs d S) 18 = Qs d (mX6_countGates_2 S (18 + d)) := by
  unfold mX6_countGates_2
  have e19 : 18 + 1 = 19 := rfl
  have e19d : 18 + d + 1 = 19 + d := by omega
  simp only [vo_d, Qa_v (k := 0) (by decide), Qa_v (k := 1) (by decide), Qa_v (k := 2) (by decide), Qa_v (k := 3) (by decide), Qa_v (k := 4) (by decide), Qa_v (k := 5) (by decide), Qa_v (k := 6) (by decide), Qa_v (k := 7) (by decide), Qa_v (k := 8) (by decide), Qa_v (k := 9) (by decide), Qa_v (k := 10) (by decide), Qg (k := 6) (by decide), Qg (k := 7) (by decide), Qg (k := 8) (by decide), Qg (k := 9) (by decide), Qg (k := 10) (by decide), Qg (k := 11) (by decide), Qh (k := 6) (by decide), Qh (k := 7) (by decide), Qh (k := 8) (by decide), Qh (k := 9) (by decide), Qh (k := 10) (by decide), Qh (k := 11) (by decide), Q_rX3_get_lo (o := 6) (by decide), Qi (o := 1) (k := 2) (by decide), Qa_fX7_countGate, Q_mX6_countGates_1, Q_if]
theorem Q_fX6_countGates {d : Nat} {S : Mm}  : fX6_countGates (Qs d S) 18 = Qs d (fX6_countGates S (18 + d)) := by
  unfold fX6_countGates
  have e19 : 18 + 1 = 19 := rfl
  have e19d : 18 + d + 1 = 19 + d := by omega
  simp only [vo_d, Qa_v (k := 0) (by decide), Qa_v (k := 1) (by decide), Qa_v (k := 2) (by decide), Qa_v (k := 3) (by decide), Qa_v (k := 4) (by decide), Qa_v (k := 5) (by decide), Qa_v (k := 6) (by decide), Qa_v (k := 7) (by decide), Qa_v (k := 8) (by decide), Qa_v (k := 9) (by decide), Qa_v (k := 10) (by decide), Qg (k := 6) (by decide), Qg (k := 7) (by decide), Qg (k := 8) (by decide), Qg (k := 9) (by decide), Qg (k := 10) (by decide), Qg (k := 11) (by decide), Qh (k := 6) (by decide), Qh (k := 7) (by decide), Qh (k := 8) (by decide), Qh (k := 9) (by decide), Qh (k := 10) (by decide), Qh (k := 11) (by decide), Q_rX3_get_lo (o := 6) (by decide), Qi (o := 1) (k := 2) (by decide), Q_mX6_countGates_2, Q_if]
theorem Q_mX6_countStep_1 {d : Nat} {S : Mm}  : mX6_countStep_1 (Qs d S) 18 = Qs d (mX6_countStep_1 S (18 + d)) := by
  unfold mX6_countStep_1
  have e19 : 18 + 1 = 19 := rfl
  have e19d : 18 + d + 1 = 19 + d := by omega
  simp only [vo_d, Qa_v (k := 0) (by decide), Qa_v (k := 1) (by decide), Qa_v (k := 2) (by decide), Qa_v (k := 3) (by decide), Qa_v (k := 4) (by decide), Qa_v (k := 5) (by decide), Qa_v (k := 6) (by decide), Qa_v (k := 7) (by decide), Qa_v (k := 8) (by decide), Qa_v (k := 9) (by decide), Qa_v (k := 10) (by decide), Qg (k := 6) (by decide), Qg (k := 7) (by decide), Qg (k := 8) (by decide), Qg (k := 9) (by decide), Qg (k := 10) (by decide), Qg (k := 11) (by decide), Qh (k := 6) (by decide), Qh (k := 7) (by decide), Qh (k := 8) (by decide), Qh (k := 9) (by decide), Qh (k := 10) (by decide), Qh (k := 11) (by decide), Q_rX3_get_lo (o := 6) (by decide), Qi (o := 1) (k := 2) (by decide), Q_if]
theorem Q_fX6_countStep {d : Nat} {S : Mm}  : fX6_countStep (Qs d S) 18 = Qs d (fX6_countStep S (18 + d)) := by
  unfold fX6_countStep
  have e19 : 18 + 1 = 19 := rfl
  have e19d : 18 + d + 1 = 19 + d := by omega
  simp only [vo_d, Qa_v (k := 0) (by decide), Qa_v (k := 1) (by decide), Qa_v (k := 2) (by decide), Qa_v (k := 3) (by decide), Qa_v (k := 4) (by decide), Qa_v (k := 5) (by decide), Qa_v (k := 6) (by decide), Qa_v (k := 7) (by decide), Qa_v (k := 8) (by decide), Qa_v (k := 9) (by decide), Qa_v (k := 10) (by decide), Qg (k := 6) (by decide), Qg (k := 7) (by decide), Qg (k := 8) (by decide), Qg (k := 9) (by decide), Qg (k := 10) (by decide), Qg (k := 11) (by decide), Qh (k := 6) (by decide), Qh (k := 7) (by decide), Qh (k := 8) (by decide), Qh (k := 9) (by decide), Qh (k := 10) (by decide), Qh (k := 11) (by decide), Q_rX3_get_lo (o := 6) (by decide), Qi (o := 1) (k := 2) (by decide), Q_mX6_countStep_1, Q_if]
theorem Q_vX6_startStep_1 {d : Nat} {S : Mm}  : vX6_startStep_1 (Qs d S) 18 = vX6_startStep_1 S (18 + d) := by
  unfold vX6_startStep_1
  have e19 : 18 + 1 = 19 := rfl
  have e19d : 18 + d + 1 = 19 + d := by omega
  simp only [vo_d, Qa_v (k := 0) (by decide), Qa_v (k := 1) (by decide), Qa_v (k := 2) (by decide), Qa_v (k := 3) (by decide), Qa_v (k := 4) (by decide), Qa_v (k := 5) (by decide), Qa_v (k := 6) (by decide), Qa_v (k := 7) (by decide), Qa_v (k := 8) (by decide), Qa_v (k := 9) (by decide), Qa_v (k := 10) (by decide), Qg (k := 6) (by decide), Qg (k := 7) (by decide), Qg (k := 8) (by decide), Qg (k := 9) (by decide), Qg (k := 10) (by decide), Qg (k := 11) (by decide), Qh (k := 6) (by decide), Qh (k := 7) (by decide), Qh (k := 8) (by decide), Qh (k := 9) (by decide), Qh (k := 10) (by decide), Qh (k := 11) (by decide), Q_rX3_get_lo (o := 6) (by decide), Qi (o := 1) (k := 2) (by decide), Q_rX4_pitchOf, Q_rX4_lengthOf, Q_if]
theorem Q_vX6_startStep_2 {d : Nat} {S : Mm}  : vX6_startStep_2 (Qs d S) 18 = vX6_startStep_2 S (18 + d) := by
  unfold vX6_startStep_2
  have e19 : 18 + 1 = 19 := rfl
  have e19d : 18 + d + 1 = 19 + d := by omega
  simp only [vo_d, Qa_v (k := 0) (by decide), Qa_v (k := 1) (by decide), Qa_v (k := 2) (by decide), Qa_v (k := 3) (by decide), Qa_v (k := 4) (by decide), Qa_v (k := 5) (by decide), Qa_v (k := 6) (by decide), Qa_v (k := 7) (by decide), Qa_v (k := 8) (by decide), Qa_v (k := 9) (by decide), Qa_v (k := 10) (by decide), Qg (k := 6) (by decide), Qg (k := 7) (by decide), Qg (k := 8) (by decide), Qg (k := 9) (by decide), Qg (k := 10) (by decide), Qg (k := 11) (by decide), Qh (k := 6) (by decide), Qh (k := 7) (by decide), Qh (k := 8) (by decide), Qh (k := 9) (by decide), Qh (k := 10) (by decide), Qh (k := 11) (by decide), Q_rX3_get_lo (o := 6) (by decide), Qi (o := 1) (k := 2) (by decide), Q_rX4_forceOf, Q_rX4_lengthOf, Q_if]
theorem Q_vX6_startStep_3 {d : Nat} {S : Mm}  : vX6_startStep_3 (Qs d S) 18 = vX6_startStep_3 S (18 + d) := by
  unfold vX6_startStep_3
  have e19 : 18 + 1 = 19 := rfl
  have e19d : 18 + d + 1 = 19 + d := by omega
  simp only [vo_d, Qa_v (k := 0) (by decide), Qa_v (k := 1) (by decide), Qa_v (k := 2) (by decide), Qa_v (k := 3) (by decide), Qa_v (k := 4) (by decide), Qa_v (k := 5) (by decide), Qa_v (k := 6) (by decide), Qa_v (k := 7) (by decide), Qa_v (k := 8) (by decide), Qa_v (k := 9) (by decide), Qa_v (k := 10) (by decide), Qg (k := 6) (by decide), Qg (k := 7) (by decide), Qg (k := 8) (by decide), Qg (k := 9) (by decide), Qg (k := 10) (by decide), Qg (k := 11) (by decide), Qh (k := 6) (by decide), Qh (k := 7) (by decide), Qh (k := 8) (by decide), Qh (k := 9) (by decide), Qh (k := 10) (by decide), Qh (k := 11) (by decide), Q_rX3_get_lo (o := 6) (by decide), Qi (o := 1) (k := 2) (by decide), Q_rX4_gateOf, Q_rX4_lengthOf, Q_if]
theorem Q_mX6_startStep_4 {d : Nat} {S : Mm}  : mX6_startStep_4 (Qs d S) 18 = Qs d (mX6_startStep_4 S (18 + d)) := by
  unfold mX6_startStep_4
  have e19 : 18 + 1 = 19 := rfl
  have e19d : 18 + d + 1 = 19 + d := by omega
  simp only [vo_d, Qa_v (k := 0) (by decide), Qa_v (k := 1) (by decide), Qa_v (k := 2) (by decide), Qa_v (k := 3) (by decide), Qa_v (k := 4) (by decide), Qa_v (k := 5) (by decide), Qa_v (k := 6) (by decide), Qa_v (k := 7) (by decide), Qa_v (k := 8) (by decide), Qa_v (k := 9) (by decide), Qa_v (k := 10) (by decide), Qg (k := 6) (by decide), Qg (k := 7) (by decide), Qg (k := 8) (by decide), Qg (k := 9) (by decide), Qg (k := 10) (by decide), Qg (k := 11) (by decide), Qh (k := 6) (by decide), Qh (k := 7) (by decide), Qh (k := 8) (by decide), Qh (k := 9) (by decide), Qh (k := 10) (by decide), Qh (k := 11) (by decide), Q_rX3_get_lo (o := 6) (by decide), Qi (o := 1) (k := 2) (by decide), Q_fX6_startNote, Q_vX6_startStep_1, Q_vX6_startStep_2, Q_vX6_startStep_3, Q_rX4_lengthOf, Q_if]
theorem Q_vX6_startStep_5 {d : Nat} {S : Mm}  : vX6_startStep_5 (Qs d S) 18 = vX6_startStep_5 S (18 + d) := by
  unfold vX6_startStep_5
  have e19 : 18 + 1 = 19 := rfl
  have e19d : 18 + d + 1 = 19 + d := by omega
  simp only [vo_d, Qa_v (k := 0) (by decide), Qa_v (k := 1) (by decide), Qa_v (k := 2) (by decide), Qa_v (k := 3) (by decide), Qa_v (k := 4) (by decide), Qa_v (k := 5) (by decide), Qa_v (k := 6) (by decide), Qa_v (k := 7) (by decide), Qa_v (k := 8) (by decide), Qa_v (k := 9) (by decide), Qa_v (k := 10) (by decide), Qg (k := 6) (by decide), Qg (k := 7) (by decide), Qg (k := 8) (by decide), Qg (k := 9) (by decide), Qg (k := 10) (by decide), Qg (k := 11) (by decide), Qh (k := 6) (by decide), Qh (k := 7) (by decide), Qh (k := 8) (by decide), Qh (k := 9) (by decide), Qh (k := 10) (by decide), Qh (k := 11) (by decide), Q_rX3_get_lo (o := 6) (by decide), Qi (o := 1) (k := 2) (by decide), Q_rX6_startNote, Q_vX6_startStep_1, Q_vX6_startStep_2, Q_vX6_startStep_3, Q_rX4_lengthOf, Q_if]
theorem Q_jX6_startStep_6 {d : Nat} {S : Mm}  : jX6_startStep_6 (Qs d S) 18 = Qs d (jX6_startStep_6 S (18 + d)) := by
  unfold jX6_startStep_6
  have e19 : 18 + 1 = 19 := rfl
  have e19d : 18 + d + 1 = 19 + d := by omega
  simp only [vo_d, Qa_v (k := 0) (by decide), Qa_v (k := 1) (by decide), Qa_v (k := 2) (by decide), Qa_v (k := 3) (by decide), Qa_v (k := 4) (by decide), Qa_v (k := 5) (by decide), Qa_v (k := 6) (by decide), Qa_v (k := 7) (by decide), Qa_v (k := 8) (by decide), Qa_v (k := 9) (by decide), Qa_v (k := 10) (by decide), Qg (k := 6) (by decide), Qg (k := 7) (by decide), Qg (k := 8) (by decide), Qg (k := 9) (by decide), Qg (k := 10) (by decide), Qg (k := 11) (by decide), Qh (k := 6) (by decide), Qh (k := 7) (by decide), Qh (k := 8) (by decide), Qh (k := 9) (by decide), Qh (k := 10) (by decide), Qh (k := 11) (by decide), Q_rX3_get_lo (o := 6) (by decide), Qi (o := 1) (k := 2) (by decide), Q_vX6_startStep_1, Q_mX6_startStep_4, Q_rX4_lengthOf, Q_if]
theorem Q_mX6_startStep_7 {d : Nat} {S : Mm}  : mX6_startStep_7 (Qs d S) 18 = Qs d (mX6_startStep_7 S (18 + d)) := by
  unfold mX6_startStep_7
  have e19 : 18 + 1 = 19 := rfl
  have e19d : 18 + d + 1 = 19 + d := by omega
  simp only [vo_d, Qa_v (k := 0) (by decide), Qa_v (k := 1) (by decide), Qa_v (k := 2) (by decide), Qa_v (k := 3) (by decide), Qa_v (k := 4) (by decide), Qa_v (k := 5) (by decide), Qa_v (k := 6) (by decide), Qa_v (k := 7) (by decide), Qa_v (k := 8) (by decide), Qa_v (k := 9) (by decide), Qa_v (k := 10) (by decide), Qg (k := 6) (by decide), Qg (k := 7) (by decide), Qg (k := 8) (by decide), Qg (k := 9) (by decide), Qg (k := 10) (by decide), Qg (k := 11) (by decide), Qh (k := 6) (by decide), Qh (k := 7) (by decide), Qh (k := 8) (by decide), Qh (k := 9) (by decide), Qh (k := 10) (by decide), Qh (k := 11) (by decide), Q_rX3_get_lo (o := 6) (by decide), Qi (o := 1) (k := 2) (by decide), Q_fX6_startNote, Q_jX6_startStep_6, Q_rX4_pitchOf, Q_rX4_forceOf, Q_rX4_gateOf, Q_if]
theorem Q_vX6_startStep_8 {d : Nat} {S : Mm}  : vX6_startStep_8 (Qs d S) 18 = vX6_startStep_8 S (18 + d) := by
  unfold vX6_startStep_8
  have e19 : 18 + 1 = 19 := rfl
  have e19d : 18 + d + 1 = 19 + d := by omega
  simp only [vo_d, Qa_v (k := 0) (by decide), Qa_v (k := 1) (by decide), Qa_v (k := 2) (by decide), Qa_v (k := 3) (by decide), Qa_v (k := 4) (by decide), Qa_v (k := 5) (by decide), Qa_v (k := 6) (by decide), Qa_v (k := 7) (by decide), Qa_v (k := 8) (by decide), Qa_v (k := 9) (by decide), Qa_v (k := 10) (by decide), Qg (k := 6) (by decide), Qg (k := 7) (by decide), Qg (k := 8) (by decide), Qg (k := 9) (by decide), Qg (k := 10) (by decide), Qg (k := 11) (by decide), Qh (k := 6) (by decide), Qh (k := 7) (by decide), Qh (k := 8) (by decide), Qh (k := 9) (by decide), Qh (k := 10) (by decide), Qh (k := 11) (by decide), Q_rX3_get_lo (o := 6) (by decide), Qi (o := 1) (k := 2) (by decide), Q_rX6_startNote, Q_jX6_startStep_6, Q_rX4_pitchOf, Q_rX4_forceOf, Q_rX4_gateOf, Q_if]
theorem Q_jX6_startStep_9 {d : Nat} {S : Mm}  : jX6_startStep_9 (Qs d S) 18 = Qs d (jX6_startStep_9 S (18 + d)) := by
  unfold jX6_startStep_9
  have e19 : 18 + 1 = 19 := rfl
  have e19d : 18 + d + 1 = 19 + d := by omega
  simp only [vo_d, Qa_v (k := 0) (by decide), Qa_v (k := 1) (by decide), Qa_v (k := 2) (by decide), Qa_v (k := 3) (by decide), Qa_v (k := 4) (by decide), Qa_v (k := 5) (by decide), Qa_v (k := 6) (by decide), Qa_v (k := 7) (by decide), Qa_v (k := 8) (by decide), Qa_v (k := 9) (by decide), Qa_v (k := 10) (by decide), Qg (k := 6) (by decide), Qg (k := 7) (by decide), Qg (k := 8) (by decide), Qg (k := 9) (by decide), Qg (k := 10) (by decide), Qg (k := 11) (by decide), Qh (k := 6) (by decide), Qh (k := 7) (by decide), Qh (k := 8) (by decide), Qh (k := 9) (by decide), Qh (k := 10) (by decide), Qh (k := 11) (by decide), Q_rX3_get_lo (o := 6) (by decide), Qi (o := 1) (k := 2) (by decide), Q_jX6_startStep_6, Q_mX6_startStep_7, Q_rX4_pitchOf, Q_if]
theorem Q_mX6_startStep_10 {d : Nat} {S : Mm}  : mX6_startStep_10 (Qs d S) 18 = Qs d (mX6_startStep_10 S (18 + d)) := by
  unfold mX6_startStep_10
  have e19 : 18 + 1 = 19 := rfl
  have e19d : 18 + d + 1 = 19 + d := by omega
  simp only [vo_d, Qa_v (k := 0) (by decide), Qa_v (k := 1) (by decide), Qa_v (k := 2) (by decide), Qa_v (k := 3) (by decide), Qa_v (k := 4) (by decide), Qa_v (k := 5) (by decide), Qa_v (k := 6) (by decide), Qa_v (k := 7) (by decide), Qa_v (k := 8) (by decide), Qa_v (k := 9) (by decide), Qa_v (k := 10) (by decide), Qg (k := 6) (by decide), Qg (k := 7) (by decide), Qg (k := 8) (by decide), Qg (k := 9) (by decide), Qg (k := 10) (by decide), Qg (k := 11) (by decide), Qh (k := 6) (by decide), Qh (k := 7) (by decide), Qh (k := 8) (by decide), Qh (k := 9) (by decide), Qh (k := 10) (by decide), Qh (k := 11) (by decide), Q_rX3_get_lo (o := 6) (by decide), Qi (o := 1) (k := 2) (by decide), Q_fX6_startNote, Q_jX6_startStep_9, Q_rX4_pitchOf, Q_rX4_forceOf, Q_rX4_gateOf, Q_if]
theorem Q_vX6_startStep_11 {d : Nat} {S : Mm}  : vX6_startStep_11 (Qs d S) 18 = vX6_startStep_11 S (18 + d) := by
  unfold vX6_startStep_11
  have e19 : 18 + 1 = 19 := rfl
  have e19d : 18 + d + 1 = 19 + d := by omega
  simp only [vo_d, Qa_v (k := 0) (by decide), Qa_v (k := 1) (by decide), Qa_v (k := 2) (by decide), Qa_v (k := 3) (by decide), Qa_v (k := 4) (by decide), Qa_v (k := 5) (by decide), Qa_v (k := 6) (by decide), Qa_v (k := 7) (by decide), Qa_v (k := 8) (by decide), Qa_v (k := 9) (by decide), Qa_v (k := 10) (by decide), Qg (k := 6) (by decide), Qg (k := 7) (by decide), Qg (k := 8) (by decide), Qg (k := 9) (by decide), Qg (k := 10) (by decide), Qg (k := 11) (by decide), Qh (k := 6) (by decide), Qh (k := 7) (by decide), Qh (k := 8) (by decide), Qh (k := 9) (by decide), Qh (k := 10) (by decide), Qh (k := 11) (by decide), Q_rX3_get_lo (o := 6) (by decide), Qi (o := 1) (k := 2) (by decide), Q_rX6_startNote, Q_jX6_startStep_9, Q_rX4_pitchOf, Q_rX4_forceOf, Q_rX4_gateOf, Q_if]
theorem Q_jX6_startStep_12 {d : Nat} {S : Mm}  : jX6_startStep_12 (Qs d S) 18 = Qs d (jX6_startStep_12 S (18 + d)) := by
  unfold jX6_startStep_12
  have e19 : 18 + 1 = 19 := rfl
  have e19d : 18 + d + 1 = 19 + d := by omega
  simp only [vo_d, Qa_v (k := 0) (by decide), Qa_v (k := 1) (by decide), Qa_v (k := 2) (by decide), Qa_v (k := 3) (by decide), Qa_v (k := 4) (by decide), Qa_v (k := 5) (by decide), Qa_v (k := 6) (by decide), Qa_v (k := 7) (by decide), Qa_v (k := 8) (by decide), Qa_v (k := 9) (by decide), Qa_v (k := 10) (by decide), Qg (k := 6) (by decide), Qg (k := 7) (by decide), Qg (k := 8) (by decide), Qg (k := 9) (by decide), Qg (k := 10) (by decide), Qg (k := 11) (by decide), Qh (k := 6) (by decide), Qh (k := 7) (by decide), Qh (k := 8) (by decide), Qh (k := 9) (by decide), Qh (k := 10) (by decide), Qh (k := 11) (by decide), Q_rX3_get_lo (o := 6) (by decide), Qi (o := 1) (k := 2) (by decide), Q_jX6_startStep_9, Q_mX6_startStep_10, Q_rX4_pitchOf, Q_if]
theorem Q_fX6_startStep {d : Nat} {S : Mm}  : fX6_startStep (Qs d S) 18 = Qs d (fX6_startStep S (18 + d)) := by
  unfold fX6_startStep
  have e19 : 18 + 1 = 19 := rfl
  have e19d : 18 + d + 1 = 19 + d := by omega
  simp only [vo_d, Qa_v (k := 0) (by decide), Qa_v (k := 1) (by decide), Qa_v (k := 2) (by decide), Qa_v (k := 3) (by decide), Qa_v (k := 4) (by decide), Qa_v (k := 5) (by decide), Qa_v (k := 6) (by decide), Qa_v (k := 7) (by decide), Qa_v (k := 8) (by decide), Qa_v (k := 9) (by decide), Qa_v (k := 10) (by decide), Qg (k := 6) (by decide), Qg (k := 7) (by decide), Qg (k := 8) (by decide), Qg (k := 9) (by decide), Qg (k := 10) (by decide), Qg (k := 11) (by decide), Qh (k := 6) (by decide), Qh (k := 7) (by decide), Qh (k := 8) (by decide), Qh (k := 9) (by decide), Qh (k := 10) (by decide), Qh (k := 11) (by decide), Q_rX3_get_lo (o := 6) (by decide), Qi (o := 1) (k := 2) (by decide), Q_jX6_startStep_12, Q_if]
theorem Q_mX6_mixVoices_1 {d : Nat} {S : Mm}  : mX6_mixVoices_1 (Qs d S) 18 = Qs d (mX6_mixVoices_1 S (18 + d)) := by
  unfold mX6_mixVoices_1
  have e19 : 18 + 1 = 19 := rfl
  have e19d : 18 + d + 1 = 19 + d := by omega
  simp only [vo_d, Qa_v (k := 0) (by decide), Qa_v (k := 1) (by decide), Qa_v (k := 2) (by decide), Qa_v (k := 3) (by decide), Qa_v (k := 4) (by decide), Qa_v (k := 5) (by decide), Qa_v (k := 6) (by decide), Qa_v (k := 7) (by decide), Qa_v (k := 8) (by decide), Qa_v (k := 9) (by decide), Qa_v (k := 10) (by decide), Qg (k := 6) (by decide), Qg (k := 7) (by decide), Qg (k := 8) (by decide), Qg (k := 9) (by decide), Qg (k := 10) (by decide), Qg (k := 11) (by decide), Qh (k := 6) (by decide), Qh (k := 7) (by decide), Qh (k := 8) (by decide), Qh (k := 9) (by decide), Qh (k := 10) (by decide), Qh (k := 11) (by decide), Q_rX3_get_lo (o := 6) (by decide), Qi (o := 1) (k := 2) (by decide), Qa_fX7_give, Q_if]
theorem Q_vX6_mixVoices_2 {d : Nat} {S : Mm}  : vX6_mixVoices_2 (Qs d S) 18 = vX6_mixVoices_2 S (18 + d) := by
  unfold vX6_mixVoices_2
  have e19 : 18 + 1 = 19 := rfl
  have e19d : 18 + d + 1 = 19 + d := by omega
  simp only [vo_d, Qa_v (k := 0) (by decide), Qa_v (k := 1) (by decide), Qa_v (k := 2) (by decide), Qa_v (k := 3) (by decide), Qa_v (k := 4) (by decide), Qa_v (k := 5) (by decide), Qa_v (k := 6) (by decide), Qa_v (k := 7) (by decide), Qa_v (k := 8) (by decide), Qa_v (k := 9) (by decide), Qa_v (k := 10) (by decide), Qg (k := 6) (by decide), Qg (k := 7) (by decide), Qg (k := 8) (by decide), Qg (k := 9) (by decide), Qg (k := 10) (by decide), Qg (k := 11) (by decide), Qh (k := 6) (by decide), Qh (k := 7) (by decide), Qh (k := 8) (by decide), Qh (k := 9) (by decide), Qh (k := 10) (by decide), Qh (k := 11) (by decide), Q_rX3_get_lo (o := 6) (by decide), Qi (o := 1) (k := 2) (by decide), Qa_rX7_give, Q_if]
theorem Q_mX6_mixVoices_3 {d : Nat} {S : Mm}  : mX6_mixVoices_3 (Qs d S) 18 = Qs d (mX6_mixVoices_3 S (18 + d)) := by
  unfold mX6_mixVoices_3
  have e19 : 18 + 1 = 19 := rfl
  have e19d : 18 + d + 1 = 19 + d := by omega
  simp only [vo_d, Qa_v (k := 0) (by decide), Qa_v (k := 1) (by decide), Qa_v (k := 2) (by decide), Qa_v (k := 3) (by decide), Qa_v (k := 4) (by decide), Qa_v (k := 5) (by decide), Qa_v (k := 6) (by decide), Qa_v (k := 7) (by decide), Qa_v (k := 8) (by decide), Qa_v (k := 9) (by decide), Qa_v (k := 10) (by decide), Qg (k := 6) (by decide), Qg (k := 7) (by decide), Qg (k := 8) (by decide), Qg (k := 9) (by decide), Qg (k := 10) (by decide), Qg (k := 11) (by decide), Qh (k := 6) (by decide), Qh (k := 7) (by decide), Qh (k := 8) (by decide), Qh (k := 9) (by decide), Qh (k := 10) (by decide), Qh (k := 11) (by decide), Q_rX3_get_lo (o := 6) (by decide), Qi (o := 1) (k := 2) (by decide), Qa_fX7_give, Q_mX6_mixVoices_1, Q_if]
theorem Q_vX6_mixVoices_4 {d : Nat} {S : Mm}  : vX6_mixVoices_4 (Qs d S) 18 = vX6_mixVoices_4 S (18 + d) := by
  unfold vX6_mixVoices_4
  have e19 : 18 + 1 = 19 := rfl
  have e19d : 18 + d + 1 = 19 + d := by omega
  simp only [vo_d, Qa_v (k := 0) (by decide), Qa_v (k := 1) (by decide), Qa_v (k := 2) (by decide), Qa_v (k := 3) (by decide), Qa_v (k := 4) (by decide), Qa_v (k := 5) (by decide), Qa_v (k := 6) (by decide), Qa_v (k := 7) (by decide), Qa_v (k := 8) (by decide), Qa_v (k := 9) (by decide), Qa_v (k := 10) (by decide), Qg (k := 6) (by decide), Qg (k := 7) (by decide), Qg (k := 8) (by decide), Qg (k := 9) (by decide), Qg (k := 10) (by decide), Qg (k := 11) (by decide), Qh (k := 6) (by decide), Qh (k := 7) (by decide), Qh (k := 8) (by decide), Qh (k := 9) (by decide), Qh (k := 10) (by decide), Qh (k := 11) (by decide), Q_rX3_get_lo (o := 6) (by decide), Qi (o := 1) (k := 2) (by decide), Qa_rX7_give, Q_mX6_mixVoices_1, Q_if]
theorem Q_mX6_mixVoices_5 {d : Nat} {S : Mm}  : mX6_mixVoices_5 (Qs d S) 18 = Qs d (mX6_mixVoices_5 S (18 + d)) := by
  unfold mX6_mixVoices_5
  have e19 : 18 + 1 = 19 := rfl
  have e19d : 18 + d + 1 = 19 + d := by omega
  simp only [vo_d, Qa_v (k := 0) (by decide), Qa_v (k := 1) (by decide), Qa_v (k := 2) (by decide), Qa_v (k := 3) (by decide), Qa_v (k := 4) (by decide), Qa_v (k := 5) (by decide), Qa_v (k := 6) (by decide), Qa_v (k := 7) (by decide), Qa_v (k := 8) (by decide), Qa_v (k := 9) (by decide), Qa_v (k := 10) (by decide), Qg (k := 6) (by decide), Qg (k := 7) (by decide), Qg (k := 8) (by decide), Qg (k := 9) (by decide), Qg (k := 10) (by decide), Qg (k := 11) (by decide), Qh (k := 6) (by decide), Qh (k := 7) (by decide), Qh (k := 8) (by decide), Qh (k := 9) (by decide), Qh (k := 10) (by decide), Qh (k := 11) (by decide), Q_rX3_get_lo (o := 6) (by decide), Qi (o := 1) (k := 2) (by decide), Qa_fX7_give, Q_mX6_mixVoices_3, Q_if]
theorem Q_vX6_mixVoices_6 {d : Nat} {S : Mm}  : vX6_mixVoices_6 (Qs d S) 18 = vX6_mixVoices_6 S (18 + d) := by
  unfold vX6_mixVoices_6
  have e19 : 18 + 1 = 19 := rfl
  have e19d : 18 + d + 1 = 19 + d := by omega
  simp only [vo_d, Qa_v (k := 0) (by decide), Qa_v (k := 1) (by decide), Qa_v (k := 2) (by decide), Qa_v (k := 3) (by decide), Qa_v (k := 4) (by decide), Qa_v (k := 5) (by decide), Qa_v (k := 6) (by decide), Qa_v (k := 7) (by decide), Qa_v (k := 8) (by decide), Qa_v (k := 9) (by decide), Qa_v (k := 10) (by decide), Qg (k := 6) (by decide), Qg (k := 7) (by decide), Qg (k := 8) (by decide), Qg (k := 9) (by decide), Qg (k := 10) (by decide), Qg (k := 11) (by decide), Qh (k := 6) (by decide), Qh (k := 7) (by decide), Qh (k := 8) (by decide), Qh (k := 9) (by decide), Qh (k := 10) (by decide), Qh (k := 11) (by decide), Q_rX3_get_lo (o := 6) (by decide), Qi (o := 1) (k := 2) (by decide), Qa_rX7_give, Q_mX6_mixVoices_3, Q_if]
theorem Q_mX6_mixVoices_7 {d : Nat} {S : Mm}  : mX6_mixVoices_7 (Qs d S) 18 = Qs d (mX6_mixVoices_7 S (18 + d)) := by
  unfold mX6_mixVoices_7
  have e19 : 18 + 1 = 19 := rfl
  have e19d : 18 + d + 1 = 19 + d := by omega
  simp only [vo_d, Qa_v (k := 0) (by decide), Qa_v (k := 1) (by decide), Qa_v (k := 2) (by decide), Qa_v (k := 3) (by decide), Qa_v (k := 4) (by decide), Qa_v (k := 5) (by decide), Qa_v (k := 6) (by decide), Qa_v (k := 7) (by decide), Qa_v (k := 8) (by decide), Qa_v (k := 9) (by decide), Qa_v (k := 10) (by decide), Qg (k := 6) (by decide), Qg (k := 7) (by decide), Qg (k := 8) (by decide), Qg (k := 9) (by decide), Qg (k := 10) (by decide), Qg (k := 11) (by decide), Qh (k := 6) (by decide), Qh (k := 7) (by decide), Qh (k := 8) (by decide), Qh (k := 9) (by decide), Qh (k := 10) (by decide), Qh (k := 11) (by decide), Q_rX3_get_lo (o := 6) (by decide), Qi (o := 1) (k := 2) (by decide), Qa_fX7_give, Q_mX6_mixVoices_5, Q_if]
theorem Q_vX6_mixVoices_8 {d : Nat} {S : Mm}  : vX6_mixVoices_8 (Qs d S) 18 = vX6_mixVoices_8 S (18 + d) := by
  unfold vX6_mixVoices_8
  have e19 : 18 + 1 = 19 := rfl
  have e19d : 18 + d + 1 = 19 + d := by omega
  simp only [vo_d, Qa_v (k := 0) (by decide), Qa_v (k := 1) (by decide), Qa_v (k := 2) (by decide), Qa_v (k := 3) (by decide), Qa_v (k := 4) (by decide), Qa_v (k := 5) (by decide), Qa_v (k := 6) (by decide), Qa_v (k := 7) (by decide), Qa_v (k := 8) (by decide), Qa_v (k := 9) (by decide), Qa_v (k := 10) (by decide), Qg (k := 6) (by decide), Qg (k := 7) (by decide), Qg (k := 8) (by decide), Qg (k := 9) (by decide), Qg (k := 10) (by decide), Qg (k := 11) (by decide), Qh (k := 6) (by decide), Qh (k := 7) (by decide), Qh (k := 8) (by decide), Qh (k := 9) (by decide), Qh (k := 10) (by decide), Qh (k := 11) (by decide), Q_rX3_get_lo (o := 6) (by decide), Qi (o := 1) (k := 2) (by decide), Qa_rX7_give, Q_mX6_mixVoices_5, Q_if]
theorem Q_rX6_mixVoices {d : Nat} {S : Mm}  : rX6_mixVoices (Qs d S) 18 = rX6_mixVoices S (18 + d) := by
  unfold rX6_mixVoices
  have e19 : 18 + 1 = 19 := rfl
  have e19d : 18 + d + 1 = 19 + d := by omega
  simp only [vo_d, Qa_v (k := 0) (by decide), Qa_v (k := 1) (by decide), Qa_v (k := 2) (by decide), Qa_v (k := 3) (by decide), Qa_v (k := 4) (by decide), Qa_v (k := 5) (by decide), Qa_v (k := 6) (by decide), Qa_v (k := 7) (by decide), Qa_v (k := 8) (by decide), Qa_v (k := 9) (by decide), Qa_v (k := 10) (by decide), Qg (k := 6) (by decide), Qg (k := 7) (by decide), Qg (k := 8) (by decide), Qg (k := 9) (by decide), Qg (k := 10) (by decide), Qg (k := 11) (by decide), Qh (k := 6) (by decide), Qh (k := 7) (by decide), Qh (k := 8) (by decide), Qh (k := 9) (by decide), Qh (k := 10) (by decide), Qh (k := 11) (by decide), Q_rX3_get_lo (o := 6) (by decide), Qi (o := 1) (k := 2) (by decide), Q_vX6_mixVoices_2, Q_vX6_mixVoices_4, Q_vX6_mixVoices_6, Q_vX6_mixVoices_8, Q_if]
theorem Q_fX6_mixVoices {d : Nat} {S : Mm}  : fX6_mixVoices (Qs d S) 18 = Qs d (fX6_mixVoices S (18 + d)) := by
  unfold fX6_mixVoices
  have e19 : 18 + 1 = 19 := rfl
  have e19d : 18 + d + 1 = 19 + d := by omega
  simp only [vo_d, Qa_v (k := 0) (by decide), Qa_v (k := 1) (by decide), Qa_v (k := 2) (by decide), Qa_v (k := 3) (by decide), Qa_v (k := 4) (by decide), Qa_v (k := 5) (by decide), Qa_v (k := 6) (by decide), Qa_v (k := 7) (by decide), Qa_v (k := 8) (by decide), Qa_v (k := 9) (by decide), Qa_v (k := 10) (by decide), Qg (k := 6) (by decide), Qg (k := 7) (by decide), Qg (k := 8) (by decide), Qg (k := 9) (by decide), Qg (k := 10) (by decide), Qg (k := 11) (by decide), Qh (k := 6) (by decide), Qh (k := 7) (by decide), Qh (k := 8) (by decide), Qh (k := 9) (by decide), Qh (k := 10) (by decide), Qh (k := 11) (by decide), Q_rX3_get_lo (o := 6) (by decide), Qi (o := 1) (k := 2) (by decide), Q_mX6_mixVoices_7, Q_if]
theorem Q_jX6_advance_1 {d : Nat} {S : Mm}  : jX6_advance_1 (Qs d S) 18 = Qs d (jX6_advance_1 S (18 + d)) := by
  unfold jX6_advance_1
  have e19 : 18 + 1 = 19 := rfl
  have e19d : 18 + d + 1 = 19 + d := by omega
  simp only [vo_d, Qa_v (k := 0) (by decide), Qa_v (k := 1) (by decide), Qa_v (k := 2) (by decide), Qa_v (k := 3) (by decide), Qa_v (k := 4) (by decide), Qa_v (k := 5) (by decide), Qa_v (k := 6) (by decide), Qa_v (k := 7) (by decide), Qa_v (k := 8) (by decide), Qa_v (k := 9) (by decide), Qa_v (k := 10) (by decide), Qg (k := 6) (by decide), Qg (k := 7) (by decide), Qg (k := 8) (by decide), Qg (k := 9) (by decide), Qg (k := 10) (by decide), Qg (k := 11) (by decide), Qh (k := 6) (by decide), Qh (k := 7) (by decide), Qh (k := 8) (by decide), Qh (k := 9) (by decide), Qh (k := 10) (by decide), Qh (k := 11) (by decide), Q_rX3_get_lo (o := 6) (by decide), Qi (o := 1) (k := 2) (by decide), Q_fX6_closeGates, Q_fX6_startStep, Q_if]
theorem Q_mX6_advance_2 {d : Nat} {S : Mm} (hd : isd d) : mX6_advance_2 (Qs d S) 18 = Qs d (mX6_advance_2 S (18 + d)) := by
  unfold mX6_advance_2
  have e19 : 18 + 1 = 19 := rfl
  have e19d : 18 + d + 1 = 19 + d := by omega
  simp only [vo_d, Qa_v (k := 0) (by decide), Qa_v (k := 1) (by decide), Qa_v (k := 2) (by decide), Qa_v (k := 3) (by decide), Qa_v (k := 4) (by decide), Qa_v (k := 5) (by decide), Qa_v (k := 6) (by decide), Qa_v (k := 7) (by decide), Qa_v (k := 8) (by decide), Qa_v (k := 9) (by decide), Qa_v (k := 10) (by decide), Qg (k := 6) (by decide), Qg (k := 7) (by decide), Qg (k := 8) (by decide), Qg (k := 9) (by decide), Qg (k := 10) (by decide), Qg (k := 11) (by decide), Qh (k := 6) (by decide), Qh (k := 7) (by decide), Qh (k := 8) (by decide), Qh (k := 9) (by decide), Qh (k := 10) (by decide), Qh (k := 11) (by decide), Q_rX3_get_lo (o := 6) (by decide), Qi (o := 1) (k := 2) (by decide), Q_rX6_mixVoices, Q_fX6_mixVoices, Q_jX6_advance_1, Q_rX0_pass hd, Q_fX0_pass hd, e19, e19d, Q_if]
theorem Q_vX6_advance_3 {d : Nat} {S : Mm} (hd : isd d) : vX6_advance_3 (Qs d S) 18 = vX6_advance_3 S (18 + d) := by
  unfold vX6_advance_3
  have e19 : 18 + 1 = 19 := rfl
  have e19d : 18 + d + 1 = 19 + d := by omega
  simp only [vo_d, Qa_v (k := 0) (by decide), Qa_v (k := 1) (by decide), Qa_v (k := 2) (by decide), Qa_v (k := 3) (by decide), Qa_v (k := 4) (by decide), Qa_v (k := 5) (by decide), Qa_v (k := 6) (by decide), Qa_v (k := 7) (by decide), Qa_v (k := 8) (by decide), Qa_v (k := 9) (by decide), Qa_v (k := 10) (by decide), Qg (k := 6) (by decide), Qg (k := 7) (by decide), Qg (k := 8) (by decide), Qg (k := 9) (by decide), Qg (k := 10) (by decide), Qg (k := 11) (by decide), Qh (k := 6) (by decide), Qh (k := 7) (by decide), Qh (k := 8) (by decide), Qh (k := 9) (by decide), Qh (k := 10) (by decide), Qh (k := 11) (by decide), Q_rX3_get_lo (o := 6) (by decide), Qi (o := 1) (k := 2) (by decide), Q_rX6_mixVoices, Q_fX6_mixVoices, Q_jX6_advance_1, Q_rX0_pass hd, Q_fX0_pass hd, e19, e19d, Q_if]
theorem Q_jX6_advance_4 {d : Nat} {S : Mm} (hd : isd d) : jX6_advance_4 (Qs d S) 18 = Qs d (jX6_advance_4 S (18 + d)) := by
  unfold jX6_advance_4
  have e19 : 18 + 1 = 19 := rfl
  have e19d : 18 + d + 1 = 19 + d := by omega
  simp only [vo_d, Qa_v (k := 0) (by decide), Qa_v (k := 1) (by decide), Qa_v (k := 2) (by decide), Qa_v (k := 3) (by decide), Qa_v (k := 4) (by decide), Qa_v (k := 5) (by decide), Qa_v (k := 6) (by decide), Qa_v (k := 7) (by decide), Qa_v (k := 8) (by decide), Qa_v (k := 9) (by decide), Qa_v (k := 10) (by decide), Qg (k := 6) (by decide), Qg (k := 7) (by decide), Qg (k := 8) (by decide), Qg (k := 9) (by decide), Qg (k := 10) (by decide), Qg (k := 11) (by decide), Qh (k := 6) (by decide), Qh (k := 7) (by decide), Qh (k := 8) (by decide), Qh (k := 9) (by decide), Qh (k := 10) (by decide), Qh (k := 11) (by decide), Q_rX3_get_lo (o := 6) (by decide), Qi (o := 1) (k := 2) (by decide), Q_fX6_countGates, Q_fX6_countStep, Q_mX6_advance_2 hd, Q_if]
theorem Q_rX6_advance {d : Nat} {S : Mm} (hd : isd d) : rX6_advance (Qs d S) 18 = rX6_advance S (18 + d) := by
  unfold rX6_advance
  have e19 : 18 + 1 = 19 := rfl
  have e19d : 18 + d + 1 = 19 + d := by omega
  simp only [vo_d, Qa_v (k := 0) (by decide), Qa_v (k := 1) (by decide), Qa_v (k := 2) (by decide), Qa_v (k := 3) (by decide), Qa_v (k := 4) (by decide), Qa_v (k := 5) (by decide), Qa_v (k := 6) (by decide), Qa_v (k := 7) (by decide), Qa_v (k := 8) (by decide), Qa_v (k := 9) (by decide), Qa_v (k := 10) (by decide), Qg (k := 6) (by decide), Qg (k := 7) (by decide), Qg (k := 8) (by decide), Qg (k := 9) (by decide), Qg (k := 10) (by decide), Qg (k := 11) (by decide), Qh (k := 6) (by decide), Qh (k := 7) (by decide), Qh (k := 8) (by decide), Qh (k := 9) (by decide), Qh (k := 10) (by decide), Qh (k := 11) (by decide), Q_rX3_get_lo (o := 6) (by decide), Qi (o := 1) (k := 2) (by decide), Q_vX6_advance_3 hd, Q_if]
theorem Q_fX6_advance {d : Nat} {S : Mm} (hd : isd d) : fX6_advance (Qs d S) 18 = Qs d (fX6_advance S (18 + d)) := by
  unfold fX6_advance
  have e19 : 18 + 1 = 19 := rfl
  have e19d : 18 + d + 1 = 19 + d := by omega
  simp only [vo_d, Qa_v (k := 0) (by decide), Qa_v (k := 1) (by decide), Qa_v (k := 2) (by decide), Qa_v (k := 3) (by decide), Qa_v (k := 4) (by decide), Qa_v (k := 5) (by decide), Qa_v (k := 6) (by decide), Qa_v (k := 7) (by decide), Qa_v (k := 8) (by decide), Qa_v (k := 9) (by decide), Qa_v (k := 10) (by decide), Qg (k := 6) (by decide), Qg (k := 7) (by decide), Qg (k := 8) (by decide), Qg (k := 9) (by decide), Qg (k := 10) (by decide), Qg (k := 11) (by decide), Qh (k := 6) (by decide), Qh (k := 7) (by decide), Qh (k := 8) (by decide), Qh (k := 9) (by decide), Qh (k := 10) (by decide), Qh (k := 11) (by decide), Q_rX3_get_lo (o := 6) (by decide), Qi (o := 1) (k := 2) (by decide), Q_jX6_advance_4 hd, Q_if]
