/-! The class's world: 37 cells. 0 Melodeon, 1 Setup, 2 Waves (3 its row, 4 the numbers), 5 Score (rows 6, 8, 10, 12, each with its numbers behind), 14 to 17 Instruments, 18 the stage (19 its delay, 20, 21 the ring, 22 to 25 voices), 26 the stage ahead (27, 28, 29, 30 to 33), 34 Meter (35, 36 its ring), 37 STRIDES. -/
def vcl (r : Nat → Int32) : List Value := [.int (r 0), .int (r 1), .int (r 2), .int (r 3), .int (r 4), .int (r 5), .int (r 6), .int (r 7), .int (r 8), .int (r 9), .int (r 10)]
def icl (r : Nat → Int32) : List Value := [.int (r 0), .int (r 1), .int (r 2), .int (r 3), .int (r 4), .int (r 5), .int (r 6), .int (r 7), .int (r 8), .int (r 9), .int (r 10), .int (r 11)]
def dcl (a : Nat → Nat) (o : Nat) (r : Nat → Int32) : List Value := [.int (r 0), .int (r 1), .int (r 2), .int (r 3), .ref (a (o + 1))]
def gcl (a : Nat → Nat) (o : Nat) (r : Nat → Int32) : List Value := [.ref (a 1), .ref (a (o + 1)), .ref (a (o + 4)), .ref (a (o + 5)), .ref (a (o + 6)), .ref (a (o + 7)), .int (r 6), .int (r 7), .int (r 8), .int (r 9), .int (r 10), .int (r 11)]
def tcl (a : Nat → Nat) (r : Nat → Int32) (L : Int64) : List Value := [.ref (a 35), .int (r 1), .int (r 2), .int (r 3), .int (r 4), .long L, .int (r 6), .int (r 7)]
def scl (a : Nat → Nat) (r : Nat → Int32) : List Value := [.ref (a 2), .ref (a 5), .int (r 2), .ref (a 14), .ref (a 15), .ref (a 16), .ref (a 17)]
def ccl (a : Nat → Nat) (r : Nat → Int32) : List Value := [.ref (a 6), .ref (a 8), .ref (a 10), .ref (a 12), .int (r 4), .int (r 5)]
def rowN (o : Nat) : Nat := match o with
  | 3 => 128
  | 6 => 3
  | 8 => 24
  | 10 => 24
  | 12 => 24
  | 20 => 200
  | 28 => 200
  | _ => 64
def cM (a : Nat → Nat) (cA : ClassId) : Cf := fun o r L => match o with
  | 0 => .inr (9, [.ref (a 1), .ref (a 18), .ref (a 26), .ref (a 34)])
  | 1 => .inr (5, [.ref (a 2), .ref (a 5), .int (r 2), .ref (a 14), .ref (a 15), .ref (a 16), .ref (a 17)])
  | 2 => .inr (8, [.ref (a 3)])
  | 3 => .inr (3, [.ref (a 4)])
  | 4 => .inl (cA, 128, .inl r)
  | 5 => .inr (4, [.ref (a 6), .ref (a 8), .ref (a 10), .ref (a 12), .int (r 4), .int (r 5)])
  | 6 => .inr (3, [.ref (a 7)])
  | 7 => .inl (cA, 3, .inl r)
  | 8 => .inr (3, [.ref (a 9)])
  | 9 => .inl (cA, 24, .inl r)
  | 10 => .inr (3, [.ref (a 11)])
  | 11 => .inl (cA, 24, .inl r)
  | 12 => .inr (3, [.ref (a 13)])
  | 13 => .inl (cA, 24, .inl r)
  | 14 => .inr (1, icl r)
  | 15 => .inr (1, icl r)
  | 16 => .inr (1, icl r)
  | 17 => .inr (1, icl r)
  | 18 => .inr (6, [.ref (a 1), .ref (a 19), .ref (a 22), .ref (a 23), .ref (a 24), .ref (a 25), .int (r 6), .int (r 7), .int (r 8), .int (r 9), .int (r 10), .int (r 11)])
  | 19 => .inr (0, [.int (r 0), .int (r 1), .int (r 2), .int (r 3), .ref (a 20)])
  | 20 => .inr (3, [.ref (a 21)])
  | 21 => .inl (cA, 200, .inl r)
  | 22 => .inr (7, vcl r)
  | 23 => .inr (7, vcl r)
  | 24 => .inr (7, vcl r)
  | 25 => .inr (7, vcl r)
  | 26 => .inr (6, [.ref (a 1), .ref (a 27), .ref (a 30), .ref (a 31), .ref (a 32), .ref (a 33), .int (r 6), .int (r 7), .int (r 8), .int (r 9), .int (r 10), .int (r 11)])
  | 27 => .inr (0, [.int (r 0), .int (r 1), .int (r 2), .int (r 3), .ref (a 28)])
  | 28 => .inr (3, [.ref (a 29)])
  | 29 => .inl (cA, 200, .inl r)
  | 30 => .inr (7, vcl r)
  | 31 => .inr (7, vcl r)
  | 32 => .inr (7, vcl r)
  | 33 => .inr (7, vcl r)
  | 34 => .inr (2, [.ref (a 35), .int (r 1), .int (r 2), .int (r 3), .int (r 4), .long L, .int (r 6), .int (r 7)])
  | 35 => .inr (3, [.ref (a 36)])
  | 36 => .inl (cA, 64, .inl r)
  | _ => .inl (cA, 12, .inl r)
abbrev isV (o : Nat) : Prop := o = 22 ∨ o = 23 ∨ o = 24 ∨ o = 25 ∨ o = 30 ∨ o = 31 ∨ o = 32 ∨ o = 33
abbrev isI (o : Nat) : Prop := o = 14 ∨ o = 15 ∨ o = 16 ∨ o = 17
abbrev isR (o : Nat) : Prop := o = 3 ∨ o = 6 ∨ o = 8 ∨ o = 10 ∨ o = 12 ∨ o = 20 ∨ o = 28 ∨ o = 35
abbrev isDl (o : Nat) : Prop := o = 19 ∨ o = 27
abbrev isG (o : Nat) : Prop := o = 18 ∨ o = 26
theorem lt_V {o : Nat} (h : isV o) : o < 37 := by omega
theorem lt_I {o : Nat} (h : isI o) : o < 37 := by omega
theorem lt_R {o : Nat} (h : isR o) : o < 37 := by omega
theorem lt_RA {o : Nat} (h : isR o) : o + 1 < 37 := by omega
theorem lt_Dl {o : Nat} (h : isDl o) : o < 37 := by omega
theorem lt_G {o : Nat} (h : isG o) : o < 37 := by omega
theorem cM_V {a : Nat → Nat} {cA : ClassId} {o : Nat} {r : Nat → Int32} {L : Int64} (h : isV o) : cM a cA o r L = .inr (7, vcl r) := by
  rcases h with rfl | rfl | rfl | rfl | rfl | rfl | rfl | rfl <;> rfl
theorem cM_I {a : Nat → Nat} {cA : ClassId} {o : Nat} {r : Nat → Int32} {L : Int64} (h : isI o) : cM a cA o r L = .inr (1, icl r) := by
  rcases h with rfl | rfl | rfl | rfl <;> rfl
theorem cM_R {a : Nat → Nat} {cA : ClassId} {o : Nat} {r : Nat → Int32} {L : Int64} (h : isR o) : cM a cA o r L = .inr (3, [.ref (a (o + 1))]) := by
  rcases h with rfl | rfl | rfl | rfl | rfl | rfl | rfl | rfl <;> rfl
theorem cM_RA {a : Nat → Nat} {cA : ClassId} {o : Nat} {r : Nat → Int32} {L : Int64} (h : isR o) : cM a cA (o + 1) r L = .inl (cA, rowN o, .inl r) := by
  rcases h with rfl | rfl | rfl | rfl | rfl | rfl | rfl | rfl <;> rfl
theorem cM_Dl {a : Nat → Nat} {cA : ClassId} {o : Nat} {r : Nat → Int32} {L : Int64} (h : isDl o) : cM a cA o r L = .inr (0, dcl a o r) := by
  rcases h with rfl | rfl <;> rfl
theorem cM_G {a : Nat → Nat} {cA : ClassId} {o : Nat} {r : Nat → Int32} {L : Int64} (h : isG o) : cM a cA o r L = .inr (6, gcl a o r) := by
  rcases h with rfl | rfl <;> rfl
theorem isR_Dl {o : Nat} (h : isDl o) : isR (o + 1) := by omega
theorem isDl_G {o : Nat} (h : isG o) : isDl (o + 1) := by omega
theorem isV_G4 {o : Nat} (h : isG o) : isV (o + 4) := by omega
theorem isV_G5 {o : Nat} (h : isG o) : isV (o + 5) := by omega
theorem isV_G6 {o : Nat} (h : isG o) : isV (o + 6) := by omega
theorem isV_G7 {o : Nat} (h : isG o) : isV (o + 7) := by omega
theorem rowN_lt {o : Nat} : rowN o < 2 ^ 31 := by
  unfold rowN
  split <;> decide
/-- the voice of a number, of a stage; the instrument of a number -/
def vO (g : Nat) (x : Int32) : Nat := if x = 0 then g + 4 else if x = 1 then g + 5 else if x = 2 then g + 6 else g + 7
def iO (x : Int32) : Nat := if x = 0 then 14 else if x = 1 then 15 else if x = 2 then 16 else 17
theorem isV_vO {g : Nat} {x : Int32} (h : isG g) : isV (vO g x) := by
  unfold vO
  split
  · exact isV_G4 h
  · split
    · exact isV_G5 h
    · split
      · exact isV_G6 h
      · exact isV_G7 h
theorem isI_iO {x : Int32} : isI (iO x) := by
  unfold iO
  split
  · decide
  · split
    · decide
    · split <;> decide
theorem in_ge {x : Int32} {N : Nat} (h1 : ¬ x < 0) (h2 : ¬ Int32.ofNat N ≤ x) (hN : N < 2 ^ 31) : vp_in x N := by
  refine vp_in_iff.mpr ⟨?_, ?_⟩
  · rw [Int32.lt_iff_toInt_lt] at h1
    simpa using h1
  · rw [Int32.le_iff_toInt_le, show (Int32.ofNat N).toInt = (N : Int) from nI_toInt hN] at h2
    omega
theorem vp_in_lit {x : Int32} {N : Nat} (h : ¬ (x < 0 ∨ N ≤ x.toNatClampNeg)) : vp_in x N := h
theorem lx_exit {x : Int32} {i : Nat} (h : i ≤ x.toNatClampNeg) (c : x ≤ nI i) : i = x.toNatClampNeg := by
  have hx : x.toNatClampNeg = x.toInt.toNat := rfl
  have hb : x.toInt < 2 ^ 31 := Int32.toInt_lt x
  have hi : i < 2 ^ 31 := by omega
  rw [Int32.le_iff_toInt_le, nI_toInt hi] at c
  omega
theorem lx_body {x : Int32} {i : Nat} (c : ¬ x ≤ nI i) (h : i ≤ x.toNatClampNeg) : i < x.toNatClampNeg := by
  have hx : x.toNatClampNeg = x.toInt.toNat := rfl
  have hb : x.toInt < 2 ^ 31 := Int32.toInt_lt x
  have hi : i < 2 ^ 31 := by omega
  rw [Int32.le_iff_toInt_le, nI_toInt hi] at c
  omega
theorem in_loop {i N : Nat} (h : i < (Int32.ofNat N).toNatClampNeg) (hN : N < 2 ^ 31) : vp_in (nI i) N := by
  rw [show (Int32.ofNat N).toNatClampNeg = N from nI_clamp hN] at h
  exact vp_in_nI h hN
theorem cM_T {a : Nat → Nat} {cA : ClassId} {r : Nat → Int32} {L : Int64} : cM a cA 34 r L = .inr (2, tcl a r L) := rfl
theorem cM_S {a : Nat → Nat} {cA : ClassId} {r : Nat → Int32} {L : Int64} : cM a cA 1 r L = .inr (5, scl a r) := rfl
theorem cM_C {a : Nat → Nat} {cA : ClassId} {r : Nat → Int32} {L : Int64} : cM a cA 5 r L = .inr (4, ccl a r) := rfl
theorem cM_V_set {a : Nat → Nat} {cA : ClassId} {r : Nat → Int32} {L : Int64} {o : Nat} (h : isV o) {k : Nat} {x : Int32} (hk : k < 11) : cM a cA o (upd r k x) L = .inr (7, (vcl r).set k (.int x)) := by
  rw [cM_V h]
  have hz : k = 0 ∨ k = 1 ∨ k = 2 ∨ k = 3 ∨ k = 4 ∨ k = 5 ∨ k = 6 ∨ k = 7 ∨ k = 8 ∨ k = 9 ∨ k = 10 := by omega
  rcases hz with rfl | rfl | rfl | rfl | rfl | rfl | rfl | rfl | rfl | rfl | rfl <;> rfl
theorem cM_I_set {a : Nat → Nat} {cA : ClassId} {r : Nat → Int32} {L : Int64} {o : Nat} (h : isI o) {k : Nat} {x : Int32} (hk : k < 12) : cM a cA o (upd r k x) L = .inr (1, (icl r).set k (.int x)) := by
  rw [cM_I h]
  have hz : k = 0 ∨ k = 1 ∨ k = 2 ∨ k = 3 ∨ k = 4 ∨ k = 5 ∨ k = 6 ∨ k = 7 ∨ k = 8 ∨ k = 9 ∨ k = 10 ∨ k = 11 := by omega
  rcases hz with rfl | rfl | rfl | rfl | rfl | rfl | rfl | rfl | rfl | rfl | rfl | rfl <;> rfl
theorem cM_Dl_set {a : Nat → Nat} {cA : ClassId} {r : Nat → Int32} {L : Int64} {o : Nat} (h : isDl o) {k : Nat} {x : Int32} (hk : k < 4) : cM a cA o (upd r k x) L = .inr (0, (dcl a o r).set k (.int x)) := by
  rw [cM_Dl h]
  have hz : k = 0 ∨ k = 1 ∨ k = 2 ∨ k = 3 := by omega
  rcases hz with rfl | rfl | rfl | rfl <;> rfl
theorem cM_G_set {a : Nat → Nat} {cA : ClassId} {r : Nat → Int32} {L : Int64} {o : Nat} (h : isG o) {k : Nat} {x : Int32} (hk : 6 ≤ k ∧ k < 12) : cM a cA o (upd r k x) L = .inr (6, (gcl a o r).set k (.int x)) := by
  rw [cM_G h]
  have hz : k = 6 ∨ k = 7 ∨ k = 8 ∨ k = 9 ∨ k = 10 ∨ k = 11 := by omega
  rcases hz with rfl | rfl | rfl | rfl | rfl | rfl <;> rfl
theorem cM_T_set {a : Nat → Nat} {cA : ClassId} {r : Nat → Int32} {L : Int64} {k : Nat} {x : Int32} (hk : 1 ≤ k ∧ k < 8 ∧ k ≠ 5) : cM a cA 34 (upd r k x) L = .inr (2, (tcl a r L).set k (.int x)) := by
  rw [cM_T]
  have hz : k = 1 ∨ k = 2 ∨ k = 3 ∨ k = 4 ∨ k = 6 ∨ k = 7 := by omega
  rcases hz with rfl | rfl | rfl | rfl | rfl | rfl <;> rfl
theorem cM_C_set {a : Nat → Nat} {cA : ClassId} {r : Nat → Int32} {L : Int64} {k : Nat} {x : Int32} (hk : 4 ≤ k ∧ k < 6) : cM a cA 5 (upd r k x) L = .inr (4, (ccl a r).set k (.int x)) := by
  rw [cM_C]
  have hz : k = 4 ∨ k = 5 := by omega
  rcases hz with rfl | rfl <;> rfl
theorem cM_S_set {a : Nat → Nat} {cA : ClassId} {r : Nat → Int32} {L : Int64} {k : Nat} {x : Int32} (hk : k = 2) : cM a cA 1 (upd r k x) L = .inr (5, (scl a r).set k (.int x)) := by
  subst hk
  rfl
theorem cM_T_L {a : Nat → Nat} {cA : ClassId} {r : Nat → Int32} {L : Int64} {x : Int64} : cM a cA 34 r x = .inr (2, (tcl a r L).set 5 (.long x)) := rfl
theorem cM_othL {a : Nat → Nat} {cA : ClassId} {S : Mm} {L x : Int64} : ∀ o', o' < 37 → o' ≠ 34 → cM a cA o' (S o') x = cM a cA o' (S o') L := by
  intro o' _ hne
  match o', hne with
  | 34, hne => exact absurd rfl hne
  | 0, _ => rfl
  | 1, _ => rfl
  | 2, _ => rfl
  | 3, _ => rfl
  | 4, _ => rfl
  | 5, _ => rfl
  | 6, _ => rfl
  | 7, _ => rfl
  | 8, _ => rfl
  | 9, _ => rfl
  | 10, _ => rfl
  | 11, _ => rfl
  | 12, _ => rfl
  | 13, _ => rfl
  | 14, _ => rfl
  | 15, _ => rfl
  | 16, _ => rfl
  | 17, _ => rfl
  | 18, _ => rfl
  | 19, _ => rfl
  | 20, _ => rfl
  | 21, _ => rfl
  | 22, _ => rfl
  | 23, _ => rfl
  | 24, _ => rfl
  | 25, _ => rfl
  | 26, _ => rfl
  | 27, _ => rfl
  | 28, _ => rfl
  | 29, _ => rfl
  | 30, _ => rfl
  | 31, _ => rfl
  | 32, _ => rfl
  | 33, _ => rfl
  | 35, _ => rfl
  | 36, _ => rfl
  | n + 37, _ => rfl

