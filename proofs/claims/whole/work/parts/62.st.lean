/-! the law's start: what the tables and the Statement give -/
abbrev aN (s : State) : Nat → Prop := fun q : Nat => s.heap.size ≤ q
theorem st_K {args : Array Value} {s : State} (hts : ∀ w ∈ lw_tbl, w.before args s = true) : ∃ (G : va_G) (cA : ClassId), va_K G vwCl [(cA, .int)] s := by
  obtain ⟨c0, i0, h0⟩ := u_known (C := RX0) (T := TX0) (N := 5) (n := 5) hts inX0 (hts (.instantiable RX0 5) (by decide +kernel))
  obtain ⟨c1, i1, h1⟩ := u_known (C := RX1) (T := TX1) (N := 12) (n := 12) hts inX1 (hts (.instantiable RX1 12) (by decide +kernel))
  obtain ⟨c2, i2, h2⟩ := u_known (C := RX2) (T := TX2) (N := 8) (n := 8) hts inX2 (hts (.instantiable RX2 8) (by decide +kernel))
  obtain ⟨c3, i3, h3⟩ := u_known (C := RX3) (T := TX3) (N := 1) (n := 1) hts inX3 (hts (.instantiable RX3 1) (by decide +kernel))
  obtain ⟨c4, i4, h4⟩ := u_known (C := RX4) (T := TX4) (N := 6) (n := 6) hts inX4 (hts (.instantiable RX4 6) (by decide +kernel))
  obtain ⟨c5, i5, h5⟩ := u_known (C := RX5) (T := TX5) (N := 7) (n := 7) hts inX5 (hts (.instantiable RX5 7) (by decide +kernel))
  obtain ⟨c6, i6, h6⟩ := u_known (C := RX6) (T := TX6) (N := 12) (n := 12) hts inX6 (hts (.instantiable RX6 12) (by decide +kernel))
  obtain ⟨c7, i7, h7⟩ := u_known (C := RX7) (T := TX7) (N := 11) (n := 11) hts inX7 (hts (.instantiable RX7 11) (by decide +kernel))
  obtain ⟨c8, i8, h8⟩ := u_known (C := RX8) (T := TX8) (N := 1) (n := 1) hts inX8 (hts (.instantiable RX8 1) (by decide +kernel))
  obtain ⟨c9, i9, h9⟩ := u_known (C := RX9) (T := TX9) (N := 4) (n := 4) hts inX9 (hts (.instantiable RX9 4) (by decide +kernel))
  obtain ⟨c10, i10, h10⟩ := u_known (C := RX10) (T := TX10) (N := 35) (n := 35) hts inX10 (hts (.instantiable RX10 35) (by decide +kernel))
  obtain ⟨c11, i11, h11⟩ := u_known (C := RX11) (T := TX11) (N := 2) (n := 2) hts inX11 (hts (.instantiable RX11 2) (by decide +kernel))
  obtain ⟨cA, kA, comp, hf, hk, hkd⟩ := Cond.arrayClass_spec (hts (.arrayClass .int) (by decide +kernel))
  refine ⟨(fun k => match k with | 0 => c0 | 1 => c1 | 2 => c2 | 3 => c3 | 4 => c4 | 5 => c5 | 6 => c6 | 7 => c7 | 8 => c8 | 9 => c9 | 10 => c10 | _ => c11, fun k => match k with | 0 => i0 | 1 => i1 | 2 => i2 | 3 => i3 | 4 => i4 | 5 => i5 | 6 => i6 | 7 => i7 | 8 => i8 | 9 => i9 | 10 => i10 | _ => i11), cA, fun k q hq => ?_, fun k q hq => ?_⟩
  · match k, hq with
    | 0, hq => cases hq; exact h0
    | 1, hq => cases hq; exact h1
    | 2, hq => cases hq; exact h2
    | 3, hq => cases hq; exact h3
    | 4, hq => cases hq; exact h4
    | 5, hq => cases hq; exact h5
    | 6, hq => cases hq; exact h6
    | 7, hq => cases hq; exact h7
    | 8, hq => cases hq; exact h8
    | 9, hq => cases hq; exact h9
    | 10, hq => cases hq; exact h10
    | 11, hq => cases hq; exact h11
    | k + 12, hq => exact absurd (List.getElem?_eq_some_iff.mp hq).1 (by show ¬ k + 12 < 12; omega)
  · match k, hq with
    | 0, hq => cases hq; exact ⟨fun n z => ⟨fun k h => (by cases h), kA, hk, comp, hkd⟩, hf⟩
    | k + 1, hq => exact absurd (List.getElem?_eq_some_iff.mp hq).1 (by show ¬ k + 1 < 1; omega)
theorem st_nkT : ∀ q ∈ nkT, Cond.methodLinkNest q.1 q.2.1 q.2.2.1 q.2.2.2 ∈ lw_tbl := by decide +kernel
theorem st_nk {args : Array Value} {s : State} (hts : ∀ w ∈ lw_tbl, w.before args s = true) : nk s := fun q hq => va_Nw.of rfl (hts _ (st_nkT q hq))
theorem st_XT : ∀ w ∈ XT, w ∈ lw_tbl ∧ w.onTables = true := by decide +kernel
theorem st_XP {b : Nat} {s : State} (hts : ∀ w ∈ lw_tbl, w.before #[Value.ref b] s = true) (hgv : (Jvm.Cond.and given_1 narrow_1).before #[Value.ref b] s = true) : XP (aN s) s := by
  have hs := flat_of_before _ hgv
  have hA : ∀ a : Nat, a < s.heap.size → ¬ aN s a := fun a h => Nat.not_le.mpr h
  obtain ⟨sa, -, -, -, ha, -⟩ := Cond.exactly_spec (hs (.exactly (.string "Melodeon" 299) "java/lang/String") (by decide +kernel))
  obtain ⟨sb, -, -, -, hb, -⟩ := Cond.exactly_spec (hs (.exactly (.string "Melodeon" 306) "java/lang/String") (by decide +kernel))
  refine ⟨fun w hw => va_Nw.of (st_XT w hw).2 (hts w (st_XT w hw).1), ⟨sa, vk_R.of (hts (.stringRef "Melodeon" 299 "there is no such place") (by decide +kernel)) ha⟩, ⟨sb, vk_R.of (hts (.stringRef "Melodeon" 306 "a number is outside of its range") (by decide +kernel)) hb⟩, ?_, ?_⟩
  · exact vx_Zqof (hts (.laysStatic Bundle.tN "UNASSIGNED_STACK" Bundle.steD) (by decide +kernel)) (hts (.initialized Bundle.tN) (by decide +kernel)) (hs (.isRef (.static Bundle.tN "UNASSIGNED_STACK" Bundle.steD)) (by decide +kernel)) hA
  · exact vx_Zqof (hts (.laysStatic Bundle.tN "SUPPRESSED_SENTINEL" Bundle.listD) (by decide +kernel)) (hts (.initialized Bundle.tN) (by decide +kernel)) (hs (.isRef (.static Bundle.tN "SUPPRESSED_SENTINEL" Bundle.listD)) (by decide +kernel)) hA
theorem st_Nc {b : Nat} {s : State} (hgv : (Jvm.Cond.and given_1 narrow_1).before #[Value.ref b] s = true) : va_Nc sIAE sIOB s := va_Nc.of (flat_of_before _ hgv (.not (.castable sIAE sIOB)) (by decide +kernel))
abbrev tSt : Term := .static "Melodeon" "STRIDES" "[I"
theorem st_Z {b : Nat} {s : State} (hts : ∀ w ∈ lw_tbl, w.before #[Value.ref b] s = true) (hgv : (Jvm.Cond.and given_1 narrow_1).before #[Value.ref b] s = true) : ∃ z : Nat, z < s.heap.size ∧ zS z (aN s) s s.heap := by
  have hs := flat_of_before _ hgv
  have hA : ∀ a : Nat, a < s.heap.size → ¬ aN s a := fun a h => Nat.not_le.mpr h
  have e0 := va_eqt (hs (.eq (.elem tSt (.int 0)) (.int 256)) (by decide +kernel))
  have e1 := va_eqt (hs (.eq (.elem tSt (.int 1)) (.int 271)) (by decide +kernel))
  have e2 := va_eqt (hs (.eq (.elem tSt (.int 2)) (.int 287)) (by decide +kernel))
  have e3 := va_eqt (hs (.eq (.elem tSt (.int 3)) (.int 304)) (by decide +kernel))
  have e4 := va_eqt (hs (.eq (.elem tSt (.int 4)) (.int 323)) (by decide +kernel))
  have e5 := va_eqt (hs (.eq (.elem tSt (.int 5)) (.int 342)) (by decide +kernel))
  have e6 := va_eqt (hs (.eq (.elem tSt (.int 6)) (.int 362)) (by decide +kernel))
  have e7 := va_eqt (hs (.eq (.elem tSt (.int 7)) (.int 384)) (by decide +kernel))
  have e8 := va_eqt (hs (.eq (.elem tSt (.int 8)) (.int 406)) (by decide +kernel))
  have e9 := va_eqt (hs (.eq (.elem tSt (.int 9)) (.int 431)) (by decide +kernel))
  have e10 := va_eqt (hs (.eq (.elem tSt (.int 10)) (.int 456)) (by decide +kernel))
  have e11 := va_eqt (hs (.eq (.elem tSt (.int 11)) (.int 483)) (by decide +kernel))
  obtain ⟨z, h1, h2⟩ := va_Tof (tm := tSt) (ty := .int) (N := 12) (f := fun j => .int (zr j)) (A := aN s) (by decide) (hs (.arrayOf tSt .int) (by decide +kernel)) (va_eqt (hs (.eq (.length tSt) (.int 12)) (by decide +kernel))) (fun j hj => by
    match j, hj with
    | 0, _ => exact e0
    | 1, _ => exact e1
    | 2, _ => exact e2
    | 3, _ => exact e3
    | 4, _ => exact e4
    | 5, _ => exact e5
    | 6, _ => exact e6
    | 7, _ => exact e7
    | 8, _ => exact e8
    | 9, _ => exact e9
    | 10, _ => exact e10
    | 11, _ => exact e11
    | j + 12, h => exact absurd h (by omega)) hA
  refine ⟨z, ?_, va_Zref (hts (.laysStatic "Melodeon" "STRIDES" "[I") (by decide +kernel)) (hts (.initialized "Melodeon") (by decide +kernel)) h1 hA, h2⟩
  obtain ⟨cell, hc, -⟩ := h2
  exact (Array.getElem?_eq_some_iff.mp hc).1
theorem st_KP {b : Nat} {s : State} (hts : ∀ w ∈ lw_tbl, w.before #[Value.ref b] s = true) (hgv : (Jvm.Cond.and given_1 narrow_1).before #[Value.ref b] s = true) : ∃ (G : va_G) (cA : ClassId) (z : Nat), z < s.heap.size ∧ KP G cA z (aN s) s := by
  obtain ⟨G, cA, hK⟩ := st_K hts
  obtain ⟨z, hz, hZ⟩ := st_Z hts hgv
  exact ⟨G, cA, z, hz, hK, st_nk hts, hZ⟩
/-! the class's fresh world, with the static row's address beside it -/
theorem cM_ext {a a' : Nat → Nat} {cA : ClassId} {r : Nat → Int32} {L : Int64} (h : ∀ k, k < 37 → a' k = a k) : ∀ o, o < 37 → cM a' cA o r L = cM a cA o r L := by
  intro o ho
  match o, ho with
  | 0, _ =>
    show (.inr (9, [.ref (a' 1), .ref (a' 18), .ref (a' 26), .ref (a' 34)]) : va_E) = .inr (9, [.ref (a 1), .ref (a 18), .ref (a 26), .ref (a 34)])
    rw [h 1 (by decide), h 18 (by decide), h 26 (by decide), h 34 (by decide)]
  | 1, _ =>
    show (.inr (5, [.ref (a' 2), .ref (a' 5), .int (r 2), .ref (a' 14), .ref (a' 15), .ref (a' 16), .ref (a' 17)]) : va_E) = .inr (5, [.ref (a 2), .ref (a 5), .int (r 2), .ref (a 14), .ref (a 15), .ref (a 16), .ref (a 17)])
    rw [h 2 (by decide), h 5 (by decide), h 14 (by decide), h 15 (by decide), h 16 (by decide), h 17 (by decide)]
  | 2, _ =>
    show (.inr (8, [.ref (a' 3)]) : va_E) = .inr (8, [.ref (a 3)])
    rw [h 3 (by decide)]
  | 3, _ =>
    show (.inr (3, [.ref (a' 4)]) : va_E) = .inr (3, [.ref (a 4)])
    rw [h 4 (by decide)]
  | 4, _ => rfl
  | 5, _ =>
    show (.inr (4, [.ref (a' 6), .ref (a' 8), .ref (a' 10), .ref (a' 12), .int (r 4), .int (r 5)]) : va_E) = .inr (4, [.ref (a 6), .ref (a 8), .ref (a 10), .ref (a 12), .int (r 4), .int (r 5)])
    rw [h 6 (by decide), h 8 (by decide), h 10 (by decide), h 12 (by decide)]
  | 6, _ =>
    show (.inr (3, [.ref (a' 7)]) : va_E) = .inr (3, [.ref (a 7)])
    rw [h 7 (by decide)]
  | 7, _ => rfl
  | 8, _ =>
    show (.inr (3, [.ref (a' 9)]) : va_E) = .inr (3, [.ref (a 9)])
    rw [h 9 (by decide)]
  | 9, _ => rfl
  | 10, _ =>
    show (.inr (3, [.ref (a' 11)]) : va_E) = .inr (3, [.ref (a 11)])
    rw [h 11 (by decide)]
  | 11, _ => rfl
  | 12, _ =>
    show (.inr (3, [.ref (a' 13)]) : va_E) = .inr (3, [.ref (a 13)])
    rw [h 13 (by decide)]
  | 13, _ => rfl
  | 14, _ => rfl
  | 15, _ => rfl
  | 16, _ => rfl
  | 17, _ => rfl
  | 18, _ =>
    show (.inr (6, [.ref (a' 1), .ref (a' 19), .ref (a' 22), .ref (a' 23), .ref (a' 24), .ref (a' 25), .int (r 6), .int (r 7), .int (r 8), .int (r 9), .int (r 10), .int (r 11)]) : va_E) = .inr (6, [.ref (a 1), .ref (a 19), .ref (a 22), .ref (a 23), .ref (a 24), .ref (a 25), .int (r 6), .int (r 7), .int (r 8), .int (r 9), .int (r 10), .int (r 11)])
    rw [h 1 (by decide), h 19 (by decide), h 22 (by decide), h 23 (by decide), h 24 (by decide), h 25 (by decide)]
  | 19, _ =>
    show (.inr (0, [.int (r 0), .int (r 1), .int (r 2), .int (r 3), .ref (a' 20)]) : va_E) = .inr (0, [.int (r 0), .int (r 1), .int (r 2), .int (r 3), .ref (a 20)])
    rw [h 20 (by decide)]
  | 20, _ =>
    show (.inr (3, [.ref (a' 21)]) : va_E) = .inr (3, [.ref (a 21)])
    rw [h 21 (by decide)]
  | 21, _ => rfl
  | 22, _ => rfl
  | 23, _ => rfl
  | 24, _ => rfl
  | 25, _ => rfl
  | 26, _ =>
    show (.inr (6, [.ref (a' 1), .ref (a' 27), .ref (a' 30), .ref (a' 31), .ref (a' 32), .ref (a' 33), .int (r 6), .int (r 7), .int (r 8), .int (r 9), .int (r 10), .int (r 11)]) : va_E) = .inr (6, [.ref (a 1), .ref (a 27), .ref (a 30), .ref (a 31), .ref (a 32), .ref (a 33), .int (r 6), .int (r 7), .int (r 8), .int (r 9), .int (r 10), .int (r 11)])
    rw [h 1 (by decide), h 27 (by decide), h 30 (by decide), h 31 (by decide), h 32 (by decide), h 33 (by decide)]
  | 27, _ =>
    show (.inr (0, [.int (r 0), .int (r 1), .int (r 2), .int (r 3), .ref (a' 28)]) : va_E) = .inr (0, [.int (r 0), .int (r 1), .int (r 2), .int (r 3), .ref (a 28)])
    rw [h 28 (by decide)]
  | 28, _ =>
    show (.inr (3, [.ref (a' 29)]) : va_E) = .inr (3, [.ref (a 29)])
    rw [h 29 (by decide)]
  | 29, _ => rfl
  | 30, _ => rfl
  | 31, _ => rfl
  | 32, _ => rfl
  | 33, _ => rfl
  | 34, _ =>
    show (.inr (2, [.ref (a' 35), .int (r 1), .int (r 2), .int (r 3), .int (r 4), .long L, .int (r 6), .int (r 7)]) : va_E) = .inr (2, [.ref (a 35), .int (r 1), .int (r 2), .int (r 3), .int (r 4), .long L, .int (r 6), .int (r 7)])
    rw [h 35 (by decide)]
  | 35, _ =>
    show (.inr (3, [.ref (a' 36)]) : va_E) = .inr (3, [.ref (a 36)])
    rw [h 36 (by decide)]
  | 36, _ => rfl
  | o + 37, h9 => exact absurd h9 (by omega)
abbrev a38 (z : Nat) (b : Nat → Nat) : Nat → Nat := fun k => if k = 37 then z else b k
theorem a38_z {z : Nat} {b : Nat → Nat} : a38 z b 37 = z := if_pos rfl
theorem a38_n {z : Nat} {b : Nat → Nat} {k : Nat} (h : k < 37) : a38 z b k = b k := if_neg (by omega)
theorem st_w {z : Nat} {b : Nat → Nat} {cA : ClassId} : wG 37 (a38 z b) (cM (a38 z b) cA) S00 0 = wG 37 b (cM b cA) SM0 0 := by
  apply List.ext_getElem?
  intro k
  rcases Nat.lt_or_ge k 37 with hk | hk
  · rw [wG_get hk, wG_get hk, S00_n (by omega), cM_ext (fun k h => a38_n h) k hk, a38_n hk]
  · rw [List.getElem?_eq_none (by rw [wG_len]; exact hk), List.getElem?_eq_none (by rw [wG_len]; exact hk)]
theorem wx_ids {n : Nat} {a : Nat → Nat} {f : Cf} {S : Mm} {L : Int64} {x : Nat × va_E} : (List.range n).map (fun i => (wG n a f S L ++ [x])[i]?) = (wG n a f S L).map some := by
  apply List.ext_getElem?
  intro k
  rcases Nat.lt_or_ge k n with hk | hk
  · rw [List.getElem?_map, List.getElem?_range hk, List.getElem?_map, wG_get hk]
    show some ((wG n a f S L ++ [x])[k]?) = some (some _)
    rw [List.getElem?_append_left (by rw [wG_len]; exact hk), wG_get hk]
  · rw [List.getElem?_eq_none (by rw [List.length_map, List.length_range]; exact hk), List.getElem?_eq_none (by rw [List.length_map, wG_len]; exact hk)]
section ST3
variable {n1 n2 : Nat} {a1 a2 : Nat → Nat} {f1 f2 : Cf} {S1 S2 : Mm} {L1 L2 : Int64} {x : Nat × va_E} {G : va_G} {H : Heap} {A : Nat → Prop}
abbrev w3 (n1 n2 : Nat) (a1 a2 : Nat → Nat) (f1 f2 : Cf) (S1 S2 : Mm) (L1 L2 : Int64) (x : Nat × va_E) : va_W := (wG n1 a1 f1 S1 L1 ++ wG n2 a2 f2 S2 L2) ++ [x]
theorem w3_1 {k : Nat} (h : k < n1) : (w3 n1 n2 a1 a2 f1 f2 S1 S2 L1 L2 x)[k]? = some (a1 k, f1 k (S1 k) L1) := by
  show ((wG n1 a1 f1 S1 L1 ++ wG n2 a2 f2 S2 L2) ++ [x])[k]? = _
  rw [List.getElem?_append_left (by rw [List.length_append, wG_len]; omega), List.getElem?_append_left (by rw [wG_len]; exact h), wG_get h]
theorem w3_2 {k : Nat} (h : k < n2) : (w3 n1 n2 a1 a2 f1 f2 S1 S2 L1 L2 x)[n1 + k]? = some (a2 k, f2 k (S2 k) L2) := by
  show ((wG n1 a1 f1 S1 L1 ++ wG n2 a2 f2 S2 L2) ++ [x])[n1 + k]? = _
  rw [List.getElem?_append_left (by rw [List.length_append, wG_len, wG_len]; omega), List.getElem?_append_right (by rw [wG_len]; omega), wG_len, Nat.add_sub_cancel_left, wG_get h]
theorem w3_3 : (w3 n1 n2 a1 a2 f1 f2 S1 S2 L1 L2 x)[n1 + n2]? = some x := by
  show ((wG n1 a1 f1 S1 L1 ++ wG n2 a2 f2 S2 L2) ++ [x])[n1 + n2]? = _
  rw [List.getElem?_append_right (by rw [List.length_append, wG_len, wG_len]; omega), List.length_append, wG_len, wG_len, Nat.sub_self]
  rfl
theorem w3_D (hD : va_D A (w3 n1 n2 a1 a2 f1 f2 S1 S2 L1 L2 x)) : apart n1 a1 ∧ apart n2 a2 ∧ (∀ k, k < n1 → a1 k ≠ x.1) ∧ (∀ k j, k < n1 → j < n2 → a1 k ≠ a2 j) ∧ (∀ j, j < n2 → a2 j ≠ x.1) ∧ (∀ k, k < n1 → A (a1 k)) ∧ A x.1 ∧ ∀ j, j < n2 → A (a2 j) := by
  obtain ⟨h1, h2⟩ := hD
  refine ⟨fun i j hi hj e => h1 i j _ _ (w3_1 hi) (w3_1 hj) e, fun i j hi hj e => ?_, fun k hk e => ?_, fun k j hk hj e => ?_, fun j hj e => ?_, fun k hk => h2 k _ (w3_1 hk), h2 _ _ w3_3, fun j hj => h2 _ _ (w3_2 hj)⟩
  · have := h1 _ _ _ _ (w3_2 hi) (w3_2 hj) e
    omega
  · have := h1 _ _ _ _ (w3_1 hk) w3_3 e
    omega
  · have := h1 _ _ _ _ (w3_1 hk) (w3_2 hj) e
    omega
  · have := h1 _ _ _ _ (w3_2 hj) w3_3 e
    omega
theorem w3_P (hP : va_P G vwCl (w3 n1 n2 a1 a2 f1 f2 S1 S2 L1 L2 x) H) : va_P G vwCl (wG n1 a1 f1 S1 L1) H ∧ va_P G vwCl (wG n2 a2 f2 S2 L2) H ∧ va_at G vwCl x H := by
  refine ⟨fun k q hq => ?_, fun k q hq => ?_, hP _ _ w3_3⟩
  · have h := wG_lt hq
    rw [wG_get h] at hq
    cases hq
    exact hP k _ (w3_1 h)
  · have h := wG_lt hq
    rw [wG_get h] at hq
    cases hq
    exact hP _ _ (w3_2 h)
end ST3
abbrev aD (b : Nat → Nat) : Nat → Nat := fun k => if k = 18 then b 0 else b (k + 1)
/-- the two worlds at the head of the law's loop -/
theorem st_P {A : Nat → Prop} {s : State} {G : va_G} {cA cJ : ClassId} {z o : Nat} {b1 b2 : Nat → Nat} {fo : Nat → Int64} {H : Heap} (hP : va_P G vwCl (w3 37 19 b1 (aD b2) (cM b1 cA) (cD (aD b2) cA) SM0 SD0 0 0 (o, .inl (cJ, 1, .inr (.inl fo)))) H) : lwP G cA cJ (a38 z b1) (aD b2) S00 0 o fo SD0 0 H := by
  obtain ⟨h1, h2, h3⟩ := w3_P hP
  refine ⟨?_, h2⟩
  show va_P G vwCl (wG 37 (a38 z b1) (cM (a38 z b1) cA) S00 0 ++ _) H
  rw [st_w]
  exact wx_mk h1 h3
theorem st_F {s : State} {cA cJ : ClassId} {z o : Nat} {b1 b2 : Nat → Nat} {fo : Nat → Int64} (hD : va_D (aN s) (w3 37 19 b1 (aD b2) (cM b1 cA) (cD (aD b2) cA) SM0 SD0 0 0 (o, .inl (cJ, 1, .inr (.inl fo))))) : lwK (a38 z b1) (aD b2) o (aN s) s := by
  obtain ⟨h1, h2, h3, h4, h5, h6, h7, h8⟩ := w3_D hD
  refine ⟨fun i j hi hj e => ?_, h2, fun k hk => ?_, fun k j hk hj => ?_, h5, fun k hk => ?_, h7, h8, fun q h => h⟩
  · rw [a38_n hi, a38_n hj] at e
    exact h1 i j hi hj e
  · rw [a38_n hk]; exact h3 k hk
  · rw [a38_n hk]; exact h4 k j hk hj
  · rw [a38_n hk]; exact h6 k hk
theorem LCtx_d {p : Program} {l : Launch} {s : State} {m : MethodId} {c : Code} {G : va_G} {A0 : Nat → Prop} {cA cJ : ClassId} {a bb : Nat → Nat} {o b N : Nat} {xs : Nat → Int32} (C : LCtx p l s m c G A0 cA cJ a bb o b N xs) (d : Drawn) : LCtx p l (s.setDrawn d) m c G A0 cA cJ a bb o b N xs := by
  obtain ⟨hfl, hx, hb, hml, hown, hts, F, hK, hXf⟩ := C
  exact ⟨hfl, hx, hb, hml, hown, dr_words hts d, F, LPP_go (U := s.setDrawn d) hK (fun _ h => h) va_S.rf rfl (State.WarmedH.refl s), fun H locs S T L L' fo h1 h2 h3 => hXf H locs S T L L' fo h1 h2 h3⟩
