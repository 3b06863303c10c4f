/-! what the start gives -/
abbrev aN (s : State) : Nat → Prop := fun q : Nat => s.heap.size ≤ q
theorem st_K {args : Array Value} {s : State} (hts : ∀ w ∈ lw_tbl, w.before args s = true) : ∃ (G : va_G) (cA c2 c3 : ClassId), va_K G vwCl (tyB cA c2 c3) s ∧ KA cA c2 s := by
  obtain ⟨c0_, i0, h0⟩ := u_known (C := RX0) (T := TX0) (N := 5) (n := 5) hts inX0 (hts (.instantiable RX0 5) (by decide +kernel))
  obtain ⟨c1_, i1, h1⟩ := u_known (C := RX1) (T := TX1) (N := 12) (n := 12) hts inX1 (hts (.instantiable RX1 12) (by decide +kernel))
  obtain ⟨c2_, i2, h2⟩ := u_known (C := RX2) (T := TX2) (N := 8) (n := 8) hts inX2 (hts (.instantiable RX2 8) (by decide +kernel))
  obtain ⟨c3_, i3, h3⟩ := u_known (C := RX3) (T := TX3) (N := 1) (n := 1) hts inX3 (hts (.instantiable RX3 1) (by decide +kernel))
  obtain ⟨c4_, i4, h4⟩ := u_known (C := RX4) (T := TX4) (N := 6) (n := 6) hts inX4 (hts (.instantiable RX4 6) (by decide +kernel))
  obtain ⟨c5_, i5, h5⟩ := u_known (C := RX5) (T := TX5) (N := 7) (n := 7) hts inX5 (hts (.instantiable RX5 7) (by decide +kernel))
  obtain ⟨c6_, i6, h6⟩ := u_known (C := RX6) (T := TX6) (N := 12) (n := 12) hts inX6 (hts (.instantiable RX6 12) (by decide +kernel))
  obtain ⟨c7_, i7, h7⟩ := u_known (C := RX7) (T := TX7) (N := 11) (n := 11) hts inX7 (hts (.instantiable RX7 11) (by decide +kernel))
  obtain ⟨c8_, i8, h8⟩ := u_known (C := RX8) (T := TX8) (N := 1) (n := 1) hts inX8 (hts (.instantiable RX8 1) (by decide +kernel))
  obtain ⟨c9_, i9, h9⟩ := u_known (C := RX9) (T := TX9) (N := 4) (n := 4) hts inX9 (hts (.instantiable RX9 4) (by decide +kernel))
  obtain ⟨c10_, i10, h10⟩ := u_known (C := RX10) (T := TX10) (N := 22) (n := 22) hts inX10 (hts (.instantiable RX10 22) (by decide +kernel))
  obtain ⟨cA, kA, comp, hf, hk, hkd⟩ := Cond.arrayClass_spec (hts (.arrayClass .int) (by decide +kernel))
  obtain ⟨q1, c2, k2, f1, -, g2, kd2, f2⟩ := arrayOverA_spec (hts (.arrayOver (.array .int)) (by decide +kernel))
  obtain ⟨q2, c3, k3, f3, -, g3, kd3, f4⟩ := arrayOverA_spec (hts (.arrayOver (.array (.array .int))) (by decide +kernel))
  have f1 : s.vm.findClass "[I" = some q1 := f1
  have hf1 : s.vm.findClass "[I" = some cA := hf
  have e1 : q1 = cA := Option.some.inj (f1.symm.trans hf1)
  rw [e1] at kd2
  refine ⟨(fun k => match k with | 0 => c0_ | 1 => c1_ | 2 => c2_ | 3 => c3_ | 4 => c4_ | 5 => c5_ | 6 => c6_ | 7 => c7_ | 8 => c8_ | 9 => c9_ | _ => c10_, fun k => match k with | 0 => i0 | 1 => i1 | 2 => i2 | 3 => i3 | 4 => i4 | 5 => i5 | 6 => i6 | 7 => i7 | 8 => i8 | 9 => i9 | _ => i10), cA, c2, c3, ⟨fun k q hq => ?_, fun k q hq => ?_⟩, k2, kA, g2, kd2, hk⟩
  · match k, hq with
    | 0, hq => cases hq; exact h0
    | 1, hq => cases hq; exact h1
    | 2, hq => cases hq; exact h2
    | 3, hq => cases hq; exact h3
    | 4, hq => cases hq; exact h4
    | 5, hq => cases hq; exact h5
    | 6, hq => cases hq; exact h6
    | 7, hq => cases hq; exact h7
    | 8, hq => cases hq; exact h8
    | 9, hq => cases hq; exact h9
    | 10, hq => cases hq; exact h10
    | k + 11, hq => exact absurd (List.getElem?_eq_some_iff.mp hq).1 (by show ¬ k + 11 < 11; omega)
  · match k, hq with
    | 0, hq => cases hq; exact ⟨fun n z => ⟨fun k h => (by cases h), kA, hk, comp, hkd⟩, hf⟩
    | 1, hq => cases hq; exact ⟨fun n z => ⟨fun k h => (by cases h), k2, g2, cA, kd2⟩, f2⟩
    | 2, hq => cases hq; exact ⟨fun n z => ⟨fun k h => (by cases h), k3, g3, q2, kd3⟩, f4⟩
    | k + 3, hq => exact absurd (List.getElem?_eq_some_iff.mp hq).1 (by show ¬ k + 3 < 3; omega)
theorem st_nkBT : ∀ q ∈ nkBT, Cond.methodLinkNest q.1 q.2.1 q.2.2.1 q.2.2.2 ∈ lw_tbl := by decide +kernel
theorem st_nkB {args : Array Value} {s : State} (hts : ∀ w ∈ lw_tbl, w.before args s = true) : nkB s := fun q hq => va_Nw.of rfl (hts _ (st_nkBT q hq))
theorem st_nkT : ∀ q ∈ nkT, Cond.methodLinkNest q.1 q.2.1 q.2.2.1 q.2.2.2 ∈ lw_tbl := by decide +kernel
theorem st_nk {args : Array Value} {s : State} (hts : ∀ w ∈ lw_tbl, w.before args s = true) : nk s := fun q hq => va_Nw.of rfl (hts _ (st_nkT q hq))
abbrev tSt : Term := .static "Melodeon" "STRIDES" "[I"
theorem st_Z {b : Nat} {s : State} (hts : ∀ w ∈ lw_tbl, w.before #[Value.ref b] s = true) (hgv : (Jvm.Cond.and given_1 narrow_1).before #[Value.ref b] s = true) : ∃ z : Nat, z < s.heap.size ∧ zS z (aN s) s s.heap := by
  have hs := flat_of_before _ hgv
  have hA : ∀ a : Nat, a < s.heap.size → ¬ aN s a := fun a h => Nat.not_le.mpr h
  have e0 := va_eqt (hs (.eq (.elem tSt (.int 0)) (.int 256)) (by decide +kernel))
  have e1 := va_eqt (hs (.eq (.elem tSt (.int 1)) (.int 271)) (by decide +kernel))
  have e2 := va_eqt (hs (.eq (.elem tSt (.int 2)) (.int 287)) (by decide +kernel))
  have e3 := va_eqt (hs (.eq (.elem tSt (.int 3)) (.int 304)) (by decide +kernel))
  have e4 := va_eqt (hs (.eq (.elem tSt (.int 4)) (.int 323)) (by decide +kernel))
  have e5 := va_eqt (hs (.eq (.elem tSt (.int 5)) (.int 342)) (by decide +kernel))
  have e6 := va_eqt (hs (.eq (.elem tSt (.int 6)) (.int 362)) (by decide +kernel))
  have e7 := va_eqt (hs (.eq (.elem tSt (.int 7)) (.int 384)) (by decide +kernel))
  have e8 := va_eqt (hs (.eq (.elem tSt (.int 8)) (.int 406)) (by decide +kernel))
  have e9 := va_eqt (hs (.eq (.elem tSt (.int 9)) (.int 431)) (by decide +kernel))
  have e10 := va_eqt (hs (.eq (.elem tSt (.int 10)) (.int 456)) (by decide +kernel))
  have e11 := va_eqt (hs (.eq (.elem tSt (.int 11)) (.int 483)) (by decide +kernel))
  obtain ⟨z, h1, h2⟩ := va_Tof (tm := tSt) (ty := .int) (N := 12) (f := fun j => .int (zr j)) (A := aN s) (by decide) (hs (.arrayOf tSt .int) (by decide +kernel)) (va_eqt (hs (.eq (.length tSt) (.int 12)) (by decide +kernel))) (fun j hj => by
    match j, hj with
    | 0, _ => exact e0
    | 1, _ => exact e1
    | 2, _ => exact e2
    | 3, _ => exact e3
    | 4, _ => exact e4
    | 5, _ => exact e5
    | 6, _ => exact e6
    | 7, _ => exact e7
    | 8, _ => exact e8
    | 9, _ => exact e9
    | 10, _ => exact e10
    | 11, _ => exact e11
    | j + 12, h => exact absurd h (by omega)) hA
  refine ⟨z, ?_, va_Zref (hts (.laysStatic "Melodeon" "STRIDES" "[I") (by decide +kernel)) (hts (.initialized "Melodeon") (by decide +kernel)) h1 hA, h2⟩
  obtain ⟨cell, hc, -⟩ := h2
  exact (Array.getElem?_eq_some_iff.mp hc).1
theorem st_KB {b N : Nat} {xs : Nat → Int32} {s : State} (hts : ∀ w ∈ lw_tbl, w.before #[Value.ref b] s = true) (hgv : (Jvm.Cond.and given_1 narrow_1).before #[Value.ref b] s = true) (hX : va_X b N xs s s.heap) (hbl : b < s.heap.size) : ∃ (G : va_G) (cA c2 c3 : ClassId) (z : Nat), KB G cA c2 c3 z b N xs (aN s) s := by
  obtain ⟨G, cA, c2, c3, hK, hA⟩ := st_K hts
  obtain ⟨z, hz, hZ⟩ := st_Z hts hgv
  exact ⟨G, cA, c2, c3, z, ⟨hK.sub [0] rfl, st_nk hts, hZ⟩, hK, st_nkB hts, ⟨hX, hbl, Nat.not_le.mpr hbl⟩, hA⟩
theorem st_T {b : Nat} {s : State} (hts : ∀ w ∈ lw_tbl, w.before #[Value.ref b] s = true) : ∀ w ∈ wsT, w.before #[Value.ref b] s = true := by
  intro w h
  rcases List.mem_append.mp h with h | h
  · exact hts w (wsL_law_in w h)
  · rw [List.mem_singleton.mp h]
    exact hts _ (by decide +kernel)
theorem st_AO {b : Nat} {s : State} (hts : ∀ w ∈ lw_tbl, w.before #[Value.ref b] s = true) : AO2 s := ⟨hts (.arrayOver (.array .int)) (by decide +kernel), hts (.arrayOver (.array (.array .int))) (by decide +kernel)⟩
theorem d_rg {tm : Nat} (h : tm < 3) : rg (31 * nI tm + 7) 0 69 := by
  rcases (show tm = 0 ∨ tm = 1 ∨ tm = 2 by omega) with rfl | rfl | rfl <;> (unfold rg; decide)
