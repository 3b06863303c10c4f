/-! rows of rows, as rows of the walk -/
section MNR
variable {p : Program} {l : Launch} {e : Env} {R : Room} {s : State} {m : MethodId} {args : Array Value} {below : List Frame} {meth : Method} {c : Code} {H : Heap} {locs : List Loc} {cells slots : Nat} {Q : State → Prop}
theorem mn_X {T : State} {comp : ClassId} {a i : Nat} {o : Cell} (X : Stand p l e R s m args below meth c T locs cells slots) (ha : a < T.heap.size) (ho : T.heap[a]? = some o) : Stand p l e R s m args below meth c (mnU T comp a o i) (locs ++ [⟨a, i⟩]) (cells + 1) (slots + 8) := by
  have h := (X.pushed (mnI comp)).stored (a := a) (cell := o) (by rw [State.heap_pushCell_of_lt (h := ha)]; exact ho) i (.ref T.heap.size)
  have e1 : (mnI comp).slots.size = 8 := by simp [mnI]
  rw [e1] at h
  exact h
theorem mnO_v {c3 : ClassId} {h : Nat} : (((mnO c3).setSlot 0 (.ref (h + 1))).setSlot 1 (.ref (h + 2))).setSlot 2 (.ref (h + 3)) = arrV c3 3 (fun t => .ref (h + 1 + t)) := by
  have e : ∀ x y z : Value, (((mnO c3).setSlot 0 x).setSlot 1 y).setSlot 2 z = { cls := c3, slots := #[x, y, z], vm := .none } := fun x y z => rfl
  rw [e]
  rfl
theorem mnI_v {c2 : ClassId} : mnI c2 = arrV c2 8 (fun _ => .null) := rfl
theorem mn_W {cc : ByteArray} (hexec : p.tables.exec = Jvm.exec) (hb : c.code = cc) {own : String} {index : Nat} (hown : s.vm.findClass own = some m.cls) (hclink : (Cond.classLink own index "[[[I").before args s = true) (ho3 : (Cond.arrayOver (.array (.array .int))).before args s = true) (ho2 : (Cond.arrayOver (.array .int)).before args s = true)
    {g : JFrame} (hg : g.method = m) (hdg : decode cc g.pc = .ok (.multianewarray index 2, 4)) {rest : List Value} (hstack : g.stack = .int 8 :: .int 3 :: rest) (hcells : cells + 4 ≤ R.cells) (hslots : slots + 27 ≤ R.slots)
    (kk : ∀ (c3 c2 : ClassId) (H1 : Heap), (∃ k3, s.vm.classes[c3]? = some k3 ∧ k3.kind = .array c2 (.array (.array .int))) → s.vm.findClass "[[[I" = some c3 → s.vm.findClass "[[I" = some c2 → H1.size = H.size + 4 → (∀ q : Nat, q < H.size → H1[q]? = H[q]?) → H1[H.size]? = some (arrV c3 3 (fun t => .ref (H.size + 1 + t))) → (∀ t : Nat, t < 3 → H1[H.size + 1 + t]? = some (arrV c2 8 (fun _ => .null))) →
      W p l e R s m args below meth c H1 (locs ++ [⟨H.size, 0⟩, ⟨H.size, 1⟩, ⟨H.size, 2⟩]) (cells + 4) (slots + 27) Q { g with pc := g.pc + 4, stack := .ref H.size :: rest }) : W p l e R s m args below meth c H locs cells slots Q g := by
  intro T hT X
  subst hT; subst hb; subst hg
  have hpl : e.platform.magicAccessors = ({} : Platform).magicAccessors := by rw [X.admits.platform]
  obtain ⟨c2, c3, k3, f2, -, g3, kd3, f3⟩ := arrayOverA_spec ho3
  obtain ⟨c1, c2', k2, f1, -, g2, kd2, f2'⟩ := arrayOverA_spec ho2
  have f2 : s.vm.findClass "[[I" = some c2 := f2
  have f2' : s.vm.findClass "[[I" = some c2' := f2'
  have f3 : s.vm.findClass "[[[I" = some c3 := f3
  have e2 : c2' = c2 := Option.some.inj (f2'.symm.trans f2)
  subst e2
  obtain ⟨c0, fc, hcl⟩ := Cond.classLink_spec hown hclink e.platform hpl
  cases f3.symm.trans fc
  obtain ⟨hg1, hw1, hr1⟩ := State.classEntry (e := e) X.warmed hcl
  generalize T.vm.noted g.method.cls index (.cls c3) = vm1 at hg1 hw1 hr1
  have hal : s.vm.Alike vm1 := hw1.alike
  obtain ⟨k3', g3', q3⟩ := hal.2.2 _ _ g3
  obtain ⟨k2', g2', q2⟩ := hal.2.2 _ _ g2
  have kd3' : k3'.kind = .array c2' (.array (.array .int)) := by rw [q3]; exact kd3
  have kd2' : k2'.kind = .array c1 (.array .int) := by rw [q2]; exact kd2
  obtain ⟨r1, r2⟩ := X.roomAbove hcells hslots
  have X1 := X.noted hw1
  have X2 := X1.pushed (mnO c3)
  have es : (mnO c3).slots.size = 3 := by simp [mnO]
  rw [es] at X2
  generalize hU0 : (T.setVm vm1).pushCell (mnO c3) = U0 at X2
  have hh : (T.setVm vm1).heap = T.heap := rfl
  have z0 : U0.heap.size = T.heap.size + 1 := by rw [← hU0]; simp
  have c0 : U0.heap[T.heap.size]? = some (mnO c3) := by rw [← hU0]; exact State.heap_pushCell_size _ _
  have n0 : ∀ q : Nat, q < T.heap.size → U0.heap[q]? = T.heap[q]? := fun q hq => by rw [← hU0]; exact State.heap_pushCell_of_lt _ _ hq
  have X3 := mn_X (comp := c2') (i := 0) X2 (a := T.heap.size) (by omega) c0
  generalize hU1 : mnU U0 c2' T.heap.size (mnO c3) 0 = U1 at X3
  have z1 : U1.heap.size = T.heap.size + 2 := by rw [← hU1, mnU_size]; omega
  have c1' : U1.heap[T.heap.size]? = some ((mnO c3).setSlot 0 (.ref (T.heap.size + 1))) := by rw [← hU1, mnU_a (U := U0) (a := T.heap.size) (by omega), z0]
  have l1 : U1.heap[T.heap.size + 1]? = some (mnI c2') := by rw [← hU1, ← z0]; exact mnU_l (by omega)
  have n1 : ∀ q : Nat, q < T.heap.size → U1.heap[q]? = T.heap[q]? := fun q hq => by rw [← hU1, mnU_n (U := U0) (q := q) (by omega) (by omega), n0 q hq]
  have X4 := mn_X (comp := c2') (i := 1) X3 (a := T.heap.size) (by omega) c1'
  generalize hU2 : mnU U1 c2' T.heap.size ((mnO c3).setSlot 0 (.ref (T.heap.size + 1))) 1 = U2 at X4
  have z2 : U2.heap.size = T.heap.size + 3 := by rw [← hU2, mnU_size]; omega
  have c2'' : U2.heap[T.heap.size]? = some (((mnO c3).setSlot 0 (.ref (T.heap.size + 1))).setSlot 1 (.ref (T.heap.size + 2))) := by rw [← hU2, mnU_a (U := U1) (a := T.heap.size) (by omega), z1]
  have l2 : U2.heap[T.heap.size + 2]? = some (mnI c2') := by rw [← hU2, ← z1]; exact mnU_l (by omega)
  have l21 : U2.heap[T.heap.size + 1]? = some (mnI c2') := by rw [← hU2, mnU_n (U := U1) (q := T.heap.size + 1) (by omega) (by omega), l1]
  have n2 : ∀ q : Nat, q < T.heap.size → U2.heap[q]? = T.heap[q]? := fun q hq => by rw [← hU2, mnU_n (U := U1) (q := q) (by omega) (by omega), n1 q hq]
  have X5 := mn_X (comp := c2') (i := 2) X4 (a := T.heap.size) (by omega) c2''
  generalize hU3 : mnU U2 c2' T.heap.size (((mnO c3).setSlot 0 (.ref (T.heap.size + 1))).setSlot 1 (.ref (T.heap.size + 2))) 2 = U3 at X5
  have z3 : U3.heap.size = T.heap.size + 4 := by rw [← hU3, mnU_size]; omega
  have c3' : U3.heap[T.heap.size]? = some (arrV c3 3 (fun t => .ref (T.heap.size + 1 + t))) := by rw [← hU3, mnU_a (U := U2) (a := T.heap.size) (by omega), z2, mnO_v]
  have l3 : U3.heap[T.heap.size + 3]? = some (mnI c2') := by rw [← hU3, ← z2]; exact mnU_l (by omega)
  have l32 : U3.heap[T.heap.size + 2]? = some (mnI c2') := by rw [← hU3, mnU_n (U := U2) (q := T.heap.size + 2) (by omega) (by omega), l2]
  have l31 : U3.heap[T.heap.size + 1]? = some (mnI c2') := by rw [← hU3, mnU_n (U := U2) (q := T.heap.size + 1) (by omega) (by omega), l21]
  have n3 : ∀ q : Nat, q < T.heap.size → U3.heap[q]? = T.heap[q]? := fun q hq => by rw [← hU3, mnU_n (U := U2) (q := q) (by omega) (by omega), n2 q hq]
  have hin : ∀ t : Nat, t < 3 → U3.heap[T.heap.size + 1 + t]? = some (arrV c2' 8 (fun _ => .null)) := by
    intro t ht
    rcases (show t = 0 ∨ t = 1 ∨ t = 2 by omega) with rfl | rfl | rfl
    · exact l31
    · exact l32
    · exact l3
  have XF : Stand p l e R s g.method args below meth c U3 (locs ++ [⟨T.heap.size, 0⟩, ⟨T.heap.size, 1⟩, ⟨T.heap.size, 2⟩]) (cells + 4) (slots + 27) := by
    simpa [List.append_assoc, Nat.add_assoc] using X5
  obtain ⟨t', a1, b1⟩ := kk c3 c2' U3.heap ⟨k3, g3, kd3⟩ f3 f2 z3 n3 c3' hin U3 rfl XF
  refine ⟨t', ?_, b1⟩
  have hlim : ¬ 8 > e.platform.arrayLengthLimit := by rw [Launch.admits_arrayLengthLimit X.admits]; omega
  have hheap : ¬ 8 * componentBytes (.array .int) > e.platform.maxHeapBytes := by
    rw [Launch.admits_maxHeapBytes X.admits]
    show ¬ 8 * 4 > 536870912
    omega
  have hheap3 : ¬ 3 * componentBytes (.array (.array .int)) > e.platform.maxHeapBytes := by
    rw [Launch.admits_maxHeapBytes X.admits]
    show ¬ 3 * 4 > 536870912
    omega
  jvm_step X.here [hexec, hdg]
  simp only [multianewarray.sem, wp_bind', Jvm.W.resolveClassAt_links (State.method?_setTop g X.here.top) hg1]
  rw [Jvm.W.popN, if_neg (by decide)]
  refine ⟨g, State.topJava?_setTop' (s := T.setVm vm1) g X.here.top, [.int 3, .int 8], rest, rfl, hstack, ?_⟩
  simp only [List.mapM_cons, List.mapM_nil, wp_bind', wp_pure']
  have eS : ((T.setTop g).setVm vm1).setTop { g with stack := rest } = (T.setVm vm1).setTop { g with stack := rest } := by
    show ((T.setVm vm1).setTop g).setTop _ = _
    rw [State.setTop_setTop]
  rw [eS]
  refine mn_out (k := k3') (kc := k2') (comp := c2') (cc := c1) (t0 := .array (.array .int)) (t := .array .int) g3' kd3' rfl g2' kd2' rfl rfl hlim hheap3 hheap (by show T.heap.size + 4 ≤ _; omega) (by show T.slotsUsed + 27 ≤ _; exact r2) (fun d' acts' o1 o2 h1 h2 => ?_)
  subst h1; subst h2
  rw [State.heap_setTop, State.pushCell_setTop, mnU_top, mnU_top, mnU_top]
  show (_ : Prop)
  rw [hh, hU0, hU1, hU2, hU3]
  simp only [wp_bind', Jvm.W.mark, Jvm.W.pushRef, State.topJava?_setTop' _ XF.here.top, Option.some.injEq, exists_eq_left', State.setTop_setTop, State.heap_setTop]
  intro acts
  simp [jvm, XF.here.top]
  exact a1
end MNR
