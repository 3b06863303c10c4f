/-! rows of rows: made at once (three of eight), loaded, stored -/
section MNW
variable {E : CtlPost} {e : Env} {d : Bool} {acts : List Action} {s : State}
theorem mn_fit {t : FieldType} (h : t.isReference = true) : fits t .null = true ∧ ∀ a : Nat, fits t (.ref a) = true := by
  cases t <;> simp [FieldType.isReference] at h <;> exact ⟨rfl, fun _ => rfl⟩
/-- a new row of references, all null -/
theorem mn_new {c comp : ClassId} {k : Class} {t : FieldType} {len : Nat} (hk : s.vm.classes[c]? = some k) (hkind : k.kind = .array comp t) (hr : t.isReference = true) (hl : ¬ len > e.platform.arrayLengthLimit) (hh : ¬ len * componentBytes t > e.platform.maxHeapBytes) {Q : Addr → Pre} (h1 : s.heap.size < e.platform.maxCells) (h2 : s.slotsUsed + len ≤ e.platform.maxSlots) (hq : Q s.heap.size d acts (s.pushCell { cls := c, slots := Array.replicate len .null, vm := .none })) : wp (Jvm.newArray c len .null) Q E e d acts s := by
  have hf : ∀ i v, (Array.replicate len Value.null)[i]? = some v → s.fitsSlot c .none i v = true := by
    intro i v hv
    rw [Array.getElem?_replicate] at hv
    split at hv
    · cases hv
      simp [State.fitsSlot, State.slotType?, hk, hkind, (mn_fit hr).1]
    · cases hv
  have ha : allocActs (Array.replicate len Value.null) s.heap.size acts = acts := by
    have hall : ((Array.replicate len Value.null).all (·.isDefault)) = true := by
      rw [Array.all_replicate]
      split
      · rfl
      · rfl
    unfold allocActs
    rw [if_pos hall]
  simp only [Jvm.newArray, Jvm.arrayFits, wp_bind', Jvm.W.ask, Jvm.W.ite, hl, if_false, wp_pure', Jvm.W.theClass, hk, hkind, hh, Jvm.W.alloc, Jvm.W.stop, Option.some.injEq, exists_eq_left', Array.size_replicate, ha]
  rw [if_neg (by omega)]
  exact ⟨h1, h2, hf, hq⟩
def mnI (comp : ClassId) : Cell := { cls := comp, slots := Array.replicate 8 .null, vm := .none }
def mnO (c : ClassId) : Cell := { cls := c, slots := Array.replicate 3 .null, vm := .none }
/-- one row more, and its address in the row of rows -/
def mnU (U : State) (comp : ClassId) (a : Nat) (o : Cell) (i : Nat) : State := (U.pushCell (mnI comp)).setCell a (o.setSlot i (.ref U.heap.size))
theorem mnU_size {U : State} {comp : ClassId} {a : Nat} {o : Cell} {i : Nat} : (mnU U comp a o i).heap.size = U.heap.size + 1 := by
  simp [mnU, State.setCell]
theorem mnU_a {U : State} {comp : ClassId} {a : Nat} {o : Cell} {i : Nat} (h : a < U.heap.size) : (mnU U comp a o i).heap[a]? = some (o.setSlot i (.ref U.heap.size)) := by
  obtain ⟨x, hx⟩ : ∃ x, (U.pushCell (mnI comp)).heap[a]? = some x := ⟨_, (State.heap_pushCell_of_lt U (mnI comp) h).trans (Array.getElem?_eq_getElem h)⟩
  exact State.heap_setCell_self hx
theorem mnU_n {U : State} {comp : ClassId} {a q : Nat} {o : Cell} {i : Nat} (h : q < U.heap.size) (hn : a ≠ q) : (mnU U comp a o i).heap[q]? = U.heap[q]? := by
  unfold mnU
  rw [State.heap_setCell_other hn, State.heap_pushCell_of_lt (h := h)]
theorem mnU_l {U : State} {comp : ClassId} {a : Nat} {o : Cell} {i : Nat} (h : a < U.heap.size) : (mnU U comp a o i).heap[U.heap.size]? = some (mnI comp) := by
  unfold mnU
  rw [State.heap_setCell_other (Nat.ne_of_lt h)]
  exact State.heap_pushCell_size _ _
theorem mnU_vm {U : State} {comp : ClassId} {a : Nat} {o : Cell} {i : Nat} : (mnU U comp a o i).vm = U.vm := by
  simp [mnU]
theorem mnU_u {U : State} {comp : ClassId} {a : Nat} {o : Cell} {i : Nat} : (mnU U comp a o i).slotsUsed = U.slotsUsed + 8 := by
  simp [mnU, mnI]
theorem mnU_top {U : State} {comp : ClassId} {a : Nat} {o : Cell} {i : Nat} {f : JFrame} : mnU (U.setTop f) comp a o i = (mnU U comp a o i).setTop f := by
  simp only [mnU, State.heap_setTop, State.pushCell_setTop, State.setCell_setTop]
/-- the rows of eight -/
theorem mn_in {comp cc : ClassId} {kc : Class} {t : FieldType} (hkc : s.vm.classes[comp]? = some kc) (hkind : kc.kind = .array cc t) (hr : t.isReference = true) (hd : defaultValue t = .null) (hl : ¬ 8 > e.platform.arrayLengthLimit) (hh : ¬ 8 * componentBytes t > e.platform.maxHeapBytes) (h1 : s.heap.size < e.platform.maxCells) (h2 : s.slotsUsed + 8 ≤ e.platform.maxSlots) {Q : Addr → Pre} (hq : Q s.heap.size d acts (s.pushCell (mnI comp))) : wp (multianewarray.make comp [8]) Q E e d acts s := by
  rw [multianewarray.make]
  have h8 : ¬ (8 : Int32) < 0 := by decide
  have e8 : (8 : Int32).toNatClampNeg = 8 := by decide
  simp only [wp_bind', Jvm.W.ite, h8, if_false, wp_pure', Jvm.W.theClass, hkc, hkind, Option.some.injEq, exists_eq_left', hd, e8]
  exact mn_new hkc hkind hr hl hh h1 h2 hq
/-- one turn of the loop -/
theorem mn_wr {U : State} {c comp : ClassId} {k : Class} {t : FieldType} {a : Nat} {o : Cell} {i : Nat} (ha : a < U.heap.size) (ho : U.heap[a]? = some o) (hoc : o.cls = c) (hov : o.vm = .none) (hi : i < o.slots.size) (hk : U.vm.classes[c]? = some k) (hkind : k.kind = .array comp t) (hr : t.isReference = true) : ∃ cell, (U.pushCell (mnI comp)).heap[a]? = some cell ∧ cell.vm ≠ .unknown ∧ i < cell.slots.size ∧ (U.pushCell (mnI comp)).fitsSlot cell.cls cell.vm i (.ref U.heap.size) = true ∧ cell = o := by
  refine ⟨o, by rw [State.heap_pushCell_of_lt (h := ha)]; exact ho, by rw [hov]; simp, hi, ?_, rfl⟩
  rw [hoc, hov]
  simp [State.fitsSlot, State.slotType?, hk, hkind, (mn_fit hr).2]
/-- three rows of eight -/
theorem mn_out {c comp cc : ClassId} {k kc : Class} {t0 t : FieldType} (hk : s.vm.classes[c]? = some k) (hkind : k.kind = .array comp t0) (hr0 : t0.isReference = true) (hkc : s.vm.classes[comp]? = some kc) (hkindc : kc.kind = .array cc t) (hr : t.isReference = true) (hd : defaultValue t = .null) (hl : ¬ 8 > e.platform.arrayLengthLimit) (hh0 : ¬ 3 * componentBytes t0 > e.platform.maxHeapBytes) (hh : ¬ 8 * componentBytes t > e.platform.maxHeapBytes) (h1 : s.heap.size + 4 ≤ e.platform.maxCells) (h2 : s.slotsUsed + 27 ≤ e.platform.maxSlots) {Q : Addr → Pre}
    (hq : ∀ d' acts' o1 o2, o1 = (mnO c).setSlot 0 (.ref (s.heap.size + 1)) → o2 = o1.setSlot 1 (.ref (s.heap.size + 2)) → Q s.heap.size d' acts' (mnU (mnU (mnU (s.pushCell (mnO c)) comp s.heap.size (mnO c) 0) comp s.heap.size o1 1) comp s.heap.size o2 2)) : wp (multianewarray.make c [3, 8]) Q E e d acts s := by
  rw [multianewarray.make]
  have h3 : ¬ (3 : Int32) < 0 := by decide
  have e3 : (3 : Int32).toNatClampNeg = 3 := by decide
  simp only [wp_bind', Jvm.W.ite, h3, if_false, wp_pure', Jvm.W.theClass, hk, hkind, Option.some.injEq, exists_eq_left', e3]
  refine mn_new hk hkind hr0 (by omega) hh0 (by omega) (by omega) ?_
  have hz : ((3 : Int32) == 0) = false := by decide
  simp only [hz, Bool.false_eq_true, if_false, wp_bind', wp_pure', Std.Legacy.Range.forIn_eq_forIn_range']
  show wp (forIn [0, 1, 2] PUnit.unit _) _ E e d acts _
  simp only [List.forIn_cons, List.forIn_nil, wp_bind', wp_pure']
  generalize hU0 : s.pushCell { cls := c, slots := Array.replicate 3 .null, vm := .none } = U0
  have hU0' : s.pushCell (mnO c) = U0 := hU0
  have z0 : U0.heap.size = s.heap.size + 1 := by rw [← hU0]; simp
  have v0 : U0.vm = s.vm := by rw [← hU0]; rfl
  have u0 : U0.slotsUsed = s.slotsUsed + 3 := by rw [← hU0]; simp
  have c0 : U0.heap[s.heap.size]? = some (mnO c) := by rw [← hU0']; exact State.heap_pushCell_size _ _
  refine mn_in (by rw [v0]; exact hkc) hkindc hr hd hl hh (by omega) (by omega) ?_
  simp only [wp_bind', Jvm.W.writeLoc, wp_pure']
  obtain ⟨x0, w1, w2, w3, w4, w5⟩ := mn_wr (U := U0) (a := s.heap.size) (c := c) (comp := comp) (i := 0) (by omega) c0 rfl rfl (by show 0 < 3; decide) (by rw [v0]; exact hk) hkind hr0
  subst w5
  refine ⟨_, w1, w2, w3, w4, ?_⟩
  show wp (multianewarray.make comp [8]) _ E e _ _ (mnU U0 comp s.heap.size (mnO c) 0)
  generalize hU1 : mnU U0 comp s.heap.size (mnO c) 0 = U1
  have z1 : U1.heap.size = s.heap.size + 2 := by rw [← hU1, mnU_size]; omega
  have v1 : U1.vm = s.vm := by rw [← hU1, mnU_vm, v0]
  have u1 : U1.slotsUsed = s.slotsUsed + 11 := by rw [← hU1, mnU_u]; omega
  have c1 : U1.heap[s.heap.size]? = some ((mnO c).setSlot 0 (.ref (s.heap.size + 1))) := by rw [← hU1, mnU_a (U := U0) (a := s.heap.size) (by omega), z0]
  refine mn_in (by rw [v1]; exact hkc) hkindc hr hd hl hh (by omega) (by omega) ?_
  simp only [wp_bind', Jvm.W.writeLoc, wp_pure']
  obtain ⟨x1, y1, y2, y3, y4, y5⟩ := mn_wr (U := U1) (a := s.heap.size) (c := c) (comp := comp) (i := 1) (by omega) c1 rfl rfl (by show 1 < 3; decide) (by rw [v1]; exact hk) hkind hr0
  subst y5
  refine ⟨_, y1, y2, y3, y4, ?_⟩
  show wp (multianewarray.make comp [8]) _ E e _ _ (mnU U1 comp s.heap.size ((mnO c).setSlot 0 (.ref (s.heap.size + 1))) 1)
  generalize hU2 : mnU U1 comp s.heap.size ((mnO c).setSlot 0 (.ref (s.heap.size + 1))) 1 = U2
  have z2 : U2.heap.size = s.heap.size + 3 := by rw [← hU2, mnU_size]; omega
  have v2 : U2.vm = s.vm := by rw [← hU2, mnU_vm, v1]
  have u2 : U2.slotsUsed = s.slotsUsed + 19 := by rw [← hU2, mnU_u]; omega
  have c2 : U2.heap[s.heap.size]? = some (((mnO c).setSlot 0 (.ref (s.heap.size + 1))).setSlot 1 (.ref (s.heap.size + 2))) := by rw [← hU2, mnU_a (U := U1) (a := s.heap.size) (by omega), z1]
  refine mn_in (by rw [v2]; exact hkc) hkindc hr hd hl hh (by omega) (by omega) ?_
  simp only [wp_bind', Jvm.W.writeLoc, wp_pure']
  obtain ⟨x2, q1, q2, q3, q4, q5⟩ := mn_wr (U := U2) (a := s.heap.size) (c := c) (comp := comp) (i := 2) (by omega) c2 rfl rfl (by show 2 < 3; decide) (by rw [v2]; exact hk) hkind hr0
  subst q5
  refine ⟨_, q1, q2, q3, q4, ?_⟩
  have := hq
  rw [hU0'] at this
  have k := fun d' acts' => this d' acts' _ _ rfl rfl
  rw [hU1, hU2] at k
  exact k _ _
end MNW
