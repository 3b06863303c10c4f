/-! the law's object is made -/
def AOt (t : FieldType) (U : State) : Prop := (Cond.arrayOver t).before #[] U = true
theorem AOt.use {t : FieldType} {A : Array Value} {U : State} (h : AOt t U) : (Cond.arrayOver t).before A U = true := h
theorem AOt_k (vm : Vm) : vm.classes.map (fun k => k.kind) = vm.bare.classes.map (fun k => k.kind) := by
  simp only [Vm.bare, Array.map_map]
  rfl
theorem AOt_i (vm : Vm) (f : Kind → Bool) : vm.classes.findIdx? (fun k => f k.kind) = (vm.classes.map (fun k => k.kind)).findIdx? f := by
  rw [Array.findIdx?_map]
  rfl
theorem AOt_g (vm : Vm) {T : Type} (f : Kind → T) (c : Nat) : (vm.classes[c]?).map (fun k => f k.kind) = ((vm.classes.map (fun k => k.kind))[c]?).map f := by
  rw [Array.getElem?_map, Option.map_map]
  rfl
/-- the word speaks of the classes' names and kinds alone -/
theorem AOt_v {t : FieldType} {U : State} : AOt (.array t) U ↔ ((U.vm.findClass (FieldType.array t).toString).bind (fun comp => ((U.vm.classes.map (fun k => k.kind)).findIdx? (fun k => match k with | .array x _ => x == comp | _ => false)).bind (fun c => ((U.vm.classes.map (fun k => k.kind))[c]?).map (fun k => match k with | .array _ ty => decide (ty = FieldType.array t) && decide (U.vm.findClass ("[" ++ (FieldType.array t).toString) = some c) | _ => false))) == some true) = true := by
  unfold AOt Cond.before Cond.holds
  simp only [Cond.value]
  refine Iff.of_eq (congrArg (fun o : Option Bool => (o == some true) = true) ?_)
  refine congrArg (Option.bind (U.vm.findClass (FieldType.array t).toString)) ?_
  funext comp
  refine congr (congrArg Option.bind (AOt_i U.vm (fun k => match k with | .array x _ => x == comp | _ => false))) ?_
  funext c
  exact AOt_g U.vm (fun k => match k with | .array _ ty => decide (ty = FieldType.array t) && decide (U.vm.findClass ("[" ++ (FieldType.array t).toString) = some c) | _ => false) c
theorem AOt.moved {t : FieldType} {u U : State} (hvm : u.vm.Alike U.vm) (h : AOt (.array t) u) : AOt (.array t) U := by
  rw [AOt_v] at h ⊢
  have e : U.vm.classes.map (fun k => k.kind) = u.vm.classes.map (fun k => k.kind) := by
    rw [AOt_k, AOt_k u.vm]
    first | rw [hvm.bare_eq] | rw [← hvm.bare_eq]
  rw [e]
  simp only [hvm.findClass]
  exact h
abbrev AO2 (U : State) : Prop := AOt (.array .int) U ∧ AOt (.array (.array .int)) U
abbrev aI (G : va_G) (cA c2 c3 : ClassId) (zq b N : Nat) (xs : Nat → Int32) (ws : va_W) (sz : Nat) : State → Prop := fun U => bI G cA c2 c3 zq b N xs ws sz U ∧ AO2 U
theorem aI_blind {av : List Value} {G : va_G} {cA c2 c3 : ClassId} {zq b N : Nat} {xs : Nat → Int32} {ws : va_W} {sz : Nat} : FrameBlind (va_Pc av (aI G cA c2 c3 zq b N xs ws sz)) := by
  intro v U g mk q
  obtain ⟨q0, q1, q2, q3⟩ := q
  exact ⟨q0, (bI_blind (av := av) v U g mk ⟨q0, q1⟩).2, AOt.moved (u := U) (U := U.calling g mk v) (Vm.Alike.refl U.vm) q2, AOt.moved (u := U) (U := U.calling g mk v) (Vm.Alike.refl U.vm) q3⟩
theorem P_sw {G : va_G} {xs ys : va_W} {H : Heap} (h : va_P G vwCl (xs ++ ys) H) : va_P G vwCl (ys ++ xs) H := (P_snd h).app (P_fst h)
theorem D_sw {A : Nat → Prop} {xs ys : va_W} (h : va_D A (xs ++ ys)) : va_D A (ys ++ xs) := va_D.app (D_snd h) (D_fst h) (fun i j p q hi hj e => D_apart h hj hi e.symm)
theorem P_subR {G : va_G} {xs ys ys' : va_W} {H : Heap} (h : va_P G vwCl (xs ++ ys) H) (is : List Nat) (hs : is.filterMap (fun i => ys[i]?) = ys') : va_P G vwCl (xs ++ ys') H := (P_fst h).app ((P_snd h).sub is hs)
theorem D_subR {A : Nat → Prop} {xs ys ys' : va_W} (h : va_D A (xs ++ ys)) (is : List Nat) (hn : va_nd is = true) (hs : is.map (fun i => ys[i]?) = ys'.map some) : va_D A (xs ++ ys') := by
  refine va_D.app (D_fst h) ((D_snd h).sub is hn hs) (fun i j p q hi hj => ?_)
  have h1 : (is.map (fun i => ys[i]?))[j]? = some (some q) := by rw [hs, List.getElem?_map, hj]; rfl
  rw [List.getElem?_map] at h1
  cases hk : is[j]? with
  | none => rw [hk] at h1; simp at h1
  | some k =>
    rw [hk] at h1
    exact D_apart h hi (Option.some.inj h1)
theorem P_mk {G : va_G} {xs ys : va_W} {H : Heap} (h : va_P G vwCl xs H) (h2 : ∀ (k : Nat) (q : Nat × va_E), ys[k]? = some q → va_at G vwCl q H) : va_P G vwCl (xs ++ ys) H := h.app h2
theorem iL_at {Wc t : va_W} (hl : Wc.length = 37) {k : Nat} {x : Nat × va_E} (h : t[k]? = some x) : (Wc ++ t)[37 + k]? = some x := by
  rw [List.getElem?_append_right (by omega), hl, Nat.add_sub_cancel_left]
  exact h
theorem iL_set {Wc t : va_W} (hl : Wc.length = 37) {k : Nat} {x : Nat × va_E} : (Wc ++ t).set (37 + k) x = Wc ++ t.set k x := by
  rw [List.set_append_right _ _ (by omega), hl, Nat.add_sub_cancel_left]
theorem x_set {X : va_W} {x y : Nat × va_E} : (X ++ [x]).set X.length y = X ++ [y] := by
  rw [List.set_append_right _ _ (Nat.le_refl _), Nat.sub_self]
  rfl
section BIW
variable {p : Program} {l : Launch} {e : Env} {R : Room} {s : State} {m : MethodId} {args : Array Value} {below : List Frame} {meth : Method} {c : Code} {H : Heap} {locs : List Loc} {cells slots : Nat} {Q : State → Prop}
variable {cc : ByteArray} {pc : Nat} {ls : Array Slot} {rest : List Value} {G : va_G} {A0 : Nat → Prop} {cA c2 c3 : ClassId} {zq b N : Nat} {xs : Nat → Int32} {a : Nat → Nat} {S S1 : Mm} {L L1 : Int64} {H0 : Heap} {ws wc wr Y : va_W}
/-- cells that are new, one behind another, lie behind a list -/
theorem w_grow {H1 : Heap} {new : va_W} {locs1 : List Loc} (hP : va_P G vwCl ws H) (hD : va_D A0 ws) (hS : va_S A0 H0 H locs) (hA : ∀ q, H0.size ≤ q → A0 q) (hz : H.size ≤ H1.size) (ho : ∀ q : Nat, q < H.size → H1[q]? = H[q]?) (hn : ∀ (i : Nat) (x : Nat × va_E), new[i]? = some x → x.1 = H.size + i ∧ va_at G vwCl x H1) (hl : ∀ q ∈ locs1, q ∈ locs ∨ H.size ≤ q.base) : va_P G vwCl (ws ++ new) H1 ∧ va_D A0 (ws ++ new) ∧ va_S A0 H0 H1 locs1 := by
  have up : ∀ i : Nat, A0 (H.size + i) := fun i => hA _ (Nat.le_trans hS.1 (Nat.le_add_right _ _))
  refine ⟨(hP.kept (fun k x hx => ho x.1 (hP k x hx).lt)).app (fun i x hx => (hn i x hx).2), va_D.app hD ⟨fun i j x y hi hj e => ?_, fun i x hi => ?_⟩ (fun i j x y hi hj e => ?_), Nat.le_trans hS.1 hz, fun q h1 h2 => ?_, fun q hq => ?_⟩
  · have h1 := (hn i x hi).1
    have h2 := (hn j y hj).1
    omega
  · rw [(hn i x hi).1]
    exact up i
  · have h1 := (hP i x hi).lt
    have h2 := (hn j y hj).1
    omega
  · rw [ho q (Nat.lt_of_lt_of_le h1 hS.1)]
    exact hS.2.1 q h1 h2
  · rcases hl q hq with h | h
    · exact hS.2.2 q h
    · exact hA _ (Nat.le_trans hS.1 h)
/-- rows of references to rows of numbers -/
theorem e_newa (hx : p.tables.exec = Jvm.exec) (hb : c.code = cc) {own : String} {index : Nat} (hown : s.vm.findClass own = some m.cls) (hclink : (Cond.classLink own index "[I").before args s = true) (hover : AO2 s) (hK : va_K G vwCl (tyB cA c2 c3) s) (hP : va_P G vwCl ws H) (hD : va_D A0 ws) (hS : va_S A0 H0 H locs) (hA : ∀ q, H0.size ≤ q → A0 q)
    {n : Int32} {N' : Nat} (hn : ¬ n < 0) (hN : n.toNatClampNeg = N') (hbytes : N' * 4 ≤ 536870912) (hcells : cells + 1 ≤ R.cells) (hslots : slots + N' ≤ R.slots) (hdg : decode cc pc = .ok (.anewarray index, 3))
    (kk : ∀ (q : Nat) (H1 : Heap), va_P G vwCl (ws ++ [(q, .inl (c2, N', .inr (.inr (.inr (.inr (fun _ => none))))))]) H1 → va_D A0 (ws ++ [(q, .inl (c2, N', .inr (.inr (.inr (.inr (fun _ => none))))))]) → va_S A0 H0 H1 locs →
      W p l e R s m args below meth c H1 locs (cells + 1) (slots + N') Q (F0 m (pc + 3) ls (.ref q :: rest))) : W p l e R s m args below meth c H locs cells slots Q (F0 m pc ls (.int n :: rest)) := by
  subst hN
  refine W.anewA (t := .int) (g := F0 m pc ls (.int n :: rest)) hx hb hown hclink (AOt.use hover.1) rfl hdg rfl hn hbytes hcells hslots fun cQ kA comp f1 f2 f3 f4 => ?_
  have e2 : cQ = c2 := by
    have h1 : va_RA s c2 (.array .int) := (hK.2 1 _ rfl).2
    have h1 : s.vm.findClass ("[" ++ (FieldType.array .int).toString) = some c2 := h1
    exact Option.some.inj (f1.symm.trans h1)
  rw [e2]
  have hc : va_at G vwCl (H.size, .inl (c2, n.toNatClampNeg, .inr (.inr (.inr (.inr (fun _ => none)))))) (H.push { cls := c2, slots := Array.replicate n.toNatClampNeg .null, vm := .none }) := by
    show (H.push _)[H.size]? = some (vp_cell _ _)
    rw [vp_cell_q, Array.getElem?_push_size]
    exact congrArg some (arrV_new _ _ _)
  obtain ⟨k1, k2, k3⟩ := w_grow (H1 := H.push { cls := c2, slots := Array.replicate n.toNatClampNeg .null, vm := .none }) (new := [(H.size, .inl (c2, n.toNatClampNeg, .inr (.inr (.inr (.inr (fun _ => none))))))]) (locs1 := locs) hP hD hS hA (by rw [Array.size_push]; exact Nat.le_succ _) (fun q hq => by rw [Array.getElem?_push, if_neg (Nat.ne_of_lt hq)]) (fun i x hx => by
    match i, hx with
    | 0, hx => cases hx; exact ⟨rfl, hc⟩
    | i + 1, hx => exact absurd (List.getElem?_eq_some_iff.mp hx).1 (by show ¬ i + 1 < 1; omega)) (fun q hq => Or.inl hq)
  exact kk H.size _ k1 k2 k3
/-- three rows of eight rows -/
theorem e_newm (hx : p.tables.exec = Jvm.exec) (hb : c.code = cc) {own : String} {index : Nat} (hown : s.vm.findClass own = some m.cls) (hclink : (Cond.classLink own index "[[[I").before args s = true) (hover : AO2 s) (hK : va_K G vwCl (tyB cA c2 c3) s) (hP : va_P G vwCl ws H) (hD : va_D A0 ws) (hS : va_S A0 H0 H locs) (hA : ∀ q, H0.size ≤ q → A0 q)
    (hcells : cells + 4 ≤ R.cells) (hslots : slots + 27 ≤ R.slots) (hdg : decode cc pc = .ok (.multianewarray index 2, 4))
    (kk : ∀ (q : Nat) (H1 : Heap) (locs1 : List Loc), va_P G vwCl (ws ++ [(q, .inl (c3, 3, .inr (.inr (.inr (.inr (fun t => some (q + 1 + t))))))), (q + 1, .inl (c2, 8, .inr (.inr (.inr (.inr (fun _ => none)))))), (q + 1 + 1, .inl (c2, 8, .inr (.inr (.inr (.inr (fun _ => none)))))), (q + 1 + 2, .inl (c2, 8, .inr (.inr (.inr (.inr (fun _ => none))))))]) H1 → va_D A0 (ws ++ [(q, .inl (c3, 3, .inr (.inr (.inr (.inr (fun t => some (q + 1 + t))))))), (q + 1, .inl (c2, 8, .inr (.inr (.inr (.inr (fun _ => none)))))), (q + 1 + 1, .inl (c2, 8, .inr (.inr (.inr (.inr (fun _ => none)))))), (q + 1 + 2, .inl (c2, 8, .inr (.inr (.inr (.inr (fun _ => none))))))]) → va_S A0 H0 H1 locs1 →
      W p l e R s m args below meth c H1 locs1 (cells + 4) (slots + 27) Q (F0 m (pc + 4) ls (.ref q :: rest))) : W p l e R s m args below meth c H locs cells slots Q (F0 m pc ls (.int 8 :: .int 3 :: rest)) := by
  refine mn_W (g := F0 m pc ls (.int 8 :: .int 3 :: rest)) hx hb hown hclink (AOt.use hover.2) (AOt.use hover.1) rfl hdg rfl hcells hslots fun d3 d2 H1 hk3 f3 f2 z1 o1 e0 e1 => ?_
  have x2 : d2 = c2 := by
    have h1 : va_RA s c2 (.array .int) := (hK.2 1 _ rfl).2
    have h1 : s.vm.findClass ("[" ++ (FieldType.array .int).toString) = some c2 := h1
    exact Option.some.inj (f2.symm.trans h1)
  have x3 : d3 = c3 := by
    have h1 : va_RA s c3 (.array (.array .int)) := (hK.2 2 _ rfl).2
    have h1 : s.vm.findClass ("[" ++ (FieldType.array (.array .int)).toString) = some c3 := h1
    exact Option.some.inj (f3.symm.trans h1)
  rw [x2] at e1
  rw [x3] at e0
  obtain ⟨k1, k2, k3⟩ := w_grow (new := [(H.size, .inl (c3, 3, .inr (.inr (.inr (.inr (fun t => some (H.size + 1 + t))))))), (H.size + 1, .inl (c2, 8, .inr (.inr (.inr (.inr (fun _ => none)))))), (H.size + 1 + 1, .inl (c2, 8, .inr (.inr (.inr (.inr (fun _ => none)))))), (H.size + 1 + 2, .inl (c2, 8, .inr (.inr (.inr (.inr (fun _ => none))))))]) (locs1 := locs ++ [⟨H.size, 0⟩, ⟨H.size, 1⟩, ⟨H.size, 2⟩]) hP hD hS hA (by omega) o1 (fun i x hx => by
    match i, hx with
    | 0, hx => cases hx; refine ⟨rfl, ?_⟩; show H1[H.size]? = some (vp_cell _ _); rw [vp_cell_q]; exact e0
    | 1, hx => cases hx; refine ⟨rfl, ?_⟩; show H1[H.size + 1]? = some (vp_cell _ _); rw [vp_cell_q]; exact e1 0 (by decide)
    | 2, hx => cases hx; refine ⟨rfl, ?_⟩; show H1[H.size + 1 + 1]? = some (vp_cell _ _); rw [vp_cell_q]; exact e1 1 (by decide)
    | 3, hx => cases hx; refine ⟨rfl, ?_⟩; show H1[H.size + 1 + 2]? = some (vp_cell _ _); rw [vp_cell_q]; exact e1 2 (by decide)
    | i + 4, hx => exact absurd (List.getElem?_eq_some_iff.mp hx).1 (by show ¬ i + 4 < 4; omega)) (fun q hq => by
    rcases List.mem_append.mp hq with hq | hq
    · exact Or.inl hq
    · simp only [List.mem_cons, List.mem_nil_iff, or_false] at hq
      rcases hq with rfl | rfl | rfl <;> exact Or.inr (Nat.le_refl _))
  exact kk H.size H1 _ k1 k2 k3
end BIW

def f12 : Nat → Int32 := (upd (upd (upd (upd (upd (upd (upd (upd (upd (upd (upd (upd (fun _ => 0) 0 0) 1 0) 2 0) 3 0) 4 10) 5 10) 6 1000) 7 10) 8 128) 9 256) 10 0) 11 64)
def f11 : Nat → Int32 := (upd (upd (upd (upd (upd (upd (upd (upd (upd (upd (upd (fun _ => 0) 0 0) 1 0) 2 0) 3 0) 4 0) 5 0) 6 0) 7 0) 8 0) 9 (-1)) 10 (-1))
abbrev wsBi : List Cond := wsX10_init ++ [.classLink RX10 38 "[[[I"]
theorem gBi : GoodIn wsBi wsX9_init := fun w h => ⟨List.mem_append_left _ (gX10_init_X9_init w h).1, (gX10_init_X9_init w h).2⟩
theorem iX10_init_X10 : ∀ w ∈ u_ws RX10 TX10 22, w ∈ wsBi := by decide +kernel
section BIP
variable {p : Program} {l : Launch} {e : Env} {R : Room} {s : State} {m : MethodId} {args : Array Value} {below : List Frame} {meth : Method} {c : Code} {H : Heap} {locs : List Loc} {cells slots : Nat} {Q : State → Prop}
variable {ls : Array Slot} {rest : List Value} {G : va_G} {A0 : Nat → Prop} {cA c2 c3 : ClassId} {zq b N : Nat} {xs : Nat → Int32} {H0 : Heap} {ws Wc : va_W}
theorem f12_W (hx : p.tables.exec = Jvm.exec) (hb : c.code = cX10_init) (hts : ∀ w ∈ wsBi, w.before args s = true) (hK : KB G cA c2 c3 zq b N xs A0 s) (hP : va_P G vwCl ws H) (hD : va_D A0 ws) (hS : va_S A0 H0 H locs) (hA : ∀ q, H0.size ≤ q → A0 q) (hcells : cells + 1 ≤ R.cells) (hslots : slots + 12 ≤ R.slots)
    (kk : ∀ (q : Nat) (H1 : Heap) (locs1 : List Loc), va_P G vwCl (ws ++ [(q, .inl (cA, 12, .inl f12))]) H1 → va_D A0 (ws ++ [(q, .inl (cA, 12, .inl f12))]) → va_S A0 H0 H1 locs1 → W p l e R s m args below meth c H1 locs1 (cells + 1) (slots + 12) Q (F0 m 173 ls (.ref q :: rest))) : W p l e R s m args below meth c H locs cells slots Q (F0 m 105 ls rest) := by
  refine lv_bipush (v := 12) hx hb dX10_init_105 (by decide) ?_
  refine va_newa (atype := .int) (ty := .int) (N' := 12) (a0 := (12, .inl (fun _ => 0))) hx hb (hts (.arrayClass .int) (by decide +kernel)) rfl hK.1.1 hP hD hS hA (fun _ => rfl) (by decide) (by decide) (by decide) hcells hslots dX10_init_107 (fun q9 cQ H hKx hP hD hS => ?_)
  have eQ := cQ_eq2 hKx
  rw [eQ] at hP hD
  refine lv_dup hx hb dX10_init_109 rfl ?_
  refine lv_iconst (v := 0) hx hb dX10_init_110 (by decide) ?_
  refine lv_iconst (v := 0) hx hb dX10_init_111 (by decide) ?_
  refine s_ist hx hb hK.2.1 hP hD hS x_last (vp_in_lit (by decide)) (j := 0) (by decide) dX10_init_112 (fun H locs hP hD hS => ?_)
  rw [x_set] at hP hD
  refine lv_dup hx hb dX10_init_113 rfl ?_
  refine lv_iconst (v := 1) hx hb dX10_init_114 (by decide) ?_
  refine lv_iconst (v := 0) hx hb dX10_init_115 (by decide) ?_
  refine s_ist hx hb hK.2.1 hP hD hS x_last (vp_in_lit (by decide)) (j := 1) (by decide) dX10_init_116 (fun H locs hP hD hS => ?_)
  rw [x_set] at hP hD
  refine lv_dup hx hb dX10_init_117 rfl ?_
  refine lv_iconst (v := 2) hx hb dX10_init_118 (by decide) ?_
  refine lv_iconst (v := 0) hx hb dX10_init_119 (by decide) ?_
  refine s_ist hx hb hK.2.1 hP hD hS x_last (vp_in_lit (by decide)) (j := 2) (by decide) dX10_init_120 (fun H locs hP hD hS => ?_)
  rw [x_set] at hP hD
  refine lv_dup hx hb dX10_init_121 rfl ?_
  refine lv_iconst (v := 3) hx hb dX10_init_122 (by decide) ?_
  refine lv_iconst (v := 0) hx hb dX10_init_123 (by decide) ?_
  refine s_ist hx hb hK.2.1 hP hD hS x_last (vp_in_lit (by decide)) (j := 3) (by decide) dX10_init_124 (fun H locs hP hD hS => ?_)
  rw [x_set] at hP hD
  refine lv_dup hx hb dX10_init_125 rfl ?_
  refine lv_iconst (v := 4) hx hb dX10_init_126 (by decide) ?_
  refine lv_bipush (v := 10) hx hb dX10_init_127 (by decide) ?_
  refine s_ist hx hb hK.2.1 hP hD hS x_last (vp_in_lit (by decide)) (j := 4) (by decide) dX10_init_129 (fun H locs hP hD hS => ?_)
  rw [x_set] at hP hD
  refine lv_dup hx hb dX10_init_130 rfl ?_
  refine lv_iconst (v := 5) hx hb dX10_init_131 (by decide) ?_
  refine lv_bipush (v := 10) hx hb dX10_init_132 (by decide) ?_
  refine s_ist hx hb hK.2.1 hP hD hS x_last (vp_in_lit (by decide)) (j := 5) (by decide) dX10_init_134 (fun H locs hP hD hS => ?_)
  rw [x_set] at hP hD
  refine lv_dup hx hb dX10_init_135 rfl ?_
  refine lv_bipush (v := 6) hx hb dX10_init_136 (by decide) ?_
  refine lv_sipush (v := 1000) hx hb dX10_init_138 (by decide) ?_
  refine s_ist hx hb hK.2.1 hP hD hS x_last (vp_in_lit (by decide)) (j := 6) (by decide) dX10_init_141 (fun H locs hP hD hS => ?_)
  rw [x_set] at hP hD
  refine lv_dup hx hb dX10_init_142 rfl ?_
  refine lv_bipush (v := 7) hx hb dX10_init_143 (by decide) ?_
  refine lv_bipush (v := 10) hx hb dX10_init_145 (by decide) ?_
  refine s_ist hx hb hK.2.1 hP hD hS x_last (vp_in_lit (by decide)) (j := 7) (by decide) dX10_init_147 (fun H locs hP hD hS => ?_)
  rw [x_set] at hP hD
  refine lv_dup hx hb dX10_init_148 rfl ?_
  refine lv_bipush (v := 8) hx hb dX10_init_149 (by decide) ?_
  refine lv_sipush (v := 128) hx hb dX10_init_151 (by decide) ?_
  refine s_ist hx hb hK.2.1 hP hD hS x_last (vp_in_lit (by decide)) (j := 8) (by decide) dX10_init_154 (fun H locs hP hD hS => ?_)
  rw [x_set] at hP hD
  refine lv_dup hx hb dX10_init_155 rfl ?_
  refine lv_bipush (v := 9) hx hb dX10_init_156 (by decide) ?_
  refine lv_sipush (v := 256) hx hb dX10_init_158 (by decide) ?_
  refine s_ist hx hb hK.2.1 hP hD hS x_last (vp_in_lit (by decide)) (j := 9) (by decide) dX10_init_161 (fun H locs hP hD hS => ?_)
  rw [x_set] at hP hD
  refine lv_dup hx hb dX10_init_162 rfl ?_
  refine lv_bipush (v := 10) hx hb dX10_init_163 (by decide) ?_
  refine lv_iconst (v := 0) hx hb dX10_init_165 (by decide) ?_
  refine s_ist hx hb hK.2.1 hP hD hS x_last (vp_in_lit (by decide)) (j := 10) (by decide) dX10_init_166 (fun H locs hP hD hS => ?_)
  rw [x_set] at hP hD
  refine lv_dup hx hb dX10_init_167 rfl ?_
  refine lv_bipush (v := 11) hx hb dX10_init_168 (by decide) ?_
  refine lv_bipush (v := 64) hx hb dX10_init_170 (by decide) ?_
  refine s_ist hx hb hK.2.1 hP hD hS x_last (vp_in_lit (by decide)) (j := 11) (by decide) dX10_init_172 (fun H locs hP hD hS => ?_)
  rw [x_set] at hP hD
  exact kk q9 H locs hP hD hS
theorem f11_W (hx : p.tables.exec = Jvm.exec) (hb : c.code = cX10_init) (hts : ∀ w ∈ wsBi, w.before args s = true) (hK : KB G cA c2 c3 zq b N xs A0 s) (hP : va_P G vwCl ws H) (hD : va_D A0 ws) (hS : va_S A0 H0 H locs) (hA : ∀ q, H0.size ≤ q → A0 q) (hcells : cells + 1 ≤ R.cells) (hslots : slots + 11 ≤ R.slots)
    (kk : ∀ (q : Nat) (H1 : Heap) (locs1 : List Loc), va_P G vwCl (ws ++ [(q, .inl (cA, 11, .inl f11))]) H1 → va_D A0 (ws ++ [(q, .inl (cA, 11, .inl f11))]) → va_S A0 H0 H1 locs1 → W p l e R s m args below meth c H1 locs1 (cells + 1) (slots + 11) Q (F0 m 228 ls (.ref q :: rest))) : W p l e R s m args below meth c H locs cells slots Q (F0 m 175 ls rest) := by
  refine lv_bipush (v := 11) hx hb dX10_init_175 (by decide) ?_
  refine va_newa (atype := .int) (ty := .int) (N' := 11) (a0 := (11, .inl (fun _ => 0))) hx hb (hts (.arrayClass .int) (by decide +kernel)) rfl hK.1.1 hP hD hS hA (fun _ => rfl) (by decide) (by decide) (by decide) hcells hslots dX10_init_177 (fun q9 cQ H hKx hP hD hS => ?_)
  have eQ := cQ_eq2 hKx
  rw [eQ] at hP hD
  refine lv_dup hx hb dX10_init_179 rfl ?_
  refine lv_iconst (v := 0) hx hb dX10_init_180 (by decide) ?_
  refine lv_iconst (v := 0) hx hb dX10_init_181 (by decide) ?_
  refine s_ist hx hb hK.2.1 hP hD hS x_last (vp_in_lit (by decide)) (j := 0) (by decide) dX10_init_182 (fun H locs hP hD hS => ?_)
  rw [x_set] at hP hD
  refine lv_dup hx hb dX10_init_183 rfl ?_
  refine lv_iconst (v := 1) hx hb dX10_init_184 (by decide) ?_
  refine lv_iconst (v := 0) hx hb dX10_init_185 (by decide) ?_
  refine s_ist hx hb hK.2.1 hP hD hS x_last (vp_in_lit (by decide)) (j := 1) (by decide) dX10_init_186 (fun H locs hP hD hS => ?_)
  rw [x_set] at hP hD
  refine lv_dup hx hb dX10_init_187 rfl ?_
  refine lv_iconst (v := 2) hx hb dX10_init_188 (by decide) ?_
  refine lv_iconst (v := 0) hx hb dX10_init_189 (by decide) ?_
  refine s_ist hx hb hK.2.1 hP hD hS x_last (vp_in_lit (by decide)) (j := 2) (by decide) dX10_init_190 (fun H locs hP hD hS => ?_)
  rw [x_set] at hP hD
  refine lv_dup hx hb dX10_init_191 rfl ?_
  refine lv_iconst (v := 3) hx hb dX10_init_192 (by decide) ?_
  refine lv_iconst (v := 0) hx hb dX10_init_193 (by decide) ?_
  refine s_ist hx hb hK.2.1 hP hD hS x_last (vp_in_lit (by decide)) (j := 3) (by decide) dX10_init_194 (fun H locs hP hD hS => ?_)
  rw [x_set] at hP hD
  refine lv_dup hx hb dX10_init_195 rfl ?_
  refine lv_iconst (v := 4) hx hb dX10_init_196 (by decide) ?_
  refine lv_iconst (v := 0) hx hb dX10_init_197 (by decide) ?_
  refine s_ist hx hb hK.2.1 hP hD hS x_last (vp_in_lit (by decide)) (j := 4) (by decide) dX10_init_198 (fun H locs hP hD hS => ?_)
  rw [x_set] at hP hD
  refine lv_dup hx hb dX10_init_199 rfl ?_
  refine lv_iconst (v := 5) hx hb dX10_init_200 (by decide) ?_
  refine lv_iconst (v := 0) hx hb dX10_init_201 (by decide) ?_
  refine s_ist hx hb hK.2.1 hP hD hS x_last (vp_in_lit (by decide)) (j := 5) (by decide) dX10_init_202 (fun H locs hP hD hS => ?_)
  rw [x_set] at hP hD
  refine lv_dup hx hb dX10_init_203 rfl ?_
  refine lv_bipush (v := 6) hx hb dX10_init_204 (by decide) ?_
  refine lv_iconst (v := 0) hx hb dX10_init_206 (by decide) ?_
  refine s_ist hx hb hK.2.1 hP hD hS x_last (vp_in_lit (by decide)) (j := 6) (by decide) dX10_init_207 (fun H locs hP hD hS => ?_)
  rw [x_set] at hP hD
  refine lv_dup hx hb dX10_init_208 rfl ?_
  refine lv_bipush (v := 7) hx hb dX10_init_209 (by decide) ?_
  refine lv_iconst (v := 0) hx hb dX10_init_211 (by decide) ?_
  refine s_ist hx hb hK.2.1 hP hD hS x_last (vp_in_lit (by decide)) (j := 7) (by decide) dX10_init_212 (fun H locs hP hD hS => ?_)
  rw [x_set] at hP hD
  refine lv_dup hx hb dX10_init_213 rfl ?_
  refine lv_bipush (v := 8) hx hb dX10_init_214 (by decide) ?_
  refine lv_iconst (v := 0) hx hb dX10_init_216 (by decide) ?_
  refine s_ist hx hb hK.2.1 hP hD hS x_last (vp_in_lit (by decide)) (j := 8) (by decide) dX10_init_217 (fun H locs hP hD hS => ?_)
  rw [x_set] at hP hD
  refine lv_dup hx hb dX10_init_218 rfl ?_
  refine lv_bipush (v := 9) hx hb dX10_init_219 (by decide) ?_
  refine lv_iconst (v := (-1)) hx hb dX10_init_221 (by decide) ?_
  refine s_ist hx hb hK.2.1 hP hD hS x_last (vp_in_lit (by decide)) (j := 9) (by decide) dX10_init_222 (fun H locs hP hD hS => ?_)
  rw [x_set] at hP hD
  refine lv_dup hx hb dX10_init_223 rfl ?_
  refine lv_bipush (v := 10) hx hb dX10_init_224 (by decide) ?_
  refine lv_iconst (v := (-1)) hx hb dX10_init_226 (by decide) ?_
  refine s_ist hx hb hK.2.1 hP hD hS x_last (vp_in_lit (by decide)) (j := 10) (by decide) dX10_init_227 (fun H locs hP hD hS => ?_)
  rw [x_set] at hP hD
  exact kk q9 H locs hP hD hS
/-- what is made beside the class -/
abbrev bF (m0 b qd qi qv qk qt qw qh : Nat) (d0 : Int32) : List Value := [.ref m0, .ref b, .int d0, .ref qd, .ref qi, .ref qv, .int 0, .int 0, .int 64, .int 0, .int 0, .ref qk, .ref qt, .ref qw, .int 20, .int 0, .int (-1), .int 0, .int 0, .int 0, .int 0, .ref qh]
abbrev tB (cA c2 c3 : ClassId) (h0 m0 b qd qi qv qk qt qw qh : Nat) (d0 : Int32) (fi fv : Nat → Option Nat) (acc : va_W) : va_W := [(h0, .inr (10, bF m0 b qd qi qv qk qt qw qh d0)), (qd, .inl (cA, 32, .inl (fun _ => 0))), (qi, .inl (c2, 4, .inr (.inr (.inr (.inr fi))))), (qv, .inl (c2, 4, .inr (.inr (.inr (.inr fv))))), (qk, .inl (cA, 0, .inl (fun _ => 0))), (qt, .inl (cA, 3, .inl (fun _ => 0))), (qw, .inl (c3, 3, .inr (.inr (.inr (.inr (fun t => some (qw + 1 + t))))))), (qw + 1, .inl (c2, 8, .inr (.inr (.inr (.inr (fun _ => none)))))), (qw + 1 + 1, .inl (c2, 8, .inr (.inr (.inr (.inr (fun _ => none)))))), (qw + 1 + 2, .inl (c2, 8, .inr (.inr (.inr (.inr (fun _ => none)))))), (qh, .inl (cA, 0, .inl (fun _ => 0)))] ++ acc
theorem tB_acc {h0 m0 qd qi qv qk qt qw qh : Nat} {d0 : Int32} {fi fv : Nat → Option Nat} {acc z : va_W} : Wc ++ tB cA c2 c3 h0 m0 b qd qi qv qk qt qw qh d0 fi fv acc ++ z = Wc ++ tB cA c2 c3 h0 m0 b qd qi qv qk qt qw qh d0 fi fv (acc ++ z) := by
  rw [List.append_assoc]
  unfold tB
  rw [List.append_assoc]
theorem tB_last {h0 m0 qd qi qv qk qt qw qh : Nat} {d0 : Int32} {fi fv : Nat → Option Nat} {acc : va_W} {k : Nat} {x : Nat × va_E} (h : acc[k]? = some x) : (tB cA c2 c3 h0 m0 b qd qi qv qk qt qw qh d0 fi fv acc)[11 + k]? = some x := by
  unfold tB
  rw [List.getElem?_append_right (by show 11 ≤ 11 + k; omega)]
  show acc[11 + k - 11]? = _
  rw [Nat.add_sub_cancel_left]
  exact h
/-- a turn of the constructor's loop -/
theorem bi_turn (hx : p.tables.exec = Jvm.exec) (hb : c.code = cX10_init) (hown : s.vm.findClass RX10 = some m.cls) (hts : ∀ w ∈ wsBi, w.before args s = true) (hlc : Wc.length = 37) (hK : KB G cA c2 c3 zq b N xs A0 s) {h0 m0 qd qi qv qk qt qw qh : Nat} {d0 : Int32} {fi fv : Nat → Option Nat} {acc : va_W} {i : Nat} (hi : i < 4) (hP : va_P G vwCl (Wc ++ tB cA c2 c3 h0 m0 b qd qi qv qk qt qw qh d0 fi fv acc) H) (hD : va_D A0 (Wc ++ tB cA c2 c3 h0 m0 b qd qi qv qk qt qw qh d0 fi fv acc)) (hS : va_S A0 H0 H locs) (hA : ∀ q, H0.size ≤ q → A0 q) (hcells : cells + 2 ≤ R.cells) (hslots : slots + 23 ≤ R.slots) {v2 : Int32} {b0 : Nat} (hl : lv_has ls 6 [(3, .int (nI i)), (0, .ref h0), (1, .ref b0), (2, .int v2)])
    (kk : ∀ (q1 q2 : Nat) (H1 : Heap) (locs1 : List Loc) (ls1 : Array Slot), va_P G vwCl (Wc ++ tB cA c2 c3 h0 m0 b qd qi qv qk qt qw qh d0 (va_up fi i (some q1)) (va_up fv i (some q2)) (acc ++ [(q1, .inl (cA, 12, .inl f12))] ++ [(q2, .inl (cA, 11, .inl f11))])) H1 → va_D A0 (Wc ++ tB cA c2 c3 h0 m0 b qd qi qv qk qt qw qh d0 (va_up fi i (some q1)) (va_up fv i (some q2)) (acc ++ [(q1, .inl (cA, 12, .inl f12))] ++ [(q2, .inl (cA, 11, .inl f11))])) → va_S A0 H0 H1 locs1 → lv_has ls1 6 [(3, .int (nI (i + 1))), (0, .ref h0), (1, .ref b0), (2, .int v2)] → W p l e R s m args below meth c H1 locs1 (cells + 2) (slots + 23) Q (F0 m 100 ls1 [])) : W p l e R s m args below meth c H locs cells slots Q (F0 m 100 ls []) := by
  have hin : vp_in (nI i) 4 := vp_in_nI hi (by decide)
  have hcl : (nI i).toNatClampNeg = i := nI_clamp (by omega)
  refine lv_iload_n hx hb dX10_init_100 rfl (lv_at hl 0 rfl) ?_
  refine lv_iconst (v := 4) hx hb dX10_init_101 (by decide) ?_
  refine lv_icmp_ge (tgt := 252) hx hb dX10_init_102 (by decide) (fun h9 => ?_) (fun _ => ?_)
  · exact absurd h9 (by
      rw [Int32.le_iff_toInt_le, nI_toInt (by omega)]
      have : (4 : Int32).toInt = 4 := by decide
      omega)
  refine f12_W hx hb hts hK hP hD hS hA (by omega) (by omega) (fun q1 H locs hP hD hS => ?_)
  rw [tB_acc] at hP hD
  refine lv_astore (lv' := [(4, .ref q1), (3, .int (nI i)), (0, .ref h0), (1, .ref b0), (2, .int v2)]) hx hb dX10_init_173 hl (by decide) rfl (fun ls hl => ?_)
  refine f11_W hx hb hts hK hP hD hS hA (by omega) (by omega) (fun q2 H locs hP hD hS => ?_)
  rw [tB_acc] at hP hD
  refine lv_astore (lv' := [(5, .ref q2), (4, .ref q1), (3, .int (nI i)), (0, .ref h0), (1, .ref b0), (2, .int v2)]) hx hb dX10_init_228 hl (by decide) rfl (fun ls hl => ?_)
  refine lv_aload_n hx hb dX10_init_230 rfl (lv_at hl 3 rfl) ?_
  refine va_get (D := G) (ci := 10) (v := .ref qi) (C := RX10) (T := TX10) (N := 22) hx hb hts iX10_init_X10 hown hK.1.1 hP (37 + 0) (iL_at hlc rfl) rfl 4 (by decide) (hts (.fieldLink RX10 21 "MelodeonLaw$Bench" "instrument" "[[I") (by decide +kernel)) (fun _ h9 => h9) rfl dX10_init_231 ?_
  refine lv_iload_n hx hb dX10_init_234 rfl (lv_at hl 2 rfl) ?_
  refine lv_aload hx hb dX10_init_235 (lv_at hl 1 rfl) ?_
  refine e_aast hx hb hK.2.2.2.2 hP hD hS (37 + 2) (37 + (11 + acc.length)) (n := 4) (x := (12, .inl f12)) (iL_at hlc rfl) (iL_at hlc (tB_last (by simp))) hin dX10_init_237 (fun H locs hP hD hS => ?_)
  rw [iL_set hlc, hcl] at hP hD
  have hP : va_P G vwCl (Wc ++ tB cA c2 c3 h0 m0 b qd qi qv qk qt qw qh d0 (va_up fi i (some q1)) fv (acc ++ [(q1, .inl (cA, 12, .inl f12))] ++ [(q2, .inl (cA, 11, .inl f11))])) H := hP
  have hD : va_D A0 (Wc ++ tB cA c2 c3 h0 m0 b qd qi qv qk qt qw qh d0 (va_up fi i (some q1)) fv (acc ++ [(q1, .inl (cA, 12, .inl f12))] ++ [(q2, .inl (cA, 11, .inl f11))])) := hD
  refine lv_aload_n hx hb dX10_init_238 rfl (lv_at hl 3 rfl) ?_
  refine va_get (D := G) (ci := 10) (v := .ref qv) (C := RX10) (T := TX10) (N := 22) hx hb hts iX10_init_X10 hown hK.1.1 hP (37 + 0) (iL_at hlc rfl) rfl 5 (by decide) (hts (.fieldLink RX10 25 "MelodeonLaw$Bench" "voice" "[[I") (by decide +kernel)) (fun _ h9 => h9) rfl dX10_init_239 ?_
  refine lv_iload_n hx hb dX10_init_242 rfl (lv_at hl 2 rfl) ?_
  refine lv_aload hx hb dX10_init_243 (lv_at hl 0 rfl) ?_
  refine e_aast hx hb hK.2.2.2.2 hP hD hS (37 + 3) (37 + (11 + (acc ++ [((q1, .inl (cA, 12, .inl f12)) : Nat × va_E)]).length)) (n := 4) (x := (11, .inl f11)) (iL_at hlc rfl) (iL_at hlc (tB_last (by simp))) hin dX10_init_245 (fun H locs hP hD hS => ?_)
  rw [iL_set hlc, hcl] at hP hD
  have hP : va_P G vwCl (Wc ++ tB cA c2 c3 h0 m0 b qd qi qv qk qt qw qh d0 (va_up fi i (some q1)) (va_up fv i (some q2)) (acc ++ [(q1, .inl (cA, 12, .inl f12))] ++ [(q2, .inl (cA, 11, .inl f11))])) H := hP
  have hD : va_D A0 (Wc ++ tB cA c2 c3 h0 m0 b qd qi qv qk qt qw qh d0 (va_up fi i (some q1)) (va_up fv i (some q2)) (acc ++ [(q1, .inl (cA, 12, .inl f12))] ++ [(q2, .inl (cA, 11, .inl f11))])) := hD
  refine lv_iinc (k := 2) (v := nI (i + 1)) (lv' := [(3, .int (nI (i + 1))), (5, .ref q2), (4, .ref q1), (0, .ref h0), (1, .ref b0), (2, .int v2)]) hx hb dX10_init_246 hl rfl (by rw [show Int32.ofInt 1 = nI 1 from rfl]; exact nI_add i 1) (by decide) rfl (fun ls hl => ?_)
  refine lv_goto (tgt := 100) hx hb dX10_init_249 (by decide) ?_
  have e1 : slots + 12 + 11 = slots + 23 := by omega
  rw [e1]
  refine kk q1 q2 H locs ls hP hD hS ?_
  exact lv_sub hl [0, 3, 4, 5] rfl
end BIP
def B0 (d0 : Int32) : Mm := fun o k => match o with
  | 0 => (match k with | 2 => d0 | 8 => 64 | 14 => 20 | 16 => -1 | _ => 0)
  | 3 => f12 k
  | 4 => f12 k
  | 5 => f12 k
  | 6 => f12 k
  | _ => 0
abbrev a38 (z : Nat) (b : Nat → Nat) : Nat → Nat := fun k => if k = 37 then z else b k
theorem a38_z {z : Nat} {b : Nat → Nat} : a38 z b 37 = z := if_pos rfl
theorem a38_n {z : Nat} {b : Nat → Nat} {k : Nat} (h : k < 37) : a38 z b k = b k := if_neg (by omega)
theorem cM_ext {a a' : Nat → Nat} {cA : ClassId} {r : Nat → Int32} {L : Int64} (h : ∀ k, k < 37 → a' k = a k) : ∀ o, o < 37 → cM a' cA o r L = cM a cA o r L := by
  intro o ho
  match o, ho with
  | 0, _ =>
    show (.inr (9, [.ref (a' 1), .ref (a' 18), .ref (a' 26), .ref (a' 34)]) : va_E) = .inr (9, [.ref (a 1), .ref (a 18), .ref (a 26), .ref (a 34)])
    rw [h 1 (by decide), h 18 (by decide), h 26 (by decide), h 34 (by decide)]
  | 1, _ =>
    show (.inr (5, [.ref (a' 2), .ref (a' 5), .int (r 2), .ref (a' 14), .ref (a' 15), .ref (a' 16), .ref (a' 17)]) : va_E) = .inr (5, [.ref (a 2), .ref (a 5), .int (r 2), .ref (a 14), .ref (a 15), .ref (a 16), .ref (a 17)])
    rw [h 2 (by decide), h 5 (by decide), h 14 (by decide), h 15 (by decide), h 16 (by decide), h 17 (by decide)]
  | 2, _ =>
    show (.inr (8, [.ref (a' 3)]) : va_E) = .inr (8, [.ref (a 3)])
    rw [h 3 (by decide)]
  | 3, _ =>
    show (.inr (3, [.ref (a' 4)]) : va_E) = .inr (3, [.ref (a 4)])
    rw [h 4 (by decide)]
  | 4, _ => rfl
  | 5, _ =>
    show (.inr (4, [.ref (a' 6), .ref (a' 8), .ref (a' 10), .ref (a' 12), .int (r 4), .int (r 5)]) : va_E) = .inr (4, [.ref (a 6), .ref (a 8), .ref (a 10), .ref (a 12), .int (r 4), .int (r 5)])
    rw [h 6 (by decide), h 8 (by decide), h 10 (by decide), h 12 (by decide)]
  | 6, _ =>
    show (.inr (3, [.ref (a' 7)]) : va_E) = .inr (3, [.ref (a 7)])
    rw [h 7 (by decide)]
  | 7, _ => rfl
  | 8, _ =>
    show (.inr (3, [.ref (a' 9)]) : va_E) = .inr (3, [.ref (a 9)])
    rw [h 9 (by decide)]
  | 9, _ => rfl
  | 10, _ =>
    show (.inr (3, [.ref (a' 11)]) : va_E) = .inr (3, [.ref (a 11)])
    rw [h 11 (by decide)]
  | 11, _ => rfl
  | 12, _ =>
    show (.inr (3, [.ref (a' 13)]) : va_E) = .inr (3, [.ref (a 13)])
    rw [h 13 (by decide)]
  | 13, _ => rfl
  | 14, _ => rfl
  | 15, _ => rfl
  | 16, _ => rfl
  | 17, _ => rfl
  | 18, _ =>
    show (.inr (6, [.ref (a' 1), .ref (a' 19), .ref (a' 22), .ref (a' 23), .ref (a' 24), .ref (a' 25), .int (r 6), .int (r 7), .int (r 8), .int (r 9), .int (r 10), .int (r 11)]) : va_E) = .inr (6, [.ref (a 1), .ref (a 19), .ref (a 22), .ref (a 23), .ref (a 24), .ref (a 25), .int (r 6), .int (r 7), .int (r 8), .int (r 9), .int (r 10), .int (r 11)])
    rw [h 1 (by decide), h 19 (by decide), h 22 (by decide), h 23 (by decide), h 24 (by decide), h 25 (by decide)]
  | 19, _ =>
    show (.inr (0, [.int (r 0), .int (r 1), .int (r 2), .int (r 3), .ref (a' 20)]) : va_E) = .inr (0, [.int (r 0), .int (r 1), .int (r 2), .int (r 3), .ref (a 20)])
    rw [h 20 (by decide)]
  | 20, _ =>
    show (.inr (3, [.ref (a' 21)]) : va_E) = .inr (3, [.ref (a 21)])
    rw [h 21 (by decide)]
  | 21, _ => rfl
  | 22, _ => rfl
  | 23, _ => rfl
  | 24, _ => rfl
  | 25, _ => rfl
  | 26, _ =>
    show (.inr (6, [.ref (a' 1), .ref (a' 27), .ref (a' 30), .ref (a' 31), .ref (a' 32), .ref (a' 33), .int (r 6), .int (r 7), .int (r 8), .int (r 9), .int (r 10), .int (r 11)]) : va_E) = .inr (6, [.ref (a 1), .ref (a 27), .ref (a 30), .ref (a 31), .ref (a 32), .ref (a 33), .int (r 6), .int (r 7), .int (r 8), .int (r 9), .int (r 10), .int (r 11)])
    rw [h 1 (by decide), h 27 (by decide), h 30 (by decide), h 31 (by decide), h 32 (by decide), h 33 (by decide)]
  | 27, _ =>
    show (.inr (0, [.int (r 0), .int (r 1), .int (r 2), .int (r 3), .ref (a' 28)]) : va_E) = .inr (0, [.int (r 0), .int (r 1), .int (r 2), .int (r 3), .ref (a 28)])
    rw [h 28 (by decide)]
  | 28, _ =>
    show (.inr (3, [.ref (a' 29)]) : va_E) = .inr (3, [.ref (a 29)])
    rw [h 29 (by decide)]
  | 29, _ => rfl
  | 30, _ => rfl
  | 31, _ => rfl
  | 32, _ => rfl
  | 33, _ => rfl
  | 34, _ =>
    show (.inr (2, [.ref (a' 35), .int (r 1), .int (r 2), .int (r 3), .int (r 4), .long L, .int (r 6), .int (r 7)]) : va_E) = .inr (2, [.ref (a 35), .int (r 1), .int (r 2), .int (r 3), .int (r 4), .long L, .int (r 6), .int (r 7)])
    rw [h 35 (by decide)]
  | 35, _ =>
    show (.inr (3, [.ref (a' 36)]) : va_E) = .inr (3, [.ref (a 36)])
    rw [h 36 (by decide)]
  | 36, _ => rfl
  | o + 37, h9 => exact absurd h9 (by omega)
theorem st_w {a a' : Nat → Nat} {cA : ClassId} (h : ∀ k, k < 37 → a' k = a k) : wG 37 a' (cM a' cA) SM0 0 = wG 37 a (cM a cA) SM0 0 := by
  refine List.ext_getElem? (fun k => ?_)
  rcases Nat.lt_or_ge k 37 with hk | hk
  · rw [wG_get hk, wG_get hk, cM_ext h k hk, h k hk]
  · rw [List.getElem?_eq_none (by rw [wG_len]; exact hk), List.getElem?_eq_none (by rw [wG_len]; exact hk)]
theorem at_up {G : va_G} {H : Heap} {q : Nat} {cQ : ClassId} {n : Nat} {f g : Nat → Option Nat} (h : ∀ k, k < n → g k = f k) (hq : va_at G vwCl (q, .inl (cQ, n, .inr (.inr (.inr (.inr f))))) H) : va_at G vwCl (q, .inl (cQ, n, .inr (.inr (.inr (.inr g))))) H := by
  have e : arrV cQ n (fun j => va_rf (g j)) = arrV cQ n (fun j => va_rf (f j)) := by
    unfold arrV
    congr 1
    congr 1
    funext j
    show va_rf (g j.val) = va_rf (f j.val)
    rw [h j.val j.isLt]
  show H[q]? = some (vp_cell _ _)
  rw [vp_cell_q, e, ← vp_cell_q]
  exact hq
/-- the world that the constructor leaves -/
abbrev wB0 (zq : Nat) (cA c2 c3 : ClassId) (b : Nat) (d0 : Int32) (u : Nat → Nat) : va_W := wB (a38 zq (fun k => u (100 + k))) cA c2 c3 u (fun k => u (200 + k)) b (fun _ _ => none) SM0 0 (B0 d0) [(u 211, .inl (cA, 0, .inl (fun _ => 0)))]
abbrev bN : List Value := [.null, .null, .int 0, .null, .null, .null, .int 0, .int 0, .int 0, .int 0, .int 0, .null, .null, .null, .int 0, .int 0, .int 0, .int 0, .int 0, .int 0, .int 0, .null]
set_option maxHeartbeats 16000000 in
set_option maxRecDepth 100000 in
theorem c_X10_init (l : Launch) (G : va_G) (cA c2 c3 : ClassId) (zq b N : Nat) (xs : Nat → Int32) (sz h0 : Nat) (d0 : Int32) : Met l yX10_init wsBi ({ frames := 5, cells := 55, slots := 1033, locals := 109 } : Room) (va_Pc [.ref h0, .ref b, .int d0] (aI G cA c2 c3 zq b N xs [(h0, .inr (10, bN))] sz)) (jQ h0 G (fun u => wB0 zq cA c2 c3 b d0 u) [(h0, .inr (10, bN))] sz) 55 1033 (va_A [(h0, .inr (10, bN))] sz) := by
  refine Met.ofW (cc := cX10_init) (maxL := 6) (ret := none) (by decide) rfl ?_
  intro p e s m args below meth c s₁ B hml hv
  obtain ⟨rfl, ⟨hsz, hP, hK⟩, hAO⟩ := hv
  rw [lg_entry_eq]
  have hl := lv_entry ([.ref h0, .ref b, .int d0]) (n := 6) (Nat.le_of_ble_eq_true rfl)
  generalize (lg_sl ([.ref h0, .ref b, .int d0]) ++ List.replicate (6 - (lg_sl ([.ref h0, .ref b, .int d0])).length) Slot.unset).toArray = ls at hl ⊢
  have hx := B.exec
  have hb := B.bytes
  have hr := B.returns
  have hlocks := B.notSynchronized
  have hts := atoms_spec (ws := wsBi) B.pre
  have hown := findClass_of_methodNamed B.named
  have hnm := (name_of_methodNamed B.named B.method).1
  have hD : va_D (va_A [(h0, .inr (10, bN))] sz) [(h0, .inr (10, bN))] := j_D1 (Or.inl ⟨0, _, rfl⟩)
  have hA : ∀ x : Nat, sz ≤ x → va_A [(h0, .inr (10, bN))] sz x := fun x h => Or.inr h
  subst hsz
  have hS : va_S (va_A [(h0, .inr (10, bN))] s.heap.size) s.heap s.heap [] := va_S.rf
  have hown : s.vm.findClass RX10 = some m.cls := hown
  have hl : lv_has ls 6 [(0, .ref h0), (1, .ref b), (2, .int d0)] := hl
  refine lv_aload_n hx hb dX10_init_0 rfl (lv_at hl 0 rfl) ?_
  refine W.objInit hx hb hown (hts (.methodLink RX10 1 objectInit) (by decide +kernel)) (hts (.instanceMethod objectInit) (by decide +kernel)) (hts (.code objectInit ⟨#[0xb1]⟩ 1 none) (by decide +kernel)) rfl (by rw [hml]; exact hl.1) rfl dX10_init_1 (Nat.le_of_ble_eq_true rfl) (Nat.le_of_ble_eq_true rfl) ?_
  refine W.eq (g2 := F0 m 4 ls []) rfl ?_
  refine lv_aload_n hx hb dX10_init_4 rfl (lv_at hl 0 rfl) ?_
  refine va_new (ci := 9) (fs := [.null, .null, .null, .null]) (C := RX9) (T := TX9) (N := 4) hx hb hts (by decide +kernel) tyX9 tyX9_ok hown (hts (.classLink RX10 7 RX9) (by decide +kernel)) (hts (.instantiable RX9 4) (by decide +kernel)) (hts (.initialized RX9) (by decide +kernel)) hK.1.1 hP hD hS hA rfl (fun j hj => by rcases (show j = 0 ∨ j = 1 ∨ j = 2 ∨ j = 3 by omega) with rfl | rfl | rfl | rfl <;> rfl) (Nat.le_of_ble_eq_true rfl) (Nat.le_of_ble_eq_true rfl) dX10_init_5 (fun q0 H hP hD hS => ?_)
  have hP : va_P G vwCl [(h0, .inr (10, bN)), (q0, .inr (9, [.null, .null, .null, .null]))] H := hP
  have hD : va_D _ [(h0, .inr (10, bN)), (q0, .inr (9, [.null, .null, .null, .null]))] := hD
  refine lv_dup hx hb dX10_init_8 rfl ?_
  refine j_next (wr := [(h0, .inr (10, bN))]) (wl := fun b => wG 37 b (cM b cA) SM0 0) (va_runI (As := []) (rest := [.ref q0, .ref h0]) ⟨hx, hb, hml, hown, hts⟩ (c_X9_init l G cA zq q0 H.size) (cwI 0 hts gBi rfl rfl rfl (hts (.initialized RX9) (by decide +kernel)) (hts (.methodLink RX10 9 yX9_init) (by decide +kernel)) (hts (.instanceMethod yX9_init) (by decide +kernel)) rfl (by decide +kernel) ⟨Nat.le_of_ble_eq_true rfl, Nat.le_of_ble_eq_true rfl⟩) (j_pre hK.1 hP hD hS hA 1 rfl) rfl rfl hl.1 rfl (lv_room (Nat.le_of_ble_eq_true rfl)) dX10_init_9 ⟨Nat.le_of_ble_eq_true rfl, Nat.le_of_ble_eq_true rfl⟩) hP hD hS hA 1 [0] rfl rfl (by decide) (by decide) (fun b1 H locs hq hP hD hS => ?_)
  have hP := P_sw hP
  have hD := D_sw hD
  rw [← hq]
  have hlc : (wG 37 b1 (cM b1 cA) SM0 0).length = 37 := wG_len
  generalize hWc : wG 37 b1 (cM b1 cA) SM0 0 = Wc at hP hD hlc
  have hP : va_P G vwCl (Wc ++ [(h0, .inr (10, [.null, .null, .int 0, .null, .null, .null, .int 0, .int 0, .int 0, .int 0, .int 0, .null, .null, .null, .int 0, .int 0, .int 0, .int 0, .int 0, .int 0, .int 0, .null]))]) H := hP
  have hD : va_D _ (Wc ++ [(h0, .inr (10, [.null, .null, .int 0, .null, .null, .null, .int 0, .int 0, .int 0, .int 0, .int 0, .null, .null, .null, .int 0, .int 0, .int 0, .int 0, .int 0, .int 0, .int 0, .null]))]) := hD
  refine va_putF (D := G) (ci := 10) (v := .ref (b1 0)) (ty := (.object "Melodeon")) (C := RX10) (T := TX10) (N := 22) hx hb hts iX10_init_X10 tyX10 tyX10_ok nmX10 hown hK.1.1 hP hD hS (37 + 0) (iL_at hlc rfl) rfl 0 (by decide) (hts (.fieldLink RX10 10 "MelodeonLaw$Bench" "m" "LMelodeon;") (by decide +kernel)) (fun _ h9 => h9) rfl hnm (by decide +kernel) (by decide +kernel) rfl rfl (Nat.le_of_ble_eq_true rfl) dX10_init_12 (fun H locs hP hD hS => ?_)
  rw [iL_set hlc] at hP hD
  have hP : va_P G vwCl (Wc ++ [(h0, .inr (10, [.ref (b1 0), .null, .int 0, .null, .null, .null, .int 0, .int 0, .int 0, .int 0, .int 0, .null, .null, .null, .int 0, .int 0, .int 0, .int 0, .int 0, .int 0, .int 0, .null]))]) H := hP
  have hD : va_D _ (Wc ++ [(h0, .inr (10, [.ref (b1 0), .null, .int 0, .null, .null, .null, .int 0, .int 0, .int 0, .int 0, .int 0, .null, .null, .null, .int 0, .int 0, .int 0, .int 0, .int 0, .int 0, .int 0, .null]))]) := hD
  refine lv_aload_n hx hb dX10_init_15 rfl (lv_at hl 0 rfl) ?_
  refine lv_bipush (v := 32) hx hb dX10_init_16 (by decide) ?_
  refine va_newa (atype := .int) (ty := .int) (N' := 32) (a0 := (32, .inl (fun _ => 0))) hx hb (hts (.arrayClass .int) (by decide +kernel)) rfl hK.1.1 hP hD hS hA (fun _ => rfl) (by decide) (by decide) (by decide) (Nat.le_of_ble_eq_true rfl) (Nat.le_of_ble_eq_true rfl) dX10_init_18 (fun q18 cQ H hKx hP hD hS => ?_)
  have eQ := cQ_eq2 hKx
  rw [eQ, List.append_assoc] at hP hD
  have hP : va_P G vwCl (Wc ++ [(h0, .inr (10, [.ref (b1 0), .null, .int 0, .null, .null, .null, .int 0, .int 0, .int 0, .int 0, .int 0, .null, .null, .null, .int 0, .int 0, .int 0, .int 0, .int 0, .int 0, .int 0, .null])), (q18, .inl (cA, 32, .inl (fun _ => 0)))]) H := hP
  have hD : va_D _ (Wc ++ [(h0, .inr (10, [.ref (b1 0), .null, .int 0, .null, .null, .null, .int 0, .int 0, .int 0, .int 0, .int 0, .null, .null, .null, .int 0, .int 0, .int 0, .int 0, .int 0, .int 0, .int 0, .null])), (q18, .inl (cA, 32, .inl (fun _ => 0)))]) := hD
  refine va_putF (D := G) (ci := 10) (v := .ref q18) (ty := (.array .int)) (C := RX10) (T := TX10) (N := 22) hx hb hts iX10_init_X10 tyX10 tyX10_ok nmX10 hown hK.1.1 hP hD hS (37 + 0) (iL_at hlc rfl) rfl 3 (by decide) (hts (.fieldLink RX10 16 "MelodeonLaw$Bench" "drawn" "[I") (by decide +kernel)) (fun _ h9 => h9) rfl hnm (by decide +kernel) (by decide +kernel) rfl rfl (Nat.le_of_ble_eq_true rfl) dX10_init_20 (fun H locs hP hD hS => ?_)
  rw [iL_set hlc] at hP hD
  have hP : va_P G vwCl (Wc ++ [(h0, .inr (10, [.ref (b1 0), .null, .int 0, .ref q18, .null, .null, .int 0, .int 0, .int 0, .int 0, .int 0, .null, .null, .null, .int 0, .int 0, .int 0, .int 0, .int 0, .int 0, .int 0, .null])), (q18, .inl (cA, 32, .inl (fun _ => 0)))]) H := hP
  have hD : va_D _ (Wc ++ [(h0, .inr (10, [.ref (b1 0), .null, .int 0, .ref q18, .null, .null, .int 0, .int 0, .int 0, .int 0, .int 0, .null, .null, .null, .int 0, .int 0, .int 0, .int 0, .int 0, .int 0, .int 0, .null])), (q18, .inl (cA, 32, .inl (fun _ => 0)))]) := hD
  refine lv_aload_n hx hb dX10_init_23 rfl (lv_at hl 0 rfl) ?_
  refine lv_iconst (v := 4) hx hb dX10_init_24 (by decide) ?_
  refine e_newa (N' := 4) hx hb hown (hts (.classLink RX10 20 "[I") (by decide +kernel)) hAO hK.2.1 hP hD hS hA (by decide) (by decide) (by decide) (Nat.le_of_ble_eq_true rfl) (Nat.le_of_ble_eq_true rfl) dX10_init_25 (fun q25 H hP hD hS => ?_)
  rw [List.append_assoc] at hP hD
  have hP : va_P G vwCl (Wc ++ [(h0, .inr (10, [.ref (b1 0), .null, .int 0, .ref q18, .null, .null, .int 0, .int 0, .int 0, .int 0, .int 0, .null, .null, .null, .int 0, .int 0, .int 0, .int 0, .int 0, .int 0, .int 0, .null])), (q18, .inl (cA, 32, .inl (fun _ => 0))), (q25, .inl (c2, 4, .inr (.inr (.inr (.inr (fun _ => none))))))]) H := hP
  have hD : va_D _ (Wc ++ [(h0, .inr (10, [.ref (b1 0), .null, .int 0, .ref q18, .null, .null, .int 0, .int 0, .int 0, .int 0, .int 0, .null, .null, .null, .int 0, .int 0, .int 0, .int 0, .int 0, .int 0, .int 0, .null])), (q18, .inl (cA, 32, .inl (fun _ => 0))), (q25, .inl (c2, 4, .inr (.inr (.inr (.inr (fun _ => none))))))]) := hD
  refine va_putF (D := G) (ci := 10) (v := .ref q25) (ty := (.array (.array .int))) (C := RX10) (T := TX10) (N := 22) hx hb hts iX10_init_X10 tyX10 tyX10_ok nmX10 hown hK.1.1 hP hD hS (37 + 0) (iL_at hlc rfl) rfl 4 (by decide) (hts (.fieldLink RX10 21 "MelodeonLaw$Bench" "instrument" "[[I") (by decide +kernel)) (fun _ h9 => h9) rfl hnm (by decide +kernel) (by decide +kernel) rfl rfl (Nat.le_of_ble_eq_true rfl) dX10_init_28 (fun H locs hP hD hS => ?_)
  rw [iL_set hlc] at hP hD
  have hP : va_P G vwCl (Wc ++ [(h0, .inr (10, [.ref (b1 0), .null, .int 0, .ref q18, .ref q25, .null, .int 0, .int 0, .int 0, .int 0, .int 0, .null, .null, .null, .int 0, .int 0, .int 0, .int 0, .int 0, .int 0, .int 0, .null])), (q18, .inl (cA, 32, .inl (fun _ => 0))), (q25, .inl (c2, 4, .inr (.inr (.inr (.inr (fun _ => none))))))]) H := hP
  have hD : va_D _ (Wc ++ [(h0, .inr (10, [.ref (b1 0), .null, .int 0, .ref q18, .ref q25, .null, .int 0, .int 0, .int 0, .int 0, .int 0, .null, .null, .null, .int 0, .int 0, .int 0, .int 0, .int 0, .int 0, .int 0, .null])), (q18, .inl (cA, 32, .inl (fun _ => 0))), (q25, .inl (c2, 4, .inr (.inr (.inr (.inr (fun _ => none))))))]) := hD
  refine lv_aload_n hx hb dX10_init_31 rfl (lv_at hl 0 rfl) ?_
  refine lv_iconst (v := 4) hx hb dX10_init_32 (by decide) ?_
  refine e_newa (N' := 4) hx hb hown (hts (.classLink RX10 20 "[I") (by decide +kernel)) hAO hK.2.1 hP hD hS hA (by decide) (by decide) (by decide) (Nat.le_of_ble_eq_true rfl) (Nat.le_of_ble_eq_true rfl) dX10_init_33 (fun q33 H hP hD hS => ?_)
  rw [List.append_assoc] at hP hD
  have hP : va_P G vwCl (Wc ++ [(h0, .inr (10, [.ref (b1 0), .null, .int 0, .ref q18, .ref q25, .null, .int 0, .int 0, .int 0, .int 0, .int 0, .null, .null, .null, .int 0, .int 0, .int 0, .int 0, .int 0, .int 0, .int 0, .null])), (q18, .inl (cA, 32, .inl (fun _ => 0))), (q25, .inl (c2, 4, .inr (.inr (.inr (.inr (fun _ => none)))))), (q33, .inl (c2, 4, .inr (.inr (.inr (.inr (fun _ => none))))))]) H := hP
  have hD : va_D _ (Wc ++ [(h0, .inr (10, [.ref (b1 0), .null, .int 0, .ref q18, .ref q25, .null, .int 0, .int 0, .int 0, .int 0, .int 0, .null, .null, .null, .int 0, .int 0, .int 0, .int 0, .int 0, .int 0, .int 0, .null])), (q18, .inl (cA, 32, .inl (fun _ => 0))), (q25, .inl (c2, 4, .inr (.inr (.inr (.inr (fun _ => none)))))), (q33, .inl (c2, 4, .inr (.inr (.inr (.inr (fun _ => none))))))]) := hD
  refine va_putF (D := G) (ci := 10) (v := .ref q33) (ty := (.array (.array .int))) (C := RX10) (T := TX10) (N := 22) hx hb hts iX10_init_X10 tyX10 tyX10_ok nmX10 hown hK.1.1 hP hD hS (37 + 0) (iL_at hlc rfl) rfl 5 (by decide) (hts (.fieldLink RX10 25 "MelodeonLaw$Bench" "voice" "[[I") (by decide +kernel)) (fun _ h9 => h9) rfl hnm (by decide +kernel) (by decide +kernel) rfl rfl (Nat.le_of_ble_eq_true rfl) dX10_init_36 (fun H locs hP hD hS => ?_)
  rw [iL_set hlc] at hP hD
  have hP : va_P G vwCl (Wc ++ [(h0, .inr (10, [.ref (b1 0), .null, .int 0, .ref q18, .ref q25, .ref q33, .int 0, .int 0, .int 0, .int 0, .int 0, .null, .null, .null, .int 0, .int 0, .int 0, .int 0, .int 0, .int 0, .int 0, .null])), (q18, .inl (cA, 32, .inl (fun _ => 0))), (q25, .inl (c2, 4, .inr (.inr (.inr (.inr (fun _ => none)))))), (q33, .inl (c2, 4, .inr (.inr (.inr (.inr (fun _ => none))))))]) H := hP
  have hD : va_D _ (Wc ++ [(h0, .inr (10, [.ref (b1 0), .null, .int 0, .ref q18, .ref q25, .ref q33, .int 0, .int 0, .int 0, .int 0, .int 0, .null, .null, .null, .int 0, .int 0, .int 0, .int 0, .int 0, .int 0, .int 0, .null])), (q18, .inl (cA, 32, .inl (fun _ => 0))), (q25, .inl (c2, 4, .inr (.inr (.inr (.inr (fun _ => none)))))), (q33, .inl (c2, 4, .inr (.inr (.inr (.inr (fun _ => none))))))]) := hD
  refine lv_aload_n hx hb dX10_init_39 rfl (lv_at hl 0 rfl) ?_
  refine lv_bipush (v := 64) hx hb dX10_init_40 (by decide) ?_
  refine va_put (D := G) (ci := 10) (v := .int 64) (ty := .int) (C := RX10) (T := TX10) (N := 22) hx hb hts iX10_init_X10 tyX10 tyX10_ok nmX10 hown hK.1.1 hP hD hS (37 + 0) (iL_at hlc rfl) rfl 8 (by decide) (hts (.fieldLink RX10 28 "MelodeonLaw$Bench" "gain" "I") (by decide +kernel)) (fun _ h9 => h9) rfl (by decide +kernel) rfl rfl (Nat.le_of_ble_eq_true rfl) dX10_init_42 (fun H locs hP hD hS => ?_)
  rw [iL_set hlc] at hP hD
  have hP : va_P G vwCl (Wc ++ [(h0, .inr (10, [.ref (b1 0), .null, .int 0, .ref q18, .ref q25, .ref q33, .int 0, .int 0, .int 64, .int 0, .int 0, .null, .null, .null, .int 0, .int 0, .int 0, .int 0, .int 0, .int 0, .int 0, .null])), (q18, .inl (cA, 32, .inl (fun _ => 0))), (q25, .inl (c2, 4, .inr (.inr (.inr (.inr (fun _ => none)))))), (q33, .inl (c2, 4, .inr (.inr (.inr (.inr (fun _ => none))))))]) H := hP
  have hD : va_D _ (Wc ++ [(h0, .inr (10, [.ref (b1 0), .null, .int 0, .ref q18, .ref q25, .ref q33, .int 0, .int 0, .int 64, .int 0, .int 0, .null, .null, .null, .int 0, .int 0, .int 0, .int 0, .int 0, .int 0, .int 0, .null])), (q18, .inl (cA, 32, .inl (fun _ => 0))), (q25, .inl (c2, 4, .inr (.inr (.inr (.inr (fun _ => none)))))), (q33, .inl (c2, 4, .inr (.inr (.inr (.inr (fun _ => none))))))]) := hD
  refine lv_aload_n hx hb dX10_init_45 rfl (lv_at hl 0 rfl) ?_
  refine lv_iconst (v := 0) hx hb dX10_init_46 (by decide) ?_
  refine va_newa (atype := .int) (ty := .int) (N' := 0) (a0 := (0, .inl (fun _ => 0))) hx hb (hts (.arrayClass .int) (by decide +kernel)) rfl hK.1.1 hP hD hS hA (fun _ => rfl) (by decide) (by decide) (by decide) (Nat.le_of_ble_eq_true rfl) (Nat.le_of_ble_eq_true rfl) dX10_init_47 (fun q47 cQ H hKx hP hD hS => ?_)
  have eQ := cQ_eq2 hKx
  rw [eQ, List.append_assoc] at hP hD
  have hP : va_P G vwCl (Wc ++ [(h0, .inr (10, [.ref (b1 0), .null, .int 0, .ref q18, .ref q25, .ref q33, .int 0, .int 0, .int 64, .int 0, .int 0, .null, .null, .null, .int 0, .int 0, .int 0, .int 0, .int 0, .int 0, .int 0, .null])), (q18, .inl (cA, 32, .inl (fun _ => 0))), (q25, .inl (c2, 4, .inr (.inr (.inr (.inr (fun _ => none)))))), (q33, .inl (c2, 4, .inr (.inr (.inr (.inr (fun _ => none)))))), (q47, .inl (cA, 0, .inl (fun _ => 0)))]) H := hP
  have hD : va_D _ (Wc ++ [(h0, .inr (10, [.ref (b1 0), .null, .int 0, .ref q18, .ref q25, .ref q33, .int 0, .int 0, .int 64, .int 0, .int 0, .null, .null, .null, .int 0, .int 0, .int 0, .int 0, .int 0, .int 0, .int 0, .null])), (q18, .inl (cA, 32, .inl (fun _ => 0))), (q25, .inl (c2, 4, .inr (.inr (.inr (.inr (fun _ => none)))))), (q33, .inl (c2, 4, .inr (.inr (.inr (.inr (fun _ => none)))))), (q47, .inl (cA, 0, .inl (fun _ => 0)))]) := hD
  refine va_put (D := G) (ci := 10) (v := .ref q47) (ty := (.array .int)) (C := RX10) (T := TX10) (N := 22) hx hb hts iX10_init_X10 tyX10 tyX10_ok nmX10 hown hK.1.1 hP hD hS (37 + 0) (iL_at hlc rfl) rfl 11 (by decide) (hts (.fieldLink RX10 32 "MelodeonLaw$Bench" "delay" "[I") (by decide +kernel)) (fun _ h9 => h9) rfl (by decide +kernel) rfl rfl (Nat.le_of_ble_eq_true rfl) dX10_init_49 (fun H locs hP hD hS => ?_)
  rw [iL_set hlc] at hP hD
  have hP : va_P G vwCl (Wc ++ [(h0, .inr (10, [.ref (b1 0), .null, .int 0, .ref q18, .ref q25, .ref q33, .int 0, .int 0, .int 64, .int 0, .int 0, .ref q47, .null, .null, .int 0, .int 0, .int 0, .int 0, .int 0, .int 0, .int 0, .null])), (q18, .inl (cA, 32, .inl (fun _ => 0))), (q25, .inl (c2, 4, .inr (.inr (.inr (.inr (fun _ => none)))))), (q33, .inl (c2, 4, .inr (.inr (.inr (.inr (fun _ => none)))))), (q47, .inl (cA, 0, .inl (fun _ => 0)))]) H := hP
  have hD : va_D _ (Wc ++ [(h0, .inr (10, [.ref (b1 0), .null, .int 0, .ref q18, .ref q25, .ref q33, .int 0, .int 0, .int 64, .int 0, .int 0, .ref q47, .null, .null, .int 0, .int 0, .int 0, .int 0, .int 0, .int 0, .int 0, .null])), (q18, .inl (cA, 32, .inl (fun _ => 0))), (q25, .inl (c2, 4, .inr (.inr (.inr (.inr (fun _ => none)))))), (q33, .inl (c2, 4, .inr (.inr (.inr (.inr (fun _ => none)))))), (q47, .inl (cA, 0, .inl (fun _ => 0)))]) := hD
  refine lv_aload_n hx hb dX10_init_52 rfl (lv_at hl 0 rfl) ?_
  refine lv_iconst (v := 3) hx hb dX10_init_53 (by decide) ?_
  refine va_newa (atype := .int) (ty := .int) (N' := 3) (a0 := (3, .inl (fun _ => 0))) hx hb (hts (.arrayClass .int) (by decide +kernel)) rfl hK.1.1 hP hD hS hA (fun _ => rfl) (by decide) (by decide) (by decide) (Nat.le_of_ble_eq_true rfl) (Nat.le_of_ble_eq_true rfl) dX10_init_54 (fun q54 cQ H hKx hP hD hS => ?_)
  have eQ := cQ_eq2 hKx
  rw [eQ, List.append_assoc] at hP hD
  have hP : va_P G vwCl (Wc ++ [(h0, .inr (10, [.ref (b1 0), .null, .int 0, .ref q18, .ref q25, .ref q33, .int 0, .int 0, .int 64, .int 0, .int 0, .ref q47, .null, .null, .int 0, .int 0, .int 0, .int 0, .int 0, .int 0, .int 0, .null])), (q18, .inl (cA, 32, .inl (fun _ => 0))), (q25, .inl (c2, 4, .inr (.inr (.inr (.inr (fun _ => none)))))), (q33, .inl (c2, 4, .inr (.inr (.inr (.inr (fun _ => none)))))), (q47, .inl (cA, 0, .inl (fun _ => 0))), (q54, .inl (cA, 3, .inl (fun _ => 0)))]) H := hP
  have hD : va_D _ (Wc ++ [(h0, .inr (10, [.ref (b1 0), .null, .int 0, .ref q18, .ref q25, .ref q33, .int 0, .int 0, .int 64, .int 0, .int 0, .ref q47, .null, .null, .int 0, .int 0, .int 0, .int 0, .int 0, .int 0, .int 0, .null])), (q18, .inl (cA, 32, .inl (fun _ => 0))), (q25, .inl (c2, 4, .inr (.inr (.inr (.inr (fun _ => none)))))), (q33, .inl (c2, 4, .inr (.inr (.inr (.inr (fun _ => none)))))), (q47, .inl (cA, 0, .inl (fun _ => 0))), (q54, .inl (cA, 3, .inl (fun _ => 0)))]) := hD
  refine va_putF (D := G) (ci := 10) (v := .ref q54) (ty := (.array .int)) (C := RX10) (T := TX10) (N := 22) hx hb hts iX10_init_X10 tyX10 tyX10_ok nmX10 hown hK.1.1 hP hD hS (37 + 0) (iL_at hlc rfl) rfl 12 (by decide) (hts (.fieldLink RX10 35 "MelodeonLaw$Bench" "track" "[I") (by decide +kernel)) (fun _ h9 => h9) rfl hnm (by decide +kernel) (by decide +kernel) rfl rfl (Nat.le_of_ble_eq_true rfl) dX10_init_56 (fun H locs hP hD hS => ?_)
  rw [iL_set hlc] at hP hD
  have hP : va_P G vwCl (Wc ++ [(h0, .inr (10, [.ref (b1 0), .null, .int 0, .ref q18, .ref q25, .ref q33, .int 0, .int 0, .int 64, .int 0, .int 0, .ref q47, .ref q54, .null, .int 0, .int 0, .int 0, .int 0, .int 0, .int 0, .int 0, .null])), (q18, .inl (cA, 32, .inl (fun _ => 0))), (q25, .inl (c2, 4, .inr (.inr (.inr (.inr (fun _ => none)))))), (q33, .inl (c2, 4, .inr (.inr (.inr (.inr (fun _ => none)))))), (q47, .inl (cA, 0, .inl (fun _ => 0))), (q54, .inl (cA, 3, .inl (fun _ => 0)))]) H := hP
  have hD : va_D _ (Wc ++ [(h0, .inr (10, [.ref (b1 0), .null, .int 0, .ref q18, .ref q25, .ref q33, .int 0, .int 0, .int 64, .int 0, .int 0, .ref q47, .ref q54, .null, .int 0, .int 0, .int 0, .int 0, .int 0, .int 0, .int 0, .null])), (q18, .inl (cA, 32, .inl (fun _ => 0))), (q25, .inl (c2, 4, .inr (.inr (.inr (.inr (fun _ => none)))))), (q33, .inl (c2, 4, .inr (.inr (.inr (.inr (fun _ => none)))))), (q47, .inl (cA, 0, .inl (fun _ => 0))), (q54, .inl (cA, 3, .inl (fun _ => 0)))]) := hD
  refine lv_aload_n hx hb dX10_init_59 rfl (lv_at hl 0 rfl) ?_
  refine lv_iconst (v := 3) hx hb dX10_init_60 (by decide) ?_
  refine lv_bipush (v := 8) hx hb dX10_init_61 (by decide) ?_
  refine e_newm hx hb hown (hts (.classLink RX10 38 "[[[I") (by decide +kernel)) hAO hK.2.1 hP hD hS hA (Nat.le_of_ble_eq_true rfl) (Nat.le_of_ble_eq_true rfl) dX10_init_63 (fun q63 H locs hP hD hS => ?_)
  rw [List.append_assoc] at hP hD
  have hP : va_P G vwCl (Wc ++ [(h0, .inr (10, [.ref (b1 0), .null, .int 0, .ref q18, .ref q25, .ref q33, .int 0, .int 0, .int 64, .int 0, .int 0, .ref q47, .ref q54, .null, .int 0, .int 0, .int 0, .int 0, .int 0, .int 0, .int 0, .null])), (q18, .inl (cA, 32, .inl (fun _ => 0))), (q25, .inl (c2, 4, .inr (.inr (.inr (.inr (fun _ => none)))))), (q33, .inl (c2, 4, .inr (.inr (.inr (.inr (fun _ => none)))))), (q47, .inl (cA, 0, .inl (fun _ => 0))), (q54, .inl (cA, 3, .inl (fun _ => 0))), (q63, .inl (c3, 3, .inr (.inr (.inr (.inr (fun t => some (q63 + 1 + t))))))), (q63 + 1, .inl (c2, 8, .inr (.inr (.inr (.inr (fun _ => none)))))), (q63 + 1 + 1, .inl (c2, 8, .inr (.inr (.inr (.inr (fun _ => none)))))), (q63 + 1 + 2, .inl (c2, 8, .inr (.inr (.inr (.inr (fun _ => none))))))]) H := hP
  have hD : va_D _ (Wc ++ [(h0, .inr (10, [.ref (b1 0), .null, .int 0, .ref q18, .ref q25, .ref q33, .int 0, .int 0, .int 64, .int 0, .int 0, .ref q47, .ref q54, .null, .int 0, .int 0, .int 0, .int 0, .int 0, .int 0, .int 0, .null])), (q18, .inl (cA, 32, .inl (fun _ => 0))), (q25, .inl (c2, 4, .inr (.inr (.inr (.inr (fun _ => none)))))), (q33, .inl (c2, 4, .inr (.inr (.inr (.inr (fun _ => none)))))), (q47, .inl (cA, 0, .inl (fun _ => 0))), (q54, .inl (cA, 3, .inl (fun _ => 0))), (q63, .inl (c3, 3, .inr (.inr (.inr (.inr (fun t => some (q63 + 1 + t))))))), (q63 + 1, .inl (c2, 8, .inr (.inr (.inr (.inr (fun _ => none)))))), (q63 + 1 + 1, .inl (c2, 8, .inr (.inr (.inr (.inr (fun _ => none)))))), (q63 + 1 + 2, .inl (c2, 8, .inr (.inr (.inr (.inr (fun _ => none))))))]) := hD
  refine va_putF (D := G) (ci := 10) (v := .ref q63) (ty := (.array (.array (.array .int)))) (C := RX10) (T := TX10) (N := 22) hx hb hts iX10_init_X10 tyX10 tyX10_ok nmX10 hown hK.1.1 hP hD hS (37 + 0) (iL_at hlc rfl) rfl 13 (by decide) (hts (.fieldLink RX10 40 "MelodeonLaw$Bench" "written" "[[[I") (by decide +kernel)) (fun _ h9 => h9) rfl hnm (by decide +kernel) (by decide +kernel) rfl rfl (Nat.le_of_ble_eq_true rfl) dX10_init_67 (fun H locs hP hD hS => ?_)
  rw [iL_set hlc] at hP hD
  have hP : va_P G vwCl (Wc ++ [(h0, .inr (10, [.ref (b1 0), .null, .int 0, .ref q18, .ref q25, .ref q33, .int 0, .int 0, .int 64, .int 0, .int 0, .ref q47, .ref q54, .ref q63, .int 0, .int 0, .int 0, .int 0, .int 0, .int 0, .int 0, .null])), (q18, .inl (cA, 32, .inl (fun _ => 0))), (q25, .inl (c2, 4, .inr (.inr (.inr (.inr (fun _ => none)))))), (q33, .inl (c2, 4, .inr (.inr (.inr (.inr (fun _ => none)))))), (q47, .inl (cA, 0, .inl (fun _ => 0))), (q54, .inl (cA, 3, .inl (fun _ => 0))), (q63, .inl (c3, 3, .inr (.inr (.inr (.inr (fun t => some (q63 + 1 + t))))))), (q63 + 1, .inl (c2, 8, .inr (.inr (.inr (.inr (fun _ => none)))))), (q63 + 1 + 1, .inl (c2, 8, .inr (.inr (.inr (.inr (fun _ => none)))))), (q63 + 1 + 2, .inl (c2, 8, .inr (.inr (.inr (.inr (fun _ => none))))))]) H := hP
  have hD : va_D _ (Wc ++ [(h0, .inr (10, [.ref (b1 0), .null, .int 0, .ref q18, .ref q25, .ref q33, .int 0, .int 0, .int 64, .int 0, .int 0, .ref q47, .ref q54, .ref q63, .int 0, .int 0, .int 0, .int 0, .int 0, .int 0, .int 0, .null])), (q18, .inl (cA, 32, .inl (fun _ => 0))), (q25, .inl (c2, 4, .inr (.inr (.inr (.inr (fun _ => none)))))), (q33, .inl (c2, 4, .inr (.inr (.inr (.inr (fun _ => none)))))), (q47, .inl (cA, 0, .inl (fun _ => 0))), (q54, .inl (cA, 3, .inl (fun _ => 0))), (q63, .inl (c3, 3, .inr (.inr (.inr (.inr (fun t => some (q63 + 1 + t))))))), (q63 + 1, .inl (c2, 8, .inr (.inr (.inr (.inr (fun _ => none)))))), (q63 + 1 + 1, .inl (c2, 8, .inr (.inr (.inr (.inr (fun _ => none)))))), (q63 + 1 + 2, .inl (c2, 8, .inr (.inr (.inr (.inr (fun _ => none))))))]) := hD
  refine lv_aload_n hx hb dX10_init_70 rfl (lv_at hl 0 rfl) ?_
  refine lv_bipush (v := 20) hx hb dX10_init_71 (by decide) ?_
  refine va_put (D := G) (ci := 10) (v := .int 20) (ty := .int) (C := RX10) (T := TX10) (N := 22) hx hb hts iX10_init_X10 tyX10 tyX10_ok nmX10 hown hK.1.1 hP hD hS (37 + 0) (iL_at hlc rfl) rfl 14 (by decide) (hts (.fieldLink RX10 43 "MelodeonLaw$Bench" "tempo" "I") (by decide +kernel)) (fun _ h9 => h9) rfl (by decide +kernel) rfl rfl (Nat.le_of_ble_eq_true rfl) dX10_init_73 (fun H locs hP hD hS => ?_)
  rw [iL_set hlc] at hP hD
  have hP : va_P G vwCl (Wc ++ [(h0, .inr (10, [.ref (b1 0), .null, .int 0, .ref q18, .ref q25, .ref q33, .int 0, .int 0, .int 64, .int 0, .int 0, .ref q47, .ref q54, .ref q63, .int 20, .int 0, .int 0, .int 0, .int 0, .int 0, .int 0, .null])), (q18, .inl (cA, 32, .inl (fun _ => 0))), (q25, .inl (c2, 4, .inr (.inr (.inr (.inr (fun _ => none)))))), (q33, .inl (c2, 4, .inr (.inr (.inr (.inr (fun _ => none)))))), (q47, .inl (cA, 0, .inl (fun _ => 0))), (q54, .inl (cA, 3, .inl (fun _ => 0))), (q63, .inl (c3, 3, .inr (.inr (.inr (.inr (fun t => some (q63 + 1 + t))))))), (q63 + 1, .inl (c2, 8, .inr (.inr (.inr (.inr (fun _ => none)))))), (q63 + 1 + 1, .inl (c2, 8, .inr (.inr (.inr (.inr (fun _ => none)))))), (q63 + 1 + 2, .inl (c2, 8, .inr (.inr (.inr (.inr (fun _ => none))))))]) H := hP
  have hD : va_D _ (Wc ++ [(h0, .inr (10, [.ref (b1 0), .null, .int 0, .ref q18, .ref q25, .ref q33, .int 0, .int 0, .int 64, .int 0, .int 0, .ref q47, .ref q54, .ref q63, .int 20, .int 0, .int 0, .int 0, .int 0, .int 0, .int 0, .null])), (q18, .inl (cA, 32, .inl (fun _ => 0))), (q25, .inl (c2, 4, .inr (.inr (.inr (.inr (fun _ => none)))))), (q33, .inl (c2, 4, .inr (.inr (.inr (.inr (fun _ => none)))))), (q47, .inl (cA, 0, .inl (fun _ => 0))), (q54, .inl (cA, 3, .inl (fun _ => 0))), (q63, .inl (c3, 3, .inr (.inr (.inr (.inr (fun t => some (q63 + 1 + t))))))), (q63 + 1, .inl (c2, 8, .inr (.inr (.inr (.inr (fun _ => none)))))), (q63 + 1 + 1, .inl (c2, 8, .inr (.inr (.inr (.inr (fun _ => none)))))), (q63 + 1 + 2, .inl (c2, 8, .inr (.inr (.inr (.inr (fun _ => none))))))]) := hD
  refine lv_aload_n hx hb dX10_init_76 rfl (lv_at hl 0 rfl) ?_
  refine lv_iconst (v := (-1)) hx hb dX10_init_77 (by decide) ?_
  refine va_put (D := G) (ci := 10) (v := .int (-1)) (ty := .int) (C := RX10) (T := TX10) (N := 22) hx hb hts iX10_init_X10 tyX10 tyX10_ok nmX10 hown hK.1.1 hP hD hS (37 + 0) (iL_at hlc rfl) rfl 16 (by decide) (hts (.fieldLink RX10 46 "MelodeonLaw$Bench" "step" "I") (by decide +kernel)) (fun _ h9 => h9) rfl (by decide +kernel) rfl rfl (Nat.le_of_ble_eq_true rfl) dX10_init_78 (fun H locs hP hD hS => ?_)
  rw [iL_set hlc] at hP hD
  have hP : va_P G vwCl (Wc ++ [(h0, .inr (10, [.ref (b1 0), .null, .int 0, .ref q18, .ref q25, .ref q33, .int 0, .int 0, .int 64, .int 0, .int 0, .ref q47, .ref q54, .ref q63, .int 20, .int 0, .int (-1), .int 0, .int 0, .int 0, .int 0, .null])), (q18, .inl (cA, 32, .inl (fun _ => 0))), (q25, .inl (c2, 4, .inr (.inr (.inr (.inr (fun _ => none)))))), (q33, .inl (c2, 4, .inr (.inr (.inr (.inr (fun _ => none)))))), (q47, .inl (cA, 0, .inl (fun _ => 0))), (q54, .inl (cA, 3, .inl (fun _ => 0))), (q63, .inl (c3, 3, .inr (.inr (.inr (.inr (fun t => some (q63 + 1 + t))))))), (q63 + 1, .inl (c2, 8, .inr (.inr (.inr (.inr (fun _ => none)))))), (q63 + 1 + 1, .inl (c2, 8, .inr (.inr (.inr (.inr (fun _ => none)))))), (q63 + 1 + 2, .inl (c2, 8, .inr (.inr (.inr (.inr (fun _ => none))))))]) H := hP
  have hD : va_D _ (Wc ++ [(h0, .inr (10, [.ref (b1 0), .null, .int 0, .ref q18, .ref q25, .ref q33, .int 0, .int 0, .int 64, .int 0, .int 0, .ref q47, .ref q54, .ref q63, .int 20, .int 0, .int (-1), .int 0, .int 0, .int 0, .int 0, .null])), (q18, .inl (cA, 32, .inl (fun _ => 0))), (q25, .inl (c2, 4, .inr (.inr (.inr (.inr (fun _ => none)))))), (q33, .inl (c2, 4, .inr (.inr (.inr (.inr (fun _ => none)))))), (q47, .inl (cA, 0, .inl (fun _ => 0))), (q54, .inl (cA, 3, .inl (fun _ => 0))), (q63, .inl (c3, 3, .inr (.inr (.inr (.inr (fun t => some (q63 + 1 + t))))))), (q63 + 1, .inl (c2, 8, .inr (.inr (.inr (.inr (fun _ => none)))))), (q63 + 1 + 1, .inl (c2, 8, .inr (.inr (.inr (.inr (fun _ => none)))))), (q63 + 1 + 2, .inl (c2, 8, .inr (.inr (.inr (.inr (fun _ => none))))))]) := hD
  refine lv_aload_n hx hb dX10_init_81 rfl (lv_at hl 0 rfl) ?_
  refine lv_iconst (v := 0) hx hb dX10_init_82 (by decide) ?_
  refine va_newa (atype := .int) (ty := .int) (N' := 0) (a0 := (0, .inl (fun _ => 0))) hx hb (hts (.arrayClass .int) (by decide +kernel)) rfl hK.1.1 hP hD hS hA (fun _ => rfl) (by decide) (by decide) (by decide) (Nat.le_of_ble_eq_true rfl) (Nat.le_of_ble_eq_true rfl) dX10_init_83 (fun q83 cQ H hKx hP hD hS => ?_)
  have eQ := cQ_eq2 hKx
  rw [eQ, List.append_assoc] at hP hD
  have hP : va_P G vwCl (Wc ++ [(h0, .inr (10, [.ref (b1 0), .null, .int 0, .ref q18, .ref q25, .ref q33, .int 0, .int 0, .int 64, .int 0, .int 0, .ref q47, .ref q54, .ref q63, .int 20, .int 0, .int (-1), .int 0, .int 0, .int 0, .int 0, .null])), (q18, .inl (cA, 32, .inl (fun _ => 0))), (q25, .inl (c2, 4, .inr (.inr (.inr (.inr (fun _ => none)))))), (q33, .inl (c2, 4, .inr (.inr (.inr (.inr (fun _ => none)))))), (q47, .inl (cA, 0, .inl (fun _ => 0))), (q54, .inl (cA, 3, .inl (fun _ => 0))), (q63, .inl (c3, 3, .inr (.inr (.inr (.inr (fun t => some (q63 + 1 + t))))))), (q63 + 1, .inl (c2, 8, .inr (.inr (.inr (.inr (fun _ => none)))))), (q63 + 1 + 1, .inl (c2, 8, .inr (.inr (.inr (.inr (fun _ => none)))))), (q63 + 1 + 2, .inl (c2, 8, .inr (.inr (.inr (.inr (fun _ => none)))))), (q83, .inl (cA, 0, .inl (fun _ => 0)))]) H := hP
  have hD : va_D _ (Wc ++ [(h0, .inr (10, [.ref (b1 0), .null, .int 0, .ref q18, .ref q25, .ref q33, .int 0, .int 0, .int 64, .int 0, .int 0, .ref q47, .ref q54, .ref q63, .int 20, .int 0, .int (-1), .int 0, .int 0, .int 0, .int 0, .null])), (q18, .inl (cA, 32, .inl (fun _ => 0))), (q25, .inl (c2, 4, .inr (.inr (.inr (.inr (fun _ => none)))))), (q33, .inl (c2, 4, .inr (.inr (.inr (.inr (fun _ => none)))))), (q47, .inl (cA, 0, .inl (fun _ => 0))), (q54, .inl (cA, 3, .inl (fun _ => 0))), (q63, .inl (c3, 3, .inr (.inr (.inr (.inr (fun t => some (q63 + 1 + t))))))), (q63 + 1, .inl (c2, 8, .inr (.inr (.inr (.inr (fun _ => none)))))), (q63 + 1 + 1, .inl (c2, 8, .inr (.inr (.inr (.inr (fun _ => none)))))), (q63 + 1 + 2, .inl (c2, 8, .inr (.inr (.inr (.inr (fun _ => none)))))), (q83, .inl (cA, 0, .inl (fun _ => 0)))]) := hD
  refine va_put (D := G) (ci := 10) (v := .ref q83) (ty := (.array .int)) (C := RX10) (T := TX10) (N := 22) hx hb hts iX10_init_X10 tyX10 tyX10_ok nmX10 hown hK.1.1 hP hD hS (37 + 0) (iL_at hlc rfl) rfl 21 (by decide) (hts (.fieldLink RX10 49 "MelodeonLaw$Bench" "heard" "[I") (by decide +kernel)) (fun _ h9 => h9) rfl (by decide +kernel) rfl rfl (Nat.le_of_ble_eq_true rfl) dX10_init_85 (fun H locs hP hD hS => ?_)
  rw [iL_set hlc] at hP hD
  have hP : va_P G vwCl (Wc ++ [(h0, .inr (10, [.ref (b1 0), .null, .int 0, .ref q18, .ref q25, .ref q33, .int 0, .int 0, .int 64, .int 0, .int 0, .ref q47, .ref q54, .ref q63, .int 20, .int 0, .int (-1), .int 0, .int 0, .int 0, .int 0, .ref q83])), (q18, .inl (cA, 32, .inl (fun _ => 0))), (q25, .inl (c2, 4, .inr (.inr (.inr (.inr (fun _ => none)))))), (q33, .inl (c2, 4, .inr (.inr (.inr (.inr (fun _ => none)))))), (q47, .inl (cA, 0, .inl (fun _ => 0))), (q54, .inl (cA, 3, .inl (fun _ => 0))), (q63, .inl (c3, 3, .inr (.inr (.inr (.inr (fun t => some (q63 + 1 + t))))))), (q63 + 1, .inl (c2, 8, .inr (.inr (.inr (.inr (fun _ => none)))))), (q63 + 1 + 1, .inl (c2, 8, .inr (.inr (.inr (.inr (fun _ => none)))))), (q63 + 1 + 2, .inl (c2, 8, .inr (.inr (.inr (.inr (fun _ => none)))))), (q83, .inl (cA, 0, .inl (fun _ => 0)))]) H := hP
  have hD : va_D _ (Wc ++ [(h0, .inr (10, [.ref (b1 0), .null, .int 0, .ref q18, .ref q25, .ref q33, .int 0, .int 0, .int 64, .int 0, .int 0, .ref q47, .ref q54, .ref q63, .int 20, .int 0, .int (-1), .int 0, .int 0, .int 0, .int 0, .ref q83])), (q18, .inl (cA, 32, .inl (fun _ => 0))), (q25, .inl (c2, 4, .inr (.inr (.inr (.inr (fun _ => none)))))), (q33, .inl (c2, 4, .inr (.inr (.inr (.inr (fun _ => none)))))), (q47, .inl (cA, 0, .inl (fun _ => 0))), (q54, .inl (cA, 3, .inl (fun _ => 0))), (q63, .inl (c3, 3, .inr (.inr (.inr (.inr (fun t => some (q63 + 1 + t))))))), (q63 + 1, .inl (c2, 8, .inr (.inr (.inr (.inr (fun _ => none)))))), (q63 + 1 + 1, .inl (c2, 8, .inr (.inr (.inr (.inr (fun _ => none)))))), (q63 + 1 + 2, .inl (c2, 8, .inr (.inr (.inr (.inr (fun _ => none)))))), (q83, .inl (cA, 0, .inl (fun _ => 0)))]) := hD
  refine lv_aload_n hx hb dX10_init_88 rfl (lv_at hl 0 rfl) ?_
  refine lv_aload_n hx hb dX10_init_89 rfl (lv_at hl 1 rfl) ?_
  refine va_putF (D := G) (ci := 10) (v := .ref b) (ty := (.array .int)) (C := RX10) (T := TX10) (N := 22) hx hb hts iX10_init_X10 tyX10 tyX10_ok nmX10 hown hK.1.1 hP hD hS (37 + 0) (iL_at hlc rfl) rfl 1 (by decide) (hts (.fieldLink RX10 52 "MelodeonLaw$Bench" "s" "[I") (by decide +kernel)) (fun _ h9 => h9) rfl hnm (by decide +kernel) (by decide +kernel) rfl rfl (Nat.le_of_ble_eq_true rfl) dX10_init_90 (fun H locs hP hD hS => ?_)
  rw [iL_set hlc] at hP hD
  have hP : va_P G vwCl (Wc ++ [(h0, .inr (10, [.ref (b1 0), .ref b, .int 0, .ref q18, .ref q25, .ref q33, .int 0, .int 0, .int 64, .int 0, .int 0, .ref q47, .ref q54, .ref q63, .int 20, .int 0, .int (-1), .int 0, .int 0, .int 0, .int 0, .ref q83])), (q18, .inl (cA, 32, .inl (fun _ => 0))), (q25, .inl (c2, 4, .inr (.inr (.inr (.inr (fun _ => none)))))), (q33, .inl (c2, 4, .inr (.inr (.inr (.inr (fun _ => none)))))), (q47, .inl (cA, 0, .inl (fun _ => 0))), (q54, .inl (cA, 3, .inl (fun _ => 0))), (q63, .inl (c3, 3, .inr (.inr (.inr (.inr (fun t => some (q63 + 1 + t))))))), (q63 + 1, .inl (c2, 8, .inr (.inr (.inr (.inr (fun _ => none)))))), (q63 + 1 + 1, .inl (c2, 8, .inr (.inr (.inr (.inr (fun _ => none)))))), (q63 + 1 + 2, .inl (c2, 8, .inr (.inr (.inr (.inr (fun _ => none)))))), (q83, .inl (cA, 0, .inl (fun _ => 0)))]) H := hP
  have hD : va_D _ (Wc ++ [(h0, .inr (10, [.ref (b1 0), .ref b, .int 0, .ref q18, .ref q25, .ref q33, .int 0, .int 0, .int 64, .int 0, .int 0, .ref q47, .ref q54, .ref q63, .int 20, .int 0, .int (-1), .int 0, .int 0, .int 0, .int 0, .ref q83])), (q18, .inl (cA, 32, .inl (fun _ => 0))), (q25, .inl (c2, 4, .inr (.inr (.inr (.inr (fun _ => none)))))), (q33, .inl (c2, 4, .inr (.inr (.inr (.inr (fun _ => none)))))), (q47, .inl (cA, 0, .inl (fun _ => 0))), (q54, .inl (cA, 3, .inl (fun _ => 0))), (q63, .inl (c3, 3, .inr (.inr (.inr (.inr (fun t => some (q63 + 1 + t))))))), (q63 + 1, .inl (c2, 8, .inr (.inr (.inr (.inr (fun _ => none)))))), (q63 + 1 + 1, .inl (c2, 8, .inr (.inr (.inr (.inr (fun _ => none)))))), (q63 + 1 + 2, .inl (c2, 8, .inr (.inr (.inr (.inr (fun _ => none)))))), (q83, .inl (cA, 0, .inl (fun _ => 0)))]) := hD
  refine lv_aload_n hx hb dX10_init_93 rfl (lv_at hl 0 rfl) ?_
  refine lv_iload_n hx hb dX10_init_94 rfl (lv_at hl 2 rfl) ?_
  refine va_put (D := G) (ci := 10) (v := .int d0) (ty := .int) (C := RX10) (T := TX10) (N := 22) hx hb hts iX10_init_X10 tyX10 tyX10_ok nmX10 hown hK.1.1 hP hD hS (37 + 0) (iL_at hlc rfl) rfl 2 (by decide) (hts (.fieldLink RX10 55 "MelodeonLaw$Bench" "draws" "I") (by decide +kernel)) (fun _ h9 => h9) rfl (by decide +kernel) rfl rfl (Nat.le_of_ble_eq_true rfl) dX10_init_95 (fun H locs hP hD hS => ?_)
  rw [iL_set hlc] at hP hD
  have hP : va_P G vwCl (Wc ++ [(h0, .inr (10, [.ref (b1 0), .ref b, .int d0, .ref q18, .ref q25, .ref q33, .int 0, .int 0, .int 64, .int 0, .int 0, .ref q47, .ref q54, .ref q63, .int 20, .int 0, .int (-1), .int 0, .int 0, .int 0, .int 0, .ref q83])), (q18, .inl (cA, 32, .inl (fun _ => 0))), (q25, .inl (c2, 4, .inr (.inr (.inr (.inr (fun _ => none)))))), (q33, .inl (c2, 4, .inr (.inr (.inr (.inr (fun _ => none)))))), (q47, .inl (cA, 0, .inl (fun _ => 0))), (q54, .inl (cA, 3, .inl (fun _ => 0))), (q63, .inl (c3, 3, .inr (.inr (.inr (.inr (fun t => some (q63 + 1 + t))))))), (q63 + 1, .inl (c2, 8, .inr (.inr (.inr (.inr (fun _ => none)))))), (q63 + 1 + 1, .inl (c2, 8, .inr (.inr (.inr (.inr (fun _ => none)))))), (q63 + 1 + 2, .inl (c2, 8, .inr (.inr (.inr (.inr (fun _ => none)))))), (q83, .inl (cA, 0, .inl (fun _ => 0)))]) H := hP
  have hD : va_D _ (Wc ++ [(h0, .inr (10, [.ref (b1 0), .ref b, .int d0, .ref q18, .ref q25, .ref q33, .int 0, .int 0, .int 64, .int 0, .int 0, .ref q47, .ref q54, .ref q63, .int 20, .int 0, .int (-1), .int 0, .int 0, .int 0, .int 0, .ref q83])), (q18, .inl (cA, 32, .inl (fun _ => 0))), (q25, .inl (c2, 4, .inr (.inr (.inr (.inr (fun _ => none)))))), (q33, .inl (c2, 4, .inr (.inr (.inr (.inr (fun _ => none)))))), (q47, .inl (cA, 0, .inl (fun _ => 0))), (q54, .inl (cA, 3, .inl (fun _ => 0))), (q63, .inl (c3, 3, .inr (.inr (.inr (.inr (fun t => some (q63 + 1 + t))))))), (q63 + 1, .inl (c2, 8, .inr (.inr (.inr (.inr (fun _ => none)))))), (q63 + 1 + 1, .inl (c2, 8, .inr (.inr (.inr (.inr (fun _ => none)))))), (q63 + 1 + 2, .inl (c2, 8, .inr (.inr (.inr (.inr (fun _ => none)))))), (q83, .inl (cA, 0, .inl (fun _ => 0)))]) := hD
  have hP : va_P G vwCl (Wc ++ tB cA c2 c3 h0 (b1 0) b q18 q25 q33 q47 q54 q63 q83 d0 (fun _ => none) (fun _ => none) []) H := hP
  have hD : va_D _ (Wc ++ tB cA c2 c3 h0 (b1 0) b q18 q25 q33 q47 q54 q63 q83 d0 (fun _ => none) (fun _ => none) []) := hD
  refine lv_iconst (v := 0) hx hb dX10_init_98 (by decide) ?_
  refine lv_istore_n (lv' := [(3, .int (nI 0)), (0, .ref h0), (1, .ref b), (2, .int d0)]) hx hb dX10_init_99 rfl hl (by decide) rfl (fun ls hl => ?_)
  refine bi_turn hx hb hown hts hlc hK (i := 0) (by decide) hP hD hS hA (Nat.le_of_ble_eq_true rfl) (Nat.le_of_ble_eq_true rfl) hl (fun qa0 qb0 H locs ls hP hD hS hl => ?_)
  refine bi_turn hx hb hown hts hlc hK (i := 1) (by decide) hP hD hS hA (Nat.le_of_ble_eq_true rfl) (Nat.le_of_ble_eq_true rfl) hl (fun qa1 qb1 H locs ls hP hD hS hl => ?_)
  refine bi_turn hx hb hown hts hlc hK (i := 2) (by decide) hP hD hS hA (Nat.le_of_ble_eq_true rfl) (Nat.le_of_ble_eq_true rfl) hl (fun qa2 qb2 H locs ls hP hD hS hl => ?_)
  refine bi_turn hx hb hown hts hlc hK (i := 3) (by decide) hP hD hS hA (Nat.le_of_ble_eq_true rfl) (Nat.le_of_ble_eq_true rfl) hl (fun qa3 qb3 H locs ls hP hD hS hl => ?_)
  refine lv_iload_n hx hb dX10_init_100 rfl (lv_at hl 0 rfl) ?_
  refine lv_iconst (v := 4) hx hb dX10_init_101 (by decide) ?_
  refine lv_icmp_ge (tgt := 252) hx hb dX10_init_102 (by decide) (fun _ => ?_) (fun h9 => absurd (by decide) h9)
  have hP9 := P_subR (ys' := [(h0, .inr (10, bF (b1 0) b q18 q25 q33 q47 q54 q63 q83 d0)), (q18, .inl (cA, 32, .inl (fun _ => 0))), (q25, .inl (c2, 4, .inr (.inr (.inr (.inr (va_up (va_up (va_up (va_up (fun _ => none) 0 (some qa0)) 1 (some qa1)) 2 (some qa2)) 3 (some qa3))))))), (qa0, .inl (cA, 12, .inl f12)), (qa1, .inl (cA, 12, .inl f12)), (qa2, .inl (cA, 12, .inl f12)), (qa3, .inl (cA, 12, .inl f12)), (q63, .inl (c3, 3, .inr (.inr (.inr (.inr (fun t => some (q63 + 1 + t))))))), (q63 + 1, .inl (c2, 8, .inr (.inr (.inr (.inr (fun _ => none)))))), (q63 + 1 + 1, .inl (c2, 8, .inr (.inr (.inr (.inr (fun _ => none)))))), (q63 + 1 + 2, .inl (c2, 8, .inr (.inr (.inr (.inr (fun _ => none)))))), (q47, .inl (cA, 0, .inl (fun _ => 0)))]) hP [0, 1, 2, 11, 13, 15, 17, 6, 7, 8, 9, 4] rfl
  have hD9 := D_subR (ys' := [(h0, .inr (10, bF (b1 0) b q18 q25 q33 q47 q54 q63 q83 d0)), (q18, .inl (cA, 32, .inl (fun _ => 0))), (q25, .inl (c2, 4, .inr (.inr (.inr (.inr (va_up (va_up (va_up (va_up (fun _ => none) 0 (some qa0)) 1 (some qa1)) 2 (some qa2)) 3 (some qa3))))))), (qa0, .inl (cA, 12, .inl f12)), (qa1, .inl (cA, 12, .inl f12)), (qa2, .inl (cA, 12, .inl f12)), (qa3, .inl (cA, 12, .inl f12)), (q63, .inl (c3, 3, .inr (.inr (.inr (.inr (fun t => some (q63 + 1 + t))))))), (q63 + 1, .inl (c2, 8, .inr (.inr (.inr (.inr (fun _ => none)))))), (q63 + 1 + 1, .inl (c2, 8, .inr (.inr (.inr (.inr (fun _ => none)))))), (q63 + 1 + 2, .inl (c2, 8, .inr (.inr (.inr (.inr (fun _ => none)))))), (q47, .inl (cA, 0, .inl (fun _ => 0)))]) hD [0, 1, 2, 11, 13, 15, 17, 6, 7, 8, 9, 4] (by decide) rfl
  obtain ⟨u, hu⟩ : ∃ u : Nat → Nat, u = fun k => if k < 100 then [h0, q18, q25, qa0, qa1, qa2, qa3, q63, q63 + 1, q63 + 1 + 1, q63 + 1 + 2].getD k 0 else if k < 200 then b1 (k - 100) else [0, 0, 0, 0, 0, q33, 0, 0, 0, 0, 0, q47, q54, 0, 0, 0, 0, 0, 0, 0, 0, q83].getD (k - 200) 0 := ⟨_, rfl⟩
  have ea : ∀ k, k < 37 → a38 zq (fun k => u (100 + k)) k = b1 k := by
    intro k hk
    rw [a38_n hk, hu]
    show (if 100 + k < 100 then _ else if 100 + k < 200 then b1 (100 + k - 100) else _) = b1 k
    rw [if_neg (by omega), if_pos (by omega), Nat.add_sub_cancel_left]
  have eW : wG 37 (a38 zq (fun k => u (100 + k))) (cM (a38 zq (fun k => u (100 + k))) cA) SM0 0 = Wc := by
    rw [st_w ea, hWc]
  have u0 : u 0 = h0 := by rw [hu]; rfl
  have x0 : (.inr (10, bF (b1 0) b q18 q25 q33 q47 q54 q63 q83 d0) : va_E) = cB (a38 zq (fun k => u (100 + k))) cA c2 c3 u (fun k => u (200 + k)) b (fun _ _ => none) 0 (B0 d0 0) 0 := by
    rw [hu]
    rfl
  have hP8 : va_P G vwCl (wB0 zq cA c2 c3 b d0 u) H := by
    refine P_mk ((congrArg (fun w => va_P G vwCl w H) eW).mpr (P_fst hP9)) (fun k q hk => ?_)
    have h9 := P_snd hP9
    match k, hk with
    | 0, hk => cases hk; show va_at G vwCl (u 0, cB (a38 zq (fun k => u (100 + k))) cA c2 c3 u (fun k => u (200 + k)) b (fun _ _ => none) 0 (B0 d0 0) 0) H; rw [← x0, u0]; exact h9 0 _ rfl
    | 1, hk => cases hk; rw [hu]; exact h9 1 _ rfl
    | 2, hk => cases hk; rw [hu]; exact at_up (fun k hk => by rcases v4 hk with rfl | rfl | rfl | rfl <;> rfl) (h9 2 _ rfl)
    | 3, hk => cases hk; rw [hu]; exact h9 3 _ rfl
    | 4, hk => cases hk; rw [hu]; exact h9 4 _ rfl
    | 5, hk => cases hk; rw [hu]; exact h9 5 _ rfl
    | 6, hk => cases hk; rw [hu]; exact h9 6 _ rfl
    | 7, hk => cases hk; rw [hu]; exact at_up (fun k hk => by rcases (show k = 0 ∨ k = 1 ∨ k = 2 by omega) with rfl | rfl | rfl <;> rfl) (h9 7 _ rfl)
    | 8, hk => cases hk; rw [hu]; exact h9 8 _ rfl
    | 9, hk => cases hk; rw [hu]; exact h9 9 _ rfl
    | 10, hk => cases hk; rw [hu]; exact h9 10 _ rfl
    | 11, hk => cases hk; rw [hu]; exact h9 11 _ rfl
    | k + 12, hk => exact absurd (List.getElem?_eq_some_iff.mp hk).1 (by show ¬ k + 12 < 12; omega)
  have hD8 : va_D (va_A [(h0, .inr (10, bN))] s.heap.size) (wB0 zq cA c2 c3 b d0 u) := by
    have eA : ∀ (k : Nat) (q : Nat × va_E), (wG 11 u (cB (a38 zq (fun k => u (100 + k))) cA c2 c3 u (fun k => u (200 + k)) b (fun _ _ => none)) (B0 d0) 0 ++ [(u 211, .inl (cA, 0, .inl (fun _ => 0)))])[k]? = some q → ∃ e, ([(h0, .inr (10, bF (b1 0) b q18 q25 q33 q47 q54 q63 q83 d0)), (q18, .inl (cA, 32, .inl (fun _ => 0))), (q25, .inl (c2, 4, .inr (.inr (.inr (.inr (va_up (va_up (va_up (va_up (fun _ => none) 0 (some qa0)) 1 (some qa1)) 2 (some qa2)) 3 (some qa3))))))), (qa0, .inl (cA, 12, .inl f12)), (qa1, .inl (cA, 12, .inl f12)), (qa2, .inl (cA, 12, .inl f12)), (qa3, .inl (cA, 12, .inl f12)), (q63, .inl (c3, 3, .inr (.inr (.inr (.inr (fun t => some (q63 + 1 + t))))))), (q63 + 1, .inl (c2, 8, .inr (.inr (.inr (.inr (fun _ => none)))))), (q63 + 1 + 1, .inl (c2, 8, .inr (.inr (.inr (.inr (fun _ => none)))))), (q63 + 1 + 2, .inl (c2, 8, .inr (.inr (.inr (.inr (fun _ => none)))))), (q47, .inl (cA, 0, .inl (fun _ => 0)))] : va_W)[k]? = some (q.1, e) := by
      intro k q hk
      match k, hk with
      | 0, hk => cases hk; rw [hu]; exact ⟨_, rfl⟩
      | 1, hk => cases hk; rw [hu]; exact ⟨_, rfl⟩
      | 2, hk => cases hk; rw [hu]; exact ⟨_, rfl⟩
      | 3, hk => cases hk; rw [hu]; exact ⟨_, rfl⟩
      | 4, hk => cases hk; rw [hu]; exact ⟨_, rfl⟩
      | 5, hk => cases hk; rw [hu]; exact ⟨_, rfl⟩
      | 6, hk => cases hk; rw [hu]; exact ⟨_, rfl⟩
      | 7, hk => cases hk; rw [hu]; exact ⟨_, rfl⟩
      | 8, hk => cases hk; rw [hu]; exact ⟨_, rfl⟩
      | 9, hk => cases hk; rw [hu]; exact ⟨_, rfl⟩
      | 10, hk => cases hk; rw [hu]; exact ⟨_, rfl⟩
      | 11, hk => cases hk; rw [hu]; exact ⟨_, rfl⟩
      | k + 12, hk => exact absurd (List.getElem?_eq_some_iff.mp hk).1 (by show ¬ k + 12 < 12; omega)
    refine D_adr hD9 (fun k q hk => ?_)
    rcases Nat.lt_or_ge k 37 with hl | hl
    · rw [List.getElem?_append_left (by rw [wG_len]; exact hl), eW] at hk
      exact ⟨q.2, by rw [List.getElem?_append_left (by rw [hlc]; exact hl)]; exact hk⟩
    · rw [List.getElem?_append_right (by rw [wG_len]; exact hl), wG_len] at hk
      obtain ⟨e, h⟩ := eA _ _ hk
      exact ⟨e, by rw [List.getElem?_append_right (by rw [hlc]; exact hl), hlc]; exact h⟩
  exact j_vret (b := u) hx hb hr hlocks u0 hP8 hD8 hS dX10_init_252
