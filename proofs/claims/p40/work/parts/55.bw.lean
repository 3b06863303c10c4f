/-! the law's own object beside the class: lists of cells, calls in a list -/
abbrev tyB (cA c2 c3 : ClassId) : List (ClassId × FieldType) := [(cA, .int), (c2, .array .int), (c3, .array (.array .int))]
def nkBT : List (String × Nat × MethodName × String) := [("MelodeonLaw$Bench", 58, yL_cell, "MelodeonLaw"), ("MelodeonLaw$Bench", 64, yL_below, "MelodeonLaw")]
def nkB (U : State) : Prop := ∀ q ∈ nkBT, va_Nw (.methodLinkNest q.1 q.2.1 q.2.2.1 q.2.2.2) U
theorem nkB.warm {s U : State} (h : nkB s) (hW : s.WarmedH U.vm) : nkB U := fun q hq => va_Nw.warmM hW (h q hq)
theorem nkB.at {s : State} (h : nkB s) {q : String × Nat × MethodName × String} (hq : q ∈ nkBT) : va_Nw (.methodLinkNest q.1 q.2.1 q.2.2.1 q.2.2.2) s := h q hq
def XB (b N : Nat) (xs : Nat → Int32) (A : Nat → Prop) (U : State) : Prop := va_X b N xs U U.heap ∧ b < U.heap.size ∧ ¬ A b
def KA (cA c2 : ClassId) (U : State) : Prop := ∃ k2 kA, U.vm.classes[c2]? = some k2 ∧ k2.kind = .array cA (.array .int) ∧ U.vm.classes[cA]? = some kA
theorem KA.moved {cA c2 : ClassId} {u U : State} (hvm : u.vm.Alike U.vm) (h : KA cA c2 u) : KA cA c2 U := by
  obtain ⟨k2, kA, h1, h2, h3⟩ := h
  obtain ⟨k2', g1, e1⟩ := hvm.2.2 _ _ h1
  obtain ⟨kA', g2, -⟩ := hvm.2.2 _ _ h3
  exact ⟨k2', kA', g1, by rw [e1]; exact h2, g2⟩
abbrev KB (G : va_G) (cA c2 c3 : ClassId) (zq b N : Nat) (xs : Nat → Int32) (A : Nat → Prop) (U : State) : Prop := KP G cA zq A U ∧ va_K G vwCl (tyB cA c2 c3) U ∧ nkB U ∧ XB b N xs A U ∧ KA cA c2 U
theorem KB_go {G : va_G} {cA c2 c3 : ClassId} {zq b N : Nat} {xs : Nat → Int32} {A0 A1 : Nat → Prop} {s U : State} {H : Heap} {locs : List Loc} (h : KB G cA c2 c3 zq b N xs A0 s) (hA : ∀ q, A1 q → A0 q) (hS : va_S A0 s.heap H locs) (hU : U.heap = H) (hW : s.WarmedH U.vm) : KB G cA c2 c3 zq b N xs A1 U :=
  ⟨KP_go h.1 hA hS hU hW, h.2.1.moved hW.alike, h.2.2.1.warm hW, ⟨by rw [hU]; exact (h.2.2.2.1.1.moved hW.alike).kept (hS.2.1 b h.2.2.2.1.2.1 h.2.2.2.1.2.2), by rw [hU]; exact Nat.lt_of_lt_of_le h.2.2.2.1.2.1 hS.1, fun q => h.2.2.2.1.2.2 (hA b q)⟩, h.2.2.2.2.moved hW.alike⟩
abbrev bI (G : va_G) (cA c2 c3 : ClassId) (zq b N : Nat) (xs : Nat → Int32) (ws : va_W) (sz : Nat) : State → Prop := fun U => U.heap.size = sz ∧ va_P G vwCl ws U.heap ∧ KB G cA c2 c3 zq b N xs (va_A ws sz) U
theorem bI_blind {av : List Value} {G : va_G} {cA c2 c3 : ClassId} {zq b N : Nat} {xs : Nat → Int32} {ws : va_W} {sz : Nat} : FrameBlind (va_Pc av (bI G cA c2 c3 zq b N xs ws sz)) := by
  intro v U g mk q
  obtain ⟨q0, q1, qP, ⟨qK, qN, qZ⟩, qT, qn, ⟨x1, x2, x3⟩, qA⟩ := q
  exact ⟨q0, q1, qP, ⟨va_K.moved (u := U) (U := U.calling g mk v) (Vm.Alike.refl U.vm) qK, nk.warm (s := U) (U := U.calling g mk v) qN (State.WarmedH.refl U), zS.moved (u := U) (U := U.calling g mk v) (Vm.Alike.refl U.vm) qZ⟩, va_K.moved (u := U) (U := U.calling g mk v) (Vm.Alike.refl U.vm) qT, nkB.warm (s := U) (U := U.calling g mk v) qn (State.WarmedH.refl U), ⟨va_X.moved (u := U) (U := U.calling g mk v) (Vm.Alike.refl U.vm) x1, x2, x3⟩, KA.moved (u := U) (U := U.calling g mk v) (Vm.Alike.refl U.vm) qA⟩
abbrev bQi {T : Type} (post : Int32 → T → Prop) (wl : T → va_W) (G : va_G) (ws : va_W) (sz : Nat) : Array Value → State → Outcome → State → Prop := va_Qi post (fun u t => va_P G vwCl (wl u) t.heap ∧ va_D (va_A ws sz) (wl u)) (va_A ws sz)
theorem D_own {ws : va_W} {sz : Nat} (h : va_D (fun _ => True) ws) : va_D (va_A ws sz) ws := ⟨h.1, fun _ _ hk => va_A.in hk⟩
theorem D_any {A : Nat → Prop} {ws : va_W} (h : va_D A ws) : va_D (fun _ => True) ws := ⟨h.1, fun _ _ _ => trivial⟩
theorem b_met {l : Launch} {y : MethodName} {ws ws' : List Cond} {rm : Room} {av : List Value} {G : va_G} {cA c2 c3 : ClassId} {zq b N : Nat} {xs : Nat → Int32} {wc : va_W} {sz : Nat} {Qc : Array Value → State → Outcome → State → Prop} {mc ms : Nat} {free : Addr → Prop} {cc : ByteArray} {maxL : Nat} {ret : Option FieldType}
    (hy : plainName y.cls = true) (hw : ws = Cond.code y cc maxL ret :: ws') (hn : (lg_sl av).length ≤ maxL) (hN : va_D (fun _ => True) wc)
    (body : ∀ (p : Program) (e : Env) (s : State) (m : MethodId) (below : List Frame) (meth : Method) (c : Code) (ls : Array Slot), p.tables.exec = Jvm.exec → c.code = cc → meth.sig.returnType = ret → meth.locks = false → c.maxLocals = maxL → (∀ w ∈ ws, w.before av.toArray s = true) → s.vm.findClass y.cls = some m.cls → meth.name = y.name → s.heap.size = sz → KB G cA c2 c3 zq b N xs (va_A wc sz) s → va_P G vwCl wc s.heap → va_D (va_A wc sz) wc → (∀ x : Nat, sz ≤ x → va_A wc sz x) → va_S (va_A wc sz) s.heap s.heap [] → lv_has ls maxL (lv_args 0 av) → W p l e rm s m av.toArray below meth c s.heap [] 0 0 (MQ below Qc av.toArray s mc ms free) (F0 m 0 ls [])) :
    Met l y ws rm (va_Pc av (bI G cA c2 c3 zq b N xs wc sz)) Qc mc ms free := by
  refine Met.ofW (cc := cc) (maxL := maxL) (ret := ret) hy hw ?_
  intro p e s m args below meth c s₁ B hml hv
  obtain ⟨rfl, hsz, hP, hKP⟩ := hv
  rw [lg_entry_eq]
  exact body p e s m below meth c _ B.exec B.bytes B.returns B.notSynchronized hml (atoms_spec (ws := ws) B.pre) (findClass_of_methodNamed B.named) (name_of_methodNamed B.named B.method).1 hsz hKP hP (D_own hN) (fun x h => Or.inr h) va_S.rf (lv_entry av hn)
theorem P_fst {G : va_G} {xs ys : va_W} {H : Heap} (h : va_P G vwCl (xs ++ ys) H) : va_P G vwCl xs H := fun k q hk => h k q (by rw [List.getElem?_append_left (List.getElem?_eq_some_iff.mp hk).1]; exact hk)
theorem P_snd {G : va_G} {xs ys : va_W} {H : Heap} (h : va_P G vwCl (xs ++ ys) H) : va_P G vwCl ys H := fun k q hk => h (xs.length + k) q (by rw [List.getElem?_append_right (by omega), Nat.add_sub_cancel_left]; exact hk)
theorem D_fst {A : Nat → Prop} {xs ys : va_W} (h : va_D A (xs ++ ys)) : va_D A xs :=
  ⟨fun i j p q hi hj e => h.1 i j p q (by rw [List.getElem?_append_left (List.getElem?_eq_some_iff.mp hi).1]; exact hi) (by rw [List.getElem?_append_left (List.getElem?_eq_some_iff.mp hj).1]; exact hj) e, fun k q hk => h.2 k q (by rw [List.getElem?_append_left (List.getElem?_eq_some_iff.mp hk).1]; exact hk)⟩
theorem D_snd {A : Nat → Prop} {xs ys : va_W} (h : va_D A (xs ++ ys)) : va_D A ys := by
  have g : ∀ (k : Nat) (q : Nat × va_E), ys[k]? = some q → (xs ++ ys)[xs.length + k]? = some q := fun k q hk => by rw [List.getElem?_append_right (by omega), Nat.add_sub_cancel_left]; exact hk
  exact ⟨fun i j p q hi hj e => by have := h.1 _ _ p q (g i p hi) (g j q hj) e; omega, fun k q hk => h.2 _ q (g k q hk)⟩
theorem D_apart {A : Nat → Prop} {xs ys : va_W} (h : va_D A (xs ++ ys)) {i j : Nat} {p q : Nat × va_E} (hi : xs[i]? = some p) (hj : ys[j]? = some q) : p.1 ≠ q.1 := by
  intro e
  have hl := (List.getElem?_eq_some_iff.mp hi).1
  have := h.1 i (xs.length + j) p q (by rw [List.getElem?_append_left hl]; exact hi) (by rw [List.getElem?_append_right (by omega), Nat.add_sub_cancel_left]; exact hj) e
  omega
/-- the same addresses, other contents -/
theorem D_adr {A : Nat → Prop} {ws ws' : va_W} (h : va_D A ws) (he : ∀ (k : Nat) (q : Nat × va_E), ws'[k]? = some q → ∃ e, ws[k]? = some (q.1, e)) : va_D A ws' :=
  ⟨fun i j p q hi hj e => by
    obtain ⟨e1, g1⟩ := he i p hi
    obtain ⟨e2, g2⟩ := he j q hj
    exact h.1 i j _ _ g1 g2 e, fun k q hk => by
    obtain ⟨e1, g1⟩ := he k q hk
    exact (h.2 k (q.1, e1) g1 : A q.1)⟩
theorem D_cls {A : Nat → Prop} {n : Nat} {a : Nat → Nat} {f f' : Cf} {S S' : Mm} {L L' : Int64} {Y : va_W} (h : va_D A (wG n a f S L ++ Y)) : va_D A (wG n a f' S' L' ++ Y) := by
  refine D_adr h (fun k q hk => ?_)
  rcases Nat.lt_or_ge k n with hl | hl
  · rw [List.getElem?_append_left (by rw [wG_len]; exact hl), wG_get hl] at hk
    cases hk
    exact ⟨_, by rw [List.getElem?_append_left (by rw [wG_len]; exact hl), wG_get hl]⟩
  · rw [List.getElem?_append_right (by rw [wG_len]; exact hl), wG_len] at hk
    exact ⟨q.2, by rw [List.getElem?_append_right (by rw [wG_len]; exact hl), wG_len]; exact hk⟩
theorem J_not {G : va_G} {A0 : Nat → Prop} {wc wr : va_W} {H : Heap} (hP : va_P G vwCl (wc ++ wr) H) (hD : va_D A0 (wc ++ wr)) {k : Nat} {q : Nat × va_E} (hk : wr[k]? = some q) : q.1 < H.size ∧ ¬ va_A wc H.size q.1 := by
  have hl : q.1 < H.size := (P_snd hP k q hk).lt
  refine ⟨hl, fun h => ?_⟩
  rcases h with ⟨i, e, h⟩ | h
  · exact D_apart hD h hk rfl
  · omega
theorem J_call {G : va_G} {A0 : Nat → Prop} {wc wr w1 : va_W} {H H1 : Heap} (hP : va_P G vwCl (wc ++ wr) H) (hD : va_D A0 (wc ++ wr)) (hk : ∀ q : Nat, q < H.size → ¬ va_A wc H.size q → H1[q]? = H[q]?) (hF : ∀ q, va_A wc H.size q → A0 q) (hP1 : va_P G vwCl w1 H1) (hD1 : va_D (va_A wc H.size) w1) : va_P G vwCl (w1 ++ wr) H1 ∧ va_D A0 (w1 ++ wr) := by
  refine ⟨hP1.app ((P_snd hP).kept (fun k q hq => ?_)), va_D.app ⟨hD1.1, fun k q h => hF _ (hD1.2 k q h)⟩ (D_snd hD) (fun i j p q hi hj e => ?_)⟩
  · obtain ⟨h1, h2⟩ := J_not hP hD hq
    exact hk _ h1 h2
  · have h1 := hD1.2 i p hi
    rw [e] at h1
    exact (J_not hP hD hj).2 h1
theorem F_pre {A0 : Nat → Prop} {wc wr : va_W} {H0 H : Heap} {locs : List Loc} (hD : va_D A0 (wc ++ wr)) (hS : va_S A0 H0 H locs) (hA : ∀ q, H0.size ≤ q → A0 q) : ∀ q, va_A wc H.size q → A0 q := by
  intro q h
  rcases h with ⟨k, e, h⟩ | h
  · exact (D_fst hD).2 k _ h
  · exact hA q (Nat.le_trans hS.1 h)
theorem mA_va {n sz : Nat} {a : Nat → Nat} {f : Cf} {S : Mm} {L : Int64} : ∀ q, mA n a sz q → va_A (wG n a f S L) sz q := fun q h => h.elim (fun ⟨k, hk, e⟩ => Or.inl ⟨k, _, by rw [wG_get hk, e]⟩) Or.inr
theorem va_mA {n sz : Nat} {a : Nat → Nat} {f : Cf} {S : Mm} {L : Int64} : ∀ q, va_A (wG n a f S L) sz q → mA n a sz q := fun q h => h.elim (fun ⟨k, e, h⟩ => by
  have hk := wG_lt h
  rw [wG_get hk] at h
  cases h
  exact Or.inl ⟨k, hk, rfl⟩) Or.inr
theorem t_ap {A : Nat → Prop} {n : Nat} {a : Nat → Nat} {f : Cf} {S : Mm} {L : Int64} {Y : va_W} (h : va_D A (wG n a f S L ++ Y)) : apart n a := by
  have h1 := D_fst h
  intro i j hi hj e
  exact h1.1 i j _ _ (wG_get hi) (wG_get hj) e
/-- one cell of a list is another's -/
theorem P_one {G : va_G} {A : Nat → Prop} {ws : va_W} {H H1 : Heap} {k q0 : Nat} {e0 e1 : va_E} (hP : va_P G vwCl ws H) (hD : va_D A ws) (hk : ws[k]? = some (q0, e0)) (h1 : va_at G vwCl (q0, e1) H1) (hq : ∀ q : Nat, q < H.size → q ≠ q0 → H1[q]? = H[q]?) : va_P G vwCl (ws.set k (q0, e1)) H1 := by
  have hl := (List.getElem?_eq_some_iff.mp hk).1
  intro j q hj
  by_cases e : j = k
  · subst e
    rw [List.getElem?_set_self hl] at hj
    cases hj
    exact h1
  · rw [List.getElem?_set_ne (fun q => e q.symm)] at hj
    have h2 := hP j q hj
    exact h2.kept (hq _ h2.lt (fun z => e (hD.1 j k q _ hj hk z)))
section BW
variable {p : Program} {l : Launch} {e : Env} {R : Room} {s : State} {m : MethodId} {args : Array Value} {below : List Frame} {meth : Method} {c : Code} {H : Heap} {locs : List Loc} {cells slots : Nat} {Q : State → Prop}
variable {cc : ByteArray} {pc : Nat} {ls : Array Slot} {rest : List Value} {G : va_G} {A0 : Nat → Prop} {cA c2 c3 : ClassId} {zq b N : Nat} {xs : Nat → Int32} {a : Nat → Nat} {S S1 : Mm} {L L1 : Int64} {H0 : Heap} {ws wc wr Y : va_W} {tys : List (ClassId × FieldType)}
variable {y : MethodName} {bytes : ByteArray} {maxL nL mc ms nn index : Nat} {ret : Option FieldType} {wds : List Cond} {rm : Room} {Ts : List Cond} {own C host : String} {As st0 : List Value}
/-- a reference out of a row of rows -/
theorem e_aald (hexec : p.tables.exec = Jvm.exec) (hb : c.code = cc) (hK : va_K G vwCl tys s) (hP : va_P G vwCl ws H) (q0 t0 : Nat) {cQ : ClassId} {T : FieldType} {n q : Nat} {f : Nat → Option Nat} (ha : ws[q0]? = some (q, .inl (cQ, n, .inr (.inr (.inr (.inr f)))))) (ht : tys[t0]? = some (cQ, .array T)) {i : Int32} (hin : vp_in i n) {v : Value} (hv : va_rf (f i.toNatClampNeg) = v) (hdg : decode cc pc = .ok (.aaload, 1))
    (kk : W p l e R s m args below meth c H locs cells slots Q (F0 m (pc + 1) ls (v :: rest))) : W p l e R s m args below meth c H locs cells slots Q (F0 m pc ls (.int i :: .ref q :: rest)) := by
  subst hv
  have hlt : i.toNatClampNeg < n := Nat.not_le.mp fun q => hin (Or.inr q)
  exact W.aald (v := va_rf (f i.toNatClampNeg)) (ty := .array T) hexec hb (hP q0 _ ha) ((hK.2 t0 _ ht).1 n (fun j => va_rf (f j))) rfl (fun q => by cases q) (by show ¬ (i < 0 ∨ (arrV _ _ _).slots.size ≤ _); rw [arrV_size]; exact hin) (by show (arrV _ _ _).slots[_]? = _; rw [arrV_read _ _ hlt]) rfl rfl hdg kk
theorem e_up {f : Nat → Option Nat} {i : Nat} {x : Option Nat} {cQ : ClassId} {n : Nat} (hi : i < n) : (arrV cQ n (fun j => va_rf (f j))).setSlot i (va_rf x) = arrV cQ n (fun j => va_rf (va_up f i x j)) := by
  rw [arrV_store]
  congr 1
  funext q
  by_cases hq : q = i
  · subst hq
    simp [updV, va_up]
  · simp [updV, va_up, hq]
/-- a row of numbers goes into a row of rows -/
theorem e_aast (hexec : p.tables.exec = Jvm.exec) (hb : c.code = cc) (hKA : KA cA c2 s) (hP : va_P G vwCl ws H) (hD : va_D A0 ws) (hS : va_S A0 H0 H locs) (q0 qk : Nat) {n q v : Nat} {x : vp_A} {f : Nat → Option Nat} (ha : ws[q0]? = some (q, .inl (c2, n, .inr (.inr (.inr (.inr f)))))) (hv : ws[qk]? = some (v, .inl (cA, x))) {i : Int32} (hin : vp_in i n) (hdg : decode cc pc = .ok (.aastore, 1))
    (kk : ∀ (H1 : Heap) (locs1 : List Loc), va_P G vwCl (ws.set q0 (q, .inl (c2, n, .inr (.inr (.inr (.inr (va_up f i.toNatClampNeg (some v)))))))) H1 → va_D A0 (ws.set q0 (q, .inl (c2, n, .inr (.inr (.inr (.inr (va_up f i.toNatClampNeg (some v)))))))) → va_S A0 H0 H1 locs1 → W p l e R s m args below meth c H1 locs1 cells slots Q (F0 m (pc + 1) ls rest)) : W p l e R s m args below meth c H locs cells slots Q (F0 m pc ls (.ref v :: .int i :: .ref q :: rest)) := by
  have hlt : i.toNatClampNeg < n := Nat.not_le.mp fun q => hin (Or.inr q)
  have h0 : ¬ i < 0 := fun q => hin (Or.inl q)
  obtain ⟨k2, kA, g1, g2, g3⟩ := hKA
  have hv1 : H[v]? = some (vp_cell cA x) := hP qk _ hv
  have ecls : (vp_cell cA x).cls = cA := by
    obtain ⟨n9, x⟩ := x
    rcases x with x | x | x | x | x <;> rfl
  have evm : (vp_cell cA x).vm = .none := by
    obtain ⟨n9, x⟩ := x
    rcases x with x | x | x | x | x <;> rfl
  refine W.aast hexec hb (hP q0 _ ha) (fun q h => by cases h) (fun h => by cases h) g1 g2 rfl g3 ⟨h0, by show _ < (arrV _ _ _).slots.size; rw [arrV_size]; exact hlt⟩ hv1 (fun q h => by rw [evm] at h; cases h) (by rw [ecls]; exact g3) (by rw [ecls]; exact Vm.assignable_self _ _) rfl rfl hdg fun H1 e z oq => ?_
  refine kk H1 _ (hP.set hD ha ?_ oq) (hD.set ha) (hS.put z oq (hD.2 q0 _ ha))
  show H1[q]? = some (vp_cell _ _)
  rw [e, vp_cell_q, vp_cell_q]
  exact congrArg some (e_up (x := some v) hlt)
/-- null goes into a row of rows -/
theorem e_aastN (hexec : p.tables.exec = Jvm.exec) (hb : c.code = cc) (hK : va_K G vwCl tys s) (hP : va_P G vwCl ws H) (hD : va_D A0 ws) (hS : va_S A0 H0 H locs) (q0 t0 : Nat) {T : FieldType} {n q : Nat} {f : Nat → Option Nat} (ha : ws[q0]? = some (q, .inl (c2, n, .inr (.inr (.inr (.inr f)))))) (ht : tys[t0]? = some (c2, .array T)) {i : Int32} (hin : vp_in i n) (hdg : decode cc pc = .ok (.aastore, 1))
    (kk : ∀ (H1 : Heap) (locs1 : List Loc), va_P G vwCl (ws.set q0 (q, .inl (c2, n, .inr (.inr (.inr (.inr (va_up f i.toNatClampNeg none))))))) H1 → va_D A0 (ws.set q0 (q, .inl (c2, n, .inr (.inr (.inr (.inr (va_up f i.toNatClampNeg none))))))) → va_S A0 H0 H1 locs1 → W p l e R s m args below meth c H1 locs1 cells slots Q (F0 m (pc + 1) ls rest)) : W p l e R s m args below meth c H locs cells slots Q (F0 m pc ls (.null :: .int i :: .ref q :: rest)) := by
  have hlt : i.toNatClampNeg < n := Nat.not_le.mp fun q => hin (Or.inr q)
  intro T9 hT X
  have hT' : T9.heap[q]? = some (arrV c2 n (fun j => va_rf (f j))) := by rw [hT]; exact hP q0 _ ha
  have hl : q < T9.heap.size := (Array.getElem?_eq_some_iff.mp hT').1
  have harr := (hK.2 t0 _ ht).1 n (fun j => va_rf (f j))
  have hsz : ¬ (i < 0 ∨ (arrV c2 n (fun j => va_rf (f j))).slots.size ≤ i.toNatClampNeg) := by rw [arrV_size]; exact hin
  obtain ⟨X', st⟩ := X.aastoreNullN (g := F0 m pc ls (.null :: .int i :: .ref q :: rest)) (a := q) (j := i) (rest := rest) hexec hT' harr rfl (fun h => by cases h) hsz rfl rfl (by rw [hb]; exact hdg)
  obtain ⟨t', a1, b1⟩ := kk (T9.setCell q ((arrV c2 n (fun j => va_rf (f j))).setSlot i.toNatClampNeg .null)).heap (locs ++ [⟨q, i.toNatClampNeg⟩])
    (hP.set hD ha (by
      show (T9.setCell q _).heap[q]? = some (vp_cell _ _)
      rw [heapAt_setCell_self _ hl, vp_cell_q]
      exact congrArg some (e_up (x := none) hlt)) (fun q1 hq => by rw [heapAt_setCell_ne _ (Ne.symm hq), hT]))
    (hD.set ha) (hS.put (by rw [size_setCell, hT]) (fun q1 hq => by rw [heapAt_setCell_ne _ (Ne.symm hq), hT]) (hD.2 q0 _ ha)) _ rfl X'
  exact ⟨t', st t' a1, b1⟩
/-- the class is called -/
theorem t_cVi {r : Int32} (S0 : CallFix p m c cc nL s args Ts own) (hM : Met l y wds rm (va_Pc (.ref (a 0) :: As) (gI G cA (a 37) 37 a (cM a cA) S L H.size)) (gQi r G 37 a (cM a cA) S1 L1 H.size) mc ms (mA 37 a H.size)) (cw : CallW R s args own RX9 index y bytes maxL ret wds rm mc ms nn) (hK : KP G cA (a 37) A0 s) (hA : ∀ q, s.heap.size ≤ q → A0 q) (hP : va_P G vwCl (wG 37 a (cM a cA) S L ++ Y) H) (hD : va_D A0 (wG 37 a (cM a cA) S L ++ Y)) (hS : va_S A0 s.heap H locs) (hlen : As.length = nn) (hls : ls.size = nL) (hst : st0 = As.reverse ++ .ref (a 0) :: rest) (hW : 2 * (F0 m pc ls st0).monitorRoom + (rest.map fun v => v.category).sum ≤ 8) (hdg : decode cc pc = .ok (.invokevirtual index, 3)) (hroom : cells + mc ≤ R.cells ∧ slots + ms ≤ R.slots)
    (kk : ∀ (H1 : Heap) (locs1 : List Loc), va_P G vwCl (wG 37 a (cM a cA) S1 L1 ++ Y) H1 → va_D A0 (wG 37 a (cM a cA) S1 L1 ++ Y) → va_S A0 s.heap H1 locs1 → W p l e R s m args below meth c H1 locs1 (cells + mc) (slots + ms) Q (F0 m (pc + 3) ls (.int r :: rest))) : W p l e R s m args below meth c H locs cells slots Q (F0 m pc ls st0) := by
  have hF : ∀ q, mA 37 a H.size q → A0 q := fun q h => F_pre hD hS hA q (mA_va q h)
  have hP0 := P_fst hP
  refine va_calli (va_runV S0 hM cw ⟨gI_blind, g_recv hK hP0 (o := 0) (by decide) rfl (C := RX9) (T := TX9) (N := 4) rfl, fun U hU hW => ⟨rfl, by rw [hU], by rw [hU]; exact hP0, KP_go hK hF hS hU hW⟩⟩ rfl hlen hls hst hW hdg hroom) hS (fun q _ h => hF q h) hF (fun r' u t H1 locs1 ht hvm hw hB hz1 hk1 hS1 => ?_)
  have hw : r' = r := hw
  subst hw
  rw [ht] at hB
  have hD1 := D_cls (f' := cM a cA) (S' := S1) (L' := L1) hD
  exact kk H1 locs1 (hB.app ((P_snd hP).kept (fun k q hq => by
    obtain ⟨z1, z2⟩ := J_not hP hD hq
    exact hk1 _ z1 (fun z => z2 (mA_va _ z))))) hD1 hS1
theorem t_cVl {r : Int64} (S0 : CallFix p m c cc nL s args Ts own) (hM : Met l y wds rm (va_Pc (.ref (a 0) :: As) (gI G cA (a 37) 37 a (cM a cA) S L H.size)) (gQl r G 37 a (cM a cA) S1 L1 H.size) mc ms (mA 37 a H.size)) (cw : CallW R s args own RX9 index y bytes maxL ret wds rm mc ms nn) (hK : KP G cA (a 37) A0 s) (hA : ∀ q, s.heap.size ≤ q → A0 q) (hP : va_P G vwCl (wG 37 a (cM a cA) S L ++ Y) H) (hD : va_D A0 (wG 37 a (cM a cA) S L ++ Y)) (hS : va_S A0 s.heap H locs) (hlen : As.length = nn) (hls : ls.size = nL) (hst : st0 = As.reverse ++ .ref (a 0) :: rest) (hW : 2 * (F0 m pc ls st0).monitorRoom + (rest.map fun v => v.category).sum ≤ 8) (hdg : decode cc pc = .ok (.invokevirtual index, 3)) (hroom : cells + mc ≤ R.cells ∧ slots + ms ≤ R.slots)
    (kk : ∀ (H1 : Heap) (locs1 : List Loc), va_P G vwCl (wG 37 a (cM a cA) S1 L1 ++ Y) H1 → va_D A0 (wG 37 a (cM a cA) S1 L1 ++ Y) → va_S A0 s.heap H1 locs1 → W p l e R s m args below meth c H1 locs1 (cells + mc) (slots + ms) Q (F0 m (pc + 3) ls (.long r :: rest))) : W p l e R s m args below meth c H locs cells slots Q (F0 m pc ls st0) := by
  have hF : ∀ q, mA 37 a H.size q → A0 q := fun q h => F_pre hD hS hA q (mA_va q h)
  have hP0 := P_fst hP
  refine va_calll (va_runV S0 hM cw ⟨gI_blind, g_recv hK hP0 (o := 0) (by decide) rfl (C := RX9) (T := TX9) (N := 4) rfl, fun U hU hW => ⟨rfl, by rw [hU], by rw [hU]; exact hP0, KP_go hK hF hS hU hW⟩⟩ rfl hlen hls hst hW hdg hroom) hS (fun q _ h => hF q h) hF (fun r' u t H1 locs1 ht hvm hw hB hz1 hk1 hS1 => ?_)
  have hw : r' = r := hw
  subst hw
  rw [ht] at hB
  have hD1 := D_cls (f' := cM a cA) (S' := S1) (L' := L1) hD
  exact kk H1 locs1 (hB.app ((P_snd hP).kept (fun k q hq => by
    obtain ⟨z1, z2⟩ := J_not hP hD hq
    exact hk1 _ z1 (fun z => z2 (mA_va _ z))))) hD1 hS1
theorem t_cVd {v : UInt64} {d0 : Drawn} (hd0 : s.drawn.sameBut d0 lw_cs) (S0 : CallFix p m c cc nL (s.setDrawn d0) args Ts own) (hM : MetD lw_cs l y wds rm (va_Pc (.ref (a 0) :: As) (gI G cA (a 37) 37 a (cM a cA) S L H.size)) (gQd v G 37 a (cM a cA) S1 L1 H.size) mc ms (mA 37 a H.size)) (cw : CallW R (s.setDrawn d0) args own RX9 index y bytes maxL ret wds rm mc ms nn) (hK : KP G cA (a 37) A0 s) (hA : ∀ q, s.heap.size ≤ q → A0 q) (hP : va_P G vwCl (wG 37 a (cM a cA) S L ++ Y) H) (hD : va_D A0 (wG 37 a (cM a cA) S L ++ Y)) (hS : va_S A0 s.heap H locs) (hlen : As.length = nn) (hls : ls.size = nL) (hst : st0 = As.reverse ++ .ref (a 0) :: rest) (hW : 2 * (F0 m pc ls st0).monitorRoom + (rest.map fun v => v.category).sum ≤ 8) (hdg : decode cc pc = .ok (.invokevirtual index, 3)) (hroom : cells + mc ≤ R.cells ∧ slots + ms ≤ R.slots)
    (kk : ∀ (r : UInt64) (d1 : Drawn) (H1 : Heap) (locs1 : List Loc), s.drawn.sameBut d1 lw_cs → alike64 r v = true → va_P G vwCl (wG 37 a (cM a cA) S1 L1 ++ Y) H1 → va_D A0 (wG 37 a (cM a cA) S1 L1 ++ Y) → va_S A0 s.heap H1 locs1 → W p l e R (s.setDrawn d1) m args below meth c H1 locs1 (cells + mc) (slots + ms) Q (F0 m (pc + 3) ls (.double r :: rest))) : W p l e R (s.setDrawn d0) m args below meth c H locs cells slots Q (F0 m pc ls st0) := by
  have hF : ∀ q, mA 37 a H.size q → A0 q := fun q h => F_pre hD hS hA q (mA_va q h)
  have hP0 := P_fst hP
  refine g_cVd hd0 S0 hM cw (g_recv hK hP0 (o := 0) (by decide) rfl (C := RX9) (T := TX9) (N := 4) rfl) hK hF hP0 hS hlen hls hst hW hdg hroom (fun r d1 H1 locs1 hd1 hr hB hS1 hz1 hk1 => ?_)
  have hD1 := D_cls (f' := cM a cA) (S' := S1) (L' := L1) hD
  exact kk r d1 H1 locs1 hd1 hr (hB.app ((P_snd hP).kept (fun k q hq => by
    obtain ⟨z1, z2⟩ := J_not hP hD hq
    exact hk1 _ z1 (fun z => z2 (mA_va _ z))))) hD1 hS1
/-- the law's object is called, over a list of cells ahead of others -/
theorem u_cVi {T : Type} {post : Int32 → T → Prop} {wl : T → va_W} {q0 : Nat} (S0 : CallFix p m c cc nL s args Ts own) (hM : Met l y wds rm (va_Pc (.ref q0 :: As) (bI G cA c2 c3 zq b N xs wc H.size)) (bQi post wl G wc H.size) mc ms (va_A wc H.size)) (cw : CallW R s args own RX10 index y bytes maxL ret wds rm mc ms nn) (hrc : ∃ cell : Cell, H[q0]? = some cell ∧ cell.vm.isStatics = false ∧ s.vm.findClass RX10 = some cell.cls) (hK : KB G cA c2 c3 zq b N xs A0 s) (hA : ∀ q, s.heap.size ≤ q → A0 q) (hP : va_P G vwCl (wc ++ wr) H) (hD : va_D A0 (wc ++ wr)) (hS : va_S A0 s.heap H locs) (hlen : As.length = nn) (hls : ls.size = nL) (hst : st0 = As.reverse ++ .ref q0 :: rest) (hW : 2 * (F0 m pc ls st0).monitorRoom + (rest.map fun v => v.category).sum ≤ 8) (hdg : decode cc pc = .ok (.invokevirtual index, 3)) (hroom : cells + mc ≤ R.cells ∧ slots + ms ≤ R.slots)
    (kk : ∀ (r : Int32) (u : T) (H1 : Heap) (locs1 : List Loc), post r u → va_P G vwCl (wl u ++ wr) H1 → va_D A0 (wl u ++ wr) → va_S A0 s.heap H1 locs1 → W p l e R s m args below meth c H1 locs1 (cells + mc) (slots + ms) Q (F0 m (pc + 3) ls (.int r :: rest))) : W p l e R s m args below meth c H locs cells slots Q (F0 m pc ls st0) := by
  have hF := F_pre hD hS hA
  have hP0 := P_fst hP
  refine va_calli (va_runV S0 hM cw ⟨bI_blind, hrc, fun U hU hW => ⟨rfl, by rw [hU], by rw [hU]; exact hP0, KB_go hK hF hS hU hW⟩⟩ rfl hlen hls hst hW hdg hroom) hS (fun q _ h => hF q h) hF (fun r u t H1 locs1 ht hvm hw hB hz1 hk1 hS1 => ?_)
  rw [ht] at hB
  obtain ⟨z1, z2⟩ := J_call hP hD hk1 hF hB.1 hB.2
  exact kk r u H1 locs1 hw z1 z2 hS1
/-- the law's object is called, one cell of a list -/
theorem v_cVi {post : Int32 → Prop} {q0 k0 : Nat} {e0 e1 : va_E} (S0 : CallFix p m c cc nL s args Ts own) (hM : Met l y wds rm (va_Pc (.ref q0 :: As) (bI G cA c2 c3 zq b N xs [(q0, e0)] H.size)) (bQi (fun x (_ : Unit) => post x) (fun _ => [(q0, e1)]) G [(q0, e0)] H.size) mc ms (va_A [(q0, e0)] H.size)) (cw : CallW R s args own RX10 index y bytes maxL ret wds rm mc ms nn) (hrc : ∃ cell : Cell, H[q0]? = some cell ∧ cell.vm.isStatics = false ∧ s.vm.findClass RX10 = some cell.cls) (hK : KB G cA c2 c3 zq b N xs A0 s) (hA : ∀ q, s.heap.size ≤ q → A0 q) (hP : va_P G vwCl ws H) (hD : va_D A0 ws) (hk0 : ws[k0]? = some (q0, e0)) (hS : va_S A0 s.heap H locs) (hlen : As.length = nn) (hls : ls.size = nL) (hst : st0 = As.reverse ++ .ref q0 :: rest) (hW : 2 * (F0 m pc ls st0).monitorRoom + (rest.map fun v => v.category).sum ≤ 8) (hdg : decode cc pc = .ok (.invokevirtual index, 3)) (hroom : cells + mc ≤ R.cells ∧ slots + ms ≤ R.slots)
    (kk : ∀ (r : Int32) (H1 : Heap) (locs1 : List Loc), post r → va_P G vwCl (ws.set k0 (q0, e1)) H1 → va_D A0 (ws.set k0 (q0, e1)) → va_S A0 s.heap H1 locs1 → W p l e R s m args below meth c H1 locs1 (cells + mc) (slots + ms) Q (F0 m (pc + 3) ls (.int r :: rest))) : W p l e R s m args below meth c H locs cells slots Q (F0 m pc ls st0) := by
  have hF : ∀ q, va_A [(q0, e0)] H.size q → A0 q := by
    intro q h
    rcases h with ⟨k, e9, h⟩ | h
    · have hz : k < 1 := (List.getElem?_eq_some_iff.mp h).1
      rw [show k = 0 by omega] at h
      cases h
      exact hD.2 k0 _ hk0
    · exact hA q (Nat.le_trans hS.1 h)
  have hP0 : va_P G vwCl [(q0, e0)] H := by
    intro k q h
    have hz : k < 1 := (List.getElem?_eq_some_iff.mp h).1
    rw [show k = 0 by omega] at h
    cases h
    exact hP k0 _ hk0
  refine va_calli (va_runV S0 hM cw ⟨bI_blind, hrc, fun U hU hW => ⟨rfl, by rw [hU], by rw [hU]; exact hP0, KB_go hK hF hS hU hW⟩⟩ rfl hlen hls hst hW hdg hroom) hS (fun q _ h => hF q h) hF (fun r u t H1 locs1 ht hvm hw hB hz1 hk1 hS1 => ?_)
  rw [ht] at hB
  refine kk r H1 locs1 hw (P_one hP hD hk0 (hB.1 0 _ rfl) (fun q h1 h2 => hk1 q h1 (fun z => ?_))) (hD.set hk0) hS1
  rcases z with ⟨k, e9, z⟩ | z
  · have hz : k < 1 := (List.getElem?_eq_some_iff.mp z).1
    rw [show k = 0 by omega] at z
    cases z
    exact h2 rfl
  · omega
end BW
