/-! The memory of a system as numbers: which object, which place. A world: n cells at the addresses a, each made out of its own row of numbers (and one long). -/
abbrev Mm : Type := Nat → Nat → Int32
abbrev Cf : Type := Nat → (Nat → Int32) → Int64 → va_E
def up2 (S : Mm) (o k : Nat) (x : Int32) : Mm := fun o' => if o' = o then upd (S o) k x else S o'
theorem up2_s (S : Mm) (o k : Nat) (x : Int32) : up2 S o k x o = upd (S o) k x := by simp [up2]
theorem up2_n {S : Mm} {o o' k : Nat} {x : Int32} (h : o' ≠ o) : up2 S o k x o' = S o' := by simp [up2, h]
def wG (n : Nat) (a : Nat → Nat) (f : Cf) (S : Mm) (L : Int64) : va_W := (List.range n).map (fun o => (a o, f o (S o) L))
theorem wG_get {n : Nat} {a : Nat → Nat} {f : Cf} {S : Mm} {L : Int64} {o : Nat} (h : o < n) : (wG n a f S L)[o]? = some (a o, f o (S o) L) := by
  unfold wG
  rw [List.getElem?_map, List.getElem?_range h]
  rfl
theorem wG_len {n : Nat} {a : Nat → Nat} {f : Cf} {S : Mm} {L : Int64} : (wG n a f S L).length = n := by simp [wG]
theorem wG_lt {n : Nat} {a : Nat → Nat} {f : Cf} {S : Mm} {L : Int64} {k : Nat} {q : Nat × va_E} (h : (wG n a f S L)[k]? = some q) : k < n := by
  have h1 := (List.getElem?_eq_some_iff.mp h).1
  rw [wG_len] at h1
  exact h1
theorem wG_set {n : Nat} {a : Nat → Nat} {f : Cf} {S S' : Mm} {L L' : Int64} {o : Nat} {e : va_E} (h : o < n) (he : f o (S' o) L' = e) (hc : ∀ o', o' < n → o' ≠ o → f o' (S' o') L' = f o' (S o') L) : (wG n a f S L).set o (a o, e) = wG n a f S' L' := by
  apply List.ext_getElem?
  intro k
  by_cases hk : k < n
  · rw [wG_get hk]
    by_cases ho : k = o
    · subst ho
      rw [List.getElem?_set_self (by rw [wG_len]; exact h), he]
    · rw [List.getElem?_set_ne (fun q => ho q.symm), wG_get hk, hc k hk ho]
  · rw [List.getElem?_eq_none (by rw [List.length_set, wG_len]; omega), List.getElem?_eq_none (by rw [wG_len]; omega)]
theorem wG_up {n : Nat} {a : Nat → Nat} {f : Cf} {S : Mm} {L : Int64} {o k : Nat} {x : Int32} {e : va_E} (h : o < n) (he : f o (upd (S o) k x) L = e) : (wG n a f S L).set o (a o, e) = wG n a f (up2 S o k x) L :=
  wG_set h (by rw [up2_s]; exact he) (fun o' _ hn => by rw [up2_n hn])
/-- which cells a method may change: its world's, and those that it makes -/
def mA (n : Nat) (a : Nat → Nat) (sz : Nat) : Nat → Prop := fun q => (∃ k, k < n ∧ a k = q) ∨ sz ≤ q
def apart (n : Nat) (a : Nat → Nat) : Prop := ∀ i j, i < n → j < n → a i = a j → i = j
theorem mA_mono {n : Nat} {a : Nat → Nat} {sz sz' : Nat} (h : sz ≤ sz') : ∀ q, mA n a sz' q → mA n a sz q := fun _ hq => hq.elim Or.inl (fun z => Or.inr (Nat.le_trans h z))
theorem wG_D {n : Nat} {a : Nat → Nat} {f : Cf} {S : Mm} {L : Int64} {A : Nat → Prop} (ha : apart n a) (hA : ∀ k, k < n → A (a k)) : va_D A (wG n a f S L) := by
  refine ⟨fun i j p q hi hj hpq => ?_, fun k q hk => ?_⟩
  · have h1 := wG_lt hi
    have h2 := wG_lt hj
    rw [wG_get h1] at hi
    rw [wG_get h2] at hj
    cases hi
    cases hj
    exact ha i j h1 h2 hpq
  · have h1 := wG_lt hk
    rw [wG_get h1] at hk
    cases hk
    exact hA k h1
theorem mA_in {n : Nat} {a : Nat → Nat} {sz : Nat} : ∀ k, k < n → mA n a sz (a k) := fun k h => Or.inl ⟨k, h, rfl⟩
/-- the nest's links -/
def nkT : List (String × Nat × MethodName × String) := [("Melodeon", 9, yX5_init, "Melodeon"), ("Melodeon$Setup", 29, yX1_init, "Melodeon"), ("Melodeon$Stage", 11, yX0_init, "Melodeon"), ("Melodeon$Stage", 20, yX7_init, "Melodeon"), ("Melodeon", 30, yX2_init, "Melodeon"), ("Melodeon$Voice", 73, yX9_quotient, "Melodeon"), ("Melodeon$Voice", 93, yX9_strideOf, "Melodeon"), ("Melodeon$Instrument", 34, yX9_quotient, "Melodeon"), ("Melodeon$Voice", 116, yX9_kept, "Melodeon"), ("Melodeon$Delay", 45, yX9_kept, "Melodeon"), ("Melodeon$Meter", 20, yX9_kept, "Melodeon")]
def nk (U : State) : Prop := ∀ q ∈ nkT, va_Nw (.methodLinkNest q.1 q.2.1 q.2.2.1 q.2.2.2) U
theorem nk.warm {s U : State} (h : nk s) (hW : s.WarmedH U.vm) : nk U := fun q hq => va_Nw.warmM hW (h q hq)
theorem nk.at {s : State} (h : nk s) {q : String × Nat × MethodName × String} (hq : q ∈ nkT) : va_Nw (.methodLinkNest q.1 q.2.1 q.2.2.1 q.2.2.2) s := h q hq
/-- the static row of strides, which nobody writes -/
def zr : Nat → Int32 := fun k => match k with
  | 0 => 256
  | 1 => 271
  | 2 => 287
  | 3 => 304
  | 4 => 323
  | 5 => 342
  | 6 => 362
  | 7 => 384
  | 8 => 406
  | 9 => 431
  | 10 => 456
  | _ => 483
def zS (zq : Nat) (A : Nat → Prop) (U : State) (H : Heap) : Prop := va_Z "Melodeon" "STRIDES" "[I" (.ref zq) A U H ∧ va_T .int zq 12 (fun j => .int (zr j)) A U H
theorem zS.moved {zq : Nat} {A : Nat → Prop} {u U : State} {H : Heap} (hvm : u.vm.Alike U.vm) (h : zS zq A u H) : zS zq A U H := ⟨h.1.moved hvm, h.2.moved hvm⟩
theorem zS.kept {zq : Nat} {A : Nat → Prop} {U : State} {H H1 : Heap} (h : zS zq A U H) (hq : ∀ a : Nat, a < H.size → ¬ A a → H1[a]? = H[a]?) : zS zq A U H1 := ⟨h.1.kept hq, h.2.kept hq⟩
theorem zS.narrow {zq : Nat} {A B : Nat → Prop} {U : State} {H : Heap} (h : zS zq A U H) (hAB : ∀ q, B q → A q) : zS zq B U H := ⟨h.1.narrow hAB, h.2.narrow hAB⟩
/-- what is known of the tables, and of the static row -/
abbrev KP (G : va_G) (cA : ClassId) (zq : Nat) (A : Nat → Prop) (U : State) : Prop := va_K G vwCl [(cA, .int)] U ∧ nk U ∧ zS zq A U U.heap
theorem KP_go {G : va_G} {cA : ClassId} {zq : Nat} {A0 A1 : Nat → Prop} {s U : State} {H : Heap} {locs : List Loc} (h : KP G cA zq A0 s) (hA : ∀ q, A1 q → A0 q) (hS : va_S A0 s.heap H locs) (hU : U.heap = H) (hW : s.WarmedH U.vm) : KP G cA zq A1 U :=
  ⟨h.1.moved hW.alike, h.2.1.warm hW, ((h.2.2.moved hW.alike).kept (fun q h1 h2 => by rw [hU]; exact hS.2.1 q h1 h2)).narrow hA⟩
abbrev gI (G : va_G) (cA : ClassId) (zq n : Nat) (a : Nat → Nat) (f : Cf) (S : Mm) (L : Int64) (sz : Nat) : State → Prop := fun U => U.heap.size = sz ∧ va_P G vwCl (wG n a f S L) U.heap ∧ KP G cA zq (mA n a sz) U
theorem gI_blind {av : List Value} {G : va_G} {cA : ClassId} {zq n : Nat} {a : Nat → Nat} {f : Cf} {S : Mm} {L : Int64} {sz : Nat} : FrameBlind (va_Pc av (gI G cA zq n a f S L sz)) := by
  intro v U g mk q
  obtain ⟨q0, q1, qP, qK, qN, qZ⟩ := q
  exact ⟨q0, q1, qP, va_K.moved (u := U) (U := U.calling g mk v) (Vm.Alike.refl U.vm) qK, nk.warm (s := U) (U := U.calling g mk v) qN (State.WarmedH.refl U), zS.moved (u := U) (U := U.calling g mk v) (Vm.Alike.refl U.vm) qZ⟩
abbrev gQi (r : Int32) (G : va_G) (n : Nat) (a : Nat → Nat) (f : Cf) (S : Mm) (L : Int64) (sz : Nat) : Array Value → State → Outcome → State → Prop := va_Qi (fun (x : Int32) (_ : Unit) => x = r) (fun _ t => va_P G vwCl (wG n a f S L) t.heap) (mA n a sz)
abbrev gQl (r : Int64) (G : va_G) (n : Nat) (a : Nat → Nat) (f : Cf) (S : Mm) (L : Int64) (sz : Nat) : Array Value → State → Outcome → State → Prop := va_Ql (fun (x : Int64) (_ : Unit) => x = r) (fun _ t => va_P G vwCl (wG n a f S L) t.heap) (mA n a sz)
abbrev gQv (G : va_G) (n : Nat) (a : Nat → Nat) (f : Cf) (S : Mm) (L : Int64) (sz : Nat) : Array Value → State → Outcome → State → Prop := va_Qv (fun (_ : Unit) => True) (fun _ t => va_P G vwCl (wG n a f S L) t.heap) (mA n a sz)
abbrev gQr (r : Nat) (G : va_G) (n : Nat) (a : Nat → Nat) (f : Cf) (S : Mm) (L : Int64) (sz : Nat) : Array Value → State → Outcome → State → Prop := va_Qr (fun (_ : Unit) => True) (fun _ q t => q = r ∧ va_P G vwCl (wG n a f S L) t.heap) (mA n a sz)
theorem g_met {l : Launch} {y : MethodName} {ws ws' : List Cond} {rm : Room} {av : List Value} {G : va_G} {cA : ClassId} {zq n : Nat} {a : Nat → Nat} {f : Cf} {S : Mm} {L : Int64} {sz : Nat} {Qc : Array Value → State → Outcome → State → Prop} {mc ms : Nat} {free : Addr → Prop} {cc : ByteArray} {maxL : Nat} {ret : Option FieldType}
    (hy : plainName y.cls = true) (hw : ws = Cond.code y cc maxL ret :: ws') (hn : (lg_sl av).length ≤ maxL)
    (body : ∀ (p : Program) (e : Env) (s : State) (m : MethodId) (below : List Frame) (meth : Method) (c : Code) (ls : Array Slot), p.tables.exec = Jvm.exec → c.code = cc → meth.sig.returnType = ret → meth.locks = false → c.maxLocals = maxL → (∀ w ∈ ws, w.before av.toArray s = true) → s.vm.findClass y.cls = some m.cls → meth.name = y.name → s.heap.size = sz → KP G cA zq (mA n a sz) s → va_P G vwCl (wG n a f S L) s.heap → va_S (mA n a sz) s.heap s.heap [] → lv_has ls maxL (lv_args 0 av) → W p l e rm s m av.toArray below meth c s.heap [] 0 0 (MQ below Qc av.toArray s mc ms free) (F0 m 0 ls [])) :
    Met l y ws rm (va_Pc av (gI G cA zq n a f S L sz)) Qc mc ms free := by
  refine Met.ofW (cc := cc) (maxL := maxL) (ret := ret) hy hw ?_
  intro p e s m args below meth c s₁ B hml hv
  obtain ⟨rfl, hsz, hP, hKP⟩ := hv
  rw [lg_entry_eq]
  exact body p e s m below meth c _ B.exec B.bytes B.returns B.notSynchronized hml (atoms_spec (ws := ws) B.pre) (findClass_of_methodNamed B.named) (name_of_methodNamed B.named B.method).1 hsz hKP hP va_S.rf (lv_entry av hn)
theorem g_metF {l : Launch} {y : MethodName} {ws ws' : List Cond} {rm : Room} {av : List Value} {G : va_G} {cA : ClassId} {zq n : Nat} {a : Nat → Nat} {f : Cf} {S : Mm} {L : Int64} {sz : Nat} {Qc : Array Value → State → Outcome → State → Prop} {mc ms : Nat} {free : Addr → Prop} {cc : ByteArray} {maxL : Nat} {ret : Option FieldType}
    (hy : plainFor y = true) (hw : ws = Cond.code y cc maxL ret :: ws') (hn : (lg_sl av).length ≤ maxL)
    (body : ∀ (p : Program) (e : Env) (s : State) (m : MethodId) (below : List Frame) (meth : Method) (c : Code) (ls : Array Slot), p.tables.exec = Jvm.exec → c.code = cc → meth.sig.returnType = ret → meth.locks = false → c.maxLocals = maxL → (∀ w ∈ ws, w.before av.toArray s = true) → s.vm.findClass y.cls = some m.cls → meth.name = y.name → s.heap.size = sz → KP G cA zq (mA n a sz) s → va_P G vwCl (wG n a f S L) s.heap → va_S (mA n a sz) s.heap s.heap [] → lv_has ls maxL (lv_args 0 av) → W p l e rm s m av.toArray below meth c s.heap [] 0 0 (MQ below Qc av.toArray s mc ms free) (F0 m 0 ls [])) :
    Met l y ws rm (va_Pc av (gI G cA zq n a f S L sz)) Qc mc ms free := by
  refine MetFree.of_bodySF (code := cc) (maxLocals := maxL) (ret := ret) hy ?_ ?_
  · intro args s m h hn
    obtain ⟨meth, c, h1, h2, h3, h4, h5, h6, -, -⟩ := Cond.code_spec hn (atoms_spec (ws := ws) h _ (by rw [hw]; exact List.mem_cons_self))
    exact ⟨meth, c, h1, h2, h3, h4, h5, h6⟩
  intro p e s m args below meth c s₁ B hml hv _
  have hh0 : s₁.heap = s.heap := by rw [B.state]; rfl
  obtain ⟨rfl, hsz, hP, hKP⟩ := hv
  obtain ⟨t, a1, o, b1, b2, b3⟩ : ∃ t, Steps p.tables e below (s₁.setTop (entryFrame m av.toArray maxL)) t ∧ MQ below Qc av.toArray s mc ms free t := by
    refine (?_ : W p l e rm s m av.toArray below meth c s.heap [] 0 0 (MQ below Qc av.toArray s mc ms free) (entryFrame m av.toArray maxL)) s₁ hh0 (Stand.of_body B)
    rw [lg_entry_eq]
    exact body p e s m below meth c _ B.exec B.bytes B.returns B.notSynchronized hml (atoms_spec (ws := ws) B.pre) (findClass_of_methodNamed B.named) (name_of_methodNamed B.named B.method).1 hsz hKP hP va_S.rf (lv_entry av hn)
  exact ⟨t, o, a1, b1, b2, ⟨b3.1, b3.2⟩⟩
section GW
variable {p : Program} {l : Launch} {e : Env} {R : Room} {s : State} {m : MethodId} {args : Array Value} {below : List Frame} {meth : Method} {c : Code} {H : Heap} {locs : List Loc} {cells slots : Nat} {Q : State → Prop}
variable {cc : ByteArray} {pc : Nat} {ls : Array Slot} {rest : List Value} {G : va_G} {A0 : Nat → Prop} {cA : ClassId} {zq n : Nat} {a : Nat → Nat} {f : Cf} {S S1 : Mm} {L L1 : Int64} {H0 : Heap}
theorem g_get (hx : p.tables.exec = Jvm.exec) (hb : c.code = cc) {own C : String} {T : u_T} {N ci index : Nat} {Ts : List Cond} (hts : ∀ w ∈ Ts, w.before args s = true) (hin : ∀ w ∈ u_ws C T N, w ∈ Ts) (hown : s.vm.findClass own = some m.cls) (hK : KP G cA zq A0 s) (hP : va_P G vwCl (wG n a f S L) H) {o : Nat} {fs : List Value} (ho : o < n) (hf : f o (S o) L = .inr (ci, fs)) (hc : vwCl[ci]? = some (C, T, N)) (k : Nat) (hk : k < N) (hd : (T k).1 = C) (hlink : Cond.fieldLink own index C (T k).2.1 (T k).2.2.1 ∈ Ts) {v : Value} (hv : fs[k]? = some v) (hdg : decode cc pc = .ok (.getfield index, 3))
    (kk : W p l e R s m args below meth c H locs cells slots Q (F0 m (pc + 3) ls (v :: rest))) : W p l e R s m args below meth c H locs cells slots Q (F0 m pc ls (.ref (a o) :: rest)) :=
  va_get hx hb hts hin hown hK.1 hP o (by rw [wG_get ho, hf]) hc k hk (hts _ hlink) (fun x h => by rw [hd] at h; exact h) hv hdg kk
theorem g_put (hx : p.tables.exec = Jvm.exec) (hb : c.code = cc) {own C : String} {T : u_T} {N ci index : Nat} {Ts : List Cond} (hts : ∀ w ∈ Ts, w.before args s = true) (hin : ∀ w ∈ u_ws C T N, w ∈ Ts) (ty0 : Nat → FieldType) (hty : ∀ k, k < N → parseFieldDescriptor (T k).2.2.1 = some (ty0 k)) (hnm : ∀ a, a < N → ∀ b, b < N → a ≠ b → (T a).2.1 ≠ (T b).2.1) (hown : s.vm.findClass own = some m.cls) (hK : KP G cA zq A0 s) (ha : apart n a) (hAk : ∀ k, k < n → A0 (a k)) (hP : va_P G vwCl (wG n a f S L) H) (hS : va_S A0 H0 H locs) {o : Nat} {fs : List Value} (ho : o < n) (hf : f o (S o) L = .inr (ci, fs)) (hc : vwCl[ci]? = some (C, T, N)) (k : Nat) (hk : k < N) (hd : (T k).1 = C) (hlink : Cond.fieldLink own index C (T k).2.1 (T k).2.2.1 ∈ Ts) (hfin : (T k).2.2.2 = false) {ty : FieldType} {x : Int32} (hdsc : parseFieldDescriptor (T k).2.2.1 = some ty) (hn : narrow ty (.int x) = .int x) (hfit : fits ty (.int x) = true) (hl : k < fs.length) (he : f o (upd (S o) k x) L = .inr (ci, fs.set k (.int x))) (hdg : decode cc pc = .ok (.putfield index, 3))
    (kk : ∀ (H1 : Heap) (locs1 : List Loc), va_P G vwCl (wG n a f (up2 S o k x) L) H1 → va_S A0 H0 H1 locs1 → W p l e R s m args below meth c H1 locs1 cells slots Q (F0 m (pc + 3) ls rest)) : W p l e R s m args below meth c H locs cells slots Q (F0 m pc ls (.int x :: .ref (a o) :: rest)) :=
  va_put hx hb hts hin ty0 hty hnm hown hK.1 hP (wG_D ha hAk) hS o (by rw [wG_get ho, hf]) hc k hk (hts _ hlink) (fun x h => by rw [hd] at h; exact h) hfin hdsc hn hfit hl hdg (fun H1 locs1 hP1 _ hS1 => kk H1 locs1 (by rw [← wG_up ho he]; exact hP1) hS1)
/-- the world's long -/
theorem g_putL (hx : p.tables.exec = Jvm.exec) (hb : c.code = cc) {own C : String} {T : u_T} {N ci index : Nat} {Ts : List Cond} (hts : ∀ w ∈ Ts, w.before args s = true) (hin : ∀ w ∈ u_ws C T N, w ∈ Ts) (ty0 : Nat → FieldType) (hty : ∀ k, k < N → parseFieldDescriptor (T k).2.2.1 = some (ty0 k)) (hnm : ∀ a, a < N → ∀ b, b < N → a ≠ b → (T a).2.1 ≠ (T b).2.1) (hown : s.vm.findClass own = some m.cls) (hK : KP G cA zq A0 s) (ha : apart n a) (hAk : ∀ k, k < n → A0 (a k)) (hP : va_P G vwCl (wG n a f S L) H) (hS : va_S A0 H0 H locs) {o : Nat} {fs : List Value} (ho : o < n) (hf : f o (S o) L = .inr (ci, fs)) (hc : vwCl[ci]? = some (C, T, N)) (k : Nat) (hk : k < N) (hd : (T k).1 = C) (hlink : Cond.fieldLink own index C (T k).2.1 (T k).2.2.1 ∈ Ts) (hfin : (T k).2.2.2 = false) {x : Int64} (hdsc : parseFieldDescriptor (T k).2.2.1 = some .long) (hl : k < fs.length) (he : f o (S o) x = .inr (ci, fs.set k (.long x))) (hoth : ∀ o', o' < n → o' ≠ o → f o' (S o') x = f o' (S o') L) (hdg : decode cc pc = .ok (.putfield index, 3))
    (kk : ∀ (H1 : Heap) (locs1 : List Loc), va_P G vwCl (wG n a f S x) H1 → va_S A0 H0 H1 locs1 → W p l e R s m args below meth c H1 locs1 cells slots Q (F0 m (pc + 3) ls rest)) : W p l e R s m args below meth c H locs cells slots Q (F0 m pc ls (.long x :: .ref (a o) :: rest)) :=
  va_put hx hb hts hin ty0 hty hnm hown hK.1 hP (wG_D ha hAk) hS o (by rw [wG_get ho, hf]) hc k hk (hts _ hlink) (fun x h => by rw [hd] at h; exact h) hfin hdsc rfl rfl hl hdg (fun H1 locs1 hP1 _ hS1 => kk H1 locs1 (by rw [← wG_set (S' := S) (L' := x) ho he hoth]; exact hP1) hS1)
theorem g_iald (hx : p.tables.exec = Jvm.exec) (hb : c.code = cc) (hK : KP G cA zq A0 s) (hP : va_P G vwCl (wG n a f S L) H) {o N : Nat} {g : Nat → Int32} (ho : o < n) (hf : f o (S o) L = .inl (cA, N, .inl g)) {i : Int32} (hin : vp_in i N) (hdg : decode cc pc = .ok (.iaload, 1))
    (kk : W p l e R s m args below meth c H locs cells slots Q (F0 m (pc + 1) ls (.int (g i.toNatClampNeg) :: rest))) : W p l e R s m args below meth c H locs cells slots Q (F0 m pc ls (.int i :: .ref (a o) :: rest)) :=
  va_iald hx hb hK.1 hP o 0 (by rw [wG_get ho, hf]) rfl hin hdg kk
theorem g_iast (hx : p.tables.exec = Jvm.exec) (hb : c.code = cc) (hK : KP G cA zq A0 s) (ha : apart n a) (hAk : ∀ k, k < n → A0 (a k)) (hP : va_P G vwCl (wG n a f S L) H) (hS : va_S A0 H0 H locs) {o N : Nat} {g : Nat → Int32} (ho : o < n) (hf : f o (S o) L = .inl (cA, N, .inl g)) {i x : Int32} (hin : vp_in i N) (he : f o (upd (S o) i.toNatClampNeg x) L = .inl (cA, N, .inl (upd g i.toNatClampNeg x))) (hdg : decode cc pc = .ok (.iastore, 1))
    (kk : ∀ (H1 : Heap) (locs1 : List Loc), va_P G vwCl (wG n a f (up2 S o i.toNatClampNeg x) L) H1 → va_S A0 H0 H1 locs1 → W p l e R s m args below meth c H1 locs1 cells slots Q (F0 m (pc + 1) ls rest)) : W p l e R s m args below meth c H locs cells slots Q (F0 m pc ls (.int x :: .int i :: .ref (a o) :: rest)) :=
  va_iast hx hb hK.1 hP (wG_D ha hAk) hS o 0 (by rw [wG_get ho, hf]) rfl hin hdg (fun H1 locs1 hP1 _ hS1 => kk H1 locs1 (by rw [← wG_up ho he]; exact hP1) hS1)
theorem g_alen (hx : p.tables.exec = Jvm.exec) (hb : c.code = cc) (hK : KP G cA zq A0 s) (hP : va_P G vwCl (wG n a f S L) H) {o N : Nat} {g : Nat → Int32} (ho : o < n) (hf : f o (S o) L = .inl (cA, N, .inl g)) (hdg : decode cc pc = .ok (.arraylength, 1))
    (kk : W p l e R s m args below meth c H locs cells slots Q (F0 m (pc + 1) ls (.int (Int32.ofNat N) :: rest))) : W p l e R s m args below meth c H locs cells slots Q (F0 m pc ls (.ref (a o) :: rest)) :=
  va_alen hx hb hK.1 hP o 0 (by rw [wG_get ho, hf]) rfl rfl hdg kk
theorem g_iret {v r : Int32} (hx : p.tables.exec = Jvm.exec) (hb : c.code = cc) (hr : meth.sig.returnType = some .int) (hlocks : meth.locks = false) (hv : r = v) (hS1 : S1 = S) (hL1 : L1 = L) (hP : va_P G vwCl (wG n a f S L) H) (hS : va_S (mA n a s.heap.size) s.heap H locs) (hdg : decode cc pc = .ok (.ireturn, 1)) : W p l e R s m args below meth c H locs cells slots (MQ below (gQi r G n a f S1 L1 s.heap.size) args s cells slots (mA n a s.heap.size)) (F0 m pc ls [.int v]) := by
  subst hv; subst hS1; subst hL1
  exact W.iret hx hb hr (fun t ht hW => ⟨⟨_, (), rfl, rfl, (by subst ht; exact hP)⟩, hS.F ht⟩) hS.2.2 hdg hlocks
theorem g_zret {v r : Int32} (hx : p.tables.exec = Jvm.exec) (hb : c.code = cc) (hr : meth.sig.returnType = some .boolean) (hlocks : meth.locks = false) (hn : narrow .boolean (.int v) = .int v) (hv : r = v) (hS1 : S1 = S) (hL1 : L1 = L) (hP : va_P G vwCl (wG n a f S L) H) (hS : va_S (mA n a s.heap.size) s.heap H locs) (hdg : decode cc pc = .ok (.ireturn, 1)) : W p l e R s m args below meth c H locs cells slots (MQ below (gQi r G n a f S1 L1 s.heap.size) args s cells slots (mA n a s.heap.size)) (F0 m pc ls [.int v]) := by
  subst hv; subst hS1; subst hL1
  exact W.zret hx hb hr hn (fun t ht hW => ⟨⟨_, (), rfl, rfl, (by subst ht; exact hP)⟩, hS.F ht⟩) hS.2.2 hdg hlocks
theorem g_lret {v r : Int64} (hx : p.tables.exec = Jvm.exec) (hb : c.code = cc) (hr : meth.sig.returnType = some .long) (hlocks : meth.locks = false) (hv : r = v) (hS1 : S1 = S) (hL1 : L1 = L) (hP : va_P G vwCl (wG n a f S L) H) (hS : va_S (mA n a s.heap.size) s.heap H locs) (hdg : decode cc pc = .ok (.lreturn, 1)) : W p l e R s m args below meth c H locs cells slots (MQ below (gQl r G n a f S1 L1 s.heap.size) args s cells slots (mA n a s.heap.size)) (F0 m pc ls [.long v]) := by
  subst hv; subst hS1; subst hL1
  exact W.lret hx hb hr (fun t ht hW => ⟨⟨_, (), rfl, rfl, (by subst ht; exact hP)⟩, hS.F ht⟩) hS.2.2 hdg hlocks
theorem g_vret (hx : p.tables.exec = Jvm.exec) (hb : c.code = cc) (hr : meth.sig.returnType = none) (hlocks : meth.locks = false) (hS1 : S1 = S) (hL1 : L1 = L) (hP : va_P G vwCl (wG n a f S L) H) (hS : va_S (mA n a s.heap.size) s.heap H locs) (hdg : decode cc pc = .ok (.return_, 1)) : W p l e R s m args below meth c H locs cells slots (MQ below (gQv G n a f S1 L1 s.heap.size) args s cells slots (mA n a s.heap.size)) (F0 m pc ls []) := by
  subst hS1; subst hL1
  exact W.vret hx hb hr (fun t ht hW => ⟨⟨(), rfl, trivial, (by subst ht; exact hP)⟩, hS.F ht⟩) hS.2.2 hdg hlocks
theorem g_aret {v r : Nat} {cn : String} (hx : p.tables.exec = Jvm.exec) (hb : c.code = cc) (hr : meth.sig.returnType = some (.object cn)) (hlocks : meth.locks = false) (hv : r = v) (hS1 : S1 = S) (hL1 : L1 = L) (hP : va_P G vwCl (wG n a f S L) H) (hS : va_S (mA n a s.heap.size) s.heap H locs) (hdg : decode cc pc = .ok (.areturn, 1)) : W p l e R s m args below meth c H locs cells slots (MQ below (gQr r G n a f S1 L1 s.heap.size) args s cells slots (mA n a s.heap.size)) (F0 m pc ls [.ref v]) := by
  subst hv; subst hS1; subst hL1
  exact W.aret (v := .ref _) hx hb hr (Or.inl ⟨_, rfl⟩) (Or.inr ⟨_, rfl⟩) (fun t ht hW => ⟨⟨(), _, rfl, trivial, rfl, (by subst ht; exact hP)⟩, hS.F ht⟩) hS.2.2 hdg hlocks
theorem g_recv {C : String} {T : u_T} {N ci o : Nat} {fs : List Value} (hK : KP G cA zq A0 s) (hP : va_P G vwCl (wG n a f S L) H) (ho : o < n) (hf : f o (S o) L = .inr (ci, fs)) (hc : vwCl[ci]? = some (C, T, N)) : ∃ cell : Cell, H[a o]? = some cell ∧ cell.vm.isStatics = false ∧ s.vm.findClass C = some cell.cls :=
  va_recv hK.1 hP (q := (C, T, N)) hc (by rw [wG_get ho, hf])
variable {y : MethodName} {bytes : ByteArray} {maxL nL mc ms nn index : Nat} {ret : Option FieldType} {ws : List Cond} {rm : Room} {Ts : List Cond} {own C host : String} {b : Addr} {As st0 : List Value}
/-- behind a call: the world as the callee says, all else as it was -/
abbrev gK (p : Program) (l : Launch) (e : Env) (R : Room) (s : State) (m : MethodId) (args : Array Value) (below : List Frame) (meth : Method) (c : Code) (H : Heap) (cells slots : Nat) (Q : State → Prop) (G : va_G) (A0 : Nat → Prop) (n : Nat) (a : Nat → Nat) (f : Cf) (S1 : Mm) (L1 : Int64) (g : JFrame) : Prop :=
  ∀ (H1 : Heap) (locs1 : List Loc), va_P G vwCl (wG n a f S1 L1) H1 → va_S A0 s.heap H1 locs1 → H.size ≤ H1.size → (∀ q : Nat, q < H.size → ¬ mA n a H.size q → H1[q]? = H[q]?) → W p l e R s m args below meth c H1 locs1 cells slots Q g
theorem g_cVi {r : Int32} (S0 : CallFix p m c cc nL s args Ts own) (hM : Met l y ws rm (va_Pc (.ref b :: As) (gI G cA zq n a f S L H.size)) (gQi r G n a f S1 L1 H.size) mc ms (mA n a H.size)) (cw : CallW R s args own C index y bytes maxL ret ws rm mc ms nn) (hrc : ∃ cell : Cell, H[b]? = some cell ∧ cell.vm.isStatics = false ∧ s.vm.findClass C = some cell.cls) (hK : KP G cA zq A0 s) (hA : ∀ q, mA n a H.size q → A0 q) (hP : va_P G vwCl (wG n a f S L) H) (hS : va_S A0 s.heap H locs) (hlen : As.length = nn) (hls : ls.size = nL) (hst : st0 = As.reverse ++ .ref b :: rest) (hW : 2 * (F0 m pc ls st0).monitorRoom + (rest.map fun v => v.category).sum ≤ 8) (hdg : decode cc pc = .ok (.invokevirtual index, 3)) (hroom : cells + mc ≤ R.cells ∧ slots + ms ≤ R.slots)
    (kk : gK p l e R s m args below meth c H (cells + mc) (slots + ms) Q G A0 n a f S1 L1 (F0 m (pc + 3) ls (.int r :: rest))) : W p l e R s m args below meth c H locs cells slots Q (F0 m pc ls st0) := by
  refine va_calli (va_runV S0 hM cw ⟨gI_blind, hrc, fun U hU hW => ⟨rfl, by rw [hU], by rw [hU]; exact hP, KP_go hK hA hS hU hW⟩⟩ rfl hlen hls hst hW hdg hroom) hS (fun q _ h => hA q h) hA (fun r' u t H1 locs1 ht hvm hw hB hz1 hk1 hS1 => ?_)
  have hw : r' = r := hw
  subst hw
  rw [ht] at hB
  exact kk H1 locs1 hB hS1 hz1 hk1
theorem g_cVl {r : Int64} (S0 : CallFix p m c cc nL s args Ts own) (hM : Met l y ws rm (va_Pc (.ref b :: As) (gI G cA zq n a f S L H.size)) (gQl r G n a f S1 L1 H.size) mc ms (mA n a H.size)) (cw : CallW R s args own C index y bytes maxL ret ws rm mc ms nn) (hrc : ∃ cell : Cell, H[b]? = some cell ∧ cell.vm.isStatics = false ∧ s.vm.findClass C = some cell.cls) (hK : KP G cA zq A0 s) (hA : ∀ q, mA n a H.size q → A0 q) (hP : va_P G vwCl (wG n a f S L) H) (hS : va_S A0 s.heap H locs) (hlen : As.length = nn) (hls : ls.size = nL) (hst : st0 = As.reverse ++ .ref b :: rest) (hW : 2 * (F0 m pc ls st0).monitorRoom + (rest.map fun v => v.category).sum ≤ 8) (hdg : decode cc pc = .ok (.invokevirtual index, 3)) (hroom : cells + mc ≤ R.cells ∧ slots + ms ≤ R.slots)
    (kk : gK p l e R s m args below meth c H (cells + mc) (slots + ms) Q G A0 n a f S1 L1 (F0 m (pc + 3) ls (.long r :: rest))) : W p l e R s m args below meth c H locs cells slots Q (F0 m pc ls st0) := by
  refine va_calll (va_runV S0 hM cw ⟨gI_blind, hrc, fun U hU hW => ⟨rfl, by rw [hU], by rw [hU]; exact hP, KP_go hK hA hS hU hW⟩⟩ rfl hlen hls hst hW hdg hroom) hS (fun q _ h => hA q h) hA (fun r' u t H1 locs1 ht hvm hw hB hz1 hk1 hS1 => ?_)
  have hw : r' = r := hw
  subst hw
  rw [ht] at hB
  exact kk H1 locs1 hB hS1 hz1 hk1
theorem g_cVv (S0 : CallFix p m c cc nL s args Ts own) (hM : Met l y ws rm (va_Pc (.ref b :: As) (gI G cA zq n a f S L H.size)) (gQv G n a f S1 L1 H.size) mc ms (mA n a H.size)) (cw : CallW R s args own C index y bytes maxL ret ws rm mc ms nn) (hrc : ∃ cell : Cell, H[b]? = some cell ∧ cell.vm.isStatics = false ∧ s.vm.findClass C = some cell.cls) (hK : KP G cA zq A0 s) (hA : ∀ q, mA n a H.size q → A0 q) (hP : va_P G vwCl (wG n a f S L) H) (hS : va_S A0 s.heap H locs) (hlen : As.length = nn) (hls : ls.size = nL) (hst : st0 = As.reverse ++ .ref b :: rest) (hW : 2 * (F0 m pc ls st0).monitorRoom + (rest.map fun v => v.category).sum ≤ 8) (hdg : decode cc pc = .ok (.invokevirtual index, 3)) (hroom : cells + mc ≤ R.cells ∧ slots + ms ≤ R.slots)
    (kk : gK p l e R s m args below meth c H (cells + mc) (slots + ms) Q G A0 n a f S1 L1 (F0 m (pc + 3) ls rest)) : W p l e R s m args below meth c H locs cells slots Q (F0 m pc ls st0) := by
  refine va_callv (va_runV S0 hM cw ⟨gI_blind, hrc, fun U hU hW => ⟨rfl, by rw [hU], by rw [hU]; exact hP, KP_go hK hA hS hU hW⟩⟩ rfl hlen hls hst hW hdg hroom) hS (fun q _ h => hA q h) hA (fun u t H1 locs1 ht hvm hw hB hz1 hk1 hS1 => ?_)
  rw [ht] at hB
  exact kk H1 locs1 hB hS1 hz1 hk1
theorem g_cVr {r : Nat} (S0 : CallFix p m c cc nL s args Ts own) (hM : Met l y ws rm (va_Pc (.ref b :: As) (gI G cA zq n a f S L H.size)) (gQr r G n a f S1 L1 H.size) mc ms (mA n a H.size)) (cw : CallW R s args own C index y bytes maxL ret ws rm mc ms nn) (hrc : ∃ cell : Cell, H[b]? = some cell ∧ cell.vm.isStatics = false ∧ s.vm.findClass C = some cell.cls) (hK : KP G cA zq A0 s) (hA : ∀ q, mA n a H.size q → A0 q) (hP : va_P G vwCl (wG n a f S L) H) (hS : va_S A0 s.heap H locs) (hlen : As.length = nn) (hls : ls.size = nL) (hst : st0 = As.reverse ++ .ref b :: rest) (hW : 2 * (F0 m pc ls st0).monitorRoom + (rest.map fun v => v.category).sum ≤ 8) (hdg : decode cc pc = .ok (.invokevirtual index, 3)) (hroom : cells + mc ≤ R.cells ∧ slots + ms ≤ R.slots)
    (kk : gK p l e R s m args below meth c H (cells + mc) (slots + ms) Q G A0 n a f S1 L1 (F0 m (pc + 3) ls (.ref r :: rest))) : W p l e R s m args below meth c H locs cells slots Q (F0 m pc ls st0) := by
  refine va_callr (va_runV S0 hM cw ⟨gI_blind, hrc, fun U hU hW => ⟨rfl, by rw [hU], by rw [hU]; exact hP, KP_go hK hA hS hU hW⟩⟩ rfl hlen hls hst hW hdg hroom) hS (fun q _ h => hA q h) hA (fun u r' t H1 locs1 ht hvm hw hB hz1 hk1 hS1 => ?_)
  obtain ⟨hw, hB⟩ := hB
  subst hw
  rw [ht] at hB
  exact kk H1 locs1 hB hS1 hz1 hk1
theorem g_cSi {r : Int32} (S0 : CallFix p m c cc nL s args Ts own) (hM : Met l y ws rm (va_Pc As (gI G cA zq n a f S L H.size)) (gQi r G n a f S1 L1 H.size) mc ms (mA n a H.size)) (cw : CallB R s args own index y bytes maxL ret ws rm mc ms nn ∧ (Cond.static y).before args s = true) (hK : KP G cA zq A0 s) (hA : ∀ q, mA n a H.size q → A0 q) (hP : va_P G vwCl (wG n a f S L) H) (hS : va_S A0 s.heap H locs) (hlen : As.length = nn) (hls : ls.size = nL) (hst : st0 = As.reverse ++ rest) (hW : 2 * (F0 m pc ls st0).monitorRoom + (rest.map fun v => v.category).sum ≤ 8) (hdg : decode cc pc = .ok (.invokestatic index, 3)) (hroom : cells + mc ≤ R.cells ∧ slots + ms ≤ R.slots)
    (kk : gK p l e R s m args below meth c H (cells + mc) (slots + ms) Q G A0 n a f S1 L1 (F0 m (pc + 3) ls (.int r :: rest))) : W p l e R s m args below meth c H locs cells slots Q (F0 m pc ls st0) := by
  refine va_calli (va_runS S0 hM cw ⟨gI_blind, fun U hU hW => ⟨rfl, by rw [hU], by rw [hU]; exact hP, KP_go hK hA hS hU hW⟩⟩ rfl hlen hls hst hW hdg hroom) hS (fun q _ h => hA q h) hA (fun r' u t H1 locs1 ht hvm hw hB hz1 hk1 hS1 => ?_)
  have hw : r' = r := hw
  subst hw
  rw [ht] at hB
  exact kk H1 locs1 hB hS1 hz1 hk1
theorem g_cSl {r : Int64} (S0 : CallFix p m c cc nL s args Ts own) (hM : Met l y ws rm (va_Pc As (gI G cA zq n a f S L H.size)) (gQl r G n a f S1 L1 H.size) mc ms (mA n a H.size)) (cw : CallB R s args own index y bytes maxL ret ws rm mc ms nn ∧ (Cond.static y).before args s = true) (hK : KP G cA zq A0 s) (hA : ∀ q, mA n a H.size q → A0 q) (hP : va_P G vwCl (wG n a f S L) H) (hS : va_S A0 s.heap H locs) (hlen : As.length = nn) (hls : ls.size = nL) (hst : st0 = As.reverse ++ rest) (hW : 2 * (F0 m pc ls st0).monitorRoom + (rest.map fun v => v.category).sum ≤ 8) (hdg : decode cc pc = .ok (.invokestatic index, 3)) (hroom : cells + mc ≤ R.cells ∧ slots + ms ≤ R.slots)
    (kk : gK p l e R s m args below meth c H (cells + mc) (slots + ms) Q G A0 n a f S1 L1 (F0 m (pc + 3) ls (.long r :: rest))) : W p l e R s m args below meth c H locs cells slots Q (F0 m pc ls st0) := by
  refine va_calll (va_runS S0 hM cw ⟨gI_blind, fun U hU hW => ⟨rfl, by rw [hU], by rw [hU]; exact hP, KP_go hK hA hS hU hW⟩⟩ rfl hlen hls hst hW hdg hroom) hS (fun q _ h => hA q h) hA (fun r' u t H1 locs1 ht hvm hw hB hz1 hk1 hS1 => ?_)
  have hw : r' = r := hw
  subst hw
  rw [ht] at hB
  exact kk H1 locs1 hB hS1 hz1 hk1
theorem g_cNi {r : Int32} (S0 : CallFix p m c cc nL s args Ts own) (hM : Met l y ws rm (va_Pc As (gI G cA zq n a f S L H.size)) (gQi r G n a f S1 L1 H.size) mc ms (mA n a H.size)) (cw : va_CN R s args own index y host bytes maxL ret ws rm mc ms nn) (hstt : (Cond.static y).before args s = true) (hK : KP G cA zq A0 s) (hA : ∀ q, mA n a H.size q → A0 q) (hP : va_P G vwCl (wG n a f S L) H) (hS : va_S A0 s.heap H locs) (hlen : As.length = nn) (hls : ls.size = nL) (hst : st0 = As.reverse ++ rest) (hW : 2 * (F0 m pc ls st0).monitorRoom + (rest.map fun v => v.category).sum ≤ 8) (hdg : decode cc pc = .ok (.invokestatic index, 3)) (hroom : cells + mc ≤ R.cells ∧ slots + ms ≤ R.slots)
    (kk : gK p l e R s m args below meth c H (cells + mc) (slots + ms) Q G A0 n a f S1 L1 (F0 m (pc + 3) ls (.int r :: rest))) : W p l e R s m args below meth c H locs cells slots Q (F0 m pc ls st0) := by
  refine va_calli (va_runSN S0 hM ⟨cw, hstt, trivial⟩ ⟨gI_blind, fun U hU hW => ⟨rfl, by rw [hU], by rw [hU]; exact hP, KP_go hK hA hS hU hW⟩⟩ rfl hlen hls hst hW hdg hroom) hS (fun q _ h => hA q h) hA (fun r' u t H1 locs1 ht hvm hw hB hz1 hk1 hS1 => ?_)
  have hw : r' = r := hw
  subst hw
  rw [ht] at hB
  exact kk H1 locs1 hB hS1 hz1 hk1
end GW
