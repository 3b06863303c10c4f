/-! constructors: worlds that are lists; what a constructor makes is a list over addresses b, b 0 the object itself -/
abbrev jI (G : va_G) (cA : ClassId) (zq : Nat) (ws : va_W) (sz : Nat) : State → Prop := fun U => U.heap.size = sz ∧ va_P G vwCl ws U.heap ∧ KP G cA zq (va_A ws sz) U
theorem jI_blind {av : List Value} {G : va_G} {cA : ClassId} {zq : Nat} {ws : va_W} {sz : Nat} : FrameBlind (va_Pc av (jI G cA zq ws sz)) := by
  intro v U g mk q
  obtain ⟨q0, q1, qP, qK, qN, qZ⟩ := q
  exact ⟨q0, q1, qP, va_K.moved (u := U) (U := U.calling g mk v) (Vm.Alike.refl U.vm) qK, nk.warm (s := U) (U := U.calling g mk v) qN (State.WarmedH.refl U), zS.moved (u := U) (U := U.calling g mk v) (Vm.Alike.refl U.vm) qZ⟩
abbrev jQ (q : Nat) (G : va_G) (wl : (Nat → Nat) → va_W) (ws : va_W) (sz : Nat) : Array Value → State → Outcome → State → Prop := va_Qv (fun (b : Nat → Nat) => b 0 = q) (fun b t => va_P G vwCl (wl b) t.heap ∧ va_D (va_A ws sz) (wl b)) (va_A ws sz)
theorem j_D1 {A : Nat → Prop} {q : Nat} {e : va_E} (h : A q) : va_D A [(q, e)] := by
  refine ⟨fun i j x y hi hj _ => ?_, fun k x hk => ?_⟩
  · have h1 := (List.getElem?_eq_some_iff.mp hi).1
    have h2 := (List.getElem?_eq_some_iff.mp hj).1
    simp only [List.length_singleton] at h1 h2
    omega
  · have h1 := (List.getElem?_eq_some_iff.mp hk).1
    simp only [List.length_singleton] at h1
    rw [show k = 0 by omega] at hk
    cases hk
    exact h
theorem j_met {l : Launch} {y : MethodName} {ws ws' : List Cond} {rm : Room} {av : List Value} {G : va_G} {cA : ClassId} {zq q0 : Nat} {e0 : va_E} {sz : Nat} {Qc : Array Value → State → Outcome → State → Prop} {mc ms : Nat} {free : Addr → Prop} {cc : ByteArray} {maxL : Nat} {ret : Option FieldType}
    (hy : plainName y.cls = true) (hw : ws = Cond.code y cc maxL ret :: ws') (hn : (lg_sl av).length ≤ maxL)
    (body : ∀ (p : Program) (e : Env) (s : State) (m : MethodId) (below : List Frame) (meth : Method) (c : Code) (ls : Array Slot), p.tables.exec = Jvm.exec → c.code = cc → meth.sig.returnType = ret → meth.locks = false → c.maxLocals = maxL → (∀ w ∈ ws, w.before av.toArray s = true) → s.vm.findClass y.cls = some m.cls → meth.name = y.name → s.heap.size = sz → KP G cA zq (va_A [(q0, e0)] sz) s → va_P G vwCl [(q0, e0)] s.heap → va_D (va_A [(q0, e0)] sz) [(q0, e0)] → (∀ x : Nat, sz ≤ x → va_A [(q0, e0)] sz x) → va_S (va_A [(q0, e0)] sz) s.heap s.heap [] → lv_has ls maxL (lv_args 0 av) → W p l e rm s m av.toArray below meth c s.heap [] 0 0 (MQ below Qc av.toArray s mc ms free) (F0 m 0 ls [])) :
    Met l y ws rm (va_Pc av (jI G cA zq [(q0, e0)] sz)) Qc mc ms free := by
  refine Met.ofW (cc := cc) (maxL := maxL) (ret := ret) hy hw ?_
  intro p e s m args below meth c s₁ B hml hv
  obtain ⟨rfl, hsz, hP, hKP⟩ := hv
  rw [lg_entry_eq]
  exact body p e s m below meth c _ B.exec B.bytes B.returns B.notSynchronized hml (atoms_spec (ws := ws) B.pre) (findClass_of_methodNamed B.named) (name_of_methodNamed B.named B.method).1 hsz hKP hP (j_D1 (Or.inl ⟨0, e0, rfl⟩)) (fun x h => Or.inr h) va_S.rf (lv_entry av hn)
section GJ
variable {p : Program} {l : Launch} {e : Env} {R : Room} {s : State} {m : MethodId} {args : Array Value} {below : List Frame} {meth : Method} {c : Code} {H : Heap} {locs : List Loc} {cells slots : Nat} {Q : State → Prop}
variable {cc : ByteArray} {pc : Nat} {ls : Array Slot} {rest st0 : List Value} {G : va_G} {A0 : Nat → Prop} {cA : ClassId} {zq : Nat} {ws wr : va_W} {wl : (Nat → Nat) → va_W} {q mc ms : Nat} {e0 : va_E} {a : Array Value}
theorem j_next (hr : va_Run p l e R s m args below meth c H locs cells slots mc ms (F0 m pc ls st0) rest (jQ q G wl [(q, e0)] H.size a) (va_A [(q, e0)] H.size)) (hP : va_P G vwCl ws H) (hD : va_D A0 ws) (hS : va_S A0 s.heap H locs) (hA : ∀ x, s.heap.size ≤ x → A0 x) (k : Nat) (isR : List Nat) (hk : ws[k]? = some (q, e0)) (hR : isR.map (fun i => ws[i]?) = wr.map some) (hn : va_nd isR = true) (hdis : ∀ i ∈ isR, i ≠ k)
    (kk : ∀ (b : Nat → Nat) (H1 : Heap) (locs1 : List Loc), b 0 = q → va_P G vwCl (wr ++ wl b) H1 → va_D A0 (wr ++ wl b) → va_S A0 s.heap H1 locs1 → W p l e R s m args below meth c H1 locs1 (cells + mc) (slots + ms) Q (F0 m (pc + 3) ls rest)) : W p l e R s m args below meth c H locs cells slots Q (F0 m pc ls st0) := by
  have hFc := va_free (wc := [(q, e0)]) hD hS hA [k] (by simp [hk])
  refine va_callv hr hS (fun x _ h => hFc x h) hFc (fun u t H1 locs1 ht hvm hw hB hz1 hk1 hS1 => ?_)
  obtain ⟨hP1, hD1⟩ := hB
  rw [ht] at hP1
  obtain ⟨hP2, hD2⟩ := va_join (wc := [(q, e0)]) (wr := wr) (w1 := wl u) hP hD [k] isR (by simp [hk]) hR hn (fun i hi h => hdis i hi (List.mem_singleton.mp h)) hk1 hFc hP1 hD1
  exact kk u H1 locs1 hw hP2 hD2 hS1
theorem j_pre {As : List Value} (hK : KP G cA zq A0 s) (hP : va_P G vwCl ws H) (hD : va_D A0 ws) (hS : va_S A0 s.heap H locs) (hA : ∀ x, s.heap.size ≤ x → A0 x) (k : Nat) (hk : ws[k]? = some (q, e0)) : PreS s H (va_Pc (.ref q :: As) (jI G cA zq [(q, e0)] H.size)) (.ref q :: As) :=
  ⟨jI_blind, fun U hU hW => ⟨rfl, by rw [hU], by rw [hU]; exact hP.sub [k] (by simp [hk]), KP_go hK (va_free (wc := [(q, e0)]) hD hS hA [k] (by simp [hk])) hS hU hW⟩⟩
theorem j_vret {b : Nat → Nat} {q0 : Nat} {e1 : va_E} (hx : p.tables.exec = Jvm.exec) (hb : c.code = cc) (hr : meth.sig.returnType = none) (hlocks : meth.locks = false) (hq : b 0 = q0) (hP : va_P G vwCl (wl b) H) (hD : va_D (va_A [(q0, e1)] s.heap.size) (wl b)) (hS : va_S (va_A [(q0, e1)] s.heap.size) s.heap H locs) (hdg : decode cc pc = .ok (.return_, 1)) : W p l e R s m args below meth c H locs cells slots (MQ below (jQ q0 G wl [(q0, e1)] s.heap.size) args s cells slots (va_A [(q0, e1)] s.heap.size)) (F0 m pc ls []) :=
  W.vret hx hb hr (fun t ht hW => ⟨⟨b, rfl, hq, (by subst ht; exact hP), hD⟩, hS.F ht⟩) hS.2.2 hdg hlocks
end GJ
theorem cQ_eq2 {G : va_G} {cA cQ : ClassId} {s : State} (h : va_K G vwCl ([(cA, .int)] ++ [(cQ, .int)]) s) : cQ = cA := cQ_eq h
def wlR (cA : ClassId) (N : Nat) (g : Nat → Int32) (b : Nat → Nat) : va_W := [(b 0, .inr (3, [.ref (b 1)])), (b 1, .inl (cA, N, .inl g))]
theorem mx_N {N : Nat} (h : N < 2 ^ 31) : (if (0 : Int32) < nI N then nI N else 0) = nI N := by
  by_cases h0 : N = 0
  · subst h0; rfl
  · rw [if_pos]
    rw [Int32.lt_iff_toInt_lt, nI_toInt h]
    have : (0 : Int32).toInt = 0 := by decide
    omega
theorem iX3_init_X3 : ∀ w ∈ u_ws RX3 TX3 1, w ∈ wsX3_init := by decide +kernel
set_option maxHeartbeats 4000000 in
set_option maxRecDepth 100000 in
theorem c_X3_init (l : Launch) (G : va_G) (cA : ClassId) (zq h0 sz N : Nat) (hN : N ≤ 200) : Met l yX3_init wsX3_init ({ frames := 1, cells := 1, slots := N, locals := 21 } : Room) (va_Pc [.ref h0, .int (nI N)] (jI G cA zq [(h0, .inr (3, [.null]))] sz)) (jQ h0 G (wlR cA N (fun _ => 0)) [(h0, .inr (3, [.null]))] sz) 1 N (va_A [(h0, .inr (3, [.null]))] sz) := by
  refine j_met (cc := cX3_init) (maxL := 2) (ret := none) (by decide) rfl (Nat.le_of_ble_eq_true rfl) ?_
  intro p e s m below meth c ls hx hb hr hlocks hml hts hown hin hsz hK hP hD hA hS hl
  subst hsz
  have hl : lv_has ls 2 [(0, .ref h0), (1, .int (nI N))] := hl
  refine lv_aload_n hx hb dX3_init_0 rfl (lv_at hl 0 rfl) ?_
  refine W.objInit hx hb hown (hts (.methodLink RX3 1 objectInit) (by decide +kernel)) (hts (.instanceMethod objectInit) (by decide +kernel)) (hts (.code objectInit ⟨#[0xb1]⟩ 1 none) (by decide +kernel)) rfl (by rw [hml]; exact hl.1) rfl dX3_init_1 (Nat.le_of_ble_eq_true rfl) (Nat.le_of_ble_eq_true rfl) ?_
  refine W.eq (g2 := F0 m 4 ls []) rfl ?_
  refine lv_aload_n hx hb dX3_init_4 rfl (lv_at hl 0 rfl) ?_
  refine lv_iconst (v := 0) hx hb dX3_init_5 (by decide) ?_
  refine lv_iload_n hx hb dX3_init_6 rfl (lv_at hl 1 rfl) ?_
  refine va_mmax hx hb (hml.trans hl.1.symm) hown (hts (.methodLink RX3 7 Lib.Math.max.name) (by decide +kernel)) (hts (.static Lib.Math.max.name) (by decide +kernel)) (hts (.initialized "java/lang/Math") (by decide +kernel)) (hts (.code Lib.Math.max.name Lib.Math.max.code 2 (some .int)) (by decide +kernel)) (Nat.le_of_ble_eq_true rfl) (Nat.le_of_ble_eq_true rfl) (Nat.le_of_ble_eq_true rfl) (Nat.le_of_ble_eq_true rfl) dX3_init_7 ?_
  rw [mx_N (by omega)]
  refine va_newa (atype := .int) (ty := .int) (N' := N) (a0 := (N, .inl (fun _ => 0))) hx hb (hts (.arrayClass .int) (by decide +kernel)) rfl hK.1 hP hD hS hA (fun _ => rfl) (nI_pos (by omega)) (nI_clamp (by omega)) (by show N * 4 ≤ _; omega) (Nat.le_refl 1) (by show 0 + N ≤ N; omega) dX3_init_10 (fun q1 cQ H hKx hP hD hS => ?_)
  have hcq := cQ_eq2 hKx
  rw [hcq] at hP hD
  have hP : va_P G vwCl [(h0, .inr (3, [.null])), (q1, .inl (cA, N, .inl (fun _ => 0)))] H := hP
  have hD : va_D _ [(h0, .inr (3, [.null])), (q1, .inl (cA, N, .inl (fun _ => 0)))] := hD
  refine va_putF (D := G) (ci := 3) (v := .ref q1) (ty := .array .int) (C := RX3) (T := TX3) (N := 1) hx hb hts iX3_init_X3 tyX3 tyX3_ok nmX3 hown hK.1 hP hD hS 0 rfl rfl 0 (by decide) (hts (.fieldLink RX3 13 "Melodeon$Row" "numbers" "[I") (by decide +kernel)) (fun _ h9 => h9) rfl hin rfl (by decide +kernel) rfl rfl (Nat.le_of_ble_eq_true rfl) dX3_init_12 (fun H locs hP hD hS => ?_)
  refine W.widen (k := 1) (n := N) (by omega) (by omega) ?_
  exact j_vret (b := fun k => if k = 0 then h0 else q1) hx hb hr hlocks rfl hP hD hS dX3_init_15

