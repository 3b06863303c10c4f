/-! the law's helpers: the class's world, and the row of one long beside it -/
abbrev wO (a : Nat → Nat) (cA cJ : ClassId) (S : Mm) (L : Int64) (o : Nat) (fo : Nat → Int64) : va_W := wG 37 a (cM a cA) S L ++ [(o, .inl (cJ, 1, .inr (.inl fo)))]
def mO (a : Nat → Nat) (o sz : Nat) : Nat → Prop := fun q => mA 37 a sz q ∨ q = o
theorem mO_A {a : Nat → Nat} {o sz sz' : Nat} (h : sz ≤ sz') : ∀ q, mA 37 a sz' q → mO a o sz q := fun q hq => Or.inl (mA_mono h q hq)
theorem mO_mono {a : Nat → Nat} {o sz sz' : Nat} (h : sz ≤ sz') : ∀ q, mO a o sz' q → mO a o sz q := fun q hq => hq.elim (fun z => Or.inl (mA_mono h q z)) Or.inr
abbrev LPP (G : va_G) (cA cJ : ClassId) (zq : Nat) (A : Nat → Prop) (U : State) : Prop := KP G cA zq A U ∧ va_K G vwCl [(cJ, .long)] U ∧ XP A U ∧ va_Nc sIAE sIOB U
theorem LPP_go {G : va_G} {cA cJ : ClassId} {zq : Nat} {A0 A1 : Nat → Prop} {s U : State} {H : Heap} {locs : List Loc} (h : LPP G cA cJ zq A0 s) (hA : ∀ q, A1 q → A0 q) (hS : va_S A0 s.heap H locs) (hU : U.heap = H) (hW : s.WarmedH U.vm) : LPP G cA cJ zq A1 U :=
  ⟨KP_go h.1 hA hS hU hW, h.2.1.moved hW.alike, XP_go h.2.2.1 hA hS hU hW, h.2.2.2.moved hW.alike⟩
abbrev gL (G : va_G) (cA cJ : ClassId) (a : Nat → Nat) (S : Mm) (L : Int64) (o : Nat) (fo : Nat → Int64) (sz : Nat) : State → Prop := fun U => U.heap.size = sz ∧ va_P G vwCl (wO a cA cJ S L o fo) U.heap ∧ LPP G cA cJ (a 37) (mO a o sz) U
theorem gL_blind {av : List Value} {G : va_G} {cA cJ : ClassId} {a : Nat → Nat} {S : Mm} {L : Int64} {o : Nat} {fo : Nat → Int64} {sz : Nat} : FrameBlind (va_Pc av (gL G cA cJ a S L o fo sz)) := by
  intro v U g mk q
  obtain ⟨q0, q1, qP, ⟨qK, qN, qZ⟩, qJ, ⟨h1, ⟨sa, h2⟩, ⟨sb, h3⟩, h4, h5⟩, qC⟩ := q
  have hW : U.WarmedH (U.calling g mk v).vm := State.WarmedH.refl U
  exact ⟨q0, q1, qP, ⟨va_K.moved (u := U) (U := U.calling g mk v) (Vm.Alike.refl U.vm) qK, nk.warm (s := U) (U := U.calling g mk v) qN hW, zS.moved (u := U) (U := U.calling g mk v) (Vm.Alike.refl U.vm) qZ⟩, va_K.moved (u := U) (U := U.calling g mk v) (Vm.Alike.refl U.vm) qJ, ⟨XT_warm (s := U) hW h1, ⟨sa, vk_R.warm (s := U) hW h2⟩, ⟨sb, vk_R.warm (s := U) hW h3⟩, h4.moved hW.alike, h5.moved hW.alike⟩, va_Nc.moved (u := U) (U := U.calling g mk v) (Vm.Alike.refl U.vm) qC⟩
theorem l_met {l : Launch} {y : MethodName} {ws ws' : List Cond} {rm : Room} {av : List Value} {G : va_G} {cA cJ : ClassId} {a : Nat → Nat} {S : Mm} {L : Int64} {o : Nat} {fo : Nat → Int64} {sz : Nat} {Qc : Array Value → State → Outcome → State → Prop} {mc ms : Nat} {free : Addr → Prop} {cc : ByteArray} {maxL : Nat} {ret : Option FieldType} {hh : List (Nat × Nat × Nat × Nat)}
    (hy : plainName y.cls = true) (hw : ws = Cond.codeWith y cc maxL ret hh :: ws') (hn : (lg_sl av).length ≤ maxL)
    (body : ∀ (p : Program) (e : Env) (s : State) (m : MethodId) (below : List Frame) (meth : Method) (c : Code) (ls : Array Slot), p.tables.exec = Jvm.exec → c.code = cc → meth.sig.returnType = ret → meth.locks = false → c.maxLocals = maxL → (∀ w ∈ ws, w.before av.toArray s = true) → s.vm.findClass y.cls = some m.cls → c.exceptionTable.toList = tableOf hh → s.heap.size = sz → LPP G cA cJ (a 37) (mO a o sz) s → va_P G vwCl (wO a cA cJ S L o fo) s.heap → va_S (mO a o sz) s.heap s.heap [] → lv_has ls maxL (lv_args 0 av) → W p l e rm s m av.toArray below meth c s.heap [] 0 0 (MQ below Qc av.toArray s mc ms free) (F0 m 0 ls [])) :
    Met l y ws rm (va_Pc av (gL G cA cJ a S L o fo sz)) Qc mc ms free := by
  refine MetFree.of_bodyS (code := cc) (maxLocals := maxL) (ret := ret) hy ?_ ?_
  · intro args s m h hn9
    obtain ⟨m9, meth, c, hn8, h1, h2, h3, h4, -, h5, h6, -⟩ := Cond.codeWith_spec (atoms_spec (ws := ws) h _ (by rw [hw]; exact List.mem_cons_self))
    cases hn9.symm.trans hn8
    exact ⟨meth, c, h1, h2, h3, h4, h5, h6⟩
  intro p e s m args below meth c s₁ B hml hv
  have hh0 : s₁.heap = s.heap := by rw [B.state]; rfl
  obtain ⟨rfl, hsz, hP, hKP⟩ := hv
  intro hpost
  have htb : c.exceptionTable.toList = tableOf hh := vx_table (x := y) B (atoms_spec (ws := ws) B.pre _ (by rw [hw]; exact List.mem_cons_self))
  obtain ⟨t, a1, o9, b1, b2, b3⟩ : ∃ t, Steps p.tables e below (s₁.setTop (entryFrame m av.toArray maxL)) t ∧ MQ below Qc av.toArray s mc ms free t := by
    refine (?_ : W p l e rm s m av.toArray below meth c s.heap [] 0 0 (MQ below Qc av.toArray s mc ms free) (entryFrame m av.toArray maxL)) s₁ hh0 (Stand.of_body B)
    rw [lg_entry_eq]
    exact body p e s m below meth c _ B.exec B.bytes B.returns B.notSynchronized hml (atoms_spec (ws := ws) B.pre) (findClass_of_methodNamed B.named) htb hsz hKP hP va_S.rf (lv_entry av hn)
  exact ⟨t, o9, a1, b1, b2, ⟨b3.1, b3.2⟩⟩
theorem wx_mk {G : va_G} {n : Nat} {a : Nat → Nat} {f : Cf} {S : Mm} {L : Int64} {x : Nat × va_E} {H : Heap} (h : va_P G vwCl (wG n a f S L) H) (hx : va_at G vwCl x H) : va_P G vwCl (wG n a f S L ++ [x]) H := by
  intro k q hq
  rcases Nat.lt_or_ge k n with hk | hk
  · rw [List.getElem?_append_left (by rw [wG_len]; exact hk)] at hq
    exact h k q hq
  · rw [List.getElem?_append_right (by rw [wG_len]; exact hk), wG_len] at hq
    have hz : k - n < 1 := (List.getElem?_eq_some_iff.mp hq).1
    rw [show k - n = 0 by omega] at hq
    cases hq
    exact hx
section GLW
variable {p : Program} {l : Launch} {e : Env} {R : Room} {s : State} {m : MethodId} {args : Array Value} {below : List Frame} {meth : Method} {c : Code} {H : Heap} {locs : List Loc} {cells slots : Nat} {Q : State → Prop}
variable {cc : ByteArray} {pc : Nat} {ls : Array Slot} {rest : List Value} {G : va_G} {A0 : Nat → Prop} {cA cJ : ClassId} {a : Nat → Nat} {S S1 : Mm} {L L1 : Int64} {o : Nat} {fo : Nat → Int64}
variable {y : MethodName} {bytes : ByteArray} {maxL nL mc ms nn index : Nat} {ret : Option FieldType} {ws : List Cond} {rm : Room} {Ts : List Cond} {own : String} {As st0 : List Value}
/-- the row of one long stays over a call on the class's world -/
theorem o_keep {H1 : Heap} (hao : ∀ k, k < 37 → a k ≠ o) (hP : va_P G vwCl (wO a cA cJ S L o fo) H) (hk : ∀ q : Nat, q < H.size → ¬ mA 37 a H.size q → H1[q]? = H[q]?) (hP1 : va_P G vwCl (wG 37 a (cM a cA) S1 L1) H1) : va_P G vwCl (wO a cA cJ S1 L1 o fo) H1 := by
  have h1 := hP 37 _ wx_last
  refine wx_mk hP1 ?_
  have hlt : o < H.size := h1.lt
  exact h1.kept (hk o hlt (fun h => h.elim (fun ⟨k, hk, e⟩ => hao k hk e) (fun h => absurd hlt (Nat.not_lt.mpr h))))
theorem l_cVi {r : Int32} (S0 : CallFix p m c cc nL s args Ts own) (hM : Met l y ws rm (va_Pc (.ref (a 0) :: As) (gI G cA (a 37) 37 a (cM a cA) S L H.size)) (gQi r G 37 a (cM a cA) S1 L1 H.size) mc ms (mA 37 a H.size)) (cw : CallW R s args own RX9 index y bytes maxL ret ws rm mc ms nn) (hao : ∀ k, k < 37 → a k ≠ o) (hK : LPP G cA cJ (a 37) (mO a o s.heap.size) s) (hP : va_P G vwCl (wO a cA cJ S L o fo) H) (hS : va_S (mO a o s.heap.size) s.heap H locs) (hlen : As.length = nn) (hls : ls.size = nL) (hst : st0 = As.reverse ++ .ref (a 0) :: rest) (hW : 2 * (F0 m pc ls st0).monitorRoom + (rest.map fun v => v.category).sum ≤ 8) (hdg : decode cc pc = .ok (.invokevirtual index, 3)) (hroom : cells + mc ≤ R.cells ∧ slots + ms ≤ R.slots)
    (kk : ∀ (H1 : Heap) (locs1 : List Loc), va_P G vwCl (wO a cA cJ S1 L1 o fo) H1 → va_S (mO a o s.heap.size) s.heap H1 locs1 → W p l e R s m args below meth c H1 locs1 (cells + mc) (slots + ms) Q (F0 m (pc + 3) ls (.int r :: rest))) : W p l e R s m args below meth c H locs cells slots Q (F0 m pc ls st0) := by
  have hA : ∀ q, mA 37 a H.size q → mO a o s.heap.size q := mO_A hS.1
  have hP0 := wx_of hP
  refine va_calli (va_runV S0 hM cw ⟨gI_blind, g_recv hK.1 hP0 (o := 0) (by decide) rfl (C := RX9) (T := TX9) (N := 4) rfl, fun U hU hW => ⟨rfl, by rw [hU], by rw [hU]; exact hP0, KP_go hK.1 hA hS hU hW⟩⟩ rfl hlen hls hst hW hdg hroom) hS (fun q _ h => hA q h) hA (fun r' u t H1 locs1 ht hvm hw hB hz1 hk1 hS1 => ?_)
  have hw : r' = r := hw
  subst hw
  rw [ht] at hB
  exact kk H1 locs1 (o_keep hao hP hk1 hB) hS1
theorem l_thrV {E0 : String} (S0 : CallFix p m c cc nL s args Ts own) (hM : vx_Met l y ws rm (va_Pc (.ref (a 0) :: As) (gX G cA (a 37) 37 a (cM a cA) S L H.size)) (va_Qi (fun _ (_ : Unit) => False) (fun _ _ => True) (mA 37 a H.size)) (xC E0 G 37 a (cM a cA) S L H.size) mc ms (mA 37 a H.size)) (cw : CallW R s args own RX9 index y bytes maxL ret ws rm mc ms nn) (hao : ∀ k, k < 37 → a k ≠ o) (hK : LPP G cA cJ (a 37) (mO a o s.heap.size) s) (hP : va_P G vwCl (wO a cA cJ S L o fo) H) (hS : va_S (mO a o s.heap.size) s.heap H locs) (hlen : As.length = nn) (hls : ls.size = nL) (hst : st0 = As.reverse ++ .ref (a 0) :: rest) (hW : 2 * (F0 m pc ls st0).monitorRoom + (rest.map fun v => v.category).sum ≤ 8) (hdg : decode cc pc = .ok (.invokevirtual index, 3)) (hroom : cells + mc ≤ R.cells ∧ slots + ms ≤ R.slots)
    (kx : ∀ (ce : Cell) (q9 : Addr) (H1 : Heap) (locs1 : List Loc), va_P G vwCl (wO a cA cJ S L o fo) H1 → va_S (mO a o s.heap.size) s.heap H1 locs1 → H1[q9]? = some ce → ce.vm = .none → s.vm.findClass E0 = some ce.cls → vx_W p l e R s m args below meth c H1 locs1 (cells + mc) (slots + ms) Q (F0 m pc ls rest) q9) : W p l e R s m args below meth c H locs cells slots Q (F0 m pc ls st0) := by
  have hA : ∀ q, mA 37 a H.size q → mO a o s.heap.size q := mO_A hS.1
  have hP0 := wx_of hP
  refine vx_calli (vx_runV S0 hM cw ⟨gX_blind, g_recv hK.1 hP0 (o := 0) (by decide) rfl (C := RX9) (T := TX9) (N := 4) rfl, fun U hU hW => ⟨rfl, ⟨by rw [hU], by rw [hU]; exact hP0, KP_go hK.1 hA hS hU hW⟩, XP_go hK.2.2.1 hA hS hU hW⟩⟩ rfl hlen hls hst hW hdg hroom) hS (fun q _ h => hA q h) hA (fun q _ h => hA q h) (fun E ce q9 u t H1 locs1 ht hvm hu hB hz1 hk1 hS1 hce hcv hcl => ?_) (fun r u t H1 locs1 ht hvm hw hB hz1 hk1 hS1 => hw.elim)
  obtain ⟨hEq, hPB⟩ := hB
  subst hEq
  rw [ht] at hPB
  exact kx ce q9 H1 locs1 (o_keep hao hP hk1 hPB) hS1 hce hcv hcl
theorem l_last {i : Int32} {x : Int64} (hx : p.tables.exec = Jvm.exec) (hb : c.code = cc) (ha : apart 37 a) (hao : ∀ k, k < 37 → a k ≠ o) (hK : LPP G cA cJ (a 37) (mO a o s.heap.size) s) (hP : va_P G vwCl (wO a cA cJ S L o fo) H) (hS : va_S (mO a o s.heap.size) s.heap H locs) (hin : vp_in i 1) (hdg : decode cc pc = .ok (.lastore, 1))
    (kk : ∀ (H1 : Heap) (locs1 : List Loc), va_P G vwCl (wO a cA cJ S L o (vp_updL fo i.toNatClampNeg x)) H1 → va_S (mO a o s.heap.size) s.heap H1 locs1 → W p l e R s m args below meth c H1 locs1 cells slots Q (F0 m (pc + 1) ls rest)) : W p l e R s m args below meth c H locs cells slots Q (F0 m pc ls (.long x :: .int i :: .ref o :: rest)) := by
  have hD : va_D (mO a o s.heap.size) (wO a cA cJ S L o fo) := by
    have h0 : va_D (mO a o s.heap.size) (wG 37 a (cM a cA) S L) := wG_D ha (fun k hk => Or.inl (Or.inl ⟨k, hk, rfl⟩))
    refine va_D.app h0 (j_D1 (Or.inr rfl)) (fun i j x y hx hy hxy => ?_)
    have h1 := wG_lt hx
    rw [wG_get h1] at hx
    cases hx
    have h2 := (List.getElem?_eq_some_iff.mp hy).1
    simp only [List.length_singleton] at h2
    rw [show j = 0 by omega] at hy
    cases hy
    exact hao i h1 hxy
  exact va_last hx hb hK.2.1 hP hD hS 37 0 wx_last rfl hin hdg (fun H1 locs1 hP1 _ hS1 => kk H1 locs1 (by rw [wx_set] at hP1; exact hP1) hS1)
theorem l_iret {v r : Int32} {fo1 : Nat → Int64} {po : (Nat → Int64) → Prop} (hx : p.tables.exec = Jvm.exec) (hb : c.code = cc) (hr : meth.sig.returnType = some .int) (hlocks : meth.locks = false) (hv : v = r) (hp : po fo1) (hP : va_P G vwCl (wO a cA cJ S L o fo1) H) (hS : va_S (mO a o s.heap.size) s.heap H locs) (hdg : decode cc pc = .ok (.ireturn, 1)) : W p l e R s m args below meth c H locs cells slots (MQ below (va_Qi (fun (x : Int32) (f9 : Nat → Int64) => x = r ∧ po f9) (fun f9 t => va_P G vwCl (wO a cA cJ S L o f9) t.heap) (mO a o s.heap.size)) args s cells slots (mO a o s.heap.size)) (F0 m pc ls [.int v]) :=
  W.iret hx hb hr (fun t ht hW => ⟨⟨v, fo1, rfl, ⟨hv, hp⟩, (by subst ht; exact hP)⟩, hS.F ht⟩) hS.2.2 hdg hlocks
end GLW
