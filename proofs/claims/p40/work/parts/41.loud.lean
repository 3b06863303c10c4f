/-! loudness: the one method that may draw -/
abbrev gQd (v : UInt64) (G : va_G) (n : Nat) (a : Nat → Nat) (f : Cf) (S : Mm) (L : Int64) (sz : Nat) : Array Value → State → Outcome → State → Prop := va_Qd (fun (x : UInt64) (_ : Unit) => alike64 x v = true) (fun _ t => va_P G vwCl (wG n a f S L) t.heap) (mA n a sz)
theorem g_metD {l : Launch} {y : MethodName} {ws ws' : List Cond} {rm : Room} {av : List Value} {G : va_G} {cA : ClassId} {zq n : Nat} {a : Nat → Nat} {f : Cf} {S : Mm} {L : Int64} {sz : Nat} {Qc : Array Value → State → Outcome → State → Prop} {mc ms : Nat} {free : Addr → Prop} {cc : ByteArray} {maxL : Nat} {ret : Option FieldType}
    (hy : plainName y.cls = true) (hw : ws = Cond.code y cc maxL ret :: ws') (hn : (lg_sl av).length ≤ maxL)
    (body : ∀ (p : Program) (e : Env) (s : State) (m : MethodId) (below : List Frame) (meth : Method) (c : Code) (ls : Array Slot), p.tables.exec = Jvm.exec → c.code = cc → meth.sig.returnType = ret → meth.locks = false → c.maxLocals = maxL → (∀ w ∈ ws, w.before av.toArray s = true) → s.vm.findClass y.cls = some m.cls → meth.name = y.name → s.heap.size = sz → KP G cA zq (mA n a sz) s → va_P G vwCl (wG n a f S L) s.heap → va_S (mA n a sz) s.heap s.heap [] → lv_has ls maxL (lv_args 0 av) → W p l e rm s m av.toArray below meth c s.heap [] 0 0 (MQD lw_cs below Qc av.toArray s mc ms free) (F0 m 0 ls [])) :
    MetD lw_cs l y ws rm (va_Pc av (gI G cA zq n a f S L sz)) Qc mc ms free := by
  refine MetD.ofW (cc := cc) (maxL := maxL) (ret := ret) hy hw ?_
  intro p e s m args below meth c s₁ B hml hv hd0
  obtain ⟨rfl, hsz, hP, hKP⟩ := hv
  rw [lg_entry_eq]
  exact body p e s m below meth c _ B.exec B.bytes B.returns B.notSynchronized hml (atoms_spec (ws := ws) B.pre) (findClass_of_methodNamed B.named) (name_of_methodNamed B.named B.method).1 hsz hKP hP va_S.rf (lv_entry av hn)
section GWD
variable {p : Program} {l : Launch} {e : Env} {R : Room} {s : State} {m : MethodId} {args : Array Value} {below : List Frame} {meth : Method} {c : Code} {H : Heap} {locs : List Loc} {cells slots : Nat} {Q : State → Prop}
variable {cc : ByteArray} {pc : Nat} {ls : Array Slot} {rest : List Value} {G : va_G} {A0 : Nat → Prop} {cA : ClassId} {zq n : Nat} {a : Nat → Nat} {f : Cf} {S S1 : Mm} {L L1 : Int64} {H0 : Heap}
theorem g_dretD {v r : UInt64} {d : Drawn} (hd : s.drawn.sameBut d lw_cs) (hx : p.tables.exec = Jvm.exec) (hb : c.code = cc) (hr : meth.sig.returnType = some .double) (hlocks : meth.locks = false) (hv : alike64 r v = true) (hP : va_P G vwCl (wG n a f S L) H) (hS : va_S (mA n a s.heap.size) s.heap H locs) (hdg : decode cc pc = .ok (.dreturn, 1)) : W p l e R (s.setDrawn d) m args below meth c H locs cells slots (MQD lw_cs below (gQd v G n a f S L s.heap.size) args s cells slots (mA n a s.heap.size)) (F0 m pc ls [.double r]) := by
  refine W.endD hd ?_
  exact W.dret hx hb hr (fun t ht hW => ⟨⟨r, (), rfl, hv, (by subst ht; exact hP)⟩, hS.F ht⟩) hS.2.2 hdg hlocks
end GWD
def mnX (cnt : Int32) (L : Int64) : UInt64 := if cnt = 0 then FP.dconst0 else FP.ddiv (FP.l2d L) (FP.i2d cnt)
theorem iX2_mean_X2 : ∀ w ∈ u_ws RX2 TX2 8, w ∈ wsX2_mean := by decide +kernel
set_option maxHeartbeats 4000000 in
set_option maxRecDepth 100000 in
theorem c_X2_mean (l : Launch) (G : va_G) (cA : ClassId) (a : Nat → Nat) (ha : apart 37 a) (S : Mm) (L : Int64) (sz : Nat) : MetD lw_cs l yX2_mean wsX2_mean ({ frames := 0, cells := 0, slots := 0, locals := 0 } : Room) (va_Pc [.ref (a 34)] (gI G cA (a 37) 37 a (cM a cA) S L sz)) (gQd (mnX (S 34 3) L) G 37 a (cM a cA) S L sz) 0 0 (mA 37 a sz) := by
  refine g_metD (cc := cX2_mean) (maxL := 1) (ret := some .double) (by decide) rfl (Nat.le_of_ble_eq_true rfl) ?_
  intro p e s m below meth c ls hx hb hr hlocks hml hts hown hnm hsz hK hP hS hl
  subst hsz
  have hl : lv_has ls 1 [(0, .ref (a 34))] := hl
  refine lv_aload_n hx hb dX2_mean_0 rfl (lv_at hl 0 rfl) ?_
  refine g_get (ci := 2) (C := RX2) (T := TX2) (N := 8) (v := .int (S 34 3)) hx hb hts iX2_mean_X2 hown hK hP (by decide) cM_T rfl 3 (by decide) rfl (by decide +kernel) rfl dX2_mean_1 ?_
  refine lv_if_ne (tgt := 11) hx hb dX2_mean_4 (by decide) (fun c1 => ?_) (fun c1 => ?_)
  · refine lv_aload_n hx hb dX2_mean_11 rfl (lv_at hl 0 rfl) ?_
    refine g_get (ci := 2) (C := RX2) (T := TX2) (N := 8) (v := .long L) hx hb hts iX2_mean_X2 hown hK hP (by decide) cM_T rfl 5 (by decide) rfl (by decide +kernel) rfl dX2_mean_12 ?_
    refine lv_l2d hx hb dX2_mean_15 ?_
    refine lv_aload_n hx hb dX2_mean_16 rfl (lv_at hl 0 rfl) ?_
    refine g_get (ci := 2) (C := RX2) (T := TX2) (N := 8) (v := .int (S 34 3)) hx hb hts iX2_mean_X2 hown hK hP (by decide) cM_T rfl 3 (by decide) rfl (by decide +kernel) rfl dX2_mean_17 ?_
    refine lv_i2d hx hb dX2_mean_20 ?_
    refine W.base ?_
    refine lv_ddiv_any (Drawn.sameBut.refl s.drawn lw_cs) lw_bits hx hb dX2_mean_21 (fun r d1 hal hd1 => ?_)
    exact g_dretD hd1 hx hb hr hlocks (by unfold mnX; rw [if_neg c1]; exact hal) hP hS dX2_mean_22
  · refine lv_dconst0 hx hb dX2_mean_7 ?_
    refine lv_goto (tgt := 22) hx hb dX2_mean_8 (by decide) ?_
    refine W.base ?_
    exact g_dretD (Drawn.sameBut.refl s.drawn lw_cs) hx hb hr hlocks (by unfold mnX; rw [if_pos c1]; exact alike64_refl _) hP hS dX2_mean_22
theorem iX9_loudness_X9 : ∀ w ∈ u_ws RX9 TX9 4, w ∈ wsX9_loudness := by decide +kernel
section GWE
variable {p : Program} {l : Launch} {e : Env} {R : Room} {s : State} {m : MethodId} {args : Array Value} {below : List Frame} {meth : Method} {c : Code} {H : Heap} {locs : List Loc} {cells slots : Nat} {Q : State → Prop}
variable {cc : ByteArray} {pc : Nat} {ls : Array Slot} {rest : List Value} {G : va_G} {A0 : Nat → Prop} {cA : ClassId} {zq n : Nat} {a : Nat → Nat} {f : Cf} {S S1 : Mm} {L L1 : Int64} {H0 : Heap}
variable {y : MethodName} {bytes : ByteArray} {maxL nL mc ms nn index : Nat} {ret : Option FieldType} {ws : List Cond} {rm : Room} {Ts : List Cond} {own C host : String} {b : Addr} {As st0 : List Value}
theorem g_cVd {v : UInt64} {d0 : Drawn} (hd0 : s.drawn.sameBut d0 lw_cs) (S0 : CallFix p m c cc nL (s.setDrawn d0) args Ts own) (hM : MetD lw_cs l y ws rm (va_Pc (.ref b :: As) (gI G cA zq n a f S L H.size)) (gQd v G n a f S1 L1 H.size) mc ms (mA n a H.size)) (cw : CallW R (s.setDrawn d0) args own C index y bytes maxL ret ws rm mc ms nn) (hrc : ∃ cell : Cell, H[b]? = some cell ∧ cell.vm.isStatics = false ∧ s.vm.findClass C = some cell.cls) (hK : KP G cA zq A0 s) (hA : ∀ q, mA n a H.size q → A0 q) (hP : va_P G vwCl (wG n a f S L) H) (hS : va_S A0 s.heap H locs) (hlen : As.length = nn) (hls : ls.size = nL) (hst : st0 = As.reverse ++ .ref b :: rest) (hW : 2 * (F0 m pc ls st0).monitorRoom + (rest.map fun v => v.category).sum ≤ 8) (hdg : decode cc pc = .ok (.invokevirtual index, 3)) (hroom : cells + mc ≤ R.cells ∧ slots + ms ≤ R.slots)
    (kk : ∀ (r : UInt64) (d1 : Drawn) (H1 : Heap) (locs1 : List Loc), s.drawn.sameBut d1 lw_cs → alike64 r v = true → va_P G vwCl (wG n a f S1 L1) H1 → va_S A0 s.heap H1 locs1 → H.size ≤ H1.size → (∀ q : Nat, q < H.size → ¬ mA n a H.size q → H1[q]? = H[q]?) → W p l e R (s.setDrawn d1) m args below meth c H1 locs1 (cells + mc) (slots + ms) Q (F0 m (pc + 3) ls (.double r :: rest))) : W p l e R (s.setDrawn d0) m args below meth c H locs cells slots Q (F0 m pc ls st0) := by
  refine va_calldD hd0 (va_runV_D S0 hM cw ⟨gI_blind, hrc, fun U hU hW => ⟨rfl, by rw [hU], by rw [hU]; exact hP, KP_go hK hA hS hU hW⟩⟩ rfl hlen hls hst hW hdg hroom) hS (fun q _ h => hA q h) hA (fun r u t H1 locs1 ht hvm hw hB hz1 hk1 hS1 d1 hd1 => ?_)
  rw [ht] at hB
  exact kk r d1 H1 locs1 hd1 hw hB hS1 hz1 hk1
end GWE
set_option maxHeartbeats 4000000 in
set_option maxRecDepth 100000 in
theorem c_X9_loudness (l : Launch) (G : va_G) (cA : ClassId) (a : Nat → Nat) (ha : apart 37 a) (S : Mm) (L : Int64) (sz : Nat) : MetD lw_cs l yX9_loudness wsX9_loudness ({ frames := 1, cells := 0, slots := 0, locals := 20 } : Room) (va_Pc [.ref (a 0)] (gI G cA (a 37) 37 a (cM a cA) S L sz)) (gQd (mnX (S 34 3) L) G 37 a (cM a cA) S L sz) 0 0 (mA 37 a sz) := by
  refine g_metD (cc := cX9_loudness) (maxL := 1) (ret := some .double) (by decide) rfl (Nat.le_of_ble_eq_true rfl) ?_
  intro p e s m below meth c ls hx hb hr hlocks hml hts hown hnm hsz hK hP hS hl
  subst hsz
  have hl : lv_has ls 1 [(0, .ref (a 0))] := hl
  refine lv_aload_n hx hb dX9_loudness_0 rfl (lv_at hl 0 rfl) ?_
  refine g_get (ci := 9) (C := RX9) (T := TX9) (N := 4) (v := .ref (a 34)) hx hb hts iX9_loudness_X9 hown hK hP (by decide) rfl rfl 3 (by decide) rfl (by decide +kernel) rfl dX9_loudness_1 ?_
  refine W.base ?_
  refine g_cVd (As := []) (rest := []) (Drawn.sameBut.refl s.drawn lw_cs) ⟨hx, hb, hml, hown, dr_words hts _⟩ (c_X2_mean l G cA a ha S L s.heap.size) (cwV 0 (dr_words hts _) gX9_loudness_X2_mean rfl rfl rfl (by decide +kernel) ⟨Nat.le_of_ble_eq_true rfl, Nat.le_of_ble_eq_true rfl⟩) (g_recv hK hP (by decide) cM_T (C := RX2) (T := TX2) (N := 8) rfl) hK (mA_mono hS.1) hP hS rfl hl.1 rfl (lv_room (Nat.le_of_ble_eq_true rfl)) dX9_loudness_4 ⟨Nat.le_of_ble_eq_true rfl, Nat.le_of_ble_eq_true rfl⟩ (fun r d1 H locs hd1 hal hP hS _ _ => ?_)
  exact g_dretD hd1 hx hb hr hlocks hal hP hS dX9_loudness_7
