/-! throws -/
abbrev sIOB : String := "java/lang/IndexOutOfBoundsException"
abbrev sIAE : String := "java/lang/IllegalArgumentException"
/-- the words of the two throws that don't pass from method to method -/
def XT : List Cond := [.declares (Bundle.initS "java/lang/RuntimeException"), .declares (Bundle.initS "java/lang/Exception"), .declares (Bundle.initS Bundle.tN), .castable sIOB sIOB, .castable sIAE sIAE]
def XP (A : Nat → Prop) (U : State) : Prop := (∀ w ∈ XT, va_Nw w U) ∧ (∃ sa, vk_R "Melodeon" 299 "there is no such place" sa U) ∧ (∃ sa, vk_R "Melodeon" 306 "a number is outside of its range" sa U) ∧ vx_Zq Bundle.tN "UNASSIGNED_STACK" Bundle.steD A U U.heap ∧ vx_Zq Bundle.tN "SUPPRESSED_SENTINEL" Bundle.listD A U U.heap
theorem XT_warm {s U : State} (hW : s.WarmedH U.vm) (h : ∀ w ∈ XT, va_Nw w s) : ∀ w ∈ XT, va_Nw w U := by
  intro w hw
  have h1 := h w hw
  simp only [XT, List.mem_cons, List.not_mem_nil, or_false] at hw
  rcases hw with rfl | rfl | rfl | rfl | rfl
  · exact va_Nw.warmD hW h1
  · exact va_Nw.warmD hW h1
  · exact va_Nw.warmD hW h1
  · exact va_Nw.warmC hW h1
  · exact va_Nw.warmC hW h1
theorem XP_go {A0 A1 : Nat → Prop} {s U : State} {H : Heap} {locs : List Loc} (h : XP A0 s) (hA : ∀ q, A1 q → A0 q) (hS : va_S A0 s.heap H locs) (hU : U.heap = H) (hW : s.WarmedH U.vm) : XP A1 U := by
  obtain ⟨h1, ⟨sa, h2⟩, ⟨sb, h3⟩, h4, h5⟩ := h
  refine ⟨XT_warm hW h1, ⟨sa, vk_R.warm hW h2⟩, ⟨sb, vk_R.warm hW h3⟩, ?_, ?_⟩
  · exact ((h4.moved hW.alike).kept (fun q z1 z2 => by rw [hU]; exact hS.2.1 q z1 z2)).narrow hA
  · exact ((h5.moved hW.alike).kept (fun q z1 z2 => by rw [hU]; exact hS.2.1 q z1 z2)).narrow hA
abbrev gX (G : va_G) (cA : ClassId) (zq n : Nat) (a : Nat → Nat) (f : Cf) (S : Mm) (L : Int64) (sz : Nat) : State → Prop := fun U => gI G cA zq n a f S L sz U ∧ XP (mA n a sz) U
theorem gX_blind {av : List Value} {G : va_G} {cA : ClassId} {zq n : Nat} {a : Nat → Nat} {f : Cf} {S : Mm} {L : Int64} {sz : Nat} : FrameBlind (va_Pc av (gX G cA zq n a f S L sz)) := by
  intro v U g mk q
  obtain ⟨q0, qI, h1, ⟨sa, h2⟩, ⟨sb, h3⟩, h4, h5⟩ := q
  have hb := gI_blind (av := av) v U g mk ⟨q0, qI⟩
  have hW : U.WarmedH (U.calling g mk v).vm := State.WarmedH.refl U
  exact ⟨q0, hb.2, XT_warm (s := U) hW h1, ⟨sa, vk_R.warm (s := U) hW h2⟩, ⟨sb, vk_R.warm (s := U) hW h3⟩, h4.moved hW.alike, h5.moved hW.alike⟩
abbrev xC (E0 : String) (G : va_G) (n : Nat) (a : Nat → Nat) (f : Cf) (S : Mm) (L : Int64) (sz : Nat) : String → State → State → Prop := vx_X (fun (_ : Unit) => True) (fun E _ t => E = E0 ∧ va_P G vwCl (wG n a f S L) t.heap) (mA n a sz)
theorem g_metX {l : Launch} {y : MethodName} {ws ws' : List Cond} {rm : Room} {av : List Value} {G : va_G} {cA : ClassId} {zq n : Nat} {a : Nat → Nat} {f : Cf} {S : Mm} {L : Int64} {sz : Nat} {Qc : Array Value → State → Outcome → State → Prop} {XC : String → State → State → Prop} {mc ms : Nat} {free : Addr → Prop} {cc : ByteArray} {maxL : Nat} {ret : Option FieldType}
    (hy : plainName y.cls = true) (hw : ws = Cond.code y cc maxL ret :: ws') (hn : (lg_sl av).length ≤ maxL)
    (body : ∀ (p : Program) (e : Env) (s : State) (m : MethodId) (below : List Frame) (meth : Method) (c : Code) (ls : Array Slot), p.tables.exec = Jvm.exec → c.code = cc → meth.sig.returnType = ret → meth.locks = false → c.maxLocals = maxL → (∀ w ∈ ws, w.before av.toArray s = true) → s.vm.findClass y.cls = some m.cls → (∀ x ∈ c.exceptionTable.toList, False) → s.heap.size = sz → KP G cA zq (mA n a sz) s → XP (mA n a sz) s → va_P G vwCl (wG n a f S L) s.heap → va_S (mA n a sz) s.heap s.heap [] → lv_has ls maxL (lv_args 0 av) → W p l e rm s m av.toArray below meth c s.heap [] 0 0 (vx_MQ below Qc XC av.toArray s mc ms free) (F0 m 0 ls [])) :
    vx_Met l y ws rm (va_Pc av (gX G cA zq n a f S L sz)) Qc XC mc ms free := by
  refine vx_ofW (cc := cc) (maxL := maxL) (ret := ret) hy hw ?_
  intro p e s m args below meth c s₁ B hml hxt hv
  obtain ⟨rfl, ⟨hsz, hP, hKP⟩, hX⟩ := hv
  rw [lg_entry_eq]
  exact body p e s m below meth c _ B.exec B.bytes B.returns B.notSynchronized hml (atoms_spec (ws := ws) B.pre) (findClass_of_methodNamed B.named) hxt hsz hKP hX hP va_S.rf (lv_entry av hn)
section GTX
variable {p : Program} {l : Launch} {e : Env} {R : Room} {s : State} {m : MethodId} {args : Array Value} {below : List Frame} {meth : Method} {c : Code} {H : Heap} {locs : List Loc} {cells slots : Nat} {Q : State → Prop}
variable {cc : ByteArray} {pc : Nat} {ls : Array Slot} {rest : List Value} {G : va_G} {A0 : Nat → Prop} {cA : ClassId} {zq n : Nat} {a : Nat → Nat} {f : Cf} {S S1 : Mm} {L L1 : Int64} {H0 : Heap}
variable {y : MethodName} {bytes : ByteArray} {maxL nL mc ms nn index : Nat} {ret : Option FieldType} {ws : List Cond} {rm : Room} {Ts : List Cond} {own C host : String} {b : Addr} {As st0 : List Value} {Qc : Array Value → State → Outcome → State → Prop}
theorem g_thrS {E0 E1 : String} {mc9 ms9 : Nat} (S0 : CallFix p m c cc nL s args Ts own) (hM : vx_Met l y ws rm (va_Pc As (gX G cA zq n a f S L H.size)) (va_Qv (fun (_ : Unit) => False) (fun _ _ => True) (mA n a H.size)) (xC E0 G n a f S L H.size) mc ms (mA n a H.size)) (cw : CallB R s args own index y bytes maxL ret ws rm mc ms nn ∧ (Cond.static y).before args s = true) (hK : KP G cA zq (mA n a s.heap.size) s) (hX : XP (mA n a s.heap.size) s) (hP : va_P G vwCl (wG n a f S L) H) (hS : va_S (mA n a s.heap.size) s.heap H locs) (hlen : As.length = nn) (hls : ls.size = nL) (hst : st0 = As.reverse ++ rest) (hW : 2 * (F0 m pc ls st0).monitorRoom + (rest.map fun v => v.category).sum ≤ 8) (hdg : decode cc pc = .ok (.invokestatic index, 3)) (hroom : cells + mc ≤ R.cells ∧ slots + ms ≤ R.slots)
    (hxt : ∀ x ∈ c.exceptionTable.toList, False) (hlocks : meth.locks = false) (hE : E1 = E0) (hc9 : cells + mc ≤ mc9) (hs9 : slots + ms ≤ ms9) :
    W p l e R s m args below meth c H locs cells slots (vx_MQ below Qc (xC E1 G n a f S L s.heap.size) args s mc9 ms9 (mA n a s.heap.size)) (F0 m pc ls st0) := by
  subst hE
  have hA : ∀ q, mA n a H.size q → mA n a s.heap.size q := mA_mono hS.1
  refine vx_callv (vx_runS S0 hM cw ⟨gX_blind, fun U hU hW => ⟨rfl, ⟨by rw [hU], by rw [hU]; exact hP, KP_go hK hA hS hU hW⟩, XP_go hX hA hS hU hW⟩⟩ rfl hlen hls hst hW hdg hroom) hS (fun q _ h => hA q h) hA (fun q _ h => hA q h) (fun E ce q9 u t H1 locs1 ht hvm hu hB hz1 hk1 hS1 hce hcv hcl => ?_) (fun u t H1 locs1 ht hvm hw hB hz1 hk1 hS1 => hw.elim)
  obtain ⟨hEq, hPB⟩ := hB
  subst hEq
  rw [ht] at hPB
  exact vx_out (fun x hx => (hxt x hx).elim) hlocks hce hcv hcl (fun t2 ht2 hA2 => ⟨(), trivial, ⟨rfl, by rw [ht2]; exact hPB⟩, hS1.F ht2⟩) hS1.2.2 hc9 hs9
end GTX
set_option maxHeartbeats 4000000 in
set_option maxRecDepth 100000 in
theorem t_X9_needPlace (l : Launch) (hfl : l.stackTraces = false) (G : va_G) (cA : ClassId) (zq n : Nat) (a : Nat → Nat) (f : Cf) (S : Mm) (L : Int64) (sz : Nat) (p1 p2 : Int32) (hbad : p1 < 0 ∨ p2 ≤ p1) : vx_Met l yX9_needPlace wsX9_needPlace ({ frames := 6, cells := 1, slots := 6, locals := 82 } : Room) (va_Pc [.int p1, .int p2] (gX G cA zq n a f S L sz)) (va_Qv (fun (_ : Unit) => False) (fun _ _ => True) (mA n a sz)) (xC sIOB G n a f S L sz) 1 6 (mA n a sz) := by
  refine g_metX (cc := cX9_needPlace) (maxL := 2) (ret := none) (by decide) rfl (Nat.le_of_ble_eq_true rfl) ?_
  intro p e s m below meth c ls hx hb hr hlocks hml hts hown hxt hsz hK hX hP hS hl
  subst hsz
  have hl : lv_has ls 2 [(0, .int p1), (1, .int p2)] := hl
  have hat : ∀ w ∈ vx_atS RX9 301 "java/lang/IndexOutOfBoundsException" ["java/lang/RuntimeException", "java/lang/Exception"], w.before ([.int p1, .int p2] : List Value).toArray s = true := vx_hat (B := XT) (fun w hw => hts w (List.mem_cons_of_mem _ (List.mem_append_right _ hw))) (by decide +kernel) (fun w hw => va_Nw.use (by revert w; decide) (hX.1 w hw))
  obtain ⟨-, ⟨sa, hsa⟩, -, hU, hN⟩ := hX
  have thr : W p l e ({ frames := 6, cells := 1, slots := 6, locals := 82 } : Room) s m ([.int p1, .int p2] : List Value).toArray below meth c s.heap [] 0 0 (vx_MQ below (va_Qv (fun (_ : Unit) => False) (fun _ _ => True) (mA n a s.heap.size)) (xC sIOB G n a f S L s.heap.size) ([.int p1, .int p2] : List Value).toArray s 1 6 (mA n a s.heap.size)) (F0 m 9 ls []) := by
    refine vx_throwSW (text := "there is no such place") (names := ["java/lang/RuntimeException", "java/lang/Exception"]) (ik := 297) (is := 299) (ic := 301) hx hb hfl hown (by decide) (by decide) (hts _ (by decide +kernel)) (hts _ (by decide +kernel)) hsa hat (by decide +kernel) hU hN hS (by rw [hml]; exact hl.1) dX9_needPlace_9 dX9_needPlace_12 dX9_needPlace_13 dX9_needPlace_16 dX9_needPlace_19 (fun x h => (hxt x h).elim) (Nat.le_of_ble_eq_true rfl) (Nat.le_of_ble_eq_true rfl) (Nat.le_of_ble_eq_true rfl) (Nat.le_of_ble_eq_true rfl) hlocks (fun t _ hz hq => ?_) hS.2.2 (Nat.le_refl 1) (Nat.le_refl 6)
    exact ⟨(), trivial, ⟨rfl, hP.kept (fun k q h => hq q.1 (hP k q h).lt)⟩, ⟨hz, fun q h1 _ => hq q h1⟩⟩
  refine lv_iload_n hx hb dX9_needPlace_0 rfl (lv_at hl 0 rfl) ?_
  refine lv_if_lt (tgt := 9) hx hb dX9_needPlace_1 (by decide) (fun c1 => ?_) (fun c1 => ?_)
  · exact thr
  · refine lv_iload_n hx hb dX9_needPlace_4 rfl (lv_at hl 0 rfl) ?_
    refine lv_iload_n hx hb dX9_needPlace_5 rfl (lv_at hl 1 rfl) ?_
    refine lv_icmp_lt (tgt := 20) hx hb dX9_needPlace_6 (by decide) (fun c2 => ?_) (fun c2 => ?_)
    · rcases hbad with h | h
      · exact absurd h c1
      · exact absurd h (Int32.not_le.mpr c2)
    · exact thr
set_option maxHeartbeats 4000000 in
set_option maxRecDepth 100000 in
theorem t_X9_needWithin (l : Launch) (hfl : l.stackTraces = false) (G : va_G) (cA : ClassId) (zq n : Nat) (a : Nat → Nat) (f : Cf) (S : Mm) (L : Int64) (sz : Nat) (p1 p2 p3 : Int32) (hbad : p1 < p2 ∨ p3 < p1) : vx_Met l yX9_needWithin wsX9_needWithin ({ frames := 6, cells := 1, slots := 6, locals := 82 } : Room) (va_Pc [.int p1, .int p2, .int p3] (gX G cA zq n a f S L sz)) (va_Qv (fun (_ : Unit) => False) (fun _ _ => True) (mA n a sz)) (xC sIAE G n a f S L sz) 1 6 (mA n a sz) := by
  refine g_metX (cc := cX9_needWithin) (maxL := 3) (ret := none) (by decide) rfl (Nat.le_of_ble_eq_true rfl) ?_
  intro p e s m below meth c ls hx hb hr hlocks hml hts hown hxt hsz hK hX hP hS hl
  subst hsz
  have hl : lv_has ls 3 [(0, .int p1), (1, .int p2), (2, .int p3)] := hl
  have hat : ∀ w ∈ vx_atS RX9 308 "java/lang/IllegalArgumentException" ["java/lang/RuntimeException", "java/lang/Exception"], w.before ([.int p1, .int p2, .int p3] : List Value).toArray s = true := vx_hat (B := XT) (fun w hw => hts w (List.mem_cons_of_mem _ (List.mem_append_right _ hw))) (by decide +kernel) (fun w hw => va_Nw.use (by revert w; decide) (hX.1 w hw))
  obtain ⟨-, -, ⟨sa, hsa⟩, hU, hN⟩ := hX
  have thr : W p l e ({ frames := 6, cells := 1, slots := 6, locals := 82 } : Room) s m ([.int p1, .int p2, .int p3] : List Value).toArray below meth c s.heap [] 0 0 (vx_MQ below (va_Qv (fun (_ : Unit) => False) (fun _ _ => True) (mA n a s.heap.size)) (xC sIAE G n a f S L s.heap.size) ([.int p1, .int p2, .int p3] : List Value).toArray s 1 6 (mA n a s.heap.size)) (F0 m 10 ls []) := by
    refine vx_throwSW (text := "a number is outside of its range") (names := ["java/lang/RuntimeException", "java/lang/Exception"]) (ik := 304) (is := 306) (ic := 308) hx hb hfl hown (by decide) (by decide) (hts _ (by decide +kernel)) (hts _ (by decide +kernel)) hsa hat (by decide +kernel) hU hN hS (by rw [hml]; exact hl.1) dX9_needWithin_10 dX9_needWithin_13 dX9_needWithin_14 dX9_needWithin_17 dX9_needWithin_20 (fun x h => (hxt x h).elim) (Nat.le_of_ble_eq_true rfl) (Nat.le_of_ble_eq_true rfl) (Nat.le_of_ble_eq_true rfl) (Nat.le_of_ble_eq_true rfl) hlocks (fun t _ hz hq => ?_) hS.2.2 (Nat.le_refl 1) (Nat.le_refl 6)
    exact ⟨(), trivial, ⟨rfl, hP.kept (fun k q h => hq q.1 (hP k q h).lt)⟩, ⟨hz, fun q h1 _ => hq q h1⟩⟩
  refine lv_iload_n hx hb dX9_needWithin_0 rfl (lv_at hl 0 rfl) ?_
  refine lv_iload_n hx hb dX9_needWithin_1 rfl (lv_at hl 1 rfl) ?_
  refine lv_icmp_lt (tgt := 10) hx hb dX9_needWithin_2 (by decide) (fun c1 => ?_) (fun c1 => ?_)
  · exact thr
  · refine lv_iload_n hx hb dX9_needWithin_5 rfl (lv_at hl 0 rfl) ?_
    refine lv_iload_n hx hb dX9_needWithin_6 rfl (lv_at hl 2 rfl) ?_
    refine lv_icmp_le (tgt := 21) hx hb dX9_needWithin_7 (by decide) (fun c2 => ?_) (fun c2 => ?_)
    · rcases hbad with h | h
      · exact absurd h c1
      · exact absurd h (Int32.not_lt.mpr c2)
    · exact thr
