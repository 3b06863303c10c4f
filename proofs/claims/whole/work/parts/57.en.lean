/-! the law's cases: what they share -/
theorem ix_in {i N j : Nat} (hi : i + 6 ≤ N) (hN : N ≤ 3072) (hj : j < 6) : vp_in (nI i + nI j) N := by
  rw [nI_add]
  exact vp_in_nI (by omega) (by omega)
theorem rm_ok {cells slots mc ms : Nat} (hc : cells + mc ≤ 601024) (hs : slots + ms ≤ 7293034) : cells + mc ≤ room_1.cells ∧ slots + ms ≤ room_1.slots := ⟨hc, hs⟩
theorem cmp_same (x : Int64) : lg_cmp x x = 0 := by simp [lg_cmp]
abbrev LCtx (p : Program) (l : Launch) (s : State) (m : MethodId) (c : Code) (G : va_G) (A0 : Nat → Prop) (cA cJ : ClassId) (a bb : Nat → Nat) (o b N : Nat) (xs : Nat → Int32) : Prop :=
  l.stackTraces = false ∧ p.tables.exec = Jvm.exec ∧ c.code = cL_law ∧ c.maxLocals = 9 ∧ s.vm.findClass RL = some m.cls ∧ (∀ w ∈ wsL_law, w.before #[Value.ref b] s = true) ∧ lwK a bb o A0 s ∧ LPP G cA cJ (a 37) A0 s ∧ (∀ (H : Heap) (locs : List Loc) (S T : Mm) (L L' : Int64) (fo : Nat → Int64), lwP G cA cJ a bb S L o fo T L' H → va_S A0 s.heap H locs → RZ S → va_X b N xs s H)
abbrev lwL (a bb : Nat → Nat) (o b i : Nat) : List (Nat × Value) := [(4, .int (nI i)), (0, .ref b), (1, .ref (a 0)), (2, .ref (bb 18)), (3, .ref o)]
abbrev LSt (G : va_G) (A0 : Nat → Prop) (s : State) (cA cJ : ClassId) (a bb : Nat → Nat) (o b N i : Nat) (B K : Int) (S T : Mm) (L L' : Int64) (fo : Nat → Int64) (H : Heap) (locs : List Loc) (ls : Array Slot) (cells slots : Nat) : Prop :=
  i + 6 ≤ N ∧ N ≤ 3072 ∧ RAll B K S L T L' ∧ B < 900000000 ∧ K < 900000000 ∧ lwP G cA cJ a bb S L o fo T L' H ∧ va_S A0 s.heap H locs ∧ lv_has ls 9 (lwL a bb o b i) ∧ cells + 830 ≤ 601024 ∧ slots + 10200 ≤ 7293034
/-- behind a case -/
abbrev LKK (p : Program) (l : Launch) (e : Env) (s : State) (m : MethodId) (below : List Frame) (meth : Method) (c : Code) (Q : State → Prop) (G : va_G) (A0 : Nat → Prop) (cA cJ : ClassId) (a bb : Nat → Nat) (o b i : Nat) (B K : Int) (cells slots : Nat) : Prop :=
  ∀ (S T : Mm) (L L' : Int64) (fo : Nat → Int64) (H : Heap) (locs : List Loc) (ls : Array Slot) (cells1 slots1 : Nat), cells1 ≤ cells + 830 → slots1 ≤ slots + 10200 → RAll (B + 600) (K + 200) S L T L' → lwP G cA cJ a bb S L o fo T L' H → va_S A0 s.heap H locs → lv_has ls 9 (lwL a bb o b i) → W p l e room_1 s m #[Value.ref b] below meth c H locs cells1 slots1 Q (F0 m 1991 ls [])
section LWE
variable {p : Program} {l : Launch} {e : Env} {s : State} {m : MethodId} {below : List Frame} {meth : Method} {c : Code} {H : Heap} {locs : List Loc} {cells slots : Nat} {Q : State → Prop}
variable {ls : Array Slot} {G : va_G} {A0 : Nat → Prop} {cA cJ : ClassId} {a bb : Nat → Nat} {S1 T1 : Mm} {L1 L2 : Int64} {o b i : Nat} {f9 : Nat → Int64}
set_option maxHeartbeats 4000000 in
theorem x_end {E : Nat} {kc rv : Int32} {g : Int} (hx : p.tables.exec = Jvm.exec) (hb : c.code = cL_law) (hml : c.maxLocals = 9) (hown : s.vm.findClass RL = some m.cls) (hts : ∀ w ∈ wsL_law, w.before #[Value.ref b] s = true) (F : lwK a bb o A0 s) (hK : LPP G cA cJ (a 37) A0 s) (hP : lwP G cA cJ a bb S1 L1 o f9 T1 L2 H) (hS : va_S A0 s.heap H locs) (hl : lv_has ls 9 ((5, .int kc) :: lwL a bb o b i)) (hc : cells ≤ 601024) (hs : slots ≤ 7293034)
    (d0 : decode cL_law E = .ok (.istore 6, 2)) (d2 : decode cL_law (E + 2) = .ok (.aload_n 2, 1)) (d3 : decode cL_law (E + 3) = .ok (.invokevirtual 94, 3)) (d6 : decode cL_law (E + 6) = .ok (.iload 5, 2)) (d8 : decode cL_law (E + 8) = .ok (.if_icmp .eq 5, 3)) (d13 : decode cL_law (E + 13) = .ok (.iload 5, 2)) (d15 : decode cL_law (E + 15) = .ok (.ifCond .ne 15, 3)) (d18 : decode cL_law (E + 18) = .ok (.aload_n 3, 1)) (d19 : decode cL_law (E + 19) = .ok (.iconst 0, 1)) (d20 : decode cL_law (E + 20) = .ok (.laload, 1)) (d21 : decode cL_law (E + 21) = .ok (.iload 6, 2)) (d23 : decode cL_law (E + 23) = .ok (.i2l, 1)) (d24 : decode cL_law (E + 24) = .ok (.lcmp, 1)) (d25 : decode cL_law (E + 25) = .ok (.ifCond .eq 5, 3)) (d30 : decode cL_law (E + 30) = .ok (.goto g, 3)) (hg : ((E + 30 : Nat) : Int) + g = ((1991 : Nat) : Int))
    (thr : T1 18 0 = kc) (hv : kc = 0 → f9 0 = rv.toInt64)
    (kk : ∀ (H : Heap) (locs : List Loc) (ls : Array Slot), lwP G cA cJ a bb S1 L1 o f9 T1 L2 H → va_S A0 s.heap H locs → lv_has ls 9 (lwL a bb o b i) → W p l e room_1 s m #[Value.ref b] below meth c H locs cells slots Q (F0 m 1991 ls [])) : W p l e room_1 s m #[Value.ref b] below meth c H locs cells slots Q (F0 m E ls [.int rv]) := by
  refine lv_istore (lv' := [(6, .int rv), (5, .int kc), (4, .int (nI i)), (0, .ref b), (1, .ref (a 0)), (2, .ref (bb 18)), (3, .ref o)]) hx hb d0 hl (by decide) rfl (fun ls hl => ?_)
  refine lv_aload_n hx hb d2 rfl (lv_at hl 5 rfl) ?_
  refine x_ref (r := rX11_thrown T1) (T1 := T1) (L1' := L2) (As := []) (rest := []) ⟨hx, hb, hml, hown, hts⟩ F (c_X11_thrown l G cA (a 37) bb F.2.1 T1 L2 H.size) (cwV 0 hts gL_law_X11_thrown rfl rfl rfl (by decide +kernel) ⟨Nat.le_of_ble_eq_true rfl, Nat.le_of_ble_eq_true rfl⟩) hK hP hS rfl hl.1 rfl (lv_room (Nat.le_of_ble_eq_true rfl)) d3 (rm_ok (by omega) (by omega)) (fun H locs hP hS => ?_)
  have tq : rX11_thrown T1 = kc := thr
  refine lv_iload hx hb d6 (lv_at hl 1 rfl) ?_
  refine lv_icmp_eq (tgt := E + 13) hx hb d8 (by omega) (fun _ => ?_) (fun c1 => absurd tq c1)
  refine lv_iload hx hb d13 (lv_at hl 1 rfl) ?_
  refine lv_if_ne (tgt := E + 30) hx hb d15 (by omega) (fun _ => ?_) (fun c2 => ?_)
  · refine lv_goto (tgt := 1991) hx hb d30 hg ?_
    exact kk H locs ls hP hS (lv_sub hl [2, 3, 4, 5, 6] rfl)
  · have c2 : kc = 0 := c2
    refine lv_aload_n hx hb d18 rfl (lv_at hl 6 rfl) ?_
    refine lv_iconst (v := 0) hx hb d19 (by decide) ?_
    refine va_lald hx hb hK.2.1 hP.1 37 0 wx_last rfl (vp_in_lit (by decide)) d20 ?_
    refine lv_iload hx hb d21 (lv_at hl 0 rfl) ?_
    refine lv_i2l hx hb d23 rfl ?_
    refine W.lcmp hx hb d24 ?_
    have e0 : f9 (0 : Int32).toNatClampNeg = rv.toInt64 := hv c2
    rw [e0, cmp_same]
    refine lv_if_eq (tgt := E + 30) hx hb d25 (by omega) (fun _ => ?_) (fun c3 => absurd rfl c3)
    refine lv_goto (tgt := 1991) hx hb d30 hg ?_
    exact kk H locs ls hP hS (lv_sub hl [2, 3, 4, 5, 6] rfl)
set_option maxHeartbeats 4000000 in
theorem x_endP {kc rv : Int32} (hx : p.tables.exec = Jvm.exec) (hb : c.code = cL_law) (hml : c.maxLocals = 9) (hown : s.vm.findClass RL = some m.cls) (hts : ∀ w ∈ wsL_law, w.before #[Value.ref b] s = true) (F : lwK a bb o A0 s) (hK : LPP G cA cJ (a 37) A0 s) (hP : lwP G cA cJ a bb S1 L1 o f9 T1 L2 H) (hS : va_S A0 s.heap H locs) (hl : lv_has ls 9 ((5, .int kc) :: lwL a bb o b i)) (hc : cells ≤ 601024) (hs : slots ≤ 7293034) (thr : T1 18 0 = kc) (hv : kc = 0 → f9 0 = (if rv = 0 then (0 : Int64) else 1))
    (kk : ∀ (H : Heap) (locs : List Loc) (ls : Array Slot), lwP G cA cJ a bb S1 L1 o f9 T1 L2 H → va_S A0 s.heap H locs → lv_has ls 9 (lwL a bb o b i) → W p l e room_1 s m #[Value.ref b] below meth c H locs cells slots Q (F0 m 1991 ls [])) : W p l e room_1 s m #[Value.ref b] below meth c H locs cells slots Q (F0 m 1312 ls [.int rv]) := by
  refine lv_istore (lv' := [(6, .int rv), (5, .int kc), (4, .int (nI i)), (0, .ref b), (1, .ref (a 0)), (2, .ref (bb 18)), (3, .ref o)]) hx hb dL_law_1312 hl (by decide) rfl (fun ls hl => ?_)
  refine lv_aload_n hx hb dL_law_1314 rfl (lv_at hl 5 rfl) ?_
  refine x_ref (r := rX11_thrown T1) (T1 := T1) (L1' := L2) (As := []) (rest := []) ⟨hx, hb, hml, hown, hts⟩ F (c_X11_thrown l G cA (a 37) bb F.2.1 T1 L2 H.size) (cwV 0 hts gL_law_X11_thrown rfl rfl rfl (by decide +kernel) ⟨Nat.le_of_ble_eq_true rfl, Nat.le_of_ble_eq_true rfl⟩) hK hP hS rfl hl.1 rfl (lv_room (Nat.le_of_ble_eq_true rfl)) dL_law_1315 (rm_ok (by omega) (by omega)) (fun H locs hP hS => ?_)
  have tq : rX11_thrown T1 = kc := thr
  refine lv_iload hx hb dL_law_1318 (lv_at hl 1 rfl) ?_
  refine lv_icmp_eq (tgt := 1325) hx hb dL_law_1320 (by decide) (fun _ => ?_) (fun c1 => absurd tq c1)
  refine lv_iload hx hb dL_law_1325 (lv_at hl 1 rfl) ?_
  refine lv_if_ne (tgt := 1349) hx hb dL_law_1327 (by decide) (fun _ => ?_) (fun c2 => ?_)
  · refine lv_goto (tgt := 1991) hx hb dL_law_1349 (by decide) ?_
    exact kk H locs ls hP hS (lv_sub hl [2, 3, 4, 5, 6] rfl)
  · have c2 : kc = 0 := c2
    refine lv_aload_n hx hb dL_law_1330 rfl (lv_at hl 6 rfl) ?_
    refine lv_iconst (v := 0) hx hb dL_law_1331 (by decide) ?_
    refine va_lald hx hb hK.2.1 hP.1 37 0 wx_last rfl (vp_in_lit (by decide)) dL_law_1332 ?_
    refine lv_iload hx hb dL_law_1333 (lv_at hl 0 rfl) ?_
    have e0 : f9 (0 : Int32).toNatClampNeg = (if rv = 0 then (0 : Int64) else 1) := hv c2
    rw [e0]
    refine lv_if_eq (tgt := 1342) hx hb dL_law_1335 (by decide) (fun c3 => ?_) (fun c3 => ?_)
    · rw [if_pos c3]
      refine lv_lconst (v := 0) hx hb dL_law_1342 rfl ?_
      refine W.lcmp hx hb dL_law_1343 ?_
      rw [cmp_same]
      refine lv_if_eq (tgt := 1349) hx hb dL_law_1344 (by decide) (fun _ => ?_) (fun c4 => absurd rfl c4)
      refine lv_goto (tgt := 1991) hx hb dL_law_1349 (by decide) ?_
      exact kk H locs ls hP hS (lv_sub hl [2, 3, 4, 5, 6] rfl)
    · rw [if_neg c3]
      refine lv_lconst (v := 1) hx hb dL_law_1338 rfl ?_
      refine lv_goto (tgt := 1343) hx hb dL_law_1339 (by decide) ?_
      refine W.lcmp hx hb dL_law_1343 ?_
      rw [cmp_same]
      refine lv_if_eq (tgt := 1349) hx hb dL_law_1344 (by decide) (fun _ => ?_) (fun c4 => absurd rfl c4)
      refine lv_goto (tgt := 1991) hx hb dL_law_1349 (by decide) ?_
      exact kk H locs ls hP hS (lv_sub hl [2, 3, 4, 5, 6] rfl)
end LWE
