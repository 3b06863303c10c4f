/-! what the law's object draws -/
section BR
variable {p : Program} {l : Launch} {e : Env} {R : Room} {s : State} {m : MethodId} {args : Array Value} {below : List Frame} {meth : Method} {c : Code} {H : Heap} {locs : List Loc} {cells slots : Nat} {Q : State → Prop}
variable {cc : ByteArray} {pc : Nat} {ls : Array Slot} {rest : List Value} {G : va_G} {A0 : Nat → Prop} {cA c2 c3 : ClassId} {zq b N : Nat} {xs : Nat → Int32} {H0 : Heap} {ws wc : va_W}
variable {y : MethodName} {bytes : ByteArray} {maxL nL mc ms nn index : Nat} {ret : Option FieldType} {wds : List Cond} {rm : Room} {Ts : List Cond} {own C host : String} {As st0 : List Value}
theorem b_iret {T : Type} {post : Int32 → T → Prop} {wl : T → va_W} {v : Int32} (u : T) (hx : p.tables.exec = Jvm.exec) (hb : c.code = cc) (hr : meth.sig.returnType = some .int) (hlocks : meth.locks = false) (hp : post v u) (hP : va_P G vwCl (wl u) H) (hD : va_D (va_A wc s.heap.size) (wl u)) (hS : va_S (va_A wc s.heap.size) s.heap H locs) (hdg : decode cc pc = .ok (.ireturn, 1)) : W p l e R s m args below meth c H locs cells slots (MQ below (bQi post wl G wc s.heap.size) args s cells slots (va_A wc s.heap.size)) (F0 m pc ls [.int v]) :=
  W.iret hx hb hr (fun t ht hW => ⟨⟨v, u, rfl, hp, (by subst ht; exact ⟨hP, hD⟩)⟩, hS.F ht⟩) hS.2.2 hdg hlocks
theorem b_zret {T : Type} {post : Int32 → T → Prop} {wl : T → va_W} {v : Int32} (u : T) (hx : p.tables.exec = Jvm.exec) (hb : c.code = cc) (hr : meth.sig.returnType = some .boolean) (hlocks : meth.locks = false) (hn : narrow .boolean (.int v) = .int v) (hp : post v u) (hP : va_P G vwCl (wl u) H) (hD : va_D (va_A wc s.heap.size) (wl u)) (hS : va_S (va_A wc s.heap.size) s.heap H locs) (hdg : decode cc pc = .ok (.ireturn, 1)) : W p l e R s m args below meth c H locs cells slots (MQ below (bQi post wl G wc s.heap.size) args s cells slots (va_A wc s.heap.size)) (F0 m pc ls [.int v]) :=
  W.zret hx hb hr hn (fun t ht hW => ⟨⟨v, u, rfl, hp, (by subst ht; exact ⟨hP, hD⟩)⟩, hS.F ht⟩) hS.2.2 hdg hlocks
theorem D_nil {A : Nat → Prop} : va_D A [] := ⟨fun i j p q h => by simp at h, fun k q h => by simp at h⟩
theorem P_nil {G : va_G} {H : Heap} : va_P G vwCl [] H := fun k q h => by simp at h
/-- a static nest mate that touches nothing -/
theorem n_cNi {post : Int32 → Prop} (S0 : CallFix p m c cc nL s args Ts own) (hM : Met l y wds rm (va_Pc As (bI G cA c2 c3 zq b N xs [] H.size)) (bQi (fun x (_ : Unit) => post x) (fun _ => []) G [] H.size) mc ms (va_A [] H.size)) (cw : va_CN R s args own index y host bytes maxL ret wds rm mc ms nn) (hstt : (Cond.static y).before args s = true) (hK : KB G cA c2 c3 zq b N xs A0 s) (hA : ∀ q, s.heap.size ≤ q → A0 q) (hP : va_P G vwCl ws H) (hS : va_S A0 s.heap H locs) (hlen : As.length = nn) (hls : ls.size = nL) (hst : st0 = As.reverse ++ rest) (hW : 2 * (F0 m pc ls st0).monitorRoom + (rest.map fun v => v.category).sum ≤ 8) (hdg : decode cc pc = .ok (.invokestatic index, 3)) (hroom : cells + mc ≤ R.cells ∧ slots + ms ≤ R.slots)
    (kk : ∀ (r : Int32) (H1 : Heap) (locs1 : List Loc), post r → va_P G vwCl ws H1 → va_S A0 s.heap H1 locs1 → W p l e R s m args below meth c H1 locs1 (cells + mc) (slots + ms) Q (F0 m (pc + 3) ls (.int r :: rest))) : W p l e R s m args below meth c H locs cells slots Q (F0 m pc ls st0) := by
  have hF : ∀ q, va_A [] H.size q → A0 q := by
    intro q h
    rcases h with ⟨k, e9, h⟩ | h
    · simp at h
    · exact hA q (Nat.le_trans hS.1 h)
  refine va_calli (va_runSN S0 hM ⟨cw, hstt, trivial⟩ ⟨bI_blind, fun U hU hW => ⟨rfl, by rw [hU], P_nil, KB_go hK hF hS hU hW⟩⟩ rfl hlen hls hst hW hdg hroom) hS (fun q _ h => hF q h) hF (fun r u t H1 locs1 ht hvm hw hB hz1 hk1 hS1 => ?_)
  refine kk r H1 locs1 hw (hP.kept (fun k q hq => ?_)) hS1
  have hl := (hP k q hq).lt
  refine hk1 _ hl (fun z => ?_)
  rcases z with ⟨k, e9, z⟩ | z
  · simp at z
  · omega
end BR
theorem and_nn (x : Int32) : ¬ (x &&& 2147483647) < 0 := by
  have h1 : (x &&& 2147483647).toBitVec.msb = false := by
    rw [Int32.toBitVec_and, BitVec.msb_and]
    have : (2147483647 : Int32).toBitVec.msb = false := by decide
    rw [this, Bool.and_false]
  rw [BitVec.msb_eq_toInt] at h1
  have h2 := of_decide_eq_false h1
  intro h3
  rw [Int32.lt_iff_toInt_lt] at h3
  have e0 : (0 : Int32).toInt = 0 := by decide
  rw [e0] at h3
  exact h2 h3
theorem nI_nz {k : Nat} (h0 : 0 < k) (h : k < 2 ^ 31) : ¬ nI k = 0 := by
  intro q
  have e1 : (nI k).toInt = k := nI_toInt h
  have e0 : (0 : Int32).toInt = 0 := by decide
  rw [q, e0] at e1
  omega
set_option maxHeartbeats 4000000 in
set_option maxRecDepth 100000 in
theorem c_L_below (l : Launch) (G : va_G) (cA c2 c3 : ClassId) (zq b N : Nat) (xs : Nat → Int32) (sz : Nat) (p1 : Int32) (k : Nat) (h0 : 0 < k) (hk : k < 2 ^ 31) : Met l yL_below wsL_below ({ frames := 0, cells := 0, slots := 0, locals := 0 } : Room) (va_Pc [.int p1, .int (nI k)] (bI G cA c2 c3 zq b N xs [] sz)) (bQi (fun x (_ : Unit) => vp_in x k) (fun _ => []) G [] sz) 0 0 (va_A [] sz) := by
  refine b_met (cc := cL_below) (maxL := 2) (ret := some .int) (by decide) rfl (Nat.le_of_ble_eq_true rfl) D_nil ?_
  intro p e s m below meth c ls hx hb hr hlocks hml hts hown hnm hsz hK hP hD hA hS hl
  subst hsz
  have hl : lv_has ls 2 [(0, .int p1), (1, .int (nI k))] := hl
  refine lv_iload_n hx hb dL_below_0 rfl (lv_at hl 0 rfl) ?_
  refine lv_ldc (v := 2147483647) hx hb hown (hts (.constant RL 7 2147483647) (by decide +kernel)) dL_below_1 ?_
  refine lv_iand hx hb dL_below_3 ?_
  refine lv_iload_n hx hb dL_below_4 rfl (lv_at hl 1 rfl) ?_
  refine lv_irem hx hb dL_below_5 (nI_nz h0 hk) ?_
  obtain ⟨j, hj, e⟩ := nI_of (and_nn p1)
  rw [e, pk_rem hj h0 hk]
  exact b_iret () hx hb hr hlocks (vp_in_nI (Nat.mod_lt _ h0) hk) P_nil D_nil hS dL_below_6
set_option maxHeartbeats 4000000 in
set_option maxRecDepth 100000 in
theorem c_L_cell (l : Launch) (G : va_G) (cA c2 c3 : ClassId) (zq b N : Nat) (xs : Nat → Int32) (sz : Nat) (p1 : Int32) (h0 : ¬ p1 < 0) (hN : N ≤ 260) : Met l yL_cell wsL_cell ({ frames := 0, cells := 0, slots := 0, locals := 0 } : Room) (va_Pc [.ref b, .int p1] (bI G cA c2 c3 zq b N xs [] sz)) (bQi (fun x (_ : Unit) => True) (fun _ => []) G [] sz) 0 0 (va_A [] sz) := by
  refine b_met (cc := cL_cell) (maxL := 2) (ret := some .int) (by decide) rfl (Nat.le_of_ble_eq_true rfl) D_nil ?_
  intro p e s m below meth c ls hx hb hr hlocks hml hts hown hnm hsz hK hP hD hA hS hl
  subst hsz
  obtain ⟨hX, hbl, hbA⟩ := hK.2.2.2.1
  have hl : lv_has ls 2 [(0, .ref b), (1, .int p1)] := hl
  refine lv_iload_n hx hb dL_cell_0 rfl (lv_at hl 1 rfl) ?_
  refine lv_aload_n hx hb dL_cell_1 rfl (lv_at hl 0 rfl) ?_
  refine va_slen hx hb hX hbl hbA hS dL_cell_2 ?_
  refine lv_icmp_ge (tgt := 12) hx hb dL_cell_3 (by decide) (fun c1 => ?_) (fun c1 => ?_)
  · refine lv_ldc (v := 790386105) hx hb hown (hts (.constant RL 8 790386105) (by decide +kernel)) dL_cell_12 ?_
    refine lv_iload_n hx hb dL_cell_14 rfl (lv_at hl 1 rfl) ?_
    refine lv_iconst (v := 3) hx hb dL_cell_15 (by decide) ?_
    refine lv_iadd hx hb dL_cell_16 ?_
    refine lv_imul hx hb dL_cell_17 ?_
    exact b_iret () hx hb hr hlocks trivial P_nil D_nil hS dL_cell_18
  · refine lv_aload_n hx hb dL_cell_6 rfl (lv_at hl 0 rfl) ?_
    refine lv_iload_n hx hb dL_cell_7 rfl (lv_at hl 1 rfl) ?_
    refine va_sld hx hb hX hbl hbA hS (in_ge h0 c1 (by omega)) dL_cell_8 ?_
    refine lv_goto (tgt := 18) hx hb dL_cell_9 (by decide) ?_
    exact b_iret () hx hb hr hlocks trivial P_nil D_nil hS dL_cell_18
def bcl (a β ρ : Nat → Nat) (b : Nat) (r : Nat → Int32) : List Value := [.ref (a 0), .ref b, .int (r 2), .ref (β 1), .ref (β 2), .ref (ρ 5), .int (r 6), .int (r 7), .int (r 8), .int (r 9), .int (r 10), .ref (ρ 11), .ref (ρ 12), .ref (β 7), .int (r 14), .int (r 15), .int (r 16), .int (r 17), .int (r 18), .int (r 19), .int (r 20), .ref (ρ 21)]
theorem iX10_draw_X10 : ∀ w ∈ u_ws RX10 TX10 22, w ∈ wsX10_draw := by decide +kernel
theorem rem24 {x : Int32} {B : Int} (h : rg x 0 B) : ¬ (x - x / 24 * 24) < 0 := by
  obtain ⟨j, -, hj, e⟩ := rg_nI h
  rw [e, show (24 : Int32) = nI 24 from rfl, pk_rem hj (by decide) (by decide)]
  exact nI_pos (by omega)
set_option maxHeartbeats 4000000 in
set_option maxRecDepth 100000 in
theorem c_X10_draw (l : Launch) (G : va_G) (cA c2 c3 : ClassId) (zq b N : Nat) (xs : Nat → Int32) (sz : Nat) (a β ρ : Nat → Nat) (q0 : Nat) (r : Nat → Int32) (k : Nat) (h0 : 0 < k) (hk : k < 2 ^ 31) (hN : N ≤ 260) {B : Int} (hr0 : rg (r 2) 0 B) : Met l yX10_draw wsX10_draw ({ frames := 1, cells := 0, slots := 0, locals := 21 } : Room) (va_Pc [.ref q0, .int (nI k)] (bI G cA c2 c3 zq b N xs [(q0, .inr (10, bcl a β ρ b r))] sz)) (bQi (fun x (_ : Unit) => vp_in x k) (fun _ => [(q0, .inr (10, bcl a β ρ b (upd r 2 (r 2 + 1))))]) G [(q0, .inr (10, bcl a β ρ b r))] sz) 0 0 (va_A [(q0, .inr (10, bcl a β ρ b r))] sz) := by
  refine b_met (cc := cX10_draw) (maxL := 3) (ret := some .int) (by decide) rfl (Nat.le_of_ble_eq_true rfl) (j_D1 trivial) ?_
  intro p e s m below meth c ls hx hb hr hlocks hml hts hown hnm hsz hK hP hD hA hS hl
  subst hsz
  have hl : lv_has ls 3 [(0, .ref q0), (1, .int (nI k))] := hl
  refine lv_aload_n hx hb dX10_draw_0 rfl (lv_at hl 0 rfl) ?_
  refine va_get (D := G) (ci := 10) (v := .ref b) (C := RX10) (T := TX10) (N := 22) hx hb hts iX10_draw_X10 hown hK.1.1 hP 0 rfl rfl 1 (by decide) (hts (.fieldLink RX10 52 "MelodeonLaw$Bench" "s" "[I") (by decide +kernel)) (fun _ h9 => h9) rfl dX10_draw_1 ?_
  refine lv_aload_n hx hb dX10_draw_4 rfl (lv_at hl 0 rfl) ?_
  refine va_get (D := G) (ci := 10) (v := .int (r 2)) (C := RX10) (T := TX10) (N := 22) hx hb hts iX10_draw_X10 hown hK.1.1 hP 0 rfl rfl 2 (by decide) (hts (.fieldLink RX10 55 "MelodeonLaw$Bench" "draws" "I") (by decide +kernel)) (fun _ h9 => h9) rfl dX10_draw_5 ?_
  refine lv_bipush (v := 24) hx hb dX10_draw_8 (by decide) ?_
  refine lv_irem hx hb dX10_draw_10 (by decide) ?_
  refine n_cNi (As := [.ref b, .int (r 2 - r 2 / 24 * 24)]) (rest := []) ⟨hx, hb, hml, hown, hts⟩ (c_L_cell l G cA c2 c3 zq b N xs s.heap.size _ (rem24 hr0) hN) (va_cnB 2 hts gX10_draw_L_cell_n58 rfl rfl rfl (hK.2.2.1.at (q := ("MelodeonLaw$Bench", 58, yL_cell, "MelodeonLaw")) (by decide +kernel)) (hts (.initialized RL) (by decide +kernel)) (by decide +kernel) ⟨Nat.le_of_ble_eq_true rfl, Nat.le_of_ble_eq_true rfl⟩) (hts (.static yL_cell) (by decide +kernel)) hK hA hP hS rfl hl.1 rfl (lv_room (Nat.le_of_ble_eq_true rfl)) dX10_draw_11 ⟨Nat.le_of_ble_eq_true rfl, Nat.le_of_ble_eq_true rfl⟩ (fun w H locs _ hP hS => ?_)
  refine lv_aload_n hx hb dX10_draw_14 rfl (lv_at hl 0 rfl) ?_
  refine va_get (D := G) (ci := 10) (v := .int (r 2)) (C := RX10) (T := TX10) (N := 22) hx hb hts iX10_draw_X10 hown hK.1.1 hP 0 rfl rfl 2 (by decide) (hts (.fieldLink RX10 55 "MelodeonLaw$Bench" "draws" "I") (by decide +kernel)) (fun _ h9 => h9) rfl dX10_draw_15 ?_
  refine lv_bipush (v := 24) hx hb dX10_draw_18 (by decide) ?_
  refine lv_idiv hx hb dX10_draw_20 (by decide) ?_
  refine lv_bipush (v := 8) hx hb dX10_draw_21 (by decide) ?_
  refine lv_irem hx hb dX10_draw_23 (by decide) ?_
  refine lv_ishr hx hb dX10_draw_24 ?_
  refine lv_bipush (v := 83) hx hb dX10_draw_25 (by decide) ?_
  refine lv_aload_n hx hb dX10_draw_27 rfl (lv_at hl 0 rfl) ?_
  refine va_get (D := G) (ci := 10) (v := .int (r 2)) (C := RX10) (T := TX10) (N := 22) hx hb hts iX10_draw_X10 hown hK.1.1 hP 0 rfl rfl 2 (by decide) (hts (.fieldLink RX10 55 "MelodeonLaw$Bench" "draws" "I") (by decide +kernel)) (fun _ h9 => h9) rfl dX10_draw_28 ?_
  refine lv_imul hx hb dX10_draw_31 ?_
  refine lv_iadd hx hb dX10_draw_32 ?_
  refine lv_iload_n hx hb dX10_draw_33 rfl (lv_at hl 1 rfl) ?_
  refine n_cNi (As := [.int _, .int (nI k)]) (rest := []) ⟨hx, hb, hml, hown, hts⟩ (c_L_below l G cA c2 c3 zq b N xs H.size _ k h0 hk) (va_cnB 2 hts gX10_draw_L_below_n64 rfl rfl rfl (hK.2.2.1.at (q := ("MelodeonLaw$Bench", 64, yL_below, "MelodeonLaw")) (by decide +kernel)) (hts (.initialized RL) (by decide +kernel)) (by decide +kernel) ⟨Nat.le_of_ble_eq_true rfl, Nat.le_of_ble_eq_true rfl⟩) (hts (.static yL_below) (by decide +kernel)) hK hA hP hS rfl hl.1 rfl (lv_room (Nat.le_of_ble_eq_true rfl)) dX10_draw_34 ⟨Nat.le_of_ble_eq_true rfl, Nat.le_of_ble_eq_true rfl⟩ (fun w H locs hw hP hS => ?_)
  refine lv_istore_n (lv' := [(2, .int w), (0, .ref q0), (1, .int (nI k))]) hx hb dX10_draw_37 rfl hl (by decide) rfl (fun ls hl => ?_)
  refine lv_aload_n hx hb dX10_draw_38 rfl (lv_at hl 1 rfl) ?_
  refine lv_dup hx hb dX10_draw_39 rfl ?_
  refine va_get (D := G) (ci := 10) (v := .int (r 2)) (C := RX10) (T := TX10) (N := 22) hx hb hts iX10_draw_X10 hown hK.1.1 hP 0 rfl rfl 2 (by decide) (hts (.fieldLink RX10 55 "MelodeonLaw$Bench" "draws" "I") (by decide +kernel)) (fun _ h9 => h9) rfl dX10_draw_40 ?_
  refine lv_iconst (v := 1) hx hb dX10_draw_43 (by decide) ?_
  refine lv_iadd hx hb dX10_draw_44 ?_
  refine va_put (D := G) (ci := 10) (v := .int (r 2 + 1)) (ty := .int) (C := RX10) (T := TX10) (N := 22) hx hb hts iX10_draw_X10 tyX10 tyX10_ok nmX10 hown hK.1.1 hP hD hS 0 rfl rfl 2 (by decide) (hts (.fieldLink RX10 55 "MelodeonLaw$Bench" "draws" "I") (by decide +kernel)) (fun _ h9 => h9) rfl (by decide +kernel) rfl rfl (Nat.le_of_ble_eq_true rfl) dX10_draw_45 (fun H locs hP hD hS => ?_)
  refine lv_iload_n hx hb dX10_draw_48 rfl (lv_at hl 0 rfl) ?_
  exact b_iret () hx hb hr hlocks hw hP hD hS dX10_draw_49
