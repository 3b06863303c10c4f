def mX10_copy_1 (S : Mm) : Mm := upR (upR S 20 (va_cpy (S 1) (S 20) 0 0 32)) 21 (va_cpy ((upR S 20 (va_cpy (S 1) (S 20) 0 0 32)) 2) ((upR S 20 (va_cpy (S 1) (S 20) 0 0 32)) 21) 0 0 48)
def mX10_copy_2 (S : Mm) : Mm := upR (mX10_copy_1 S) 22 (va_cpy ((mX10_copy_1 S) 3) ((mX10_copy_1 S) 22) 0 0 4)
def mX10_copy_3 (S : Mm) : Mm := upR (mX10_copy_2 S) 23 (va_cpy ((mX10_copy_2 S) 4) ((mX10_copy_2 S) 23) 0 0 4)
def mX10_copy_4 (S : Mm) : Mm := upR (mX10_copy_3 S) 24 (va_cpy ((mX10_copy_3 S) 5) ((mX10_copy_3 S) 24) 0 0 4)
def mX10_copy_5 (S : Mm) : Mm := upR (mX10_copy_4 S) 25 (va_cpy ((mX10_copy_4 S) 6) ((mX10_copy_4 S) 25) 0 0 4)
def mX10_copy_6 (S : Mm) : Mm := upR (mX10_copy_5 S) 26 (va_cpy ((mX10_copy_5 S) 7) ((mX10_copy_5 S) 26) 0 0 4)
def mX10_copy_7 (S : Mm) : Mm := upR (mX10_copy_6 S) 27 (va_cpy ((mX10_copy_6 S) 8) ((mX10_copy_6 S) 27) 0 0 4)
def mX10_copy_8 (S : Mm) : Mm := upR (mX10_copy_7 S) 28 (va_cpy ((mX10_copy_7 S) 9) ((mX10_copy_7 S) 28) 0 0 4)
def mX10_copy_9 (S : Mm) : Mm := upR (mX10_copy_8 S) 29 (va_cpy ((mX10_copy_8 S) 10) ((mX10_copy_8 S) 29) 0 0 4)
def mX10_copy_10 (S : Mm) : Mm := upR (mX10_copy_9 S) 30 (va_cpy ((mX10_copy_9 S) 11) ((mX10_copy_9 S) 30) 0 0 4)
def mX10_copy_11 (S : Mm) : Mm := upR (mX10_copy_10 S) 31 (va_cpy ((mX10_copy_10 S) 12) ((mX10_copy_10 S) 31) 0 0 4)
def mX10_copy_12 (S : Mm) : Mm := upR (mX10_copy_11 S) 32 (va_cpy ((mX10_copy_11 S) 13) ((mX10_copy_11 S) 32) 0 0 4)
def mX10_copy_13 (S : Mm) : Mm := upR (mX10_copy_12 S) 33 (va_cpy ((mX10_copy_12 S) 14) ((mX10_copy_12 S) 33) 0 0 200)
def mX10_copy_14 (S : Mm) : Mm := upR (mX10_copy_13 S) 34 (va_cpy ((mX10_copy_13 S) 15) ((mX10_copy_13 S) 34) 0 0 3)
def mX10_copy_15 (S : Mm) : Mm := upR (mX10_copy_14 S) 35 (va_cpy ((mX10_copy_14 S) 16) ((mX10_copy_14 S) 35) 0 0 72)
def mX10_copy_16 (S : Mm) : Mm := upR (mX10_copy_15 S) 36 (va_cpy ((mX10_copy_15 S) 17) ((mX10_copy_15 S) 36) 0 0 64)
def mX10_copy_17 (S : Mm) : Mm := up2 (up2 (mX10_copy_16 S) 19 13 ((mX10_copy_16 S) 0 13)) 19 14 ((up2 (mX10_copy_16 S) 19 13 ((mX10_copy_16 S) 0 13)) 0 14)
def mX10_copy_18 (S : Mm) : Mm := up2 (up2 (mX10_copy_17 S) 19 15 ((mX10_copy_17 S) 0 15)) 19 16 ((up2 (mX10_copy_17 S) 19 15 ((mX10_copy_17 S) 0 15)) 0 16)
def mX10_copy_19 (S : Mm) : Mm := up2 (up2 (mX10_copy_18 S) 19 17 ((mX10_copy_18 S) 0 17)) 19 18 ((up2 (mX10_copy_18 S) 19 17 ((mX10_copy_18 S) 0 17)) 0 18)
def mX10_copy_20 (S : Mm) : Mm := up2 (up2 (mX10_copy_19 S) 19 22 ((mX10_copy_19 S) 0 22)) 19 23 ((up2 (mX10_copy_19 S) 19 22 ((mX10_copy_19 S) 0 22)) 0 23)
def eX10_copy (S : Mm) : Int32 := (mX10_copy_20 S) 0 24
def mX10_copy_21 (S : Mm) : Mm := up2 (up2 (mX10_copy_20 S) 19 24 ((mX10_copy_20 S) 0 24)) 19 25 ((up2 (mX10_copy_20 S) 19 24 ((mX10_copy_20 S) 0 24)) 0 25)
def mX10_copy_22 (S : Mm) : Mm := up2 (up2 (mX10_copy_21 S) 19 26 ((mX10_copy_21 S) 0 26)) 19 27 ((up2 (mX10_copy_21 S) 19 26 ((mX10_copy_21 S) 0 26)) 0 27)
def fX10_copy (S : Mm) : Mm := up2 (mX10_copy_22 S) 19 28 ((mX10_copy_22 S) 0 28)
def cpD (S : Mm) : Mm := fun o => fX10_copy (jn S SD0) (o + 19)
theorem iX10_copy_X10 : ∀ w ∈ u_ws RX10 TX10 35, w ∈ wsX10_copy := by decide +kernel
theorem cp_l (S : Mm) {o : Nat} (h : o < 19) : fX10_copy S o = S o := by
  unfold fX10_copy
  rw [up2_n (by omega)]
  unfold mX10_copy_22
  rw [up2_n (by omega), up2_n (by omega)]
  unfold mX10_copy_21
  rw [up2_n (by omega), up2_n (by omega)]
  unfold mX10_copy_20
  rw [up2_n (by omega), up2_n (by omega)]
  unfold mX10_copy_19
  rw [up2_n (by omega), up2_n (by omega)]
  unfold mX10_copy_18
  rw [up2_n (by omega), up2_n (by omega)]
  unfold mX10_copy_17
  rw [up2_n (by omega), up2_n (by omega)]
  unfold mX10_copy_16
  rw [upR_n (by omega)]
  unfold mX10_copy_15
  rw [upR_n (by omega)]
  unfold mX10_copy_14
  rw [upR_n (by omega)]
  unfold mX10_copy_13
  rw [upR_n (by omega)]
  unfold mX10_copy_12
  rw [upR_n (by omega)]
  unfold mX10_copy_11
  rw [upR_n (by omega)]
  unfold mX10_copy_10
  rw [upR_n (by omega)]
  unfold mX10_copy_9
  rw [upR_n (by omega)]
  unfold mX10_copy_8
  rw [upR_n (by omega)]
  unfold mX10_copy_7
  rw [upR_n (by omega)]
  unfold mX10_copy_6
  rw [upR_n (by omega)]
  unfold mX10_copy_5
  rw [upR_n (by omega)]
  unfold mX10_copy_4
  rw [upR_n (by omega)]
  unfold mX10_copy_3
  rw [upR_n (by omega)]
  unfold mX10_copy_2
  rw [upR_n (by omega)]
  unfold mX10_copy_1
  rw [upR_n (by omega), upR_n (by omega)]

set_option maxHeartbeats 4000000 in
set_option maxRecDepth 100000 in
theorem c_X10_copy (l : Launch) (G : va_G) (cA : ClassId) (zq : Nat) (a : Nat → Nat) (ha : apart 19 a) (S : Mm) (L : Int64) (sz : Nat) (hbn : narrow .boolean (.int (eX10_copy (jn S SD0))) = .int (eX10_copy (jn S SD0))) (hbf : fits .boolean (.int (eX10_copy (jn S SD0))) = true) : Met l yX10_copy wsX10_copy ({ frames := 2, cells := 18, slots := 498, locals := 47 } : Room) (va_Pc [.ref (a 0)] (gI G cA zq 19 a (cD a cA) S L sz)) (va_Qr (fun (b : Nat → Nat) => apart 18 b ∧ ∀ k, k < 18 → sz ≤ b k) (fun b q t => q = b 0 ∧ va_P G vwCl (wG 19 a (cD a cA) S L) t.heap ∧ va_P G vwCl (wG 18 b (cD b cA) (cpD S) 0) t.heap) (mA 19 a sz)) 18 498 (mA 19 a sz) := by
  refine g_met (cc := cX10_copy) (maxL := 2) (ret := (some (.object "MelodeonModel$Desk"))) (by decide) rfl (Nat.le_of_ble_eq_true rfl) ?_
  intro p e s m below meth c ls hx hb hr hlocks hml hts hown hnm hsz hK hP hS hl
  subst hsz
  have hl : lv_has ls 2 [(0, .ref (a 0))] := hl
  have hA : ∀ x : Nat, s.heap.size ≤ x → mA 19 a s.heap.size x := fun x h => Or.inr h
  have hap := ha
  refine va_new (ci := 10) (fs := [.null, .null, .null, .null, .null, .null, .null, .null, .null, .null, .null, .null, .null, .int 0, .int 0, .int 0, .int 0, .int 0, .int 0, .null, .null, .null, .int 0, .int 0, .int 0, .int 0, .int 0, .int 0, .int 0, .null, .int 0, .int 0, .int 0, .int 0, .long 0]) (C := RX10) (T := TX10) (N := 35) hx hb hts (by decide +kernel) tyX10 tyX10_ok hown (hts (.classLink RX10 10 RX10) (by decide +kernel)) (hts (.instantiable RX10 35) (by decide +kernel)) (hts (.initialized RX10) (by decide +kernel)) hK.1 hP (wG_D ha mA_in) hS hA rfl (fun j hj => by rcases (show j = 0 ∨ j = 1 ∨ j = 2 ∨ j = 3 ∨ j = 4 ∨ j = 5 ∨ j = 6 ∨ j = 7 ∨ j = 8 ∨ j = 9 ∨ j = 10 ∨ j = 11 ∨ j = 12 ∨ j = 13 ∨ j = 14 ∨ j = 15 ∨ j = 16 ∨ j = 17 ∨ j = 18 ∨ j = 19 ∨ j = 20 ∨ j = 21 ∨ j = 22 ∨ j = 23 ∨ j = 24 ∨ j = 25 ∨ j = 26 ∨ j = 27 ∨ j = 28 ∨ j = 29 ∨ j = 30 ∨ j = 31 ∨ j = 32 ∨ j = 33 ∨ j = 34 by omega) with rfl | rfl | rfl | rfl | rfl | rfl | rfl | rfl | rfl | rfl | rfl | rfl | rfl | rfl | rfl | rfl | rfl | rfl | rfl | rfl | rfl | rfl | rfl | rfl | rfl | rfl | rfl | rfl | rfl | rfl | rfl | rfl | rfl | rfl | rfl <;> rfl) (Nat.le_of_ble_eq_true rfl) (Nat.le_of_ble_eq_true rfl) dX10_copy_0 (fun q H hP hD hS => ?_)
  refine lv_dup hx hb dX10_copy_3 rfl ?_
  refine j_next (wr := wG 19 a (cD a cA) S L) (va_runI (As := []) (rest := [.ref q]) ⟨hx, hb, hml, hown, hts⟩ (c_X10_init l G cA zq q H.size) (cwI 0 hts gX10_copy_X10_init rfl rfl rfl (hts (.initialized RX10) (by decide +kernel)) (hts (.methodLink RX10 70 yX10_init) (by decide +kernel)) (hts (.instanceMethod yX10_init) (by decide +kernel)) rfl (by decide +kernel) ⟨Nat.le_of_ble_eq_true rfl, Nat.le_of_ble_eq_true rfl⟩) (j_pre hK hP hD hS hA 19 wx_last) rfl rfl hl.1 rfl (lv_room (Nat.le_of_ble_eq_true rfl)) dX10_copy_4 ⟨Nat.le_of_ble_eq_true rfl, Nat.le_of_ble_eq_true rfl⟩) hP hD hS hA 19 (List.range 19) wx_last rfl rfl (by decide) (fun b H locs hq hP hD hS => ?_)
  refine lv_astore_n (lv' := [(1, .ref q), (0, .ref (a 0))]) hx hb dX10_copy_7 rfl hl (by decide) rfl (fun ls hl => ?_)
  rw [wJ_eq] at hP hD
  have hbD : ∀ k, k < 18 → s.heap.size ≤ b k := fun k hk => by
    have h1 : mA 19 a s.heap.size (b k) := by
      have h2 := hD.2 (k + 19) _ (wG_get (by omega))
      rw [aJ_r] at h2
      exact h2
    rcases h1 with ⟨j, hj, e⟩ | h1
    · have h3 := hD.1 j (k + 19) _ _ (wG_get (by omega)) (wG_get (by omega)) (by rw [aJ_l hj, aJ_r]; exact e)
      omega
    · exact h1
  have hbA : apart 18 b := fun i j hi hj e => by
    have h3 := hD.1 (i + 19) (j + 19) _ _ (wG_get (by omega)) (wG_get (by omega)) (by rw [aJ_r, aJ_r]; exact e)
    omega
  have hl : lv_has ls 2 [(1, .ref (aJ a b 19)), (0, .ref (aJ a b 0))] := by rw [show aJ a b 19 = q from (aJ_r (k := 0)).trans hq, aJ_l (by decide)]; exact hl
  obtain ⟨S2, eS⟩ : ∃ U : Mm, U = jn S SD0 := ⟨_, rfl⟩
  obtain ⟨a2, ea⟩ : ∃ u : Nat → Nat, u = aJ a b := ⟨_, rfl⟩
  rw [← eS, ← ea] at hP hD
  rw [← ea] at hl
  have hae : ∀ i j, i < 37 → j < 37 → a2 i = a2 j → i = j := fun i j hi hj e => hD.1 i j _ _ (wG_get hi) (wG_get hj) e
  have hAk : ∀ k, k < 37 → mA 19 a s.heap.size (a2 k) := fun k hk => hD.2 k _ (wG_get hk)
  refine lv_aload_n hx hb dX10_copy_8 rfl (lv_at hl 1 rfl) ?_
  refine g_get (ci := 10) (C := RX10) (T := TX10) (N := 35) (v := .ref (a2 1)) hx hb hts iX10_copy_X10 hown hK hP (by decide) cJ_D rfl 0 (by decide) rfl (by decide +kernel) rfl dX10_copy_9 ?_
  refine lv_aload_n hx hb dX10_copy_12 rfl (lv_at hl 0 rfl) ?_
  refine g_get (ci := 10) (C := RX10) (T := TX10) (N := 35) (v := .ref (a2 20)) hx hb hts iX10_copy_X10 hown hK hP (by decide) cJ_E rfl 0 (by decide) rfl (by decide +kernel) rfl dX10_copy_13 ?_
  refine g_cNv (As := [.ref (a2 1), .ref (a2 20)]) (rest := []) ⟨hx, hb, hml, hown, hts⟩ (c_X11_put l G cA zq 37 (cJ a2 cA) a2 hae S2 L H.size 1 20 32 (by decide) (by decide) (by decide) (fun _ _ => rfl) (fun _ _ => rfl)) (va_cnB 2 hts gX10_copy_X11_put_n71 rfl rfl rfl (hK.2.1.at (q := ("MelodeonModel$Desk", 71, yX11_put, "MelodeonModel")) (by decide +kernel)) (hts (.initialized RX11) (by decide +kernel)) (by decide +kernel) ⟨Nat.le_of_ble_eq_true rfl, Nat.le_of_ble_eq_true rfl⟩) (hts (.static yX11_put) (by decide +kernel)) hK (fun x hx => hx.elim (fun ⟨k, hk, e⟩ => e ▸ hAk k hk) (fun h => Or.inr (Nat.le_trans hS.1 h))) hP hS rfl hl.1 rfl (lv_room (Nat.le_of_ble_eq_true rfl)) dX10_copy_16 ⟨Nat.le_of_ble_eq_true rfl, Nat.le_of_ble_eq_true rfl⟩ (fun H locs hP hS _ _ => ?_)
  refine lv_aload_n hx hb dX10_copy_19 rfl (lv_at hl 1 rfl) ?_
  refine g_get (ci := 10) (C := RX10) (T := TX10) (N := 35) (v := .ref (a2 2)) hx hb hts iX10_copy_X10 hown hK hP (by decide) cJ_D rfl 1 (by decide) rfl (by decide +kernel) rfl dX10_copy_20 ?_
  refine lv_aload_n hx hb dX10_copy_23 rfl (lv_at hl 0 rfl) ?_
  refine g_get (ci := 10) (C := RX10) (T := TX10) (N := 35) (v := .ref (a2 21)) hx hb hts iX10_copy_X10 hown hK hP (by decide) cJ_E rfl 1 (by decide) rfl (by decide +kernel) rfl dX10_copy_24 ?_
  refine g_cNv (As := [.ref (a2 2), .ref (a2 21)]) (rest := []) ⟨hx, hb, hml, hown, hts⟩ (c_X11_put l G cA zq 37 (cJ a2 cA) a2 hae (upR S2 20 (va_cpy (S2 1) (S2 20) 0 0 32)) L H.size 2 21 48 (by decide) (by decide) (by decide) (fun _ _ => rfl) (fun _ _ => rfl)) (va_cnB 2 hts gX10_copy_X11_put_n71 rfl rfl rfl (hK.2.1.at (q := ("MelodeonModel$Desk", 71, yX11_put, "MelodeonModel")) (by decide +kernel)) (hts (.initialized RX11) (by decide +kernel)) (by decide +kernel) ⟨Nat.le_of_ble_eq_true rfl, Nat.le_of_ble_eq_true rfl⟩) (hts (.static yX11_put) (by decide +kernel)) hK (fun x hx => hx.elim (fun ⟨k, hk, e⟩ => e ▸ hAk k hk) (fun h => Or.inr (Nat.le_trans hS.1 h))) hP hS rfl hl.1 rfl (lv_room (Nat.le_of_ble_eq_true rfl)) dX10_copy_27 ⟨Nat.le_of_ble_eq_true rfl, Nat.le_of_ble_eq_true rfl⟩ (fun H locs hP hS _ _ => ?_)
  have hP : va_P G vwCl (wG 37 a2 (cJ a2 cA) (mX10_copy_1 S2) L) H := hP
  refine lv_aload_n hx hb dX10_copy_30 rfl (lv_at hl 1 rfl) ?_
  refine g_get (ci := 10) (C := RX10) (T := TX10) (N := 35) (v := .ref (a2 3)) hx hb hts iX10_copy_X10 hown hK hP (by decide) cJ_D rfl 2 (by decide) rfl (by decide +kernel) rfl dX10_copy_31 ?_
  refine lv_aload_n hx hb dX10_copy_34 rfl (lv_at hl 0 rfl) ?_
  refine g_get (ci := 10) (C := RX10) (T := TX10) (N := 35) (v := .ref (a2 22)) hx hb hts iX10_copy_X10 hown hK hP (by decide) cJ_E rfl 2 (by decide) rfl (by decide +kernel) rfl dX10_copy_35 ?_
  refine g_cNv (As := [.ref (a2 3), .ref (a2 22)]) (rest := []) ⟨hx, hb, hml, hown, hts⟩ (c_X11_put l G cA zq 37 (cJ a2 cA) a2 hae (mX10_copy_1 S2) L H.size 3 22 4 (by decide) (by decide) (by decide) (fun _ _ => rfl) (fun _ _ => rfl)) (va_cnB 2 hts gX10_copy_X11_put_n71 rfl rfl rfl (hK.2.1.at (q := ("MelodeonModel$Desk", 71, yX11_put, "MelodeonModel")) (by decide +kernel)) (hts (.initialized RX11) (by decide +kernel)) (by decide +kernel) ⟨Nat.le_of_ble_eq_true rfl, Nat.le_of_ble_eq_true rfl⟩) (hts (.static yX11_put) (by decide +kernel)) hK (fun x hx => hx.elim (fun ⟨k, hk, e⟩ => e ▸ hAk k hk) (fun h => Or.inr (Nat.le_trans hS.1 h))) hP hS rfl hl.1 rfl (lv_room (Nat.le_of_ble_eq_true rfl)) dX10_copy_38 ⟨Nat.le_of_ble_eq_true rfl, Nat.le_of_ble_eq_true rfl⟩ (fun H locs hP hS _ _ => ?_)
  have hP : va_P G vwCl (wG 37 a2 (cJ a2 cA) (mX10_copy_2 S2) L) H := hP
  refine lv_aload_n hx hb dX10_copy_41 rfl (lv_at hl 1 rfl) ?_
  refine g_get (ci := 10) (C := RX10) (T := TX10) (N := 35) (v := .ref (a2 4)) hx hb hts iX10_copy_X10 hown hK hP (by decide) cJ_D rfl 3 (by decide) rfl (by decide +kernel) rfl dX10_copy_42 ?_
  refine lv_aload_n hx hb dX10_copy_45 rfl (lv_at hl 0 rfl) ?_
  refine g_get (ci := 10) (C := RX10) (T := TX10) (N := 35) (v := .ref (a2 23)) hx hb hts iX10_copy_X10 hown hK hP (by decide) cJ_E rfl 3 (by decide) rfl (by decide +kernel) rfl dX10_copy_46 ?_
  refine g_cNv (As := [.ref (a2 4), .ref (a2 23)]) (rest := []) ⟨hx, hb, hml, hown, hts⟩ (c_X11_put l G cA zq 37 (cJ a2 cA) a2 hae (mX10_copy_2 S2) L H.size 4 23 4 (by decide) (by decide) (by decide) (fun _ _ => rfl) (fun _ _ => rfl)) (va_cnB 2 hts gX10_copy_X11_put_n71 rfl rfl rfl (hK.2.1.at (q := ("MelodeonModel$Desk", 71, yX11_put, "MelodeonModel")) (by decide +kernel)) (hts (.initialized RX11) (by decide +kernel)) (by decide +kernel) ⟨Nat.le_of_ble_eq_true rfl, Nat.le_of_ble_eq_true rfl⟩) (hts (.static yX11_put) (by decide +kernel)) hK (fun x hx => hx.elim (fun ⟨k, hk, e⟩ => e ▸ hAk k hk) (fun h => Or.inr (Nat.le_trans hS.1 h))) hP hS rfl hl.1 rfl (lv_room (Nat.le_of_ble_eq_true rfl)) dX10_copy_49 ⟨Nat.le_of_ble_eq_true rfl, Nat.le_of_ble_eq_true rfl⟩ (fun H locs hP hS _ _ => ?_)
  have hP : va_P G vwCl (wG 37 a2 (cJ a2 cA) (mX10_copy_3 S2) L) H := hP
  refine lv_aload_n hx hb dX10_copy_52 rfl (lv_at hl 1 rfl) ?_
  refine g_get (ci := 10) (C := RX10) (T := TX10) (N := 35) (v := .ref (a2 5)) hx hb hts iX10_copy_X10 hown hK hP (by decide) cJ_D rfl 4 (by decide) rfl (by decide +kernel) rfl dX10_copy_53 ?_
  refine lv_aload_n hx hb dX10_copy_56 rfl (lv_at hl 0 rfl) ?_
  refine g_get (ci := 10) (C := RX10) (T := TX10) (N := 35) (v := .ref (a2 24)) hx hb hts iX10_copy_X10 hown hK hP (by decide) cJ_E rfl 4 (by decide) rfl (by decide +kernel) rfl dX10_copy_57 ?_
  refine g_cNv (As := [.ref (a2 5), .ref (a2 24)]) (rest := []) ⟨hx, hb, hml, hown, hts⟩ (c_X11_put l G cA zq 37 (cJ a2 cA) a2 hae (mX10_copy_3 S2) L H.size 5 24 4 (by decide) (by decide) (by decide) (fun _ _ => rfl) (fun _ _ => rfl)) (va_cnB 2 hts gX10_copy_X11_put_n71 rfl rfl rfl (hK.2.1.at (q := ("MelodeonModel$Desk", 71, yX11_put, "MelodeonModel")) (by decide +kernel)) (hts (.initialized RX11) (by decide +kernel)) (by decide +kernel) ⟨Nat.le_of_ble_eq_true rfl, Nat.le_of_ble_eq_true rfl⟩) (hts (.static yX11_put) (by decide +kernel)) hK (fun x hx => hx.elim (fun ⟨k, hk, e⟩ => e ▸ hAk k hk) (fun h => Or.inr (Nat.le_trans hS.1 h))) hP hS rfl hl.1 rfl (lv_room (Nat.le_of_ble_eq_true rfl)) dX10_copy_60 ⟨Nat.le_of_ble_eq_true rfl, Nat.le_of_ble_eq_true rfl⟩ (fun H locs hP hS _ _ => ?_)
  have hP : va_P G vwCl (wG 37 a2 (cJ a2 cA) (mX10_copy_4 S2) L) H := hP
  refine lv_aload_n hx hb dX10_copy_63 rfl (lv_at hl 1 rfl) ?_
  refine g_get (ci := 10) (C := RX10) (T := TX10) (N := 35) (v := .ref (a2 6)) hx hb hts iX10_copy_X10 hown hK hP (by decide) cJ_D rfl 5 (by decide) rfl (by decide +kernel) rfl dX10_copy_64 ?_
  refine lv_aload_n hx hb dX10_copy_67 rfl (lv_at hl 0 rfl) ?_
  refine g_get (ci := 10) (C := RX10) (T := TX10) (N := 35) (v := .ref (a2 25)) hx hb hts iX10_copy_X10 hown hK hP (by decide) cJ_E rfl 5 (by decide) rfl (by decide +kernel) rfl dX10_copy_68 ?_
  refine g_cNv (As := [.ref (a2 6), .ref (a2 25)]) (rest := []) ⟨hx, hb, hml, hown, hts⟩ (c_X11_put l G cA zq 37 (cJ a2 cA) a2 hae (mX10_copy_4 S2) L H.size 6 25 4 (by decide) (by decide) (by decide) (fun _ _ => rfl) (fun _ _ => rfl)) (va_cnB 2 hts gX10_copy_X11_put_n71 rfl rfl rfl (hK.2.1.at (q := ("MelodeonModel$Desk", 71, yX11_put, "MelodeonModel")) (by decide +kernel)) (hts (.initialized RX11) (by decide +kernel)) (by decide +kernel) ⟨Nat.le_of_ble_eq_true rfl, Nat.le_of_ble_eq_true rfl⟩) (hts (.static yX11_put) (by decide +kernel)) hK (fun x hx => hx.elim (fun ⟨k, hk, e⟩ => e ▸ hAk k hk) (fun h => Or.inr (Nat.le_trans hS.1 h))) hP hS rfl hl.1 rfl (lv_room (Nat.le_of_ble_eq_true rfl)) dX10_copy_71 ⟨Nat.le_of_ble_eq_true rfl, Nat.le_of_ble_eq_true rfl⟩ (fun H locs hP hS _ _ => ?_)
  have hP : va_P G vwCl (wG 37 a2 (cJ a2 cA) (mX10_copy_5 S2) L) H := hP
  refine lv_aload_n hx hb dX10_copy_74 rfl (lv_at hl 1 rfl) ?_
  refine g_get (ci := 10) (C := RX10) (T := TX10) (N := 35) (v := .ref (a2 7)) hx hb hts iX10_copy_X10 hown hK hP (by decide) cJ_D rfl 6 (by decide) rfl (by decide +kernel) rfl dX10_copy_75 ?_
  refine lv_aload_n hx hb dX10_copy_78 rfl (lv_at hl 0 rfl) ?_
  refine g_get (ci := 10) (C := RX10) (T := TX10) (N := 35) (v := .ref (a2 26)) hx hb hts iX10_copy_X10 hown hK hP (by decide) cJ_E rfl 6 (by decide) rfl (by decide +kernel) rfl dX10_copy_79 ?_
  refine g_cNv (As := [.ref (a2 7), .ref (a2 26)]) (rest := []) ⟨hx, hb, hml, hown, hts⟩ (c_X11_put l G cA zq 37 (cJ a2 cA) a2 hae (mX10_copy_5 S2) L H.size 7 26 4 (by decide) (by decide) (by decide) (fun _ _ => rfl) (fun _ _ => rfl)) (va_cnB 2 hts gX10_copy_X11_put_n71 rfl rfl rfl (hK.2.1.at (q := ("MelodeonModel$Desk", 71, yX11_put, "MelodeonModel")) (by decide +kernel)) (hts (.initialized RX11) (by decide +kernel)) (by decide +kernel) ⟨Nat.le_of_ble_eq_true rfl, Nat.le_of_ble_eq_true rfl⟩) (hts (.static yX11_put) (by decide +kernel)) hK (fun x hx => hx.elim (fun ⟨k, hk, e⟩ => e ▸ hAk k hk) (fun h => Or.inr (Nat.le_trans hS.1 h))) hP hS rfl hl.1 rfl (lv_room (Nat.le_of_ble_eq_true rfl)) dX10_copy_82 ⟨Nat.le_of_ble_eq_true rfl, Nat.le_of_ble_eq_true rfl⟩ (fun H locs hP hS _ _ => ?_)
  have hP : va_P G vwCl (wG 37 a2 (cJ a2 cA) (mX10_copy_6 S2) L) H := hP
  refine lv_aload_n hx hb dX10_copy_85 rfl (lv_at hl 1 rfl) ?_
  refine g_get (ci := 10) (C := RX10) (T := TX10) (N := 35) (v := .ref (a2 8)) hx hb hts iX10_copy_X10 hown hK hP (by decide) cJ_D rfl 7 (by decide) rfl (by decide +kernel) rfl dX10_copy_86 ?_
  refine lv_aload_n hx hb dX10_copy_89 rfl (lv_at hl 0 rfl) ?_
  refine g_get (ci := 10) (C := RX10) (T := TX10) (N := 35) (v := .ref (a2 27)) hx hb hts iX10_copy_X10 hown hK hP (by decide) cJ_E rfl 7 (by decide) rfl (by decide +kernel) rfl dX10_copy_90 ?_
  refine g_cNv (As := [.ref (a2 8), .ref (a2 27)]) (rest := []) ⟨hx, hb, hml, hown, hts⟩ (c_X11_put l G cA zq 37 (cJ a2 cA) a2 hae (mX10_copy_6 S2) L H.size 8 27 4 (by decide) (by decide) (by decide) (fun _ _ => rfl) (fun _ _ => rfl)) (va_cnB 2 hts gX10_copy_X11_put_n71 rfl rfl rfl (hK.2.1.at (q := ("MelodeonModel$Desk", 71, yX11_put, "MelodeonModel")) (by decide +kernel)) (hts (.initialized RX11) (by decide +kernel)) (by decide +kernel) ⟨Nat.le_of_ble_eq_true rfl, Nat.le_of_ble_eq_true rfl⟩) (hts (.static yX11_put) (by decide +kernel)) hK (fun x hx => hx.elim (fun ⟨k, hk, e⟩ => e ▸ hAk k hk) (fun h => Or.inr (Nat.le_trans hS.1 h))) hP hS rfl hl.1 rfl (lv_room (Nat.le_of_ble_eq_true rfl)) dX10_copy_93 ⟨Nat.le_of_ble_eq_true rfl, Nat.le_of_ble_eq_true rfl⟩ (fun H locs hP hS _ _ => ?_)
  have hP : va_P G vwCl (wG 37 a2 (cJ a2 cA) (mX10_copy_7 S2) L) H := hP
  refine lv_aload_n hx hb dX10_copy_96 rfl (lv_at hl 1 rfl) ?_
  refine g_get (ci := 10) (C := RX10) (T := TX10) (N := 35) (v := .ref (a2 9)) hx hb hts iX10_copy_X10 hown hK hP (by decide) cJ_D rfl 8 (by decide) rfl (by decide +kernel) rfl dX10_copy_97 ?_
  refine lv_aload_n hx hb dX10_copy_100 rfl (lv_at hl 0 rfl) ?_
  refine g_get (ci := 10) (C := RX10) (T := TX10) (N := 35) (v := .ref (a2 28)) hx hb hts iX10_copy_X10 hown hK hP (by decide) cJ_E rfl 8 (by decide) rfl (by decide +kernel) rfl dX10_copy_101 ?_
  refine g_cNv (As := [.ref (a2 9), .ref (a2 28)]) (rest := []) ⟨hx, hb, hml, hown, hts⟩ (c_X11_put l G cA zq 37 (cJ a2 cA) a2 hae (mX10_copy_7 S2) L H.size 9 28 4 (by decide) (by decide) (by decide) (fun _ _ => rfl) (fun _ _ => rfl)) (va_cnB 2 hts gX10_copy_X11_put_n71 rfl rfl rfl (hK.2.1.at (q := ("MelodeonModel$Desk", 71, yX11_put, "MelodeonModel")) (by decide +kernel)) (hts (.initialized RX11) (by decide +kernel)) (by decide +kernel) ⟨Nat.le_of_ble_eq_true rfl, Nat.le_of_ble_eq_true rfl⟩) (hts (.static yX11_put) (by decide +kernel)) hK (fun x hx => hx.elim (fun ⟨k, hk, e⟩ => e ▸ hAk k hk) (fun h => Or.inr (Nat.le_trans hS.1 h))) hP hS rfl hl.1 rfl (lv_room (Nat.le_of_ble_eq_true rfl)) dX10_copy_104 ⟨Nat.le_of_ble_eq_true rfl, Nat.le_of_ble_eq_true rfl⟩ (fun H locs hP hS _ _ => ?_)
  have hP : va_P G vwCl (wG 37 a2 (cJ a2 cA) (mX10_copy_8 S2) L) H := hP
  refine lv_aload_n hx hb dX10_copy_107 rfl (lv_at hl 1 rfl) ?_
  refine g_get (ci := 10) (C := RX10) (T := TX10) (N := 35) (v := .ref (a2 10)) hx hb hts iX10_copy_X10 hown hK hP (by decide) cJ_D rfl 9 (by decide) rfl (by decide +kernel) rfl dX10_copy_108 ?_
  refine lv_aload_n hx hb dX10_copy_111 rfl (lv_at hl 0 rfl) ?_
  refine g_get (ci := 10) (C := RX10) (T := TX10) (N := 35) (v := .ref (a2 29)) hx hb hts iX10_copy_X10 hown hK hP (by decide) cJ_E rfl 9 (by decide) rfl (by decide +kernel) rfl dX10_copy_112 ?_
  refine g_cNv (As := [.ref (a2 10), .ref (a2 29)]) (rest := []) ⟨hx, hb, hml, hown, hts⟩ (c_X11_put l G cA zq 37 (cJ a2 cA) a2 hae (mX10_copy_8 S2) L H.size 10 29 4 (by decide) (by decide) (by decide) (fun _ _ => rfl) (fun _ _ => rfl)) (va_cnB 2 hts gX10_copy_X11_put_n71 rfl rfl rfl (hK.2.1.at (q := ("MelodeonModel$Desk", 71, yX11_put, "MelodeonModel")) (by decide +kernel)) (hts (.initialized RX11) (by decide +kernel)) (by decide +kernel) ⟨Nat.le_of_ble_eq_true rfl, Nat.le_of_ble_eq_true rfl⟩) (hts (.static yX11_put) (by decide +kernel)) hK (fun x hx => hx.elim (fun ⟨k, hk, e⟩ => e ▸ hAk k hk) (fun h => Or.inr (Nat.le_trans hS.1 h))) hP hS rfl hl.1 rfl (lv_room (Nat.le_of_ble_eq_true rfl)) dX10_copy_115 ⟨Nat.le_of_ble_eq_true rfl, Nat.le_of_ble_eq_true rfl⟩ (fun H locs hP hS _ _ => ?_)
  have hP : va_P G vwCl (wG 37 a2 (cJ a2 cA) (mX10_copy_9 S2) L) H := hP
  refine lv_aload_n hx hb dX10_copy_118 rfl (lv_at hl 1 rfl) ?_
  refine g_get (ci := 10) (C := RX10) (T := TX10) (N := 35) (v := .ref (a2 11)) hx hb hts iX10_copy_X10 hown hK hP (by decide) cJ_D rfl 10 (by decide) rfl (by decide +kernel) rfl dX10_copy_119 ?_
  refine lv_aload_n hx hb dX10_copy_122 rfl (lv_at hl 0 rfl) ?_
  refine g_get (ci := 10) (C := RX10) (T := TX10) (N := 35) (v := .ref (a2 30)) hx hb hts iX10_copy_X10 hown hK hP (by decide) cJ_E rfl 10 (by decide) rfl (by decide +kernel) rfl dX10_copy_123 ?_
  refine g_cNv (As := [.ref (a2 11), .ref (a2 30)]) (rest := []) ⟨hx, hb, hml, hown, hts⟩ (c_X11_put l G cA zq 37 (cJ a2 cA) a2 hae (mX10_copy_9 S2) L H.size 11 30 4 (by decide) (by decide) (by decide) (fun _ _ => rfl) (fun _ _ => rfl)) (va_cnB 2 hts gX10_copy_X11_put_n71 rfl rfl rfl (hK.2.1.at (q := ("MelodeonModel$Desk", 71, yX11_put, "MelodeonModel")) (by decide +kernel)) (hts (.initialized RX11) (by decide +kernel)) (by decide +kernel) ⟨Nat.le_of_ble_eq_true rfl, Nat.le_of_ble_eq_true rfl⟩) (hts (.static yX11_put) (by decide +kernel)) hK (fun x hx => hx.elim (fun ⟨k, hk, e⟩ => e ▸ hAk k hk) (fun h => Or.inr (Nat.le_trans hS.1 h))) hP hS rfl hl.1 rfl (lv_room (Nat.le_of_ble_eq_true rfl)) dX10_copy_126 ⟨Nat.le_of_ble_eq_true rfl, Nat.le_of_ble_eq_true rfl⟩ (fun H locs hP hS _ _ => ?_)
  have hP : va_P G vwCl (wG 37 a2 (cJ a2 cA) (mX10_copy_10 S2) L) H := hP
  refine lv_aload_n hx hb dX10_copy_129 rfl (lv_at hl 1 rfl) ?_
  refine g_get (ci := 10) (C := RX10) (T := TX10) (N := 35) (v := .ref (a2 12)) hx hb hts iX10_copy_X10 hown hK hP (by decide) cJ_D rfl 11 (by decide) rfl (by decide +kernel) rfl dX10_copy_130 ?_
  refine lv_aload_n hx hb dX10_copy_133 rfl (lv_at hl 0 rfl) ?_
  refine g_get (ci := 10) (C := RX10) (T := TX10) (N := 35) (v := .ref (a2 31)) hx hb hts iX10_copy_X10 hown hK hP (by decide) cJ_E rfl 11 (by decide) rfl (by decide +kernel) rfl dX10_copy_134 ?_
  refine g_cNv (As := [.ref (a2 12), .ref (a2 31)]) (rest := []) ⟨hx, hb, hml, hown, hts⟩ (c_X11_put l G cA zq 37 (cJ a2 cA) a2 hae (mX10_copy_10 S2) L H.size 12 31 4 (by decide) (by decide) (by decide) (fun _ _ => rfl) (fun _ _ => rfl)) (va_cnB 2 hts gX10_copy_X11_put_n71 rfl rfl rfl (hK.2.1.at (q := ("MelodeonModel$Desk", 71, yX11_put, "MelodeonModel")) (by decide +kernel)) (hts (.initialized RX11) (by decide +kernel)) (by decide +kernel) ⟨Nat.le_of_ble_eq_true rfl, Nat.le_of_ble_eq_true rfl⟩) (hts (.static yX11_put) (by decide +kernel)) hK (fun x hx => hx.elim (fun ⟨k, hk, e⟩ => e ▸ hAk k hk) (fun h => Or.inr (Nat.le_trans hS.1 h))) hP hS rfl hl.1 rfl (lv_room (Nat.le_of_ble_eq_true rfl)) dX10_copy_137 ⟨Nat.le_of_ble_eq_true rfl, Nat.le_of_ble_eq_true rfl⟩ (fun H locs hP hS _ _ => ?_)
  have hP : va_P G vwCl (wG 37 a2 (cJ a2 cA) (mX10_copy_11 S2) L) H := hP
  refine lv_aload_n hx hb dX10_copy_140 rfl (lv_at hl 1 rfl) ?_
  refine g_get (ci := 10) (C := RX10) (T := TX10) (N := 35) (v := .ref (a2 13)) hx hb hts iX10_copy_X10 hown hK hP (by decide) cJ_D rfl 12 (by decide) rfl (by decide +kernel) rfl dX10_copy_141 ?_
  refine lv_aload_n hx hb dX10_copy_144 rfl (lv_at hl 0 rfl) ?_
  refine g_get (ci := 10) (C := RX10) (T := TX10) (N := 35) (v := .ref (a2 32)) hx hb hts iX10_copy_X10 hown hK hP (by decide) cJ_E rfl 12 (by decide) rfl (by decide +kernel) rfl dX10_copy_145 ?_
  refine g_cNv (As := [.ref (a2 13), .ref (a2 32)]) (rest := []) ⟨hx, hb, hml, hown, hts⟩ (c_X11_put l G cA zq 37 (cJ a2 cA) a2 hae (mX10_copy_11 S2) L H.size 13 32 4 (by decide) (by decide) (by decide) (fun _ _ => rfl) (fun _ _ => rfl)) (va_cnB 2 hts gX10_copy_X11_put_n71 rfl rfl rfl (hK.2.1.at (q := ("MelodeonModel$Desk", 71, yX11_put, "MelodeonModel")) (by decide +kernel)) (hts (.initialized RX11) (by decide +kernel)) (by decide +kernel) ⟨Nat.le_of_ble_eq_true rfl, Nat.le_of_ble_eq_true rfl⟩) (hts (.static yX11_put) (by decide +kernel)) hK (fun x hx => hx.elim (fun ⟨k, hk, e⟩ => e ▸ hAk k hk) (fun h => Or.inr (Nat.le_trans hS.1 h))) hP hS rfl hl.1 rfl (lv_room (Nat.le_of_ble_eq_true rfl)) dX10_copy_148 ⟨Nat.le_of_ble_eq_true rfl, Nat.le_of_ble_eq_true rfl⟩ (fun H locs hP hS _ _ => ?_)
  have hP : va_P G vwCl (wG 37 a2 (cJ a2 cA) (mX10_copy_12 S2) L) H := hP
  refine lv_aload_n hx hb dX10_copy_151 rfl (lv_at hl 1 rfl) ?_
  refine g_get (ci := 10) (C := RX10) (T := TX10) (N := 35) (v := .ref (a2 14)) hx hb hts iX10_copy_X10 hown hK hP (by decide) cJ_D rfl 19 (by decide) rfl (by decide +kernel) rfl dX10_copy_152 ?_
  refine lv_aload_n hx hb dX10_copy_155 rfl (lv_at hl 0 rfl) ?_
  refine g_get (ci := 10) (C := RX10) (T := TX10) (N := 35) (v := .ref (a2 33)) hx hb hts iX10_copy_X10 hown hK hP (by decide) cJ_E rfl 19 (by decide) rfl (by decide +kernel) rfl dX10_copy_156 ?_
  refine g_cNv (As := [.ref (a2 14), .ref (a2 33)]) (rest := []) ⟨hx, hb, hml, hown, hts⟩ (c_X11_put l G cA zq 37 (cJ a2 cA) a2 hae (mX10_copy_12 S2) L H.size 14 33 200 (by decide) (by decide) (by decide) (fun _ _ => rfl) (fun _ _ => rfl)) (va_cnB 2 hts gX10_copy_X11_put_n71 rfl rfl rfl (hK.2.1.at (q := ("MelodeonModel$Desk", 71, yX11_put, "MelodeonModel")) (by decide +kernel)) (hts (.initialized RX11) (by decide +kernel)) (by decide +kernel) ⟨Nat.le_of_ble_eq_true rfl, Nat.le_of_ble_eq_true rfl⟩) (hts (.static yX11_put) (by decide +kernel)) hK (fun x hx => hx.elim (fun ⟨k, hk, e⟩ => e ▸ hAk k hk) (fun h => Or.inr (Nat.le_trans hS.1 h))) hP hS rfl hl.1 rfl (lv_room (Nat.le_of_ble_eq_true rfl)) dX10_copy_159 ⟨Nat.le_of_ble_eq_true rfl, Nat.le_of_ble_eq_true rfl⟩ (fun H locs hP hS _ _ => ?_)
  have hP : va_P G vwCl (wG 37 a2 (cJ a2 cA) (mX10_copy_13 S2) L) H := hP
  refine lv_aload_n hx hb dX10_copy_162 rfl (lv_at hl 1 rfl) ?_
  refine g_get (ci := 10) (C := RX10) (T := TX10) (N := 35) (v := .ref (a2 15)) hx hb hts iX10_copy_X10 hown hK hP (by decide) cJ_D rfl 20 (by decide) rfl (by decide +kernel) rfl dX10_copy_163 ?_
  refine lv_aload_n hx hb dX10_copy_166 rfl (lv_at hl 0 rfl) ?_
  refine g_get (ci := 10) (C := RX10) (T := TX10) (N := 35) (v := .ref (a2 34)) hx hb hts iX10_copy_X10 hown hK hP (by decide) cJ_E rfl 20 (by decide) rfl (by decide +kernel) rfl dX10_copy_167 ?_
  refine g_cNv (As := [.ref (a2 15), .ref (a2 34)]) (rest := []) ⟨hx, hb, hml, hown, hts⟩ (c_X11_put l G cA zq 37 (cJ a2 cA) a2 hae (mX10_copy_13 S2) L H.size 15 34 3 (by decide) (by decide) (by decide) (fun _ _ => rfl) (fun _ _ => rfl)) (va_cnB 2 hts gX10_copy_X11_put_n71 rfl rfl rfl (hK.2.1.at (q := ("MelodeonModel$Desk", 71, yX11_put, "MelodeonModel")) (by decide +kernel)) (hts (.initialized RX11) (by decide +kernel)) (by decide +kernel) ⟨Nat.le_of_ble_eq_true rfl, Nat.le_of_ble_eq_true rfl⟩) (hts (.static yX11_put) (by decide +kernel)) hK (fun x hx => hx.elim (fun ⟨k, hk, e⟩ => e ▸ hAk k hk) (fun h => Or.inr (Nat.le_trans hS.1 h))) hP hS rfl hl.1 rfl (lv_room (Nat.le_of_ble_eq_true rfl)) dX10_copy_170 ⟨Nat.le_of_ble_eq_true rfl, Nat.le_of_ble_eq_true rfl⟩ (fun H locs hP hS _ _ => ?_)
  have hP : va_P G vwCl (wG 37 a2 (cJ a2 cA) (mX10_copy_14 S2) L) H := hP
  refine lv_aload_n hx hb dX10_copy_173 rfl (lv_at hl 1 rfl) ?_
  refine g_get (ci := 10) (C := RX10) (T := TX10) (N := 35) (v := .ref (a2 16)) hx hb hts iX10_copy_X10 hown hK hP (by decide) cJ_D rfl 21 (by decide) rfl (by decide +kernel) rfl dX10_copy_174 ?_
  refine lv_aload_n hx hb dX10_copy_177 rfl (lv_at hl 0 rfl) ?_
  refine g_get (ci := 10) (C := RX10) (T := TX10) (N := 35) (v := .ref (a2 35)) hx hb hts iX10_copy_X10 hown hK hP (by decide) cJ_E rfl 21 (by decide) rfl (by decide +kernel) rfl dX10_copy_178 ?_
  refine g_cNv (As := [.ref (a2 16), .ref (a2 35)]) (rest := []) ⟨hx, hb, hml, hown, hts⟩ (c_X11_put l G cA zq 37 (cJ a2 cA) a2 hae (mX10_copy_14 S2) L H.size 16 35 72 (by decide) (by decide) (by decide) (fun _ _ => rfl) (fun _ _ => rfl)) (va_cnB 2 hts gX10_copy_X11_put_n71 rfl rfl rfl (hK.2.1.at (q := ("MelodeonModel$Desk", 71, yX11_put, "MelodeonModel")) (by decide +kernel)) (hts (.initialized RX11) (by decide +kernel)) (by decide +kernel) ⟨Nat.le_of_ble_eq_true rfl, Nat.le_of_ble_eq_true rfl⟩) (hts (.static yX11_put) (by decide +kernel)) hK (fun x hx => hx.elim (fun ⟨k, hk, e⟩ => e ▸ hAk k hk) (fun h => Or.inr (Nat.le_trans hS.1 h))) hP hS rfl hl.1 rfl (lv_room (Nat.le_of_ble_eq_true rfl)) dX10_copy_181 ⟨Nat.le_of_ble_eq_true rfl, Nat.le_of_ble_eq_true rfl⟩ (fun H locs hP hS _ _ => ?_)
  have hP : va_P G vwCl (wG 37 a2 (cJ a2 cA) (mX10_copy_15 S2) L) H := hP
  refine lv_aload_n hx hb dX10_copy_184 rfl (lv_at hl 1 rfl) ?_
  refine g_get (ci := 10) (C := RX10) (T := TX10) (N := 35) (v := .ref (a2 17)) hx hb hts iX10_copy_X10 hown hK hP (by decide) cJ_D rfl 29 (by decide) rfl (by decide +kernel) rfl dX10_copy_185 ?_
  refine lv_aload_n hx hb dX10_copy_188 rfl (lv_at hl 0 rfl) ?_
  refine g_get (ci := 10) (C := RX10) (T := TX10) (N := 35) (v := .ref (a2 36)) hx hb hts iX10_copy_X10 hown hK hP (by decide) cJ_E rfl 29 (by decide) rfl (by decide +kernel) rfl dX10_copy_189 ?_
  refine g_cNv (As := [.ref (a2 17), .ref (a2 36)]) (rest := []) ⟨hx, hb, hml, hown, hts⟩ (c_X11_put l G cA zq 37 (cJ a2 cA) a2 hae (mX10_copy_15 S2) L H.size 17 36 64 (by decide) (by decide) (by decide) (fun _ _ => rfl) (fun _ _ => rfl)) (va_cnB 2 hts gX10_copy_X11_put_n71 rfl rfl rfl (hK.2.1.at (q := ("MelodeonModel$Desk", 71, yX11_put, "MelodeonModel")) (by decide +kernel)) (hts (.initialized RX11) (by decide +kernel)) (by decide +kernel) ⟨Nat.le_of_ble_eq_true rfl, Nat.le_of_ble_eq_true rfl⟩) (hts (.static yX11_put) (by decide +kernel)) hK (fun x hx => hx.elim (fun ⟨k, hk, e⟩ => e ▸ hAk k hk) (fun h => Or.inr (Nat.le_trans hS.1 h))) hP hS rfl hl.1 rfl (lv_room (Nat.le_of_ble_eq_true rfl)) dX10_copy_192 ⟨Nat.le_of_ble_eq_true rfl, Nat.le_of_ble_eq_true rfl⟩ (fun H locs hP hS _ _ => ?_)
  have hP : va_P G vwCl (wG 37 a2 (cJ a2 cA) (mX10_copy_16 S2) L) H := hP
  refine lv_aload_n hx hb dX10_copy_195 rfl (lv_at hl 0 rfl) ?_
  refine lv_aload_n hx hb dX10_copy_196 rfl (lv_at hl 1 rfl) ?_
  refine g_get (ci := 10) (C := RX10) (T := TX10) (N := 35) (v := .int ((mX10_copy_16 S2) 0 13)) hx hb hts iX10_copy_X10 hown hK hP (by decide) cJ_D rfl 13 (by decide) rfl (by decide +kernel) rfl dX10_copy_197 ?_
  refine g_put (ci := 10) (C := RX10) (T := TX10) (N := 35) (ty := .int) hx hb hts iX10_copy_X10 tyX10 tyX10_ok nmX10 hown hK hae hAk hP hS (by decide) cJ_E rfl 13 (by decide) rfl (by decide +kernel) rfl (by decide +kernel) rfl rfl (Nat.le_of_ble_eq_true rfl) (cJ_E_set (by decide)) dX10_copy_200 (fun H locs hP hS => ?_)
  refine lv_aload_n hx hb dX10_copy_203 rfl (lv_at hl 0 rfl) ?_
  refine lv_aload_n hx hb dX10_copy_204 rfl (lv_at hl 1 rfl) ?_
  refine g_get (ci := 10) (C := RX10) (T := TX10) (N := 35) (v := .int ((up2 (mX10_copy_16 S2) 19 13 ((mX10_copy_16 S2) 0 13)) 0 14)) hx hb hts iX10_copy_X10 hown hK hP (by decide) cJ_D rfl 14 (by decide) rfl (by decide +kernel) rfl dX10_copy_205 ?_
  refine g_put (ci := 10) (C := RX10) (T := TX10) (N := 35) (ty := .int) hx hb hts iX10_copy_X10 tyX10 tyX10_ok nmX10 hown hK hae hAk hP hS (by decide) cJ_E rfl 14 (by decide) rfl (by decide +kernel) rfl (by decide +kernel) rfl rfl (Nat.le_of_ble_eq_true rfl) (cJ_E_set (by decide)) dX10_copy_208 (fun H locs hP hS => ?_)
  have hP : va_P G vwCl (wG 37 a2 (cJ a2 cA) (mX10_copy_17 S2) L) H := hP
  refine lv_aload_n hx hb dX10_copy_211 rfl (lv_at hl 0 rfl) ?_
  refine lv_aload_n hx hb dX10_copy_212 rfl (lv_at hl 1 rfl) ?_
  refine g_get (ci := 10) (C := RX10) (T := TX10) (N := 35) (v := .int ((mX10_copy_17 S2) 0 15)) hx hb hts iX10_copy_X10 hown hK hP (by decide) cJ_D rfl 15 (by decide) rfl (by decide +kernel) rfl dX10_copy_213 ?_
  refine g_put (ci := 10) (C := RX10) (T := TX10) (N := 35) (ty := .int) hx hb hts iX10_copy_X10 tyX10 tyX10_ok nmX10 hown hK hae hAk hP hS (by decide) cJ_E rfl 15 (by decide) rfl (by decide +kernel) rfl (by decide +kernel) rfl rfl (Nat.le_of_ble_eq_true rfl) (cJ_E_set (by decide)) dX10_copy_216 (fun H locs hP hS => ?_)
  refine lv_aload_n hx hb dX10_copy_219 rfl (lv_at hl 0 rfl) ?_
  refine lv_aload_n hx hb dX10_copy_220 rfl (lv_at hl 1 rfl) ?_
  refine g_get (ci := 10) (C := RX10) (T := TX10) (N := 35) (v := .int ((up2 (mX10_copy_17 S2) 19 15 ((mX10_copy_17 S2) 0 15)) 0 16)) hx hb hts iX10_copy_X10 hown hK hP (by decide) cJ_D rfl 16 (by decide) rfl (by decide +kernel) rfl dX10_copy_221 ?_
  refine g_put (ci := 10) (C := RX10) (T := TX10) (N := 35) (ty := .int) hx hb hts iX10_copy_X10 tyX10 tyX10_ok nmX10 hown hK hae hAk hP hS (by decide) cJ_E rfl 16 (by decide) rfl (by decide +kernel) rfl (by decide +kernel) rfl rfl (Nat.le_of_ble_eq_true rfl) (cJ_E_set (by decide)) dX10_copy_224 (fun H locs hP hS => ?_)
  have hP : va_P G vwCl (wG 37 a2 (cJ a2 cA) (mX10_copy_18 S2) L) H := hP
  refine lv_aload_n hx hb dX10_copy_227 rfl (lv_at hl 0 rfl) ?_
  refine lv_aload_n hx hb dX10_copy_228 rfl (lv_at hl 1 rfl) ?_
  refine g_get (ci := 10) (C := RX10) (T := TX10) (N := 35) (v := .int ((mX10_copy_18 S2) 0 17)) hx hb hts iX10_copy_X10 hown hK hP (by decide) cJ_D rfl 17 (by decide) rfl (by decide +kernel) rfl dX10_copy_229 ?_
  refine g_put (ci := 10) (C := RX10) (T := TX10) (N := 35) (ty := .int) hx hb hts iX10_copy_X10 tyX10 tyX10_ok nmX10 hown hK hae hAk hP hS (by decide) cJ_E rfl 17 (by decide) rfl (by decide +kernel) rfl (by decide +kernel) rfl rfl (Nat.le_of_ble_eq_true rfl) (cJ_E_set (by decide)) dX10_copy_232 (fun H locs hP hS => ?_)
  refine lv_aload_n hx hb dX10_copy_235 rfl (lv_at hl 0 rfl) ?_
  refine lv_aload_n hx hb dX10_copy_236 rfl (lv_at hl 1 rfl) ?_
  refine g_get (ci := 10) (C := RX10) (T := TX10) (N := 35) (v := .int ((up2 (mX10_copy_18 S2) 19 17 ((mX10_copy_18 S2) 0 17)) 0 18)) hx hb hts iX10_copy_X10 hown hK hP (by decide) cJ_D rfl 18 (by decide) rfl (by decide +kernel) rfl dX10_copy_237 ?_
  refine g_put (ci := 10) (C := RX10) (T := TX10) (N := 35) (ty := .int) hx hb hts iX10_copy_X10 tyX10 tyX10_ok nmX10 hown hK hae hAk hP hS (by decide) cJ_E rfl 18 (by decide) rfl (by decide +kernel) rfl (by decide +kernel) rfl rfl (Nat.le_of_ble_eq_true rfl) (cJ_E_set (by decide)) dX10_copy_240 (fun H locs hP hS => ?_)
  have hP : va_P G vwCl (wG 37 a2 (cJ a2 cA) (mX10_copy_19 S2) L) H := hP
  refine lv_aload_n hx hb dX10_copy_243 rfl (lv_at hl 0 rfl) ?_
  refine lv_aload_n hx hb dX10_copy_244 rfl (lv_at hl 1 rfl) ?_
  refine g_get (ci := 10) (C := RX10) (T := TX10) (N := 35) (v := .int ((mX10_copy_19 S2) 0 22)) hx hb hts iX10_copy_X10 hown hK hP (by decide) cJ_D rfl 22 (by decide) rfl (by decide +kernel) rfl dX10_copy_245 ?_
  refine g_put (ci := 10) (C := RX10) (T := TX10) (N := 35) (ty := .int) hx hb hts iX10_copy_X10 tyX10 tyX10_ok nmX10 hown hK hae hAk hP hS (by decide) cJ_E rfl 22 (by decide) rfl (by decide +kernel) rfl (by decide +kernel) rfl rfl (Nat.le_of_ble_eq_true rfl) (cJ_E_set (by decide)) dX10_copy_248 (fun H locs hP hS => ?_)
  refine lv_aload_n hx hb dX10_copy_251 rfl (lv_at hl 0 rfl) ?_
  refine lv_aload_n hx hb dX10_copy_252 rfl (lv_at hl 1 rfl) ?_
  refine g_get (ci := 10) (C := RX10) (T := TX10) (N := 35) (v := .int ((up2 (mX10_copy_19 S2) 19 22 ((mX10_copy_19 S2) 0 22)) 0 23)) hx hb hts iX10_copy_X10 hown hK hP (by decide) cJ_D rfl 23 (by decide) rfl (by decide +kernel) rfl dX10_copy_253 ?_
  refine g_put (ci := 10) (C := RX10) (T := TX10) (N := 35) (ty := .int) hx hb hts iX10_copy_X10 tyX10 tyX10_ok nmX10 hown hK hae hAk hP hS (by decide) cJ_E rfl 23 (by decide) rfl (by decide +kernel) rfl (by decide +kernel) rfl rfl (Nat.le_of_ble_eq_true rfl) (cJ_E_set (by decide)) dX10_copy_256 (fun H locs hP hS => ?_)
  have hP : va_P G vwCl (wG 37 a2 (cJ a2 cA) (mX10_copy_20 S2) L) H := hP
  refine lv_aload_n hx hb dX10_copy_259 rfl (lv_at hl 0 rfl) ?_
  refine lv_aload_n hx hb dX10_copy_260 rfl (lv_at hl 1 rfl) ?_
  refine g_get (ci := 10) (C := RX10) (T := TX10) (N := 35) (v := .int ((mX10_copy_20 S2) 0 24)) hx hb hts iX10_copy_X10 hown hK hP (by decide) cJ_D rfl 24 (by decide) rfl (by decide +kernel) rfl dX10_copy_261 ?_
  refine g_put (ci := 10) (C := RX10) (T := TX10) (N := 35) (ty := .boolean) hx hb hts iX10_copy_X10 tyX10 tyX10_ok nmX10 hown hK hae hAk hP hS (by decide) cJ_E rfl 24 (by decide) rfl (by decide +kernel) rfl (by decide +kernel) (eS ▸ hbn) (eS ▸ hbf) (Nat.le_of_ble_eq_true rfl) (cJ_E_set (by decide)) dX10_copy_264 (fun H locs hP hS => ?_)
  refine lv_aload_n hx hb dX10_copy_267 rfl (lv_at hl 0 rfl) ?_
  refine lv_aload_n hx hb dX10_copy_268 rfl (lv_at hl 1 rfl) ?_
  refine g_get (ci := 10) (C := RX10) (T := TX10) (N := 35) (v := .int ((up2 (mX10_copy_20 S2) 19 24 ((mX10_copy_20 S2) 0 24)) 0 25)) hx hb hts iX10_copy_X10 hown hK hP (by decide) cJ_D rfl 25 (by decide) rfl (by decide +kernel) rfl dX10_copy_269 ?_
  refine g_put (ci := 10) (C := RX10) (T := TX10) (N := 35) (ty := .int) hx hb hts iX10_copy_X10 tyX10 tyX10_ok nmX10 hown hK hae hAk hP hS (by decide) cJ_E rfl 25 (by decide) rfl (by decide +kernel) rfl (by decide +kernel) rfl rfl (Nat.le_of_ble_eq_true rfl) (cJ_E_set (by decide)) dX10_copy_272 (fun H locs hP hS => ?_)
  have hP : va_P G vwCl (wG 37 a2 (cJ a2 cA) (mX10_copy_21 S2) L) H := hP
  refine lv_aload_n hx hb dX10_copy_275 rfl (lv_at hl 0 rfl) ?_
  refine lv_aload_n hx hb dX10_copy_276 rfl (lv_at hl 1 rfl) ?_
  refine g_get (ci := 10) (C := RX10) (T := TX10) (N := 35) (v := .int ((mX10_copy_21 S2) 0 26)) hx hb hts iX10_copy_X10 hown hK hP (by decide) cJ_D rfl 26 (by decide) rfl (by decide +kernel) rfl dX10_copy_277 ?_
  refine g_put (ci := 10) (C := RX10) (T := TX10) (N := 35) (ty := .int) hx hb hts iX10_copy_X10 tyX10 tyX10_ok nmX10 hown hK hae hAk hP hS (by decide) cJ_E rfl 26 (by decide) rfl (by decide +kernel) rfl (by decide +kernel) rfl rfl (Nat.le_of_ble_eq_true rfl) (cJ_E_set (by decide)) dX10_copy_280 (fun H locs hP hS => ?_)
  refine lv_aload_n hx hb dX10_copy_283 rfl (lv_at hl 0 rfl) ?_
  refine lv_aload_n hx hb dX10_copy_284 rfl (lv_at hl 1 rfl) ?_
  refine g_get (ci := 10) (C := RX10) (T := TX10) (N := 35) (v := .int ((up2 (mX10_copy_21 S2) 19 26 ((mX10_copy_21 S2) 0 26)) 0 27)) hx hb hts iX10_copy_X10 hown hK hP (by decide) cJ_D rfl 27 (by decide) rfl (by decide +kernel) rfl dX10_copy_285 ?_
  refine g_put (ci := 10) (C := RX10) (T := TX10) (N := 35) (ty := .int) hx hb hts iX10_copy_X10 tyX10 tyX10_ok nmX10 hown hK hae hAk hP hS (by decide) cJ_E rfl 27 (by decide) rfl (by decide +kernel) rfl (by decide +kernel) rfl rfl (Nat.le_of_ble_eq_true rfl) (cJ_E_set (by decide)) dX10_copy_288 (fun H locs hP hS => ?_)
  have hP : va_P G vwCl (wG 37 a2 (cJ a2 cA) (mX10_copy_22 S2) L) H := hP
  refine lv_aload_n hx hb dX10_copy_291 rfl (lv_at hl 0 rfl) ?_
  refine lv_aload_n hx hb dX10_copy_292 rfl (lv_at hl 1 rfl) ?_
  refine g_get (ci := 10) (C := RX10) (T := TX10) (N := 35) (v := .int ((mX10_copy_22 S2) 0 28)) hx hb hts iX10_copy_X10 hown hK hP (by decide) cJ_D rfl 28 (by decide) rfl (by decide +kernel) rfl dX10_copy_293 ?_
  refine g_put (ci := 10) (C := RX10) (T := TX10) (N := 35) (ty := .int) hx hb hts iX10_copy_X10 tyX10 tyX10_ok nmX10 hown hK hae hAk hP hS (by decide) cJ_E rfl 28 (by decide) rfl (by decide +kernel) rfl (by decide +kernel) rfl rfl (Nat.le_of_ble_eq_true rfl) (cJ_E_set (by decide)) dX10_copy_296 (fun H locs hP hS => ?_)
  refine lv_aload_n hx hb dX10_copy_299 rfl (lv_at hl 0 rfl) ?_
  have hP : va_P G vwCl (wG 37 a2 (cJ a2 cA) (fX10_copy S2) L) H := by unfold fX10_copy; exact hP
  have hP1 := hP
  rw [ea] at hP1
  have hL := wG_to (S' := S) (wJ_l hP1) (fun o ho => by rw [cp_l S2 ho, eS, jn_l ho])
  have hR := wJ_r hP1
  rw [eS] at hR
  have hR : va_P G vwCl (wG 18 b (cD b cA) (cpD S) 0) H := hR
  exact W.aret (v := .ref _) hx hb hr (Or.inl ⟨_, rfl⟩) (Or.inr ⟨_, rfl⟩) (fun t ht hW => ⟨⟨b, _, rfl, ⟨hbA, hbD⟩, (by rw [ea]; exact aJ_r (k := 0)), (by subst ht; exact hL), (by subst ht; exact hR)⟩, hS.F ht⟩) hS.2.2 dX10_copy_300 hlocks
