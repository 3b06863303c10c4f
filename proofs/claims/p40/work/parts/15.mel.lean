def mX6_copy_1 (S : Mm) (o : Nat) (o1 : Nat) : Mm := fX7_copy (fX7_copy S (rX6_voiceOf o (0 : Int32)) (rX6_voiceOf o1 (0 : Int32))) (rX6_voiceOf o (1 : Int32)) (rX6_voiceOf o1 (1 : Int32))
def mX6_copy_2 (S : Mm) (o : Nat) (o1 : Nat) : Mm := fX7_copy (mX6_copy_1 S o o1) (rX6_voiceOf o (2 : Int32)) (rX6_voiceOf o1 (2 : Int32))
def mX6_copy_3 (S : Mm) (o : Nat) (o1 : Nat) : Mm := fX7_copy (mX6_copy_2 S o o1) (rX6_voiceOf o (3 : Int32)) (rX6_voiceOf o1 (3 : Int32))
def mX6_copy_4 (S : Mm) (o : Nat) (o1 : Nat) : Mm := up2 (fX0_copy (mX6_copy_3 S o o1) (o + 1) (o1 + 1)) o 6 ((fX0_copy (mX6_copy_3 S o o1) (o + 1) (o1 + 1)) o1 6)
def mX6_copy_5 (S : Mm) (o : Nat) (o1 : Nat) : Mm := up2 (up2 (mX6_copy_4 S o o1) o 7 ((mX6_copy_4 S o o1) o1 7)) o 8 ((up2 (mX6_copy_4 S o o1) o 7 ((mX6_copy_4 S o o1) o1 7)) o1 8)
def eX6_copy (S : Mm) (o : Nat) (o1 : Nat) : Int32 := (mX6_copy_5 S o o1) o1 9
def mX6_copy_6 (S : Mm) (o : Nat) (o1 : Nat) : Mm := up2 (up2 (mX6_copy_5 S o o1) o 9 ((mX6_copy_5 S o o1) o1 9)) o 10 ((up2 (mX6_copy_5 S o o1) o 9 ((mX6_copy_5 S o o1) o1 9)) o1 10)
def fX6_copy (S : Mm) (o : Nat) (o1 : Nat) : Mm := up2 (mX6_copy_6 S o o1) o 11 ((mX6_copy_6 S o o1) o1 11)
theorem iX6_copy_X6 : ∀ w ∈ u_ws RX6 TX6 12, w ∈ wsX6_copy := by decide +kernel
set_option maxHeartbeats 4000000 in
set_option maxRecDepth 100000 in
theorem c_X6_copy (l : Launch) (G : va_G) (cA : ClassId) (a : Nat → Nat) (ha : apart 37 a) (S : Mm) (L : Int64) (sz : Nat) (o : Nat) (o1 : Nat) (ho : isG o) (ho1 : isG o1) (hbn : narrow .boolean (.int (eX6_copy S o o1)) = .int (eX6_copy S o o1)) (hbf : fits .boolean (.int (eX6_copy S o o1)) = true) : Met l yX6_copy wsX6_copy ({ frames := 3, cells := 0, slots := 0, locals := 64 } : Room) (va_Pc [.ref (a o), .ref (a o1)] (gI G cA (a 37) 37 a (cM a cA) S L sz)) (gQv G 37 a (cM a cA) (fX6_copy S o o1) L sz) 0 0 (mA 37 a sz) := by
  refine g_met (cc := cX6_copy) (maxL := 3) (ret := none) (by decide) rfl (Nat.le_of_ble_eq_true rfl) ?_
  intro p e s m below meth c ls hx hb hr hlocks hml hts hown hnm hsz hK hP hS hl
  subst hsz
  have hl : lv_has ls 3 [(0, .ref (a o)), (1, .ref (a o1))] := hl
  refine lv_iconst (v := 0) hx hb dX6_copy_0 (by decide) ?_
  refine lv_istore_n (lv' := [(2, .int 0), (0, .ref (a o)), (1, .ref (a o1))]) hx hb dX6_copy_1 rfl hl (by decide) rfl (fun ls hl => ?_)
  refine lv_iload_n hx hb dX6_copy_2 rfl (lv_at hl 0 rfl) ?_
  refine lv_iconst (v := 4) hx hb dX6_copy_3 (by decide) ?_
  refine lv_icmp_ge (tgt := 26) hx hb dX6_copy_4 (by decide) (fun c => absurd c (by decide)) (fun _ => ?_)
  refine lv_aload_n hx hb dX6_copy_7 rfl (lv_at hl 1 rfl) ?_
  refine lv_iload_n hx hb dX6_copy_8 rfl (lv_at hl 0 rfl) ?_
  refine g_cVr (As := [.int 0]) (rest := []) ⟨hx, hb, hml, hown, hts⟩ (c_X6_voiceOf l G cA a ha S L s.heap.size o (0 : Int32) ho ) (cwV 1 hts gX6_copy_X6_voiceOf rfl rfl rfl (by decide +kernel) ⟨Nat.le_of_ble_eq_true rfl, Nat.le_of_ble_eq_true rfl⟩) (g_recv hK hP (lt_G ho) (cM_G ho) (C := RX6) (T := TX6) (N := 12) rfl) hK (mA_mono hS.1) hP hS rfl hl.1 rfl (lv_room (Nat.le_of_ble_eq_true rfl)) dX6_copy_9 ⟨Nat.le_of_ble_eq_true rfl, Nat.le_of_ble_eq_true rfl⟩ (fun H locs hP hS _ _ => ?_)
  refine lv_aload_n hx hb dX6_copy_12 rfl (lv_at hl 2 rfl) ?_
  refine lv_iload_n hx hb dX6_copy_13 rfl (lv_at hl 0 rfl) ?_
  refine g_cVr (As := [.int 0]) (rest := [.ref (a (rX6_voiceOf o (0 : Int32)))]) ⟨hx, hb, hml, hown, hts⟩ (c_X6_voiceOf l G cA a ha S L H.size o1 (0 : Int32) ho1 ) (cwV 1 hts gX6_copy_X6_voiceOf rfl rfl rfl (by decide +kernel) ⟨Nat.le_of_ble_eq_true rfl, Nat.le_of_ble_eq_true rfl⟩) (g_recv hK hP (lt_G ho1) (cM_G ho1) (C := RX6) (T := TX6) (N := 12) rfl) hK (mA_mono hS.1) hP hS rfl hl.1 rfl (lv_room (Nat.le_of_ble_eq_true rfl)) dX6_copy_14 ⟨Nat.le_of_ble_eq_true rfl, Nat.le_of_ble_eq_true rfl⟩ (fun H locs hP hS _ _ => ?_)
  refine g_cVv (As := [.ref (a (rX6_voiceOf o1 (0 : Int32)))]) (rest := []) ⟨hx, hb, hml, hown, hts⟩ (c_X7_copy l G cA a ha S L H.size (rX6_voiceOf o (0 : Int32)) (rX6_voiceOf o1 (0 : Int32)) (k_X6_voiceOf ho) (k_X6_voiceOf ho1) ) (cwV 1 hts gX6_copy_X7_copy rfl rfl rfl (by decide +kernel) ⟨Nat.le_of_ble_eq_true rfl, Nat.le_of_ble_eq_true rfl⟩) (g_recv hK hP (lt_V (k_X6_voiceOf ho)) (cM_V (k_X6_voiceOf ho)) (C := RX7) (T := TX7) (N := 11) rfl) hK (mA_mono hS.1) hP hS rfl hl.1 rfl (lv_room (Nat.le_of_ble_eq_true rfl)) dX6_copy_17 ⟨Nat.le_of_ble_eq_true rfl, Nat.le_of_ble_eq_true rfl⟩ (fun H locs hP hS _ _ => ?_)
  refine lv_iinc (v := 1) (lv' := [(2, .int 1), (0, .ref (a o)), (1, .ref (a o1))]) hx hb dX6_copy_20 hl (k := 0) rfl (by decide) (by decide) rfl (fun ls hl => ?_)
  refine lv_goto (tgt := 2) hx hb dX6_copy_23 (by decide) ?_
  refine lv_iload_n hx hb dX6_copy_2 rfl (lv_at hl 0 rfl) ?_
  refine lv_iconst (v := 4) hx hb dX6_copy_3 (by decide) ?_
  refine lv_icmp_ge (tgt := 26) hx hb dX6_copy_4 (by decide) (fun c => absurd c (by decide)) (fun _ => ?_)
  refine lv_aload_n hx hb dX6_copy_7 rfl (lv_at hl 1 rfl) ?_
  refine lv_iload_n hx hb dX6_copy_8 rfl (lv_at hl 0 rfl) ?_
  refine g_cVr (As := [.int 1]) (rest := []) ⟨hx, hb, hml, hown, hts⟩ (c_X6_voiceOf l G cA a ha (fX7_copy S (rX6_voiceOf o (0 : Int32)) (rX6_voiceOf o1 (0 : Int32))) L H.size o (1 : Int32) ho ) (cwV 1 hts gX6_copy_X6_voiceOf rfl rfl rfl (by decide +kernel) ⟨Nat.le_of_ble_eq_true rfl, Nat.le_of_ble_eq_true rfl⟩) (g_recv hK hP (lt_G ho) (cM_G ho) (C := RX6) (T := TX6) (N := 12) rfl) hK (mA_mono hS.1) hP hS rfl hl.1 rfl (lv_room (Nat.le_of_ble_eq_true rfl)) dX6_copy_9 ⟨Nat.le_of_ble_eq_true rfl, Nat.le_of_ble_eq_true rfl⟩ (fun H locs hP hS _ _ => ?_)
  refine lv_aload_n hx hb dX6_copy_12 rfl (lv_at hl 2 rfl) ?_
  refine lv_iload_n hx hb dX6_copy_13 rfl (lv_at hl 0 rfl) ?_
  refine g_cVr (As := [.int 1]) (rest := [.ref (a (rX6_voiceOf o (1 : Int32)))]) ⟨hx, hb, hml, hown, hts⟩ (c_X6_voiceOf l G cA a ha (fX7_copy S (rX6_voiceOf o (0 : Int32)) (rX6_voiceOf o1 (0 : Int32))) L H.size o1 (1 : Int32) ho1 ) (cwV 1 hts gX6_copy_X6_voiceOf rfl rfl rfl (by decide +kernel) ⟨Nat.le_of_ble_eq_true rfl, Nat.le_of_ble_eq_true rfl⟩) (g_recv hK hP (lt_G ho1) (cM_G ho1) (C := RX6) (T := TX6) (N := 12) rfl) hK (mA_mono hS.1) hP hS rfl hl.1 rfl (lv_room (Nat.le_of_ble_eq_true rfl)) dX6_copy_14 ⟨Nat.le_of_ble_eq_true rfl, Nat.le_of_ble_eq_true rfl⟩ (fun H locs hP hS _ _ => ?_)
  refine g_cVv (As := [.ref (a (rX6_voiceOf o1 (1 : Int32)))]) (rest := []) ⟨hx, hb, hml, hown, hts⟩ (c_X7_copy l G cA a ha (fX7_copy S (rX6_voiceOf o (0 : Int32)) (rX6_voiceOf o1 (0 : Int32))) L H.size (rX6_voiceOf o (1 : Int32)) (rX6_voiceOf o1 (1 : Int32)) (k_X6_voiceOf ho) (k_X6_voiceOf ho1) ) (cwV 1 hts gX6_copy_X7_copy rfl rfl rfl (by decide +kernel) ⟨Nat.le_of_ble_eq_true rfl, Nat.le_of_ble_eq_true rfl⟩) (g_recv hK hP (lt_V (k_X6_voiceOf ho)) (cM_V (k_X6_voiceOf ho)) (C := RX7) (T := TX7) (N := 11) rfl) hK (mA_mono hS.1) hP hS rfl hl.1 rfl (lv_room (Nat.le_of_ble_eq_true rfl)) dX6_copy_17 ⟨Nat.le_of_ble_eq_true rfl, Nat.le_of_ble_eq_true rfl⟩ (fun H locs hP hS _ _ => ?_)
  have hP : va_P G vwCl (wG 37 a (cM a cA) (mX6_copy_1 S o o1) L) H := hP
  refine lv_iinc (v := 2) (lv' := [(2, .int 2), (0, .ref (a o)), (1, .ref (a o1))]) hx hb dX6_copy_20 hl (k := 0) rfl (by decide) (by decide) rfl (fun ls hl => ?_)
  refine lv_goto (tgt := 2) hx hb dX6_copy_23 (by decide) ?_
  refine lv_iload_n hx hb dX6_copy_2 rfl (lv_at hl 0 rfl) ?_
  refine lv_iconst (v := 4) hx hb dX6_copy_3 (by decide) ?_
  refine lv_icmp_ge (tgt := 26) hx hb dX6_copy_4 (by decide) (fun c => absurd c (by decide)) (fun _ => ?_)
  refine lv_aload_n hx hb dX6_copy_7 rfl (lv_at hl 1 rfl) ?_
  refine lv_iload_n hx hb dX6_copy_8 rfl (lv_at hl 0 rfl) ?_
  refine g_cVr (As := [.int 2]) (rest := []) ⟨hx, hb, hml, hown, hts⟩ (c_X6_voiceOf l G cA a ha (mX6_copy_1 S o o1) L H.size o (2 : Int32) ho ) (cwV 1 hts gX6_copy_X6_voiceOf rfl rfl rfl (by decide +kernel) ⟨Nat.le_of_ble_eq_true rfl, Nat.le_of_ble_eq_true rfl⟩) (g_recv hK hP (lt_G ho) (cM_G ho) (C := RX6) (T := TX6) (N := 12) rfl) hK (mA_mono hS.1) hP hS rfl hl.1 rfl (lv_room (Nat.le_of_ble_eq_true rfl)) dX6_copy_9 ⟨Nat.le_of_ble_eq_true rfl, Nat.le_of_ble_eq_true rfl⟩ (fun H locs hP hS _ _ => ?_)
  refine lv_aload_n hx hb dX6_copy_12 rfl (lv_at hl 2 rfl) ?_
  refine lv_iload_n hx hb dX6_copy_13 rfl (lv_at hl 0 rfl) ?_
  refine g_cVr (As := [.int 2]) (rest := [.ref (a (rX6_voiceOf o (2 : Int32)))]) ⟨hx, hb, hml, hown, hts⟩ (c_X6_voiceOf l G cA a ha (mX6_copy_1 S o o1) L H.size o1 (2 : Int32) ho1 ) (cwV 1 hts gX6_copy_X6_voiceOf rfl rfl rfl (by decide +kernel) ⟨Nat.le_of_ble_eq_true rfl, Nat.le_of_ble_eq_true rfl⟩) (g_recv hK hP (lt_G ho1) (cM_G ho1) (C := RX6) (T := TX6) (N := 12) rfl) hK (mA_mono hS.1) hP hS rfl hl.1 rfl (lv_room (Nat.le_of_ble_eq_true rfl)) dX6_copy_14 ⟨Nat.le_of_ble_eq_true rfl, Nat.le_of_ble_eq_true rfl⟩ (fun H locs hP hS _ _ => ?_)
  refine g_cVv (As := [.ref (a (rX6_voiceOf o1 (2 : Int32)))]) (rest := []) ⟨hx, hb, hml, hown, hts⟩ (c_X7_copy l G cA a ha (mX6_copy_1 S o o1) L H.size (rX6_voiceOf o (2 : Int32)) (rX6_voiceOf o1 (2 : Int32)) (k_X6_voiceOf ho) (k_X6_voiceOf ho1) ) (cwV 1 hts gX6_copy_X7_copy rfl rfl rfl (by decide +kernel) ⟨Nat.le_of_ble_eq_true rfl, Nat.le_of_ble_eq_true rfl⟩) (g_recv hK hP (lt_V (k_X6_voiceOf ho)) (cM_V (k_X6_voiceOf ho)) (C := RX7) (T := TX7) (N := 11) rfl) hK (mA_mono hS.1) hP hS rfl hl.1 rfl (lv_room (Nat.le_of_ble_eq_true rfl)) dX6_copy_17 ⟨Nat.le_of_ble_eq_true rfl, Nat.le_of_ble_eq_true rfl⟩ (fun H locs hP hS _ _ => ?_)
  have hP : va_P G vwCl (wG 37 a (cM a cA) (mX6_copy_2 S o o1) L) H := hP
  refine lv_iinc (v := 3) (lv' := [(2, .int 3), (0, .ref (a o)), (1, .ref (a o1))]) hx hb dX6_copy_20 hl (k := 0) rfl (by decide) (by decide) rfl (fun ls hl => ?_)
  refine lv_goto (tgt := 2) hx hb dX6_copy_23 (by decide) ?_
  refine lv_iload_n hx hb dX6_copy_2 rfl (lv_at hl 0 rfl) ?_
  refine lv_iconst (v := 4) hx hb dX6_copy_3 (by decide) ?_
  refine lv_icmp_ge (tgt := 26) hx hb dX6_copy_4 (by decide) (fun c => absurd c (by decide)) (fun _ => ?_)
  refine lv_aload_n hx hb dX6_copy_7 rfl (lv_at hl 1 rfl) ?_
  refine lv_iload_n hx hb dX6_copy_8 rfl (lv_at hl 0 rfl) ?_
  refine g_cVr (As := [.int 3]) (rest := []) ⟨hx, hb, hml, hown, hts⟩ (c_X6_voiceOf l G cA a ha (mX6_copy_2 S o o1) L H.size o (3 : Int32) ho ) (cwV 1 hts gX6_copy_X6_voiceOf rfl rfl rfl (by decide +kernel) ⟨Nat.le_of_ble_eq_true rfl, Nat.le_of_ble_eq_true rfl⟩) (g_recv hK hP (lt_G ho) (cM_G ho) (C := RX6) (T := TX6) (N := 12) rfl) hK (mA_mono hS.1) hP hS rfl hl.1 rfl (lv_room (Nat.le_of_ble_eq_true rfl)) dX6_copy_9 ⟨Nat.le_of_ble_eq_true rfl, Nat.le_of_ble_eq_true rfl⟩ (fun H locs hP hS _ _ => ?_)
  refine lv_aload_n hx hb dX6_copy_12 rfl (lv_at hl 2 rfl) ?_
  refine lv_iload_n hx hb dX6_copy_13 rfl (lv_at hl 0 rfl) ?_
  refine g_cVr (As := [.int 3]) (rest := [.ref (a (rX6_voiceOf o (3 : Int32)))]) ⟨hx, hb, hml, hown, hts⟩ (c_X6_voiceOf l G cA a ha (mX6_copy_2 S o o1) L H.size o1 (3 : Int32) ho1 ) (cwV 1 hts gX6_copy_X6_voiceOf rfl rfl rfl (by decide +kernel) ⟨Nat.le_of_ble_eq_true rfl, Nat.le_of_ble_eq_true rfl⟩) (g_recv hK hP (lt_G ho1) (cM_G ho1) (C := RX6) (T := TX6) (N := 12) rfl) hK (mA_mono hS.1) hP hS rfl hl.1 rfl (lv_room (Nat.le_of_ble_eq_true rfl)) dX6_copy_14 ⟨Nat.le_of_ble_eq_true rfl, Nat.le_of_ble_eq_true rfl⟩ (fun H locs hP hS _ _ => ?_)
  refine g_cVv (As := [.ref (a (rX6_voiceOf o1 (3 : Int32)))]) (rest := []) ⟨hx, hb, hml, hown, hts⟩ (c_X7_copy l G cA a ha (mX6_copy_2 S o o1) L H.size (rX6_voiceOf o (3 : Int32)) (rX6_voiceOf o1 (3 : Int32)) (k_X6_voiceOf ho) (k_X6_voiceOf ho1) ) (cwV 1 hts gX6_copy_X7_copy rfl rfl rfl (by decide +kernel) ⟨Nat.le_of_ble_eq_true rfl, Nat.le_of_ble_eq_true rfl⟩) (g_recv hK hP (lt_V (k_X6_voiceOf ho)) (cM_V (k_X6_voiceOf ho)) (C := RX7) (T := TX7) (N := 11) rfl) hK (mA_mono hS.1) hP hS rfl hl.1 rfl (lv_room (Nat.le_of_ble_eq_true rfl)) dX6_copy_17 ⟨Nat.le_of_ble_eq_true rfl, Nat.le_of_ble_eq_true rfl⟩ (fun H locs hP hS _ _ => ?_)
  have hP : va_P G vwCl (wG 37 a (cM a cA) (mX6_copy_3 S o o1) L) H := hP
  refine lv_iinc (v := 4) (lv' := [(2, .int 4), (0, .ref (a o)), (1, .ref (a o1))]) hx hb dX6_copy_20 hl (k := 0) rfl (by decide) (by decide) rfl (fun ls hl => ?_)
  refine lv_goto (tgt := 2) hx hb dX6_copy_23 (by decide) ?_
  refine lv_iload_n hx hb dX6_copy_2 rfl (lv_at hl 0 rfl) ?_
  refine lv_iconst (v := 4) hx hb dX6_copy_3 (by decide) ?_
  refine lv_icmp_ge (tgt := 26) hx hb dX6_copy_4 (by decide) (fun _ => ?_) (fun c => absurd c (by decide))
  refine lv_aload_n hx hb dX6_copy_26 rfl (lv_at hl 1 rfl) ?_
  refine g_get (ci := 6) (C := RX6) (T := TX6) (N := 12) (v := .ref (a (o + 1))) hx hb hts iX6_copy_X6 hown hK hP (lt_G ho) (cM_G ho) rfl 1 (by decide) rfl (by decide +kernel) rfl dX6_copy_27 ?_
  refine lv_aload_n hx hb dX6_copy_30 rfl (lv_at hl 2 rfl) ?_
  refine g_get (ci := 6) (C := RX6) (T := TX6) (N := 12) (v := .ref (a (o1 + 1))) hx hb hts iX6_copy_X6 hown hK hP (lt_G ho1) (cM_G ho1) rfl 1 (by decide) rfl (by decide +kernel) rfl dX6_copy_31 ?_
  refine g_cVv (As := [.ref (a (o1 + 1))]) (rest := []) ⟨hx, hb, hml, hown, hts⟩ (c_X0_copy l G cA a ha (mX6_copy_3 S o o1) L H.size (o + 1) (o1 + 1) (isDl_G ho) (isDl_G ho1) ) (cwV 1 hts gX6_copy_X0_copy rfl rfl rfl (by decide +kernel) ⟨Nat.le_of_ble_eq_true rfl, Nat.le_of_ble_eq_true rfl⟩) (g_recv hK hP (lt_Dl (isDl_G ho)) (cM_Dl (isDl_G ho)) (C := RX0) (T := TX0) (N := 5) rfl) hK (mA_mono hS.1) hP hS rfl hl.1 rfl (lv_room (Nat.le_of_ble_eq_true rfl)) dX6_copy_34 ⟨Nat.le_of_ble_eq_true rfl, Nat.le_of_ble_eq_true rfl⟩ (fun H locs hP hS _ _ => ?_)
  refine lv_aload_n hx hb dX6_copy_37 rfl (lv_at hl 1 rfl) ?_
  refine lv_aload_n hx hb dX6_copy_38 rfl (lv_at hl 2 rfl) ?_
  refine g_get (ci := 6) (C := RX6) (T := TX6) (N := 12) (v := .int ((fX0_copy (mX6_copy_3 S o o1) (o + 1) (o1 + 1)) o1 6)) hx hb hts iX6_copy_X6 hown hK hP (lt_G ho1) (cM_G ho1) rfl 6 (by decide) rfl (by decide +kernel) rfl dX6_copy_39 ?_
  refine g_put (ci := 6) (C := RX6) (T := TX6) (N := 12) (ty := .int) hx hb hts iX6_copy_X6 tyX6 tyX6_ok nmX6 hown hK ha mA_in hP hS (lt_G ho) (cM_G ho) rfl 6 (by decide) rfl (by decide +kernel) rfl (by decide +kernel) rfl rfl (Nat.le_of_ble_eq_true rfl) (cM_G_set ho (by decide)) dX6_copy_42 (fun H locs hP hS => ?_)
  have hP : va_P G vwCl (wG 37 a (cM a cA) (mX6_copy_4 S o o1) L) H := hP
  refine lv_aload_n hx hb dX6_copy_45 rfl (lv_at hl 1 rfl) ?_
  refine lv_aload_n hx hb dX6_copy_46 rfl (lv_at hl 2 rfl) ?_
  refine g_get (ci := 6) (C := RX6) (T := TX6) (N := 12) (v := .int ((mX6_copy_4 S o o1) o1 7)) hx hb hts iX6_copy_X6 hown hK hP (lt_G ho1) (cM_G ho1) rfl 7 (by decide) rfl (by decide +kernel) rfl dX6_copy_47 ?_
  refine g_put (ci := 6) (C := RX6) (T := TX6) (N := 12) (ty := .int) hx hb hts iX6_copy_X6 tyX6 tyX6_ok nmX6 hown hK ha mA_in hP hS (lt_G ho) (cM_G ho) rfl 7 (by decide) rfl (by decide +kernel) rfl (by decide +kernel) rfl rfl (Nat.le_of_ble_eq_true rfl) (cM_G_set ho (by decide)) dX6_copy_50 (fun H locs hP hS => ?_)
  refine lv_aload_n hx hb dX6_copy_53 rfl (lv_at hl 1 rfl) ?_
  refine lv_aload_n hx hb dX6_copy_54 rfl (lv_at hl 2 rfl) ?_
  refine g_get (ci := 6) (C := RX6) (T := TX6) (N := 12) (v := .int ((up2 (mX6_copy_4 S o o1) o 7 ((mX6_copy_4 S o o1) o1 7)) o1 8)) hx hb hts iX6_copy_X6 hown hK hP (lt_G ho1) (cM_G ho1) rfl 8 (by decide) rfl (by decide +kernel) rfl dX6_copy_55 ?_
  refine g_put (ci := 6) (C := RX6) (T := TX6) (N := 12) (ty := .int) hx hb hts iX6_copy_X6 tyX6 tyX6_ok nmX6 hown hK ha mA_in hP hS (lt_G ho) (cM_G ho) rfl 8 (by decide) rfl (by decide +kernel) rfl (by decide +kernel) rfl rfl (Nat.le_of_ble_eq_true rfl) (cM_G_set ho (by decide)) dX6_copy_58 (fun H locs hP hS => ?_)
  have hP : va_P G vwCl (wG 37 a (cM a cA) (mX6_copy_5 S o o1) L) H := hP
  refine lv_aload_n hx hb dX6_copy_61 rfl (lv_at hl 1 rfl) ?_
  refine lv_aload_n hx hb dX6_copy_62 rfl (lv_at hl 2 rfl) ?_
  refine g_get (ci := 6) (C := RX6) (T := TX6) (N := 12) (v := .int ((mX6_copy_5 S o o1) o1 9)) hx hb hts iX6_copy_X6 hown hK hP (lt_G ho1) (cM_G ho1) rfl 9 (by decide) rfl (by decide +kernel) rfl dX6_copy_63 ?_
  refine g_put (ci := 6) (C := RX6) (T := TX6) (N := 12) (ty := .boolean) hx hb hts iX6_copy_X6 tyX6 tyX6_ok nmX6 hown hK ha mA_in hP hS (lt_G ho) (cM_G ho) rfl 9 (by decide) rfl (by decide +kernel) rfl (by decide +kernel) hbn hbf (Nat.le_of_ble_eq_true rfl) (cM_G_set ho (by decide)) dX6_copy_66 (fun H locs hP hS => ?_)
  refine lv_aload_n hx hb dX6_copy_69 rfl (lv_at hl 1 rfl) ?_
  refine lv_aload_n hx hb dX6_copy_70 rfl (lv_at hl 2 rfl) ?_
  refine g_get (ci := 6) (C := RX6) (T := TX6) (N := 12) (v := .int ((up2 (mX6_copy_5 S o o1) o 9 ((mX6_copy_5 S o o1) o1 9)) o1 10)) hx hb hts iX6_copy_X6 hown hK hP (lt_G ho1) (cM_G ho1) rfl 10 (by decide) rfl (by decide +kernel) rfl dX6_copy_71 ?_
  refine g_put (ci := 6) (C := RX6) (T := TX6) (N := 12) (ty := .int) hx hb hts iX6_copy_X6 tyX6 tyX6_ok nmX6 hown hK ha mA_in hP hS (lt_G ho) (cM_G ho) rfl 10 (by decide) rfl (by decide +kernel) rfl (by decide +kernel) rfl rfl (Nat.le_of_ble_eq_true rfl) (cM_G_set ho (by decide)) dX6_copy_74 (fun H locs hP hS => ?_)
  have hP : va_P G vwCl (wG 37 a (cM a cA) (mX6_copy_6 S o o1) L) H := hP
  refine lv_aload_n hx hb dX6_copy_77 rfl (lv_at hl 1 rfl) ?_
  refine lv_aload_n hx hb dX6_copy_78 rfl (lv_at hl 2 rfl) ?_
  refine g_get (ci := 6) (C := RX6) (T := TX6) (N := 12) (v := .int ((mX6_copy_6 S o o1) o1 11)) hx hb hts iX6_copy_X6 hown hK hP (lt_G ho1) (cM_G ho1) rfl 11 (by decide) rfl (by decide +kernel) rfl dX6_copy_79 ?_
  refine g_put (ci := 6) (C := RX6) (T := TX6) (N := 12) (ty := .int) hx hb hts iX6_copy_X6 tyX6 tyX6_ok nmX6 hown hK ha mA_in hP hS (lt_G ho) (cM_G ho) rfl 11 (by decide) rfl (by decide +kernel) rfl (by decide +kernel) rfl rfl (Nat.le_of_ble_eq_true rfl) (cM_G_set ho (by decide)) dX6_copy_82 (fun H locs hP hS => ?_)
  exact g_vret hx hb hr hlocks (by unfold fX6_copy; rfl) rfl hP hS dX6_copy_85

def rX9_clock (S : Mm) : Int32 := S 18 6
theorem iX9_clock_X6 : ∀ w ∈ u_ws RX6 TX6 12, w ∈ wsX9_clock := by decide +kernel
theorem iX9_clock_X9 : ∀ w ∈ u_ws RX9 TX9 4, w ∈ wsX9_clock := by decide +kernel
set_option maxHeartbeats 4000000 in
set_option maxRecDepth 100000 in
theorem c_X9_clock (l : Launch) (G : va_G) (cA : ClassId) (a : Nat → Nat) (ha : apart 37 a) (S : Mm) (L : Int64) (sz : Nat)   : Met l yX9_clock wsX9_clock ({ frames := 0, cells := 0, slots := 0, locals := 0 } : Room) (va_Pc [.ref (a 0)] (gI G cA (a 37) 37 a (cM a cA) S L sz)) (gQi (rX9_clock S) G 37 a (cM a cA) S L sz) 0 0 (mA 37 a sz) := by
  refine g_met (cc := cX9_clock) (maxL := 1) (ret := (some .int)) (by decide) rfl (Nat.le_of_ble_eq_true rfl) ?_
  intro p e s m below meth c ls hx hb hr hlocks hml hts hown hnm hsz hK hP hS hl
  subst hsz
  have hl : lv_has ls 1 [(0, .ref (a 0))] := hl
  refine lv_aload_n hx hb dX9_clock_0 rfl (lv_at hl 0 rfl) ?_
  refine g_get (ci := 9) (C := RX9) (T := TX9) (N := 4) (v := .ref (a 18)) hx hb hts iX9_clock_X9 hown hK hP (by decide) rfl rfl 1 (by decide) rfl (by decide +kernel) rfl dX9_clock_1 ?_
  refine g_get (ci := 6) (C := RX6) (T := TX6) (N := 12) (v := .int (S 18 6)) hx hb hts iX9_clock_X6 hown hK hP (lt_G (by decide)) (cM_G (by decide)) rfl 6 (by decide) rfl (by decide +kernel) rfl dX9_clock_4 ?_
  exact g_iret hx hb hr hlocks (by unfold rX9_clock; rfl) rfl rfl hP hS dX9_clock_7

def rX9_peak (S : Mm) : Int32 := S 34 4
theorem iX9_peak_X2 : ∀ w ∈ u_ws RX2 TX2 8, w ∈ wsX9_peak := by decide +kernel
theorem iX9_peak_X9 : ∀ w ∈ u_ws RX9 TX9 4, w ∈ wsX9_peak := by decide +kernel
set_option maxHeartbeats 4000000 in
set_option maxRecDepth 100000 in
theorem c_X9_peak (l : Launch) (G : va_G) (cA : ClassId) (a : Nat → Nat) (ha : apart 37 a) (S : Mm) (L : Int64) (sz : Nat)   : Met l yX9_peak wsX9_peak ({ frames := 0, cells := 0, slots := 0, locals := 0 } : Room) (va_Pc [.ref (a 0)] (gI G cA (a 37) 37 a (cM a cA) S L sz)) (gQi (rX9_peak S) G 37 a (cM a cA) S L sz) 0 0 (mA 37 a sz) := by
  refine g_met (cc := cX9_peak) (maxL := 1) (ret := (some .int)) (by decide) rfl (Nat.le_of_ble_eq_true rfl) ?_
  intro p e s m below meth c ls hx hb hr hlocks hml hts hown hnm hsz hK hP hS hl
  subst hsz
  have hl : lv_has ls 1 [(0, .ref (a 0))] := hl
  refine lv_aload_n hx hb dX9_peak_0 rfl (lv_at hl 0 rfl) ?_
  refine g_get (ci := 9) (C := RX9) (T := TX9) (N := 4) (v := .ref (a 34)) hx hb hts iX9_peak_X9 hown hK hP (by decide) rfl rfl 3 (by decide) rfl (by decide +kernel) rfl dX9_peak_1 ?_
  refine g_get (ci := 2) (C := RX2) (T := TX2) (N := 8) (v := .int (S 34 4)) hx hb hts iX9_peak_X2 hown hK hP (by decide) cM_T rfl 4 (by decide) rfl (by decide +kernel) rfl dX9_peak_4 ?_
  exact g_iret hx hb hr hlocks (by unfold rX9_peak; rfl) rfl rfl hP hS dX9_peak_7

def rX9_clipped (S : Mm) : Int32 := S 34 6
theorem iX9_clipped_X2 : ∀ w ∈ u_ws RX2 TX2 8, w ∈ wsX9_clipped := by decide +kernel
theorem iX9_clipped_X9 : ∀ w ∈ u_ws RX9 TX9 4, w ∈ wsX9_clipped := by decide +kernel
set_option maxHeartbeats 4000000 in
set_option maxRecDepth 100000 in
theorem c_X9_clipped (l : Launch) (G : va_G) (cA : ClassId) (a : Nat → Nat) (ha : apart 37 a) (S : Mm) (L : Int64) (sz : Nat)   : Met l yX9_clipped wsX9_clipped ({ frames := 0, cells := 0, slots := 0, locals := 0 } : Room) (va_Pc [.ref (a 0)] (gI G cA (a 37) 37 a (cM a cA) S L sz)) (gQi (rX9_clipped S) G 37 a (cM a cA) S L sz) 0 0 (mA 37 a sz) := by
  refine g_met (cc := cX9_clipped) (maxL := 1) (ret := (some .int)) (by decide) rfl (Nat.le_of_ble_eq_true rfl) ?_
  intro p e s m below meth c ls hx hb hr hlocks hml hts hown hnm hsz hK hP hS hl
  subst hsz
  have hl : lv_has ls 1 [(0, .ref (a 0))] := hl
  refine lv_aload_n hx hb dX9_clipped_0 rfl (lv_at hl 0 rfl) ?_
  refine g_get (ci := 9) (C := RX9) (T := TX9) (N := 4) (v := .ref (a 34)) hx hb hts iX9_clipped_X9 hown hK hP (by decide) rfl rfl 3 (by decide) rfl (by decide +kernel) rfl dX9_clipped_1 ?_
  refine g_get (ci := 2) (C := RX2) (T := TX2) (N := 8) (v := .int (S 34 6)) hx hb hts iX9_clipped_X2 hown hK hP (by decide) cM_T rfl 6 (by decide) rfl (by decide +kernel) rfl dX9_clipped_4 ?_
  exact g_iret hx hb hr hlocks (by unfold rX9_clipped; rfl) rfl rfl hP hS dX9_clipped_7

def rX9_crossings (S : Mm) : Int32 := S 34 7
theorem iX9_crossings_X2 : ∀ w ∈ u_ws RX2 TX2 8, w ∈ wsX9_crossings := by decide +kernel
theorem iX9_crossings_X9 : ∀ w ∈ u_ws RX9 TX9 4, w ∈ wsX9_crossings := by decide +kernel
set_option maxHeartbeats 4000000 in
set_option maxRecDepth 100000 in
theorem c_X9_crossings (l : Launch) (G : va_G) (cA : ClassId) (a : Nat → Nat) (ha : apart 37 a) (S : Mm) (L : Int64) (sz : Nat)   : Met l yX9_crossings wsX9_crossings ({ frames := 0, cells := 0, slots := 0, locals := 0 } : Room) (va_Pc [.ref (a 0)] (gI G cA (a 37) 37 a (cM a cA) S L sz)) (gQi (rX9_crossings S) G 37 a (cM a cA) S L sz) 0 0 (mA 37 a sz) := by
  refine g_met (cc := cX9_crossings) (maxL := 1) (ret := (some .int)) (by decide) rfl (Nat.le_of_ble_eq_true rfl) ?_
  intro p e s m below meth c ls hx hb hr hlocks hml hts hown hnm hsz hK hP hS hl
  subst hsz
  have hl : lv_has ls 1 [(0, .ref (a 0))] := hl
  refine lv_aload_n hx hb dX9_crossings_0 rfl (lv_at hl 0 rfl) ?_
  refine g_get (ci := 9) (C := RX9) (T := TX9) (N := 4) (v := .ref (a 34)) hx hb hts iX9_crossings_X9 hown hK hP (by decide) rfl rfl 3 (by decide) rfl (by decide +kernel) rfl dX9_crossings_1 ?_
  refine g_get (ci := 2) (C := RX2) (T := TX2) (N := 8) (v := .int (S 34 7)) hx hb hts iX9_crossings_X2 hown hK hP (by decide) cM_T rfl 7 (by decide) rfl (by decide +kernel) rfl dX9_crossings_4 ?_
  exact g_iret hx hb hr hlocks (by unfold rX9_crossings; rfl) rfl rfl hP hS dX9_crossings_7

def rX9_sounding (S : Mm) : Int32 := rX6_countSounding S 18
theorem iX9_sounding_X9 : ∀ w ∈ u_ws RX9 TX9 4, w ∈ wsX9_sounding := by decide +kernel
set_option maxHeartbeats 4000000 in
set_option maxRecDepth 100000 in
theorem c_X9_sounding (l : Launch) (G : va_G) (cA : ClassId) (a : Nat → Nat) (ha : apart 37 a) (S : Mm) (L : Int64) (sz : Nat)   : Met l yX9_sounding wsX9_sounding ({ frames := 2, cells := 0, slots := 0, locals := 43 } : Room) (va_Pc [.ref (a 0)] (gI G cA (a 37) 37 a (cM a cA) S L sz)) (gQi (rX9_sounding S) G 37 a (cM a cA) S L sz) 0 0 (mA 37 a sz) := by
  refine g_met (cc := cX9_sounding) (maxL := 1) (ret := (some .int)) (by decide) rfl (Nat.le_of_ble_eq_true rfl) ?_
  intro p e s m below meth c ls hx hb hr hlocks hml hts hown hnm hsz hK hP hS hl
  subst hsz
  have hl : lv_has ls 1 [(0, .ref (a 0))] := hl
  refine lv_aload_n hx hb dX9_sounding_0 rfl (lv_at hl 0 rfl) ?_
  refine g_get (ci := 9) (C := RX9) (T := TX9) (N := 4) (v := .ref (a 18)) hx hb hts iX9_sounding_X9 hown hK hP (by decide) rfl rfl 1 (by decide) rfl (by decide +kernel) rfl dX9_sounding_1 ?_
  refine g_cVi (As := []) (rest := []) ⟨hx, hb, hml, hown, hts⟩ (c_X6_countSounding l G cA a ha S L s.heap.size 18 (by decide) ) (cwV 0 hts gX9_sounding_X6_countSounding rfl rfl rfl (by decide +kernel) ⟨Nat.le_of_ble_eq_true rfl, Nat.le_of_ble_eq_true rfl⟩) (g_recv hK hP (lt_G (by decide)) (cM_G (by decide)) (C := RX6) (T := TX6) (N := 12) rfl) hK (mA_mono hS.1) hP hS rfl hl.1 rfl (lv_room (Nat.le_of_ble_eq_true rfl)) dX9_sounding_4 ⟨Nat.le_of_ble_eq_true rfl, Nat.le_of_ble_eq_true rfl⟩ (fun H locs hP hS _ _ => ?_)
  exact g_iret hx hb hr hlocks (by unfold rX9_sounding; rfl) rfl rfl hP hS dX9_sounding_7

def rX9_taken (S : Mm) : Int32 := S 18 8
theorem iX9_taken_X6 : ∀ w ∈ u_ws RX6 TX6 12, w ∈ wsX9_taken := by decide +kernel
theorem iX9_taken_X9 : ∀ w ∈ u_ws RX9 TX9 4, w ∈ wsX9_taken := by decide +kernel
set_option maxHeartbeats 4000000 in
set_option maxRecDepth 100000 in
theorem c_X9_taken (l : Launch) (G : va_G) (cA : ClassId) (a : Nat → Nat) (ha : apart 37 a) (S : Mm) (L : Int64) (sz : Nat)   : Met l yX9_taken wsX9_taken ({ frames := 0, cells := 0, slots := 0, locals := 0 } : Room) (va_Pc [.ref (a 0)] (gI G cA (a 37) 37 a (cM a cA) S L sz)) (gQi (rX9_taken S) G 37 a (cM a cA) S L sz) 0 0 (mA 37 a sz) := by
  refine g_met (cc := cX9_taken) (maxL := 1) (ret := (some .int)) (by decide) rfl (Nat.le_of_ble_eq_true rfl) ?_
  intro p e s m below meth c ls hx hb hr hlocks hml hts hown hnm hsz hK hP hS hl
  subst hsz
  have hl : lv_has ls 1 [(0, .ref (a 0))] := hl
  refine lv_aload_n hx hb dX9_taken_0 rfl (lv_at hl 0 rfl) ?_
  refine g_get (ci := 9) (C := RX9) (T := TX9) (N := 4) (v := .ref (a 18)) hx hb hts iX9_taken_X9 hown hK hP (by decide) rfl rfl 1 (by decide) rfl (by decide +kernel) rfl dX9_taken_1 ?_
  refine g_get (ci := 6) (C := RX6) (T := TX6) (N := 12) (v := .int (S 18 8)) hx hb hts iX9_taken_X6 hown hK hP (lt_G (by decide)) (cM_G (by decide)) rfl 8 (by decide) rfl (by decide +kernel) rfl dX9_taken_4 ?_
  exact g_iret hx hb hr hlocks (by unfold rX9_taken; rfl) rfl rfl hP hS dX9_taken_7

def rX9_isPlaying (S : Mm) : Int32 := S 18 9
theorem iX9_isPlaying_X6 : ∀ w ∈ u_ws RX6 TX6 12, w ∈ wsX9_isPlaying := by decide +kernel
theorem iX9_isPlaying_X9 : ∀ w ∈ u_ws RX9 TX9 4, w ∈ wsX9_isPlaying := by decide +kernel
set_option maxHeartbeats 4000000 in
set_option maxRecDepth 100000 in
theorem c_X9_isPlaying (l : Launch) (G : va_G) (cA : ClassId) (a : Nat → Nat) (ha : apart 37 a) (S : Mm) (L : Int64) (sz : Nat)   (hbn : narrow .boolean (.int (S 18 9)) = .int (S 18 9)) : Met l yX9_isPlaying wsX9_isPlaying ({ frames := 0, cells := 0, slots := 0, locals := 0 } : Room) (va_Pc [.ref (a 0)] (gI G cA (a 37) 37 a (cM a cA) S L sz)) (gQi (rX9_isPlaying S) G 37 a (cM a cA) S L sz) 0 0 (mA 37 a sz) := by
  refine g_met (cc := cX9_isPlaying) (maxL := 1) (ret := (some .boolean)) (by decide) rfl (Nat.le_of_ble_eq_true rfl) ?_
  intro p e s m below meth c ls hx hb hr hlocks hml hts hown hnm hsz hK hP hS hl
  subst hsz
  have hl : lv_has ls 1 [(0, .ref (a 0))] := hl
  refine lv_aload_n hx hb dX9_isPlaying_0 rfl (lv_at hl 0 rfl) ?_
  refine g_get (ci := 9) (C := RX9) (T := TX9) (N := 4) (v := .ref (a 18)) hx hb hts iX9_isPlaying_X9 hown hK hP (by decide) rfl rfl 1 (by decide) rfl (by decide +kernel) rfl dX9_isPlaying_1 ?_
  refine g_get (ci := 6) (C := RX6) (T := TX6) (N := 12) (v := .int (S 18 9)) hx hb hts iX9_isPlaying_X6 hown hK hP (lt_G (by decide)) (cM_G (by decide)) rfl 9 (by decide) rfl (by decide +kernel) rfl dX9_isPlaying_4 ?_
  exact g_zret hx hb hr hlocks hbn (by unfold rX9_isPlaying; rfl) rfl rfl hP hS dX9_isPlaying_7

def rX9_step (S : Mm) : Int32 := rX6_stepOrNone S 18
theorem iX9_step_X9 : ∀ w ∈ u_ws RX9 TX9 4, w ∈ wsX9_step := by decide +kernel
set_option maxHeartbeats 4000000 in
set_option maxRecDepth 100000 in
theorem c_X9_step (l : Launch) (G : va_G) (cA : ClassId) (a : Nat → Nat) (ha : apart 37 a) (S : Mm) (L : Int64) (sz : Nat)   : Met l yX9_step wsX9_step ({ frames := 1, cells := 0, slots := 0, locals := 20 } : Room) (va_Pc [.ref (a 0)] (gI G cA (a 37) 37 a (cM a cA) S L sz)) (gQi (rX9_step S) G 37 a (cM a cA) S L sz) 0 0 (mA 37 a sz) := by
  refine g_met (cc := cX9_step) (maxL := 1) (ret := (some .int)) (by decide) rfl (Nat.le_of_ble_eq_true rfl) ?_
  intro p e s m below meth c ls hx hb hr hlocks hml hts hown hnm hsz hK hP hS hl
  subst hsz
  have hl : lv_has ls 1 [(0, .ref (a 0))] := hl
  refine lv_aload_n hx hb dX9_step_0 rfl (lv_at hl 0 rfl) ?_
  refine g_get (ci := 9) (C := RX9) (T := TX9) (N := 4) (v := .ref (a 18)) hx hb hts iX9_step_X9 hown hK hP (by decide) rfl rfl 1 (by decide) rfl (by decide +kernel) rfl dX9_step_1 ?_
  refine g_cVi (As := []) (rest := []) ⟨hx, hb, hml, hown, hts⟩ (c_X6_stepOrNone l G cA a ha S L s.heap.size 18 (by decide) ) (cwV 0 hts gX9_step_X6_stepOrNone rfl rfl rfl (by decide +kernel) ⟨Nat.le_of_ble_eq_true rfl, Nat.le_of_ble_eq_true rfl⟩) (g_recv hK hP (lt_G (by decide)) (cM_G (by decide)) (C := RX6) (T := TX6) (N := 12) rfl) hK (mA_mono hS.1) hP hS rfl hl.1 rfl (lv_room (Nat.le_of_ble_eq_true rfl)) dX9_step_4 ⟨Nat.le_of_ble_eq_true rfl, Nat.le_of_ble_eq_true rfl⟩ (fun H locs hP hS _ _ => ?_)
  exact g_iret hx hb hr hlocks (by unfold rX9_step; rfl) rfl rfl hP hS dX9_step_7

def rX9_nextVoice (S : Mm) : Int32 := rX6_voiceToTake S 18
theorem iX9_nextVoice_X9 : ∀ w ∈ u_ws RX9 TX9 4, w ∈ wsX9_nextVoice := by decide +kernel
set_option maxHeartbeats 4000000 in
set_option maxRecDepth 100000 in
theorem c_X9_nextVoice (l : Launch) (G : va_G) (cA : ClassId) (a : Nat → Nat) (ha : apart 37 a) (S : Mm) (L : Int64) (sz : Nat)   : Met l yX9_nextVoice wsX9_nextVoice ({ frames := 3, cells := 0, slots := 0, locals := 65 } : Room) (va_Pc [.ref (a 0)] (gI G cA (a 37) 37 a (cM a cA) S L sz)) (gQi (rX9_nextVoice S) G 37 a (cM a cA) S L sz) 0 0 (mA 37 a sz) := by
  refine g_met (cc := cX9_nextVoice) (maxL := 1) (ret := (some .int)) (by decide) rfl (Nat.le_of_ble_eq_true rfl) ?_
  intro p e s m below meth c ls hx hb hr hlocks hml hts hown hnm hsz hK hP hS hl
  subst hsz
  have hl : lv_has ls 1 [(0, .ref (a 0))] := hl
  refine lv_aload_n hx hb dX9_nextVoice_0 rfl (lv_at hl 0 rfl) ?_
  refine g_get (ci := 9) (C := RX9) (T := TX9) (N := 4) (v := .ref (a 18)) hx hb hts iX9_nextVoice_X9 hown hK hP (by decide) rfl rfl 1 (by decide) rfl (by decide +kernel) rfl dX9_nextVoice_1 ?_
  refine g_cVi (As := []) (rest := []) ⟨hx, hb, hml, hown, hts⟩ (c_X6_voiceToTake l G cA a ha S L s.heap.size 18 (by decide) ) (cwV 0 hts gX9_nextVoice_X6_voiceToTake rfl rfl rfl (by decide +kernel) ⟨Nat.le_of_ble_eq_true rfl, Nat.le_of_ble_eq_true rfl⟩) (g_recv hK hP (lt_G (by decide)) (cM_G (by decide)) (C := RX6) (T := TX6) (N := 12) rfl) hK (mA_mono hS.1) hP hS rfl hl.1 rfl (lv_room (Nat.le_of_ble_eq_true rfl)) dX9_nextVoice_4 ⟨Nat.le_of_ble_eq_true rfl, Nat.le_of_ble_eq_true rfl⟩ (fun H locs hP hS _ _ => ?_)
  exact g_iret hx hb hr hlocks (by unfold rX9_nextVoice; rfl) rfl rfl hP hS dX9_nextVoice_7

def mX9_hush_1 (S : Mm) : Mm := fX7_silence (fX7_silence S (rX6_voiceOf 18 (0 : Int32))) (rX6_voiceOf 18 (1 : Int32))
def mX9_hush_2 (S : Mm) : Mm := fX7_silence (fX7_silence (mX9_hush_1 S) (rX6_voiceOf 18 (2 : Int32))) (rX6_voiceOf 18 (3 : Int32))
def rX9_hush (S : Mm) : Int32 := rX6_countSounding S 18
def fX9_hush (S : Mm) : Mm := (mX9_hush_2 S)
theorem iX9_hush_X9 : ∀ w ∈ u_ws RX9 TX9 4, w ∈ wsX9_hush := by decide +kernel
set_option maxHeartbeats 4000000 in
set_option maxRecDepth 100000 in
theorem c_X9_hush (l : Launch) (G : va_G) (cA : ClassId) (a : Nat → Nat) (ha : apart 37 a) (S : Mm) (L : Int64) (sz : Nat)   : Met l yX9_hush wsX9_hush ({ frames := 2, cells := 0, slots := 0, locals := 43 } : Room) (va_Pc [.ref (a 0)] (gI G cA (a 37) 37 a (cM a cA) S L sz)) (gQi (rX9_hush S) G 37 a (cM a cA) (fX9_hush S) L sz) 0 0 (mA 37 a sz) := by
  refine g_met (cc := cX9_hush) (maxL := 3) (ret := (some .int)) (by decide) rfl (Nat.le_of_ble_eq_true rfl) ?_
  intro p e s m below meth c ls hx hb hr hlocks hml hts hown hnm hsz hK hP hS hl
  subst hsz
  have hl : lv_has ls 3 [(0, .ref (a 0))] := hl
  refine lv_aload_n hx hb dX9_hush_0 rfl (lv_at hl 0 rfl) ?_
  refine g_get (ci := 9) (C := RX9) (T := TX9) (N := 4) (v := .ref (a 18)) hx hb hts iX9_hush_X9 hown hK hP (by decide) rfl rfl 1 (by decide) rfl (by decide +kernel) rfl dX9_hush_1 ?_
  refine g_cVi (As := []) (rest := []) ⟨hx, hb, hml, hown, hts⟩ (c_X6_countSounding l G cA a ha S L s.heap.size 18 (by decide) ) (cwV 0 hts gX9_hush_X6_countSounding rfl rfl rfl (by decide +kernel) ⟨Nat.le_of_ble_eq_true rfl, Nat.le_of_ble_eq_true rfl⟩) (g_recv hK hP (lt_G (by decide)) (cM_G (by decide)) (C := RX6) (T := TX6) (N := 12) rfl) hK (mA_mono hS.1) hP hS rfl hl.1 rfl (lv_room (Nat.le_of_ble_eq_true rfl)) dX9_hush_4 ⟨Nat.le_of_ble_eq_true rfl, Nat.le_of_ble_eq_true rfl⟩ (fun H locs hP hS _ _ => ?_)
  refine lv_istore_n (lv' := [(1, .int (rX6_countSounding S 18)), (0, .ref (a 0))]) hx hb dX9_hush_7 rfl hl (by decide) rfl (fun ls hl => ?_)
  refine lv_iconst (v := 0) hx hb dX9_hush_8 (by decide) ?_
  refine lv_istore_n (lv' := [(2, .int 0), (1, .int (rX6_countSounding S 18)), (0, .ref (a 0))]) hx hb dX9_hush_9 rfl hl (by decide) rfl (fun ls hl => ?_)
  refine lv_iload_n hx hb dX9_hush_10 rfl (lv_at hl 0 rfl) ?_
  refine lv_iconst (v := 4) hx hb dX9_hush_11 (by decide) ?_
  refine lv_icmp_ge (tgt := 32) hx hb dX9_hush_12 (by decide) (fun c => absurd c (by decide)) (fun _ => ?_)
  refine lv_aload_n hx hb dX9_hush_15 rfl (lv_at hl 2 rfl) ?_
  refine g_get (ci := 9) (C := RX9) (T := TX9) (N := 4) (v := .ref (a 18)) hx hb hts iX9_hush_X9 hown hK hP (by decide) rfl rfl 1 (by decide) rfl (by decide +kernel) rfl dX9_hush_16 ?_
  refine lv_iload_n hx hb dX9_hush_19 rfl (lv_at hl 0 rfl) ?_
  refine g_cVr (As := [.int 0]) (rest := []) ⟨hx, hb, hml, hown, hts⟩ (c_X6_voiceOf l G cA a ha S L H.size 18 (0 : Int32) (by decide) ) (cwV 1 hts gX9_hush_X6_voiceOf rfl rfl rfl (by decide +kernel) ⟨Nat.le_of_ble_eq_true rfl, Nat.le_of_ble_eq_true rfl⟩) (g_recv hK hP (lt_G (by decide)) (cM_G (by decide)) (C := RX6) (T := TX6) (N := 12) rfl) hK (mA_mono hS.1) hP hS rfl hl.1 rfl (lv_room (Nat.le_of_ble_eq_true rfl)) dX9_hush_20 ⟨Nat.le_of_ble_eq_true rfl, Nat.le_of_ble_eq_true rfl⟩ (fun H locs hP hS _ _ => ?_)
  refine g_cVv (As := []) (rest := []) ⟨hx, hb, hml, hown, hts⟩ (c_X7_silence l G cA a ha S L H.size (rX6_voiceOf 18 (0 : Int32)) (k_X6_voiceOf (by decide)) ) (cwV 0 hts gX9_hush_X7_silence rfl rfl rfl (by decide +kernel) ⟨Nat.le_of_ble_eq_true rfl, Nat.le_of_ble_eq_true rfl⟩) (g_recv hK hP (lt_V (k_X6_voiceOf (by decide))) (cM_V (k_X6_voiceOf (by decide))) (C := RX7) (T := TX7) (N := 11) rfl) hK (mA_mono hS.1) hP hS rfl hl.1 rfl (lv_room (Nat.le_of_ble_eq_true rfl)) dX9_hush_23 ⟨Nat.le_of_ble_eq_true rfl, Nat.le_of_ble_eq_true rfl⟩ (fun H locs hP hS _ _ => ?_)
  refine lv_iinc (v := 1) (lv' := [(2, .int 1), (1, .int (rX6_countSounding S 18)), (0, .ref (a 0))]) hx hb dX9_hush_26 hl (k := 0) rfl (by decide) (by decide) rfl (fun ls hl => ?_)
  refine lv_goto (tgt := 10) hx hb dX9_hush_29 (by decide) ?_
  refine lv_iload_n hx hb dX9_hush_10 rfl (lv_at hl 0 rfl) ?_
  refine lv_iconst (v := 4) hx hb dX9_hush_11 (by decide) ?_
  refine lv_icmp_ge (tgt := 32) hx hb dX9_hush_12 (by decide) (fun c => absurd c (by decide)) (fun _ => ?_)
  refine lv_aload_n hx hb dX9_hush_15 rfl (lv_at hl 2 rfl) ?_
  refine g_get (ci := 9) (C := RX9) (T := TX9) (N := 4) (v := .ref (a 18)) hx hb hts iX9_hush_X9 hown hK hP (by decide) rfl rfl 1 (by decide) rfl (by decide +kernel) rfl dX9_hush_16 ?_
  refine lv_iload_n hx hb dX9_hush_19 rfl (lv_at hl 0 rfl) ?_
  refine g_cVr (As := [.int 1]) (rest := []) ⟨hx, hb, hml, hown, hts⟩ (c_X6_voiceOf l G cA a ha (fX7_silence S (rX6_voiceOf 18 (0 : Int32))) L H.size 18 (1 : Int32) (by decide) ) (cwV 1 hts gX9_hush_X6_voiceOf rfl rfl rfl (by decide +kernel) ⟨Nat.le_of_ble_eq_true rfl, Nat.le_of_ble_eq_true rfl⟩) (g_recv hK hP (lt_G (by decide)) (cM_G (by decide)) (C := RX6) (T := TX6) (N := 12) rfl) hK (mA_mono hS.1) hP hS rfl hl.1 rfl (lv_room (Nat.le_of_ble_eq_true rfl)) dX9_hush_20 ⟨Nat.le_of_ble_eq_true rfl, Nat.le_of_ble_eq_true rfl⟩ (fun H locs hP hS _ _ => ?_)
  refine g_cVv (As := []) (rest := []) ⟨hx, hb, hml, hown, hts⟩ (c_X7_silence l G cA a ha (fX7_silence S (rX6_voiceOf 18 (0 : Int32))) L H.size (rX6_voiceOf 18 (1 : Int32)) (k_X6_voiceOf (by decide)) ) (cwV 0 hts gX9_hush_X7_silence rfl rfl rfl (by decide +kernel) ⟨Nat.le_of_ble_eq_true rfl, Nat.le_of_ble_eq_true rfl⟩) (g_recv hK hP (lt_V (k_X6_voiceOf (by decide))) (cM_V (k_X6_voiceOf (by decide))) (C := RX7) (T := TX7) (N := 11) rfl) hK (mA_mono hS.1) hP hS rfl hl.1 rfl (lv_room (Nat.le_of_ble_eq_true rfl)) dX9_hush_23 ⟨Nat.le_of_ble_eq_true rfl, Nat.le_of_ble_eq_true rfl⟩ (fun H locs hP hS _ _ => ?_)
  have hP : va_P G vwCl (wG 37 a (cM a cA) (mX9_hush_1 S) L) H := hP
  refine lv_iinc (v := 2) (lv' := [(2, .int 2), (1, .int (rX6_countSounding S 18)), (0, .ref (a 0))]) hx hb dX9_hush_26 hl (k := 0) rfl (by decide) (by decide) rfl (fun ls hl => ?_)
  refine lv_goto (tgt := 10) hx hb dX9_hush_29 (by decide) ?_
  refine lv_iload_n hx hb dX9_hush_10 rfl (lv_at hl 0 rfl) ?_
  refine lv_iconst (v := 4) hx hb dX9_hush_11 (by decide) ?_
  refine lv_icmp_ge (tgt := 32) hx hb dX9_hush_12 (by decide) (fun c => absurd c (by decide)) (fun _ => ?_)
  refine lv_aload_n hx hb dX9_hush_15 rfl (lv_at hl 2 rfl) ?_
  refine g_get (ci := 9) (C := RX9) (T := TX9) (N := 4) (v := .ref (a 18)) hx hb hts iX9_hush_X9 hown hK hP (by decide) rfl rfl 1 (by decide) rfl (by decide +kernel) rfl dX9_hush_16 ?_
  refine lv_iload_n hx hb dX9_hush_19 rfl (lv_at hl 0 rfl) ?_
  refine g_cVr (As := [.int 2]) (rest := []) ⟨hx, hb, hml, hown, hts⟩ (c_X6_voiceOf l G cA a ha (mX9_hush_1 S) L H.size 18 (2 : Int32) (by decide) ) (cwV 1 hts gX9_hush_X6_voiceOf rfl rfl rfl (by decide +kernel) ⟨Nat.le_of_ble_eq_true rfl, Nat.le_of_ble_eq_true rfl⟩) (g_recv hK hP (lt_G (by decide)) (cM_G (by decide)) (C := RX6) (T := TX6) (N := 12) rfl) hK (mA_mono hS.1) hP hS rfl hl.1 rfl (lv_room (Nat.le_of_ble_eq_true rfl)) dX9_hush_20 ⟨Nat.le_of_ble_eq_true rfl, Nat.le_of_ble_eq_true rfl⟩ (fun H locs hP hS _ _ => ?_)
  refine g_cVv (As := []) (rest := []) ⟨hx, hb, hml, hown, hts⟩ (c_X7_silence l G cA a ha (mX9_hush_1 S) L H.size (rX6_voiceOf 18 (2 : Int32)) (k_X6_voiceOf (by decide)) ) (cwV 0 hts gX9_hush_X7_silence rfl rfl rfl (by decide +kernel) ⟨Nat.le_of_ble_eq_true rfl, Nat.le_of_ble_eq_true rfl⟩) (g_recv hK hP (lt_V (k_X6_voiceOf (by decide))) (cM_V (k_X6_voiceOf (by decide))) (C := RX7) (T := TX7) (N := 11) rfl) hK (mA_mono hS.1) hP hS rfl hl.1 rfl (lv_room (Nat.le_of_ble_eq_true rfl)) dX9_hush_23 ⟨Nat.le_of_ble_eq_true rfl, Nat.le_of_ble_eq_true rfl⟩ (fun H locs hP hS _ _ => ?_)
  refine lv_iinc (v := 3) (lv' := [(2, .int 3), (1, .int (rX6_countSounding S 18)), (0, .ref (a 0))]) hx hb dX9_hush_26 hl (k := 0) rfl (by decide) (by decide) rfl (fun ls hl => ?_)
  refine lv_goto (tgt := 10) hx hb dX9_hush_29 (by decide) ?_
  refine lv_iload_n hx hb dX9_hush_10 rfl (lv_at hl 0 rfl) ?_
  refine lv_iconst (v := 4) hx hb dX9_hush_11 (by decide) ?_
  refine lv_icmp_ge (tgt := 32) hx hb dX9_hush_12 (by decide) (fun c => absurd c (by decide)) (fun _ => ?_)
  refine lv_aload_n hx hb dX9_hush_15 rfl (lv_at hl 2 rfl) ?_
  refine g_get (ci := 9) (C := RX9) (T := TX9) (N := 4) (v := .ref (a 18)) hx hb hts iX9_hush_X9 hown hK hP (by decide) rfl rfl 1 (by decide) rfl (by decide +kernel) rfl dX9_hush_16 ?_
  refine lv_iload_n hx hb dX9_hush_19 rfl (lv_at hl 0 rfl) ?_
  refine g_cVr (As := [.int 3]) (rest := []) ⟨hx, hb, hml, hown, hts⟩ (c_X6_voiceOf l G cA a ha (fX7_silence (mX9_hush_1 S) (rX6_voiceOf 18 (2 : Int32))) L H.size 18 (3 : Int32) (by decide) ) (cwV 1 hts gX9_hush_X6_voiceOf rfl rfl rfl (by decide +kernel) ⟨Nat.le_of_ble_eq_true rfl, Nat.le_of_ble_eq_true rfl⟩) (g_recv hK hP (lt_G (by decide)) (cM_G (by decide)) (C := RX6) (T := TX6) (N := 12) rfl) hK (mA_mono hS.1) hP hS rfl hl.1 rfl (lv_room (Nat.le_of_ble_eq_true rfl)) dX9_hush_20 ⟨Nat.le_of_ble_eq_true rfl, Nat.le_of_ble_eq_true rfl⟩ (fun H locs hP hS _ _ => ?_)
  refine g_cVv (As := []) (rest := []) ⟨hx, hb, hml, hown, hts⟩ (c_X7_silence l G cA a ha (fX7_silence (mX9_hush_1 S) (rX6_voiceOf 18 (2 : Int32))) L H.size (rX6_voiceOf 18 (3 : Int32)) (k_X6_voiceOf (by decide)) ) (cwV 0 hts gX9_hush_X7_silence rfl rfl rfl (by decide +kernel) ⟨Nat.le_of_ble_eq_true rfl, Nat.le_of_ble_eq_true rfl⟩) (g_recv hK hP (lt_V (k_X6_voiceOf (by decide))) (cM_V (k_X6_voiceOf (by decide))) (C := RX7) (T := TX7) (N := 11) rfl) hK (mA_mono hS.1) hP hS rfl hl.1 rfl (lv_room (Nat.le_of_ble_eq_true rfl)) dX9_hush_23 ⟨Nat.le_of_ble_eq_true rfl, Nat.le_of_ble_eq_true rfl⟩ (fun H locs hP hS _ _ => ?_)
  have hP : va_P G vwCl (wG 37 a (cM a cA) (mX9_hush_2 S) L) H := hP
  refine lv_iinc (v := 4) (lv' := [(2, .int 4), (1, .int (rX6_countSounding S 18)), (0, .ref (a 0))]) hx hb dX9_hush_26 hl (k := 0) rfl (by decide) (by decide) rfl (fun ls hl => ?_)
  refine lv_goto (tgt := 10) hx hb dX9_hush_29 (by decide) ?_
  refine lv_iload_n hx hb dX9_hush_10 rfl (lv_at hl 0 rfl) ?_
  refine lv_iconst (v := 4) hx hb dX9_hush_11 (by decide) ?_
  refine lv_icmp_ge (tgt := 32) hx hb dX9_hush_12 (by decide) (fun _ => ?_) (fun c => absurd c (by decide))
  refine lv_iload_n hx hb dX9_hush_32 rfl (lv_at hl 1 rfl) ?_
  exact g_iret hx hb hr hlocks (by unfold rX9_hush; rfl) (by unfold fX9_hush; rfl) rfl hP hS dX9_hush_33

def rX9_stop (S : Mm) : Int32 := rX6_stepOrNone S 18
def fX9_stop (S : Mm) : Mm := up2 S 18 9 0
theorem iX9_stop_X6 : ∀ w ∈ u_ws RX6 TX6 12, w ∈ wsX9_stop := by decide +kernel
theorem iX9_stop_X9 : ∀ w ∈ u_ws RX9 TX9 4, w ∈ wsX9_stop := by decide +kernel
set_option maxHeartbeats 4000000 in
set_option maxRecDepth 100000 in
theorem c_X9_stop (l : Launch) (G : va_G) (cA : ClassId) (a : Nat → Nat) (ha : apart 37 a) (S : Mm) (L : Int64) (sz : Nat)   : Met l yX9_stop wsX9_stop ({ frames := 1, cells := 0, slots := 0, locals := 20 } : Room) (va_Pc [.ref (a 0)] (gI G cA (a 37) 37 a (cM a cA) S L sz)) (gQi (rX9_stop S) G 37 a (cM a cA) (fX9_stop S) L sz) 0 0 (mA 37 a sz) := by
  refine g_met (cc := cX9_stop) (maxL := 2) (ret := (some .int)) (by decide) rfl (Nat.le_of_ble_eq_true rfl) ?_
  intro p e s m below meth c ls hx hb hr hlocks hml hts hown hnm hsz hK hP hS hl
  subst hsz
  have hl : lv_has ls 2 [(0, .ref (a 0))] := hl
  refine lv_aload_n hx hb dX9_stop_0 rfl (lv_at hl 0 rfl) ?_
  refine g_get (ci := 9) (C := RX9) (T := TX9) (N := 4) (v := .ref (a 18)) hx hb hts iX9_stop_X9 hown hK hP (by decide) rfl rfl 1 (by decide) rfl (by decide +kernel) rfl dX9_stop_1 ?_
  refine g_cVi (As := []) (rest := []) ⟨hx, hb, hml, hown, hts⟩ (c_X6_stepOrNone l G cA a ha S L s.heap.size 18 (by decide) ) (cwV 0 hts gX9_stop_X6_stepOrNone rfl rfl rfl (by decide +kernel) ⟨Nat.le_of_ble_eq_true rfl, Nat.le_of_ble_eq_true rfl⟩) (g_recv hK hP (lt_G (by decide)) (cM_G (by decide)) (C := RX6) (T := TX6) (N := 12) rfl) hK (mA_mono hS.1) hP hS rfl hl.1 rfl (lv_room (Nat.le_of_ble_eq_true rfl)) dX9_stop_4 ⟨Nat.le_of_ble_eq_true rfl, Nat.le_of_ble_eq_true rfl⟩ (fun H locs hP hS _ _ => ?_)
  refine lv_istore_n (lv' := [(1, .int (rX6_stepOrNone S 18)), (0, .ref (a 0))]) hx hb dX9_stop_7 rfl hl (by decide) rfl (fun ls hl => ?_)
  refine lv_aload_n hx hb dX9_stop_8 rfl (lv_at hl 1 rfl) ?_
  refine g_get (ci := 9) (C := RX9) (T := TX9) (N := 4) (v := .ref (a 18)) hx hb hts iX9_stop_X9 hown hK hP (by decide) rfl rfl 1 (by decide) rfl (by decide +kernel) rfl dX9_stop_9 ?_
  refine lv_iconst (v := 0) hx hb dX9_stop_12 (by decide) ?_
  refine g_put (ci := 6) (C := RX6) (T := TX6) (N := 12) (ty := .boolean) hx hb hts iX9_stop_X6 tyX6 tyX6_ok nmX6 hown hK ha mA_in hP hS (lt_G (by decide)) (cM_G (by decide)) rfl 9 (by decide) rfl (by decide +kernel) rfl (by decide +kernel) rfl rfl (Nat.le_of_ble_eq_true rfl) (cM_G_set (by decide) (by decide)) dX9_stop_13 (fun H locs hP hS => ?_)
  refine lv_iload_n hx hb dX9_stop_16 rfl (lv_at hl 0 rfl) ?_
  exact g_iret hx hb hr hlocks (by unfold rX9_stop; rfl) (by unfold fX9_stop; rfl) rfl hP hS dX9_stop_17

def rX9_sample (S : Mm) (L : Int64) : Int32 := rX2_count (fX6_advance S 18) L (rX6_advance S 18)
def fX9_sample (S : Mm) (L : Int64) : Mm := fX2_count (fX6_advance S 18) L (rX6_advance S 18)
def lX9_sample (S : Mm) (L : Int64) : Int64 := lX2_count (fX6_advance S 18) L (rX6_advance S 18)
theorem iX9_sample_X9 : ∀ w ∈ u_ws RX9 TX9 4, w ∈ wsX9_sample := by decide +kernel
set_option maxHeartbeats 4000000 in
set_option maxRecDepth 100000 in
theorem c_X9_sample (l : Launch) (G : va_G) (cA : ClassId) (a : Nat → Nat) (ha : apart 37 a) (S : Mm) (L : Int64) (sz : Nat)   : Met l yX9_sample wsX9_sample ({ frames := 7, cells := 0, slots := 0, locals := 163 } : Room) (va_Pc [.ref (a 0)] (gI G cA (a 37) 37 a (cM a cA) S L sz)) (gQi (rX9_sample S L) G 37 a (cM a cA) (fX9_sample S L) (lX9_sample S L) sz) 0 0 (mA 37 a sz) := by
  refine g_met (cc := cX9_sample) (maxL := 1) (ret := (some .int)) (by decide) rfl (Nat.le_of_ble_eq_true rfl) ?_
  intro p e s m below meth c ls hx hb hr hlocks hml hts hown hnm hsz hK hP hS hl
  subst hsz
  have hl : lv_has ls 1 [(0, .ref (a 0))] := hl
  refine lv_aload_n hx hb dX9_sample_0 rfl (lv_at hl 0 rfl) ?_
  refine g_get (ci := 9) (C := RX9) (T := TX9) (N := 4) (v := .ref (a 34)) hx hb hts iX9_sample_X9 hown hK hP (by decide) rfl rfl 3 (by decide) rfl (by decide +kernel) rfl dX9_sample_1 ?_
  refine lv_aload_n hx hb dX9_sample_4 rfl (lv_at hl 0 rfl) ?_
  refine g_get (ci := 9) (C := RX9) (T := TX9) (N := 4) (v := .ref (a 18)) hx hb hts iX9_sample_X9 hown hK hP (by decide) rfl rfl 1 (by decide) rfl (by decide +kernel) rfl dX9_sample_5 ?_
  refine g_cVi (As := []) (rest := [.ref (a 34)]) ⟨hx, hb, hml, hown, hts⟩ (c_X6_advance l G cA a ha S L s.heap.size 18 (by decide) ) (cwV 0 hts gX9_sample_X6_advance rfl rfl rfl (by decide +kernel) ⟨Nat.le_of_ble_eq_true rfl, Nat.le_of_ble_eq_true rfl⟩) (g_recv hK hP (lt_G (by decide)) (cM_G (by decide)) (C := RX6) (T := TX6) (N := 12) rfl) hK (mA_mono hS.1) hP hS rfl hl.1 rfl (lv_room (Nat.le_of_ble_eq_true rfl)) dX9_sample_8 ⟨Nat.le_of_ble_eq_true rfl, Nat.le_of_ble_eq_true rfl⟩ (fun H locs hP hS _ _ => ?_)
  refine g_cVi (As := [.int (rX6_advance S 18)]) (rest := []) ⟨hx, hb, hml, hown, hts⟩ (c_X2_count l G cA a ha (fX6_advance S 18) L H.size (rX6_advance S 18)  ) (cwV 1 hts gX9_sample_X2_count rfl rfl rfl (by decide +kernel) ⟨Nat.le_of_ble_eq_true rfl, Nat.le_of_ble_eq_true rfl⟩) (g_recv hK hP (by decide) cM_T (C := RX2) (T := TX2) (N := 8) rfl) hK (mA_mono hS.1) hP hS rfl hl.1 rfl (lv_room (Nat.le_of_ble_eq_true rfl)) dX9_sample_11 ⟨Nat.le_of_ble_eq_true rfl, Nat.le_of_ble_eq_true rfl⟩ (fun H locs hP hS _ _ => ?_)
  exact g_iret hx hb hr hlocks (by unfold rX9_sample; rfl) (by unfold fX9_sample; rfl) (by unfold lX9_sample; rfl) hP hS dX9_sample_14

