def rX9_heard (S : Mm) (p1 : Int32) : Int32 := rX2_latest S p1
theorem iX9_heard_X9 : ∀ w ∈ u_ws RX9 TX9 4, w ∈ wsX9_heard := by decide +kernel
set_option maxHeartbeats 4000000 in
set_option maxRecDepth 100000 in
theorem c_X9_heard (l : Launch) (G : va_G) (cA : ClassId) (a : Nat → Nat) (ha : apart 38 a) (S : Mm) (L : Int64) (sz : Nat) (p1 : Int32)  (hh1 : ¬ p1 < (0 : Int32)) (hh2 : p1 ≤ (63 : Int32)) : Met l yX9_heard wsX9_heard ({ frames := 2, cells := 0, slots := 0, locals := 43 } : Room) (va_Pc [.ref (a 0), .int p1] (gI G cA (a 37) 38 a (cM a cA) S L sz)) (gQi (rX9_heard S p1) G 38 a (cM a cA) S L sz) 0 0 (mA 38 a sz) := by
  refine g_met (cc := cX9_heard) (maxL := 2) (ret := (some .int)) (by decide) rfl (Nat.le_of_ble_eq_true rfl) ?_
  intro p e s m below meth c ls hx hb hr hlocks hml hts hown hnm hsz hK hP hS hl
  subst hsz
  have hl : lv_has ls 2 [(0, .ref (a 0)), (1, .int p1)] := hl
  refine lv_iload_n hx hb dX9_heard_0 rfl (lv_at hl 1 rfl) ?_
  refine lv_iconst (v := 0) hx hb dX9_heard_1 (by decide) ?_
  refine lv_bipush (v := 63) hx hb dX9_heard_2 (by decide) ?_
  refine g_cSv (As := [.int p1, .int 0, .int 63]) (rest := []) ⟨hx, hb, hml, hown, hts⟩ (c_X9_needWithin l G cA a ha S L s.heap.size p1 (0 : Int32) (63 : Int32)  hh1 hh2) (va_cwS 3 hts gX9_heard_X9_needWithin rfl rfl rfl (by decide +kernel) ⟨Nat.le_of_ble_eq_true rfl, Nat.le_of_ble_eq_true rfl⟩) hK (mA_mono hS.1) hP hS rfl hl.1 rfl (lv_room (Nat.le_of_ble_eq_true rfl)) dX9_heard_4 ⟨Nat.le_of_ble_eq_true rfl, Nat.le_of_ble_eq_true rfl⟩ (fun H locs hP hS _ _ => ?_)
  refine lv_aload_n hx hb dX9_heard_7 rfl (lv_at hl 0 rfl) ?_
  refine g_get (ci := 9) (C := RX9) (T := TX9) (N := 4) (v := .ref (a 34)) hx hb hts iX9_heard_X9 hown hK hP (by decide) rfl rfl 3 (by decide) rfl (by decide +kernel) rfl dX9_heard_8 ?_
  refine lv_iload_n hx hb dX9_heard_11 rfl (lv_at hl 1 rfl) ?_
  refine g_cVi (As := [.int p1]) (rest := []) ⟨hx, hb, hml, hown, hts⟩ (c_X2_latest l G cA a ha S L H.size p1  ) (cwV 1 hts gX9_heard_X2_latest rfl rfl rfl (by decide +kernel) ⟨Nat.le_of_ble_eq_true rfl, Nat.le_of_ble_eq_true rfl⟩) (g_recv hK hP (by decide) cM_T (C := RX2) (T := TX2) (N := 8) rfl) hK (mA_mono hS.1) hP hS rfl hl.1 rfl (lv_room (Nat.le_of_ble_eq_true rfl)) dX9_heard_12 ⟨Nat.le_of_ble_eq_true rfl, Nat.le_of_ble_eq_true rfl⟩ (fun H locs hP hS _ _ => ?_)
  exact g_iret hx hb hr hlocks (by unfold rX9_heard; rfl) rfl rfl hP hS dX9_heard_15

def rX9_ofVoice (S : Mm) (p1 : Int32) (p2 : Int32) : Int32 := rX7_fact S (rX6_voiceOf 18 p1) p2
theorem iX9_ofVoice_X9 : ∀ w ∈ u_ws RX9 TX9 4, w ∈ wsX9_ofVoice := by decide +kernel
set_option maxHeartbeats 4000000 in
set_option maxRecDepth 100000 in
theorem c_X9_ofVoice (l : Launch) (G : va_G) (cA : ClassId) (a : Nat → Nat) (ha : apart 38 a) (S : Mm) (L : Int64) (sz : Nat) (p1 : Int32) (p2 : Int32)  (hh1 : ¬ p1 < 0) (hh2 : p1 < (4 : Int32)) (hh3 : ¬ p2 < (0 : Int32)) (hh4 : p2 ≤ (9 : Int32)) : Met l yX9_ofVoice wsX9_ofVoice ({ frames := 1, cells := 0, slots := 0, locals := 22 } : Room) (va_Pc [.ref (a 0), .int p1, .int p2] (gI G cA (a 37) 38 a (cM a cA) S L sz)) (gQi (rX9_ofVoice S p1 p2) G 38 a (cM a cA) S L sz) 0 0 (mA 38 a sz) := by
  refine g_met (cc := cX9_ofVoice) (maxL := 3) (ret := (some .int)) (by decide) rfl (Nat.le_of_ble_eq_true rfl) ?_
  intro p e s m below meth c ls hx hb hr hlocks hml hts hown hnm hsz hK hP hS hl
  subst hsz
  have hl : lv_has ls 3 [(0, .ref (a 0)), (1, .int p1), (2, .int p2)] := hl
  refine lv_iload_n hx hb dX9_ofVoice_0 rfl (lv_at hl 1 rfl) ?_
  refine lv_iconst (v := 4) hx hb dX9_ofVoice_1 (by decide) ?_
  refine g_cSv (As := [.int p1, .int 4]) (rest := []) ⟨hx, hb, hml, hown, hts⟩ (c_X9_needPlace l G cA a ha S L s.heap.size p1 (4 : Int32)  hh1 hh2) (va_cwS 2 hts gX9_ofVoice_X9_needPlace rfl rfl rfl (by decide +kernel) ⟨Nat.le_of_ble_eq_true rfl, Nat.le_of_ble_eq_true rfl⟩) hK (mA_mono hS.1) hP hS rfl hl.1 rfl (lv_room (Nat.le_of_ble_eq_true rfl)) dX9_ofVoice_2 ⟨Nat.le_of_ble_eq_true rfl, Nat.le_of_ble_eq_true rfl⟩ (fun H locs hP hS _ _ => ?_)
  refine lv_iload_n hx hb dX9_ofVoice_5 rfl (lv_at hl 2 rfl) ?_
  refine lv_iconst (v := 0) hx hb dX9_ofVoice_6 (by decide) ?_
  refine lv_bipush (v := 9) hx hb dX9_ofVoice_7 (by decide) ?_
  refine g_cSv (As := [.int p2, .int 0, .int 9]) (rest := []) ⟨hx, hb, hml, hown, hts⟩ (c_X9_needWithin l G cA a ha S L H.size p2 (0 : Int32) (9 : Int32)  hh3 hh4) (va_cwS 3 hts gX9_ofVoice_X9_needWithin rfl rfl rfl (by decide +kernel) ⟨Nat.le_of_ble_eq_true rfl, Nat.le_of_ble_eq_true rfl⟩) hK (mA_mono hS.1) hP hS rfl hl.1 rfl (lv_room (Nat.le_of_ble_eq_true rfl)) dX9_ofVoice_9 ⟨Nat.le_of_ble_eq_true rfl, Nat.le_of_ble_eq_true rfl⟩ (fun H locs hP hS _ _ => ?_)
  refine lv_aload_n hx hb dX9_ofVoice_12 rfl (lv_at hl 0 rfl) ?_
  refine g_get (ci := 9) (C := RX9) (T := TX9) (N := 4) (v := .ref (a 18)) hx hb hts iX9_ofVoice_X9 hown hK hP (by decide) rfl rfl 1 (by decide) rfl (by decide +kernel) rfl dX9_ofVoice_13 ?_
  refine lv_iload_n hx hb dX9_ofVoice_16 rfl (lv_at hl 1 rfl) ?_
  refine g_cVr (As := [.int p1]) (rest := []) ⟨hx, hb, hml, hown, hts⟩ (c_X6_voiceOf l G cA a ha S L H.size 18 p1 (by decide) ) (cwV 1 hts gX9_ofVoice_X6_voiceOf rfl rfl rfl (by decide +kernel) ⟨Nat.le_of_ble_eq_true rfl, Nat.le_of_ble_eq_true rfl⟩) (g_recv hK hP (lt_G (by decide)) (cM_G (by decide)) (C := RX6) (T := TX6) (N := 12) rfl) hK (mA_mono hS.1) hP hS rfl hl.1 rfl (lv_room (Nat.le_of_ble_eq_true rfl)) dX9_ofVoice_17 ⟨Nat.le_of_ble_eq_true rfl, Nat.le_of_ble_eq_true rfl⟩ (fun H locs hP hS _ _ => ?_)
  refine lv_iload_n hx hb dX9_ofVoice_20 rfl (lv_at hl 2 rfl) ?_
  refine g_cVi (As := [.int p2]) (rest := []) ⟨hx, hb, hml, hown, hts⟩ (c_X7_fact l G cA a ha S L H.size (rX6_voiceOf 18 p1) p2 (k_X6_voiceOf (by decide)) ) (cwV 1 hts gX9_ofVoice_X7_fact rfl rfl rfl (by decide +kernel) ⟨Nat.le_of_ble_eq_true rfl, Nat.le_of_ble_eq_true rfl⟩) (g_recv hK hP (lt_V (k_X6_voiceOf (by decide))) (cM_V (k_X6_voiceOf (by decide))) (C := RX7) (T := TX7) (N := 11) rfl) hK (mA_mono hS.1) hP hS rfl hl.1 rfl (lv_room (Nat.le_of_ble_eq_true rfl)) dX9_ofVoice_21 ⟨Nat.le_of_ble_eq_true rfl, Nat.le_of_ble_eq_true rfl⟩ (fun H locs hP hS _ _ => ?_)
  exact g_iret hx hb hr hlocks (by unfold rX9_ofVoice; rfl) rfl rfl hP hS dX9_ofVoice_24

def rX9_ofStep (S : Mm) (p1 : Int32) (p2 : Int32) (p3 : Int32) : Int32 := rX4_fact S p1 p2 p3
theorem iX9_ofStep_X5 : ∀ w ∈ u_ws RX5 TX5 7, w ∈ wsX9_ofStep := by decide +kernel
theorem iX9_ofStep_X9 : ∀ w ∈ u_ws RX9 TX9 4, w ∈ wsX9_ofStep := by decide +kernel
set_option maxHeartbeats 4000000 in
set_option maxRecDepth 100000 in
theorem c_X9_ofStep (l : Launch) (G : va_G) (cA : ClassId) (a : Nat → Nat) (ha : apart 38 a) (S : Mm) (L : Int64) (sz : Nat) (p1 : Int32) (p2 : Int32) (p3 : Int32)  (hh1 : ¬ p1 < 0) (hh2 : p1 < (3 : Int32)) (hh3 : ¬ p2 < 0) (hh4 : p2 < (8 : Int32)) (hh5 : ¬ p3 < (0 : Int32)) (hh6 : p3 ≤ (2 : Int32)) : Met l yX9_ofStep wsX9_ofStep ({ frames := 3, cells := 0, slots := 0, locals := 66 } : Room) (va_Pc [.ref (a 0), .int p1, .int p2, .int p3] (gI G cA (a 37) 38 a (cM a cA) S L sz)) (gQi (rX9_ofStep S p1 p2 p3) G 38 a (cM a cA) S L sz) 0 0 (mA 38 a sz) := by
  refine g_met (cc := cX9_ofStep) (maxL := 4) (ret := (some .int)) (by decide) rfl (Nat.le_of_ble_eq_true rfl) ?_
  intro p e s m below meth c ls hx hb hr hlocks hml hts hown hnm hsz hK hP hS hl
  subst hsz
  have hl : lv_has ls 4 [(0, .ref (a 0)), (1, .int p1), (2, .int p2), (3, .int p3)] := hl
  refine lv_iload_n hx hb dX9_ofStep_0 rfl (lv_at hl 1 rfl) ?_
  refine lv_iconst (v := 3) hx hb dX9_ofStep_1 (by decide) ?_
  refine g_cSv (As := [.int p1, .int 3]) (rest := []) ⟨hx, hb, hml, hown, hts⟩ (c_X9_needPlace l G cA a ha S L s.heap.size p1 (3 : Int32)  hh1 hh2) (va_cwS 2 hts gX9_ofStep_X9_needPlace rfl rfl rfl (by decide +kernel) ⟨Nat.le_of_ble_eq_true rfl, Nat.le_of_ble_eq_true rfl⟩) hK (mA_mono hS.1) hP hS rfl hl.1 rfl (lv_room (Nat.le_of_ble_eq_true rfl)) dX9_ofStep_2 ⟨Nat.le_of_ble_eq_true rfl, Nat.le_of_ble_eq_true rfl⟩ (fun H locs hP hS _ _ => ?_)
  refine lv_iload_n hx hb dX9_ofStep_5 rfl (lv_at hl 2 rfl) ?_
  refine lv_bipush (v := 8) hx hb dX9_ofStep_6 (by decide) ?_
  refine g_cSv (As := [.int p2, .int 8]) (rest := []) ⟨hx, hb, hml, hown, hts⟩ (c_X9_needPlace l G cA a ha S L H.size p2 (8 : Int32)  hh3 hh4) (va_cwS 2 hts gX9_ofStep_X9_needPlace rfl rfl rfl (by decide +kernel) ⟨Nat.le_of_ble_eq_true rfl, Nat.le_of_ble_eq_true rfl⟩) hK (mA_mono hS.1) hP hS rfl hl.1 rfl (lv_room (Nat.le_of_ble_eq_true rfl)) dX9_ofStep_8 ⟨Nat.le_of_ble_eq_true rfl, Nat.le_of_ble_eq_true rfl⟩ (fun H locs hP hS _ _ => ?_)
  refine lv_iload_n hx hb dX9_ofStep_11 rfl (lv_at hl 3 rfl) ?_
  refine lv_iconst (v := 0) hx hb dX9_ofStep_12 (by decide) ?_
  refine lv_iconst (v := 2) hx hb dX9_ofStep_13 (by decide) ?_
  refine g_cSv (As := [.int p3, .int 0, .int 2]) (rest := []) ⟨hx, hb, hml, hown, hts⟩ (c_X9_needWithin l G cA a ha S L H.size p3 (0 : Int32) (2 : Int32)  hh5 hh6) (va_cwS 3 hts gX9_ofStep_X9_needWithin rfl rfl rfl (by decide +kernel) ⟨Nat.le_of_ble_eq_true rfl, Nat.le_of_ble_eq_true rfl⟩) hK (mA_mono hS.1) hP hS rfl hl.1 rfl (lv_room (Nat.le_of_ble_eq_true rfl)) dX9_ofStep_14 ⟨Nat.le_of_ble_eq_true rfl, Nat.le_of_ble_eq_true rfl⟩ (fun H locs hP hS _ _ => ?_)
  refine lv_aload_n hx hb dX9_ofStep_17 rfl (lv_at hl 0 rfl) ?_
  refine g_get (ci := 9) (C := RX9) (T := TX9) (N := 4) (v := .ref (a 1)) hx hb hts iX9_ofStep_X9 hown hK hP (by decide) rfl rfl 0 (by decide) rfl (by decide +kernel) rfl dX9_ofStep_18 ?_
  refine g_get (ci := 5) (C := RX5) (T := TX5) (N := 7) (v := .ref (a 5)) hx hb hts iX9_ofStep_X5 hown hK hP (by decide) cM_S rfl 1 (by decide) rfl (by decide +kernel) rfl dX9_ofStep_21 ?_
  refine lv_iload_n hx hb dX9_ofStep_24 rfl (lv_at hl 1 rfl) ?_
  refine lv_iload_n hx hb dX9_ofStep_25 rfl (lv_at hl 2 rfl) ?_
  refine lv_iload_n hx hb dX9_ofStep_26 rfl (lv_at hl 3 rfl) ?_
  refine g_cVi (As := [.int p1, .int p2, .int p3]) (rest := []) ⟨hx, hb, hml, hown, hts⟩ (c_X4_fact l G cA a ha S L H.size p1 p2 p3  ) (cwV 3 hts gX9_ofStep_X4_fact rfl rfl rfl (by decide +kernel) ⟨Nat.le_of_ble_eq_true rfl, Nat.le_of_ble_eq_true rfl⟩) (g_recv hK hP (by decide) cM_C (C := RX4) (T := TX4) (N := 6) rfl) hK (mA_mono hS.1) hP hS rfl hl.1 rfl (lv_room (Nat.le_of_ble_eq_true rfl)) dX9_ofStep_27 ⟨Nat.le_of_ble_eq_true rfl, Nat.le_of_ble_eq_true rfl⟩ (fun H locs hP hS _ _ => ?_)
  exact g_iret hx hb hr hlocks (by unfold rX9_ofStep; rfl) rfl rfl hP hS dX9_ofStep_30

def rX9_inDelay (S : Mm) (p1 : Int32) : Int32 := rX0_at S 19 p1
theorem iX9_inDelay_X0 : ∀ w ∈ u_ws RX0 TX0 5, w ∈ wsX9_inDelay := by decide +kernel
theorem iX9_inDelay_X6 : ∀ w ∈ u_ws RX6 TX6 12, w ∈ wsX9_inDelay := by decide +kernel
theorem iX9_inDelay_X9 : ∀ w ∈ u_ws RX9 TX9 4, w ∈ wsX9_inDelay := by decide +kernel
set_option maxHeartbeats 4000000 in
set_option maxRecDepth 100000 in
theorem c_X9_inDelay (l : Launch) (G : va_G) (cA : ClassId) (a : Nat → Nat) (ha : apart 38 a) (S : Mm) (L : Int64) (sz : Nat) (p1 : Int32)  (hh1 : ¬ p1 < 0) (hh2 : p1 < (S 19 0)) : Met l yX9_inDelay wsX9_inDelay ({ frames := 2, cells := 0, slots := 0, locals := 43 } : Room) (va_Pc [.ref (a 0), .int p1] (gI G cA (a 37) 38 a (cM a cA) S L sz)) (gQi (rX9_inDelay S p1) G 38 a (cM a cA) S L sz) 0 0 (mA 38 a sz) := by
  refine g_met (cc := cX9_inDelay) (maxL := 2) (ret := (some .int)) (by decide) rfl (Nat.le_of_ble_eq_true rfl) ?_
  intro p e s m below meth c ls hx hb hr hlocks hml hts hown hnm hsz hK hP hS hl
  subst hsz
  have hl : lv_has ls 2 [(0, .ref (a 0)), (1, .int p1)] := hl
  refine lv_iload_n hx hb dX9_inDelay_0 rfl (lv_at hl 1 rfl) ?_
  refine lv_aload_n hx hb dX9_inDelay_1 rfl (lv_at hl 0 rfl) ?_
  refine g_get (ci := 9) (C := RX9) (T := TX9) (N := 4) (v := .ref (a 18)) hx hb hts iX9_inDelay_X9 hown hK hP (by decide) rfl rfl 1 (by decide) rfl (by decide +kernel) rfl dX9_inDelay_2 ?_
  refine g_get (ci := 6) (C := RX6) (T := TX6) (N := 12) (v := .ref (a 19)) hx hb hts iX9_inDelay_X6 hown hK hP (lt_G (by decide)) (cM_G (by decide)) rfl 1 (by decide) rfl (by decide +kernel) rfl dX9_inDelay_5 ?_
  refine g_get (ci := 0) (C := RX0) (T := TX0) (N := 5) (v := .int (S 19 0)) hx hb hts iX9_inDelay_X0 hown hK hP (lt_Dl (isDl_G (by decide))) (cM_Dl (isDl_G (by decide))) rfl 0 (by decide) rfl (by decide +kernel) rfl dX9_inDelay_8 ?_
  refine g_cSv (As := [.int p1, .int (S 19 0)]) (rest := []) ⟨hx, hb, hml, hown, hts⟩ (c_X9_needPlace l G cA a ha S L s.heap.size p1 (S 19 0)  hh1 hh2) (va_cwS 2 hts gX9_inDelay_X9_needPlace rfl rfl rfl (by decide +kernel) ⟨Nat.le_of_ble_eq_true rfl, Nat.le_of_ble_eq_true rfl⟩) hK (mA_mono hS.1) hP hS rfl hl.1 rfl (lv_room (Nat.le_of_ble_eq_true rfl)) dX9_inDelay_11 ⟨Nat.le_of_ble_eq_true rfl, Nat.le_of_ble_eq_true rfl⟩ (fun H locs hP hS _ _ => ?_)
  refine lv_aload_n hx hb dX9_inDelay_14 rfl (lv_at hl 0 rfl) ?_
  refine g_get (ci := 9) (C := RX9) (T := TX9) (N := 4) (v := .ref (a 18)) hx hb hts iX9_inDelay_X9 hown hK hP (by decide) rfl rfl 1 (by decide) rfl (by decide +kernel) rfl dX9_inDelay_15 ?_
  refine g_get (ci := 6) (C := RX6) (T := TX6) (N := 12) (v := .ref (a 19)) hx hb hts iX9_inDelay_X6 hown hK hP (lt_G (by decide)) (cM_G (by decide)) rfl 1 (by decide) rfl (by decide +kernel) rfl dX9_inDelay_18 ?_
  refine lv_iload_n hx hb dX9_inDelay_21 rfl (lv_at hl 1 rfl) ?_
  refine g_cVi (As := [.int p1]) (rest := []) ⟨hx, hb, hml, hown, hts⟩ (c_X0_at l G cA a ha S L H.size 19 p1 (isDl_G (by decide)) ) (cwV 1 hts gX9_inDelay_X0_at rfl rfl rfl (by decide +kernel) ⟨Nat.le_of_ble_eq_true rfl, Nat.le_of_ble_eq_true rfl⟩) (g_recv hK hP (lt_Dl (isDl_G (by decide))) (cM_Dl (isDl_G (by decide))) (C := RX0) (T := TX0) (N := 5) rfl) hK (mA_mono hS.1) hP hS rfl hl.1 rfl (lv_room (Nat.le_of_ble_eq_true rfl)) dX9_inDelay_22 ⟨Nat.le_of_ble_eq_true rfl, Nat.le_of_ble_eq_true rfl⟩ (fun H locs hP hS _ _ => ?_)
  exact g_iret hx hb hr hlocks (by unfold rX9_inDelay; rfl) rfl rfl hP hS dX9_inDelay_25
