set_option maxHeartbeats 4000000 in
set_option maxRecDepth 100000 in
theorem c_X9_needPlace (l : Launch) (G : va_G) (cA : ClassId) (a : Nat → Nat) (ha : apart 37 a) (S : Mm) (L : Int64) (sz : Nat) (p1 : Int32) (p2 : Int32)  (h1 : ¬ p1 < 0) (h2 : p1 < p2) : Met l yX9_needPlace wsX9_needPlace ({ frames := 0, cells := 0, slots := 0, locals := 0 } : Room) (va_Pc [.int p1, .int p2] (gI G cA (a 37) 37 a (cM a cA) S L sz)) (gQv G 37 a (cM a cA) S L sz) 0 0 (mA 37 a sz) := by
  refine g_met (cc := cX9_needPlace) (maxL := 2) (ret := none) (by decide) rfl (Nat.le_of_ble_eq_true rfl) ?_
  intro p e s m below meth c ls hx hb hr hlocks hml hts hown hnm hsz hK hP hS hl
  subst hsz
  have hl : lv_has ls 2 [(0, .int p1), (1, .int p2)] := hl
  refine lv_iload_n hx hb dX9_needPlace_0 rfl (lv_at hl 0 rfl) ?_
  refine lv_if_lt (tgt := 9) hx hb dX9_needPlace_1 (by decide) (fun c => absurd c h1) (fun _ => ?_)
  refine lv_iload_n hx hb dX9_needPlace_4 rfl (lv_at hl 0 rfl) ?_
  refine lv_iload_n hx hb dX9_needPlace_5 rfl (lv_at hl 1 rfl) ?_
  refine lv_icmp_lt (tgt := 20) hx hb dX9_needPlace_6 (by decide) (fun _ => ?_) (fun c => absurd h2 c)
  exact g_vret hx hb hr hlocks rfl rfl hP hS dX9_needPlace_20

set_option maxHeartbeats 4000000 in
set_option maxRecDepth 100000 in
theorem c_X9_needWithin (l : Launch) (G : va_G) (cA : ClassId) (a : Nat → Nat) (ha : apart 37 a) (S : Mm) (L : Int64) (sz : Nat) (p1 : Int32) (p2 : Int32) (p3 : Int32)  (h1 : ¬ p1 < p2) (h2 : p1 ≤ p3) : Met l yX9_needWithin wsX9_needWithin ({ frames := 0, cells := 0, slots := 0, locals := 0 } : Room) (va_Pc [.int p1, .int p2, .int p3] (gI G cA (a 37) 37 a (cM a cA) S L sz)) (gQv G 37 a (cM a cA) S L sz) 0 0 (mA 37 a sz) := by
  refine g_met (cc := cX9_needWithin) (maxL := 3) (ret := none) (by decide) rfl (Nat.le_of_ble_eq_true rfl) ?_
  intro p e s m below meth c ls hx hb hr hlocks hml hts hown hnm hsz hK hP hS hl
  subst hsz
  have hl : lv_has ls 3 [(0, .int p1), (1, .int p2), (2, .int p3)] := hl
  refine lv_iload_n hx hb dX9_needWithin_0 rfl (lv_at hl 0 rfl) ?_
  refine lv_iload_n hx hb dX9_needWithin_1 rfl (lv_at hl 1 rfl) ?_
  refine lv_icmp_lt (tgt := 10) hx hb dX9_needWithin_2 (by decide) (fun c => absurd c h1) (fun _ => ?_)
  refine lv_iload_n hx hb dX9_needWithin_5 rfl (lv_at hl 0 rfl) ?_
  refine lv_iload_n hx hb dX9_needWithin_6 rfl (lv_at hl 2 rfl) ?_
  refine lv_icmp_le (tgt := 21) hx hb dX9_needWithin_7 (by decide) (fun _ => ?_) (fun c => absurd h2 c)
  exact g_vret hx hb hr hlocks rfl rfl hP hS dX9_needWithin_21

def rX9_draw (S : Mm) (p1 : Int32) (p2 : Int32) : Int32 := rX8_redraw S p1 p2
def fX9_draw (S : Mm) (p1 : Int32) (p2 : Int32) : Mm := fX8_redraw S p1 p2
theorem iX9_draw_X5 : ∀ w ∈ u_ws RX5 TX5 7, w ∈ wsX9_draw := by decide +kernel
theorem iX9_draw_X9 : ∀ w ∈ u_ws RX9 TX9 4, w ∈ wsX9_draw := by decide +kernel
set_option maxHeartbeats 4000000 in
set_option maxRecDepth 100000 in
theorem c_X9_draw (l : Launch) (G : va_G) (cA : ClassId) (a : Nat → Nat) (ha : apart 37 a) (S : Mm) (L : Int64) (sz : Nat) (p1 : Int32) (p2 : Int32)  (hh1 : ¬ p1 < 0) (hh2 : p1 < (32 : Int32)) (hh3 : ¬ p2 < ((-1000) : Int32)) (hh4 : p2 ≤ (1000 : Int32)) : Met l yX9_draw wsX9_draw ({ frames := 2, cells := 0, slots := 0, locals := 45 } : Room) (va_Pc [.ref (a 0), .int p1, .int p2] (gI G cA (a 37) 37 a (cM a cA) S L sz)) (gQi (rX9_draw S p1 p2) G 37 a (cM a cA) (fX9_draw S p1 p2) L sz) 0 0 (mA 37 a sz) := by
  refine g_met (cc := cX9_draw) (maxL := 3) (ret := (some .int)) (by decide) rfl (Nat.le_of_ble_eq_true rfl) ?_
  intro p e s m below meth c ls hx hb hr hlocks hml hts hown hnm hsz hK hP hS hl
  subst hsz
  have hl : lv_has ls 3 [(0, .ref (a 0)), (1, .int p1), (2, .int p2)] := hl
  refine lv_iload_n hx hb dX9_draw_0 rfl (lv_at hl 1 rfl) ?_
  refine lv_bipush (v := 32) hx hb dX9_draw_1 (by decide) ?_
  refine g_cSv (As := [.int p1, .int 32]) (rest := []) ⟨hx, hb, hml, hown, hts⟩ (c_X9_needPlace l G cA a ha S L s.heap.size p1 (32 : Int32)  hh1 hh2) (va_cwS 2 hts gX9_draw_X9_needPlace rfl rfl rfl (by decide +kernel) ⟨Nat.le_of_ble_eq_true rfl, Nat.le_of_ble_eq_true rfl⟩) hK (mA_mono hS.1) hP hS rfl hl.1 rfl (lv_room (Nat.le_of_ble_eq_true rfl)) dX9_draw_3 ⟨Nat.le_of_ble_eq_true rfl, Nat.le_of_ble_eq_true rfl⟩ (fun H locs hP hS _ _ => ?_)
  refine lv_iload_n hx hb dX9_draw_6 rfl (lv_at hl 2 rfl) ?_
  refine lv_sipush (v := (-1000)) hx hb dX9_draw_7 (by decide) ?_
  refine lv_sipush (v := 1000) hx hb dX9_draw_10 (by decide) ?_
  refine g_cSv (As := [.int p2, .int (-1000), .int 1000]) (rest := []) ⟨hx, hb, hml, hown, hts⟩ (c_X9_needWithin l G cA a ha S L H.size p2 ((-1000) : Int32) (1000 : Int32)  hh3 hh4) (va_cwS 3 hts gX9_draw_X9_needWithin rfl rfl rfl (by decide +kernel) ⟨Nat.le_of_ble_eq_true rfl, Nat.le_of_ble_eq_true rfl⟩) hK (mA_mono hS.1) hP hS rfl hl.1 rfl (lv_room (Nat.le_of_ble_eq_true rfl)) dX9_draw_13 ⟨Nat.le_of_ble_eq_true rfl, Nat.le_of_ble_eq_true rfl⟩ (fun H locs hP hS _ _ => ?_)
  refine lv_aload_n hx hb dX9_draw_16 rfl (lv_at hl 0 rfl) ?_
  refine g_get (ci := 9) (C := RX9) (T := TX9) (N := 4) (v := .ref (a 1)) hx hb hts iX9_draw_X9 hown hK hP (by decide) rfl rfl 0 (by decide) rfl (by decide +kernel) rfl dX9_draw_17 ?_
  refine g_get (ci := 5) (C := RX5) (T := TX5) (N := 7) (v := .ref (a 2)) hx hb hts iX9_draw_X5 hown hK hP (by decide) cM_S rfl 0 (by decide) rfl (by decide +kernel) rfl dX9_draw_20 ?_
  refine lv_iload_n hx hb dX9_draw_23 rfl (lv_at hl 1 rfl) ?_
  refine lv_iload_n hx hb dX9_draw_24 rfl (lv_at hl 2 rfl) ?_
  refine g_cVi (As := [.int p1, .int p2]) (rest := []) ⟨hx, hb, hml, hown, hts⟩ (c_X8_redraw l G cA a ha S L H.size p1 p2  ) (cwV 2 hts gX9_draw_X8_redraw rfl rfl rfl (by decide +kernel) ⟨Nat.le_of_ble_eq_true rfl, Nat.le_of_ble_eq_true rfl⟩) (g_recv hK hP (by decide) rfl (C := RX8) (T := TX8) (N := 1) rfl) hK (mA_mono hS.1) hP hS rfl hl.1 rfl (lv_room (Nat.le_of_ble_eq_true rfl)) dX9_draw_25 ⟨Nat.le_of_ble_eq_true rfl, Nat.le_of_ble_eq_true rfl⟩ (fun H locs hP hS _ _ => ?_)
  exact g_iret hx hb hr hlocks (by unfold rX9_draw; rfl) (by unfold fX9_draw; rfl) rfl hP hS dX9_draw_28

def mX9_setWaves_1 (S : Mm) (p1 : Int32) (p2 : Int32) (p3 : Int32) (p4 : Int32) (p5 : Int32) : Mm := up2 (up2 (up2 S (rX5_instrumentOf p1) 0 p2) (rX5_instrumentOf p1) 1 p3) (rX5_instrumentOf p1) 2 p4
def rX9_setWaves (S : Mm) (p1 : Int32) (p2 : Int32) (p3 : Int32) (p4 : Int32) (p5 : Int32) : Int32 := S (rX5_instrumentOf p1) 3
def fX9_setWaves (S : Mm) (p1 : Int32) (p2 : Int32) (p3 : Int32) (p4 : Int32) (p5 : Int32) : Mm := up2 (mX9_setWaves_1 S p1 p2 p3 p4 p5) (rX5_instrumentOf p1) 3 p5
theorem iX9_setWaves_X1 : ∀ w ∈ u_ws RX1 TX1 12, w ∈ wsX9_setWaves := by decide +kernel
theorem iX9_setWaves_X9 : ∀ w ∈ u_ws RX9 TX9 4, w ∈ wsX9_setWaves := by decide +kernel
set_option maxHeartbeats 4000000 in
set_option maxRecDepth 100000 in
theorem c_X9_setWaves (l : Launch) (G : va_G) (cA : ClassId) (a : Nat → Nat) (ha : apart 37 a) (S : Mm) (L : Int64) (sz : Nat) (p1 : Int32) (p2 : Int32) (p3 : Int32) (p4 : Int32) (p5 : Int32)  (hh1 : ¬ p1 < 0) (hh2 : p1 < (4 : Int32)) (hh3 : ¬ p2 < 0) (hh4 : p2 < (4 : Int32)) (hh5 : ¬ p3 < 0) (hh6 : p3 < (4 : Int32)) (hh7 : ¬ p4 < ((-64) : Int32)) (hh8 : p4 ≤ (64 : Int32)) (hh9 : ¬ p5 < (0 : Int32)) (hh10 : p5 ≤ (100 : Int32)) : Met l yX9_setWaves wsX9_setWaves ({ frames := 1, cells := 0, slots := 0, locals := 22 } : Room) (va_Pc [.ref (a 0), .int p1, .int p2, .int p3, .int p4, .int p5] (gI G cA (a 37) 37 a (cM a cA) S L sz)) (gQi (rX9_setWaves S p1 p2 p3 p4 p5) G 37 a (cM a cA) (fX9_setWaves S p1 p2 p3 p4 p5) L sz) 0 0 (mA 37 a sz) := by
  refine g_met (cc := cX9_setWaves) (maxL := 8) (ret := (some .int)) (by decide) rfl (Nat.le_of_ble_eq_true rfl) ?_
  intro p e s m below meth c ls hx hb hr hlocks hml hts hown hnm hsz hK hP hS hl
  subst hsz
  have hl : lv_has ls 8 [(0, .ref (a 0)), (1, .int p1), (2, .int p2), (3, .int p3), (4, .int p4), (5, .int p5)] := hl
  refine lv_iload_n hx hb dX9_setWaves_0 rfl (lv_at hl 1 rfl) ?_
  refine lv_iconst (v := 4) hx hb dX9_setWaves_1 (by decide) ?_
  refine g_cSv (As := [.int p1, .int 4]) (rest := []) ⟨hx, hb, hml, hown, hts⟩ (c_X9_needPlace l G cA a ha S L s.heap.size p1 (4 : Int32)  hh1 hh2) (va_cwS 2 hts gX9_setWaves_X9_needPlace rfl rfl rfl (by decide +kernel) ⟨Nat.le_of_ble_eq_true rfl, Nat.le_of_ble_eq_true rfl⟩) hK (mA_mono hS.1) hP hS rfl hl.1 rfl (lv_room (Nat.le_of_ble_eq_true rfl)) dX9_setWaves_2 ⟨Nat.le_of_ble_eq_true rfl, Nat.le_of_ble_eq_true rfl⟩ (fun H locs hP hS _ _ => ?_)
  refine lv_iload_n hx hb dX9_setWaves_5 rfl (lv_at hl 2 rfl) ?_
  refine lv_iconst (v := 4) hx hb dX9_setWaves_6 (by decide) ?_
  refine g_cSv (As := [.int p2, .int 4]) (rest := []) ⟨hx, hb, hml, hown, hts⟩ (c_X9_needPlace l G cA a ha S L H.size p2 (4 : Int32)  hh3 hh4) (va_cwS 2 hts gX9_setWaves_X9_needPlace rfl rfl rfl (by decide +kernel) ⟨Nat.le_of_ble_eq_true rfl, Nat.le_of_ble_eq_true rfl⟩) hK (mA_mono hS.1) hP hS rfl hl.1 rfl (lv_room (Nat.le_of_ble_eq_true rfl)) dX9_setWaves_7 ⟨Nat.le_of_ble_eq_true rfl, Nat.le_of_ble_eq_true rfl⟩ (fun H locs hP hS _ _ => ?_)
  refine lv_iload_n hx hb dX9_setWaves_10 rfl (lv_at hl 3 rfl) ?_
  refine lv_iconst (v := 4) hx hb dX9_setWaves_11 (by decide) ?_
  refine g_cSv (As := [.int p3, .int 4]) (rest := []) ⟨hx, hb, hml, hown, hts⟩ (c_X9_needPlace l G cA a ha S L H.size p3 (4 : Int32)  hh5 hh6) (va_cwS 2 hts gX9_setWaves_X9_needPlace rfl rfl rfl (by decide +kernel) ⟨Nat.le_of_ble_eq_true rfl, Nat.le_of_ble_eq_true rfl⟩) hK (mA_mono hS.1) hP hS rfl hl.1 rfl (lv_room (Nat.le_of_ble_eq_true rfl)) dX9_setWaves_12 ⟨Nat.le_of_ble_eq_true rfl, Nat.le_of_ble_eq_true rfl⟩ (fun H locs hP hS _ _ => ?_)
  refine lv_iload hx hb dX9_setWaves_15 (lv_at hl 4 rfl) ?_
  refine lv_bipush (v := (-64)) hx hb dX9_setWaves_17 (by decide) ?_
  refine lv_bipush (v := 64) hx hb dX9_setWaves_19 (by decide) ?_
  refine g_cSv (As := [.int p4, .int (-64), .int 64]) (rest := []) ⟨hx, hb, hml, hown, hts⟩ (c_X9_needWithin l G cA a ha S L H.size p4 ((-64) : Int32) (64 : Int32)  hh7 hh8) (va_cwS 3 hts gX9_setWaves_X9_needWithin rfl rfl rfl (by decide +kernel) ⟨Nat.le_of_ble_eq_true rfl, Nat.le_of_ble_eq_true rfl⟩) hK (mA_mono hS.1) hP hS rfl hl.1 rfl (lv_room (Nat.le_of_ble_eq_true rfl)) dX9_setWaves_21 ⟨Nat.le_of_ble_eq_true rfl, Nat.le_of_ble_eq_true rfl⟩ (fun H locs hP hS _ _ => ?_)
  refine lv_iload hx hb dX9_setWaves_24 (lv_at hl 5 rfl) ?_
  refine lv_iconst (v := 0) hx hb dX9_setWaves_26 (by decide) ?_
  refine lv_bipush (v := 100) hx hb dX9_setWaves_27 (by decide) ?_
  refine g_cSv (As := [.int p5, .int 0, .int 100]) (rest := []) ⟨hx, hb, hml, hown, hts⟩ (c_X9_needWithin l G cA a ha S L H.size p5 (0 : Int32) (100 : Int32)  hh9 hh10) (va_cwS 3 hts gX9_setWaves_X9_needWithin rfl rfl rfl (by decide +kernel) ⟨Nat.le_of_ble_eq_true rfl, Nat.le_of_ble_eq_true rfl⟩) hK (mA_mono hS.1) hP hS rfl hl.1 rfl (lv_room (Nat.le_of_ble_eq_true rfl)) dX9_setWaves_29 ⟨Nat.le_of_ble_eq_true rfl, Nat.le_of_ble_eq_true rfl⟩ (fun H locs hP hS _ _ => ?_)
  refine lv_aload_n hx hb dX9_setWaves_32 rfl (lv_at hl 0 rfl) ?_
  refine g_get (ci := 9) (C := RX9) (T := TX9) (N := 4) (v := .ref (a 1)) hx hb hts iX9_setWaves_X9 hown hK hP (by decide) rfl rfl 0 (by decide) rfl (by decide +kernel) rfl dX9_setWaves_33 ?_
  refine lv_iload_n hx hb dX9_setWaves_36 rfl (lv_at hl 1 rfl) ?_
  refine g_cVr (As := [.int p1]) (rest := []) ⟨hx, hb, hml, hown, hts⟩ (c_X5_instrumentOf l G cA a ha S L H.size p1  ) (cwV 1 hts gX9_setWaves_X5_instrumentOf rfl rfl rfl (by decide +kernel) ⟨Nat.le_of_ble_eq_true rfl, Nat.le_of_ble_eq_true rfl⟩) (g_recv hK hP (by decide) cM_S (C := RX5) (T := TX5) (N := 7) rfl) hK (mA_mono hS.1) hP hS rfl hl.1 rfl (lv_room (Nat.le_of_ble_eq_true rfl)) dX9_setWaves_37 ⟨Nat.le_of_ble_eq_true rfl, Nat.le_of_ble_eq_true rfl⟩ (fun H locs hP hS _ _ => ?_)
  refine lv_astore (lv' := [(6, .ref (a (rX5_instrumentOf p1))), (0, .ref (a 0)), (1, .int p1), (2, .int p2), (3, .int p3), (4, .int p4), (5, .int p5)]) hx hb dX9_setWaves_40 hl (by decide) rfl (fun ls hl => ?_)
  refine lv_aload hx hb dX9_setWaves_42 (lv_at hl 0 rfl) ?_
  refine g_get (ci := 1) (C := RX1) (T := TX1) (N := 12) (v := .int (S (rX5_instrumentOf p1) 3)) hx hb hts iX9_setWaves_X1 hown hK hP (lt_I (k_X5_instrumentOf )) (cM_I (k_X5_instrumentOf )) rfl 3 (by decide) rfl (by decide +kernel) rfl dX9_setWaves_44 ?_
  refine lv_istore (lv' := [(7, .int (S (rX5_instrumentOf p1) 3)), (6, .ref (a (rX5_instrumentOf p1))), (0, .ref (a 0)), (1, .int p1), (2, .int p2), (3, .int p3), (4, .int p4), (5, .int p5)]) hx hb dX9_setWaves_47 hl (by decide) rfl (fun ls hl => ?_)
  refine lv_aload hx hb dX9_setWaves_49 (lv_at hl 1 rfl) ?_
  refine lv_iload_n hx hb dX9_setWaves_51 rfl (lv_at hl 4 rfl) ?_
  refine g_put (ci := 1) (C := RX1) (T := TX1) (N := 12) (ty := .int) hx hb hts iX9_setWaves_X1 tyX1 tyX1_ok nmX1 hown hK ha mA_in hP hS (lt_I (k_X5_instrumentOf )) (cM_I (k_X5_instrumentOf )) rfl 0 (by decide) rfl (by decide +kernel) rfl (by decide +kernel) rfl rfl (Nat.le_of_ble_eq_true rfl) (cM_I_set (k_X5_instrumentOf ) (by decide)) dX9_setWaves_52 (fun H locs hP hS => ?_)
  refine lv_aload hx hb dX9_setWaves_55 (lv_at hl 1 rfl) ?_
  refine lv_iload_n hx hb dX9_setWaves_57 rfl (lv_at hl 5 rfl) ?_
  refine g_put (ci := 1) (C := RX1) (T := TX1) (N := 12) (ty := .int) hx hb hts iX9_setWaves_X1 tyX1 tyX1_ok nmX1 hown hK ha mA_in hP hS (lt_I (k_X5_instrumentOf )) (cM_I (k_X5_instrumentOf )) rfl 1 (by decide) rfl (by decide +kernel) rfl (by decide +kernel) rfl rfl (Nat.le_of_ble_eq_true rfl) (cM_I_set (k_X5_instrumentOf ) (by decide)) dX9_setWaves_58 (fun H locs hP hS => ?_)
  refine lv_aload hx hb dX9_setWaves_61 (lv_at hl 1 rfl) ?_
  refine lv_iload hx hb dX9_setWaves_63 (lv_at hl 6 rfl) ?_
  refine g_put (ci := 1) (C := RX1) (T := TX1) (N := 12) (ty := .int) hx hb hts iX9_setWaves_X1 tyX1 tyX1_ok nmX1 hown hK ha mA_in hP hS (lt_I (k_X5_instrumentOf )) (cM_I (k_X5_instrumentOf )) rfl 2 (by decide) rfl (by decide +kernel) rfl (by decide +kernel) rfl rfl (Nat.le_of_ble_eq_true rfl) (cM_I_set (k_X5_instrumentOf ) (by decide)) dX9_setWaves_65 (fun H locs hP hS => ?_)
  have hP : va_P G vwCl (wG 37 a (cM a cA) (mX9_setWaves_1 S p1 p2 p3 p4 p5) L) H := hP
  refine lv_aload hx hb dX9_setWaves_68 (lv_at hl 1 rfl) ?_
  refine lv_iload hx hb dX9_setWaves_70 (lv_at hl 7 rfl) ?_
  refine g_put (ci := 1) (C := RX1) (T := TX1) (N := 12) (ty := .int) hx hb hts iX9_setWaves_X1 tyX1 tyX1_ok nmX1 hown hK ha mA_in hP hS (lt_I (k_X5_instrumentOf )) (cM_I (k_X5_instrumentOf )) rfl 3 (by decide) rfl (by decide +kernel) rfl (by decide +kernel) rfl rfl (Nat.le_of_ble_eq_true rfl) (cM_I_set (k_X5_instrumentOf ) (by decide)) dX9_setWaves_72 (fun H locs hP hS => ?_)
  refine lv_iload hx hb dX9_setWaves_75 (lv_at hl 0 rfl) ?_
  exact g_iret hx hb hr hlocks (by unfold rX9_setWaves; rfl) (by unfold fX9_setWaves; rfl) rfl hP hS dX9_setWaves_77

def mX9_setEnvelope_1 (S : Mm) (p1 : Int32) (p2 : Int32) (p3 : Int32) (p4 : Int32) (p5 : Int32) : Mm := up2 (up2 (up2 S (rX5_instrumentOf p1) 4 p2) (rX5_instrumentOf p1) 5 p3) (rX5_instrumentOf p1) 6 p4
def rX9_setEnvelope (S : Mm) (p1 : Int32) (p2 : Int32) (p3 : Int32) (p4 : Int32) (p5 : Int32) : Int32 := S (rX5_instrumentOf p1) 6
def fX9_setEnvelope (S : Mm) (p1 : Int32) (p2 : Int32) (p3 : Int32) (p4 : Int32) (p5 : Int32) : Mm := up2 (mX9_setEnvelope_1 S p1 p2 p3 p4 p5) (rX5_instrumentOf p1) 7 p5
theorem iX9_setEnvelope_X1 : ∀ w ∈ u_ws RX1 TX1 12, w ∈ wsX9_setEnvelope := by decide +kernel
theorem iX9_setEnvelope_X9 : ∀ w ∈ u_ws RX9 TX9 4, w ∈ wsX9_setEnvelope := by decide +kernel
set_option maxHeartbeats 4000000 in
set_option maxRecDepth 100000 in
theorem c_X9_setEnvelope (l : Launch) (G : va_G) (cA : ClassId) (a : Nat → Nat) (ha : apart 37 a) (S : Mm) (L : Int64) (sz : Nat) (p1 : Int32) (p2 : Int32) (p3 : Int32) (p4 : Int32) (p5 : Int32)  (hh1 : ¬ p1 < 0) (hh2 : p1 < (4 : Int32)) (hh3 : ¬ p2 < (1 : Int32)) (hh4 : p2 ≤ (400 : Int32)) (hh5 : ¬ p3 < (1 : Int32)) (hh6 : p3 ≤ (400 : Int32)) (hh7 : ¬ p4 < (0 : Int32)) (hh8 : p4 ≤ (1000 : Int32)) (hh9 : ¬ p5 < (1 : Int32)) (hh10 : p5 ≤ (400 : Int32)) : Met l yX9_setEnvelope wsX9_setEnvelope ({ frames := 1, cells := 0, slots := 0, locals := 22 } : Room) (va_Pc [.ref (a 0), .int p1, .int p2, .int p3, .int p4, .int p5] (gI G cA (a 37) 37 a (cM a cA) S L sz)) (gQi (rX9_setEnvelope S p1 p2 p3 p4 p5) G 37 a (cM a cA) (fX9_setEnvelope S p1 p2 p3 p4 p5) L sz) 0 0 (mA 37 a sz) := by
  refine g_met (cc := cX9_setEnvelope) (maxL := 8) (ret := (some .int)) (by decide) rfl (Nat.le_of_ble_eq_true rfl) ?_
  intro p e s m below meth c ls hx hb hr hlocks hml hts hown hnm hsz hK hP hS hl
  subst hsz
  have hl : lv_has ls 8 [(0, .ref (a 0)), (1, .int p1), (2, .int p2), (3, .int p3), (4, .int p4), (5, .int p5)] := hl
  refine lv_iload_n hx hb dX9_setEnvelope_0 rfl (lv_at hl 1 rfl) ?_
  refine lv_iconst (v := 4) hx hb dX9_setEnvelope_1 (by decide) ?_
  refine g_cSv (As := [.int p1, .int 4]) (rest := []) ⟨hx, hb, hml, hown, hts⟩ (c_X9_needPlace l G cA a ha S L s.heap.size p1 (4 : Int32)  hh1 hh2) (va_cwS 2 hts gX9_setEnvelope_X9_needPlace rfl rfl rfl (by decide +kernel) ⟨Nat.le_of_ble_eq_true rfl, Nat.le_of_ble_eq_true rfl⟩) hK (mA_mono hS.1) hP hS rfl hl.1 rfl (lv_room (Nat.le_of_ble_eq_true rfl)) dX9_setEnvelope_2 ⟨Nat.le_of_ble_eq_true rfl, Nat.le_of_ble_eq_true rfl⟩ (fun H locs hP hS _ _ => ?_)
  refine lv_iload_n hx hb dX9_setEnvelope_5 rfl (lv_at hl 2 rfl) ?_
  refine lv_iconst (v := 1) hx hb dX9_setEnvelope_6 (by decide) ?_
  refine lv_sipush (v := 400) hx hb dX9_setEnvelope_7 (by decide) ?_
  refine g_cSv (As := [.int p2, .int 1, .int 400]) (rest := []) ⟨hx, hb, hml, hown, hts⟩ (c_X9_needWithin l G cA a ha S L H.size p2 (1 : Int32) (400 : Int32)  hh3 hh4) (va_cwS 3 hts gX9_setEnvelope_X9_needWithin rfl rfl rfl (by decide +kernel) ⟨Nat.le_of_ble_eq_true rfl, Nat.le_of_ble_eq_true rfl⟩) hK (mA_mono hS.1) hP hS rfl hl.1 rfl (lv_room (Nat.le_of_ble_eq_true rfl)) dX9_setEnvelope_10 ⟨Nat.le_of_ble_eq_true rfl, Nat.le_of_ble_eq_true rfl⟩ (fun H locs hP hS _ _ => ?_)
  refine lv_iload_n hx hb dX9_setEnvelope_13 rfl (lv_at hl 3 rfl) ?_
  refine lv_iconst (v := 1) hx hb dX9_setEnvelope_14 (by decide) ?_
  refine lv_sipush (v := 400) hx hb dX9_setEnvelope_15 (by decide) ?_
  refine g_cSv (As := [.int p3, .int 1, .int 400]) (rest := []) ⟨hx, hb, hml, hown, hts⟩ (c_X9_needWithin l G cA a ha S L H.size p3 (1 : Int32) (400 : Int32)  hh5 hh6) (va_cwS 3 hts gX9_setEnvelope_X9_needWithin rfl rfl rfl (by decide +kernel) ⟨Nat.le_of_ble_eq_true rfl, Nat.le_of_ble_eq_true rfl⟩) hK (mA_mono hS.1) hP hS rfl hl.1 rfl (lv_room (Nat.le_of_ble_eq_true rfl)) dX9_setEnvelope_18 ⟨Nat.le_of_ble_eq_true rfl, Nat.le_of_ble_eq_true rfl⟩ (fun H locs hP hS _ _ => ?_)
  refine lv_iload hx hb dX9_setEnvelope_21 (lv_at hl 4 rfl) ?_
  refine lv_iconst (v := 0) hx hb dX9_setEnvelope_23 (by decide) ?_
  refine lv_sipush (v := 1000) hx hb dX9_setEnvelope_24 (by decide) ?_
  refine g_cSv (As := [.int p4, .int 0, .int 1000]) (rest := []) ⟨hx, hb, hml, hown, hts⟩ (c_X9_needWithin l G cA a ha S L H.size p4 (0 : Int32) (1000 : Int32)  hh7 hh8) (va_cwS 3 hts gX9_setEnvelope_X9_needWithin rfl rfl rfl (by decide +kernel) ⟨Nat.le_of_ble_eq_true rfl, Nat.le_of_ble_eq_true rfl⟩) hK (mA_mono hS.1) hP hS rfl hl.1 rfl (lv_room (Nat.le_of_ble_eq_true rfl)) dX9_setEnvelope_27 ⟨Nat.le_of_ble_eq_true rfl, Nat.le_of_ble_eq_true rfl⟩ (fun H locs hP hS _ _ => ?_)
  refine lv_iload hx hb dX9_setEnvelope_30 (lv_at hl 5 rfl) ?_
  refine lv_iconst (v := 1) hx hb dX9_setEnvelope_32 (by decide) ?_
  refine lv_sipush (v := 400) hx hb dX9_setEnvelope_33 (by decide) ?_
  refine g_cSv (As := [.int p5, .int 1, .int 400]) (rest := []) ⟨hx, hb, hml, hown, hts⟩ (c_X9_needWithin l G cA a ha S L H.size p5 (1 : Int32) (400 : Int32)  hh9 hh10) (va_cwS 3 hts gX9_setEnvelope_X9_needWithin rfl rfl rfl (by decide +kernel) ⟨Nat.le_of_ble_eq_true rfl, Nat.le_of_ble_eq_true rfl⟩) hK (mA_mono hS.1) hP hS rfl hl.1 rfl (lv_room (Nat.le_of_ble_eq_true rfl)) dX9_setEnvelope_36 ⟨Nat.le_of_ble_eq_true rfl, Nat.le_of_ble_eq_true rfl⟩ (fun H locs hP hS _ _ => ?_)
  refine lv_aload_n hx hb dX9_setEnvelope_39 rfl (lv_at hl 0 rfl) ?_
  refine g_get (ci := 9) (C := RX9) (T := TX9) (N := 4) (v := .ref (a 1)) hx hb hts iX9_setEnvelope_X9 hown hK hP (by decide) rfl rfl 0 (by decide) rfl (by decide +kernel) rfl dX9_setEnvelope_40 ?_
  refine lv_iload_n hx hb dX9_setEnvelope_43 rfl (lv_at hl 1 rfl) ?_
  refine g_cVr (As := [.int p1]) (rest := []) ⟨hx, hb, hml, hown, hts⟩ (c_X5_instrumentOf l G cA a ha S L H.size p1  ) (cwV 1 hts gX9_setEnvelope_X5_instrumentOf rfl rfl rfl (by decide +kernel) ⟨Nat.le_of_ble_eq_true rfl, Nat.le_of_ble_eq_true rfl⟩) (g_recv hK hP (by decide) cM_S (C := RX5) (T := TX5) (N := 7) rfl) hK (mA_mono hS.1) hP hS rfl hl.1 rfl (lv_room (Nat.le_of_ble_eq_true rfl)) dX9_setEnvelope_44 ⟨Nat.le_of_ble_eq_true rfl, Nat.le_of_ble_eq_true rfl⟩ (fun H locs hP hS _ _ => ?_)
  refine lv_astore (lv' := [(6, .ref (a (rX5_instrumentOf p1))), (0, .ref (a 0)), (1, .int p1), (2, .int p2), (3, .int p3), (4, .int p4), (5, .int p5)]) hx hb dX9_setEnvelope_47 hl (by decide) rfl (fun ls hl => ?_)
  refine lv_aload hx hb dX9_setEnvelope_49 (lv_at hl 0 rfl) ?_
  refine g_get (ci := 1) (C := RX1) (T := TX1) (N := 12) (v := .int (S (rX5_instrumentOf p1) 6)) hx hb hts iX9_setEnvelope_X1 hown hK hP (lt_I (k_X5_instrumentOf )) (cM_I (k_X5_instrumentOf )) rfl 6 (by decide) rfl (by decide +kernel) rfl dX9_setEnvelope_51 ?_
  refine lv_istore (lv' := [(7, .int (S (rX5_instrumentOf p1) 6)), (6, .ref (a (rX5_instrumentOf p1))), (0, .ref (a 0)), (1, .int p1), (2, .int p2), (3, .int p3), (4, .int p4), (5, .int p5)]) hx hb dX9_setEnvelope_54 hl (by decide) rfl (fun ls hl => ?_)
  refine lv_aload hx hb dX9_setEnvelope_56 (lv_at hl 1 rfl) ?_
  refine lv_iload_n hx hb dX9_setEnvelope_58 rfl (lv_at hl 4 rfl) ?_
  refine g_put (ci := 1) (C := RX1) (T := TX1) (N := 12) (ty := .int) hx hb hts iX9_setEnvelope_X1 tyX1 tyX1_ok nmX1 hown hK ha mA_in hP hS (lt_I (k_X5_instrumentOf )) (cM_I (k_X5_instrumentOf )) rfl 4 (by decide) rfl (by decide +kernel) rfl (by decide +kernel) rfl rfl (Nat.le_of_ble_eq_true rfl) (cM_I_set (k_X5_instrumentOf ) (by decide)) dX9_setEnvelope_59 (fun H locs hP hS => ?_)
  refine lv_aload hx hb dX9_setEnvelope_62 (lv_at hl 1 rfl) ?_
  refine lv_iload_n hx hb dX9_setEnvelope_64 rfl (lv_at hl 5 rfl) ?_
  refine g_put (ci := 1) (C := RX1) (T := TX1) (N := 12) (ty := .int) hx hb hts iX9_setEnvelope_X1 tyX1 tyX1_ok nmX1 hown hK ha mA_in hP hS (lt_I (k_X5_instrumentOf )) (cM_I (k_X5_instrumentOf )) rfl 5 (by decide) rfl (by decide +kernel) rfl (by decide +kernel) rfl rfl (Nat.le_of_ble_eq_true rfl) (cM_I_set (k_X5_instrumentOf ) (by decide)) dX9_setEnvelope_65 (fun H locs hP hS => ?_)
  refine lv_aload hx hb dX9_setEnvelope_68 (lv_at hl 1 rfl) ?_
  refine lv_iload hx hb dX9_setEnvelope_70 (lv_at hl 6 rfl) ?_
  refine g_put (ci := 1) (C := RX1) (T := TX1) (N := 12) (ty := .int) hx hb hts iX9_setEnvelope_X1 tyX1 tyX1_ok nmX1 hown hK ha mA_in hP hS (lt_I (k_X5_instrumentOf )) (cM_I (k_X5_instrumentOf )) rfl 6 (by decide) rfl (by decide +kernel) rfl (by decide +kernel) rfl rfl (Nat.le_of_ble_eq_true rfl) (cM_I_set (k_X5_instrumentOf ) (by decide)) dX9_setEnvelope_72 (fun H locs hP hS => ?_)
  have hP : va_P G vwCl (wG 37 a (cM a cA) (mX9_setEnvelope_1 S p1 p2 p3 p4 p5) L) H := hP
  refine lv_aload hx hb dX9_setEnvelope_75 (lv_at hl 1 rfl) ?_
  refine lv_iload hx hb dX9_setEnvelope_77 (lv_at hl 7 rfl) ?_
  refine g_put (ci := 1) (C := RX1) (T := TX1) (N := 12) (ty := .int) hx hb hts iX9_setEnvelope_X1 tyX1 tyX1_ok nmX1 hown hK ha mA_in hP hS (lt_I (k_X5_instrumentOf )) (cM_I (k_X5_instrumentOf )) rfl 7 (by decide) rfl (by decide +kernel) rfl (by decide +kernel) rfl rfl (Nat.le_of_ble_eq_true rfl) (cM_I_set (k_X5_instrumentOf ) (by decide)) dX9_setEnvelope_79 (fun H locs hP hS => ?_)
  refine lv_iload hx hb dX9_setEnvelope_82 (lv_at hl 0 rfl) ?_
  exact g_iret hx hb hr hlocks (by unfold rX9_setEnvelope; rfl) (by unfold fX9_setEnvelope; rfl) rfl hP hS dX9_setEnvelope_84

def rX9_setFilter (S : Mm) (p1 : Int32) (p2 : Int32) (p3 : Int32) : Int32 := S (rX5_instrumentOf p1) 8
def fX9_setFilter (S : Mm) (p1 : Int32) (p2 : Int32) (p3 : Int32) : Mm := up2 (up2 S (rX5_instrumentOf p1) 8 p2) (rX5_instrumentOf p1) 9 p3
theorem iX9_setFilter_X1 : ∀ w ∈ u_ws RX1 TX1 12, w ∈ wsX9_setFilter := by decide +kernel
theorem iX9_setFilter_X9 : ∀ w ∈ u_ws RX9 TX9 4, w ∈ wsX9_setFilter := by decide +kernel
set_option maxHeartbeats 4000000 in
set_option maxRecDepth 100000 in
theorem c_X9_setFilter (l : Launch) (G : va_G) (cA : ClassId) (a : Nat → Nat) (ha : apart 37 a) (S : Mm) (L : Int64) (sz : Nat) (p1 : Int32) (p2 : Int32) (p3 : Int32)  (hh1 : ¬ p1 < 0) (hh2 : p1 < (4 : Int32)) (hh3 : ¬ p2 < (1 : Int32)) (hh4 : p2 ≤ (128 : Int32)) (hh5 : ¬ p3 < (16 : Int32)) (hh6 : p3 ≤ (256 : Int32)) : Met l yX9_setFilter wsX9_setFilter ({ frames := 1, cells := 0, slots := 0, locals := 22 } : Room) (va_Pc [.ref (a 0), .int p1, .int p2, .int p3] (gI G cA (a 37) 37 a (cM a cA) S L sz)) (gQi (rX9_setFilter S p1 p2 p3) G 37 a (cM a cA) (fX9_setFilter S p1 p2 p3) L sz) 0 0 (mA 37 a sz) := by
  refine g_met (cc := cX9_setFilter) (maxL := 6) (ret := (some .int)) (by decide) rfl (Nat.le_of_ble_eq_true rfl) ?_
  intro p e s m below meth c ls hx hb hr hlocks hml hts hown hnm hsz hK hP hS hl
  subst hsz
  have hl : lv_has ls 6 [(0, .ref (a 0)), (1, .int p1), (2, .int p2), (3, .int p3)] := hl
  refine lv_iload_n hx hb dX9_setFilter_0 rfl (lv_at hl 1 rfl) ?_
  refine lv_iconst (v := 4) hx hb dX9_setFilter_1 (by decide) ?_
  refine g_cSv (As := [.int p1, .int 4]) (rest := []) ⟨hx, hb, hml, hown, hts⟩ (c_X9_needPlace l G cA a ha S L s.heap.size p1 (4 : Int32)  hh1 hh2) (va_cwS 2 hts gX9_setFilter_X9_needPlace rfl rfl rfl (by decide +kernel) ⟨Nat.le_of_ble_eq_true rfl, Nat.le_of_ble_eq_true rfl⟩) hK (mA_mono hS.1) hP hS rfl hl.1 rfl (lv_room (Nat.le_of_ble_eq_true rfl)) dX9_setFilter_2 ⟨Nat.le_of_ble_eq_true rfl, Nat.le_of_ble_eq_true rfl⟩ (fun H locs hP hS _ _ => ?_)
  refine lv_iload_n hx hb dX9_setFilter_5 rfl (lv_at hl 2 rfl) ?_
  refine lv_iconst (v := 1) hx hb dX9_setFilter_6 (by decide) ?_
  refine lv_sipush (v := 128) hx hb dX9_setFilter_7 (by decide) ?_
  refine g_cSv (As := [.int p2, .int 1, .int 128]) (rest := []) ⟨hx, hb, hml, hown, hts⟩ (c_X9_needWithin l G cA a ha S L H.size p2 (1 : Int32) (128 : Int32)  hh3 hh4) (va_cwS 3 hts gX9_setFilter_X9_needWithin rfl rfl rfl (by decide +kernel) ⟨Nat.le_of_ble_eq_true rfl, Nat.le_of_ble_eq_true rfl⟩) hK (mA_mono hS.1) hP hS rfl hl.1 rfl (lv_room (Nat.le_of_ble_eq_true rfl)) dX9_setFilter_10 ⟨Nat.le_of_ble_eq_true rfl, Nat.le_of_ble_eq_true rfl⟩ (fun H locs hP hS _ _ => ?_)
  refine lv_iload_n hx hb dX9_setFilter_13 rfl (lv_at hl 3 rfl) ?_
  refine lv_bipush (v := 16) hx hb dX9_setFilter_14 (by decide) ?_
  refine lv_sipush (v := 256) hx hb dX9_setFilter_16 (by decide) ?_
  refine g_cSv (As := [.int p3, .int 16, .int 256]) (rest := []) ⟨hx, hb, hml, hown, hts⟩ (c_X9_needWithin l G cA a ha S L H.size p3 (16 : Int32) (256 : Int32)  hh5 hh6) (va_cwS 3 hts gX9_setFilter_X9_needWithin rfl rfl rfl (by decide +kernel) ⟨Nat.le_of_ble_eq_true rfl, Nat.le_of_ble_eq_true rfl⟩) hK (mA_mono hS.1) hP hS rfl hl.1 rfl (lv_room (Nat.le_of_ble_eq_true rfl)) dX9_setFilter_19 ⟨Nat.le_of_ble_eq_true rfl, Nat.le_of_ble_eq_true rfl⟩ (fun H locs hP hS _ _ => ?_)
  refine lv_aload_n hx hb dX9_setFilter_22 rfl (lv_at hl 0 rfl) ?_
  refine g_get (ci := 9) (C := RX9) (T := TX9) (N := 4) (v := .ref (a 1)) hx hb hts iX9_setFilter_X9 hown hK hP (by decide) rfl rfl 0 (by decide) rfl (by decide +kernel) rfl dX9_setFilter_23 ?_
  refine lv_iload_n hx hb dX9_setFilter_26 rfl (lv_at hl 1 rfl) ?_
  refine g_cVr (As := [.int p1]) (rest := []) ⟨hx, hb, hml, hown, hts⟩ (c_X5_instrumentOf l G cA a ha S L H.size p1  ) (cwV 1 hts gX9_setFilter_X5_instrumentOf rfl rfl rfl (by decide +kernel) ⟨Nat.le_of_ble_eq_true rfl, Nat.le_of_ble_eq_true rfl⟩) (g_recv hK hP (by decide) cM_S (C := RX5) (T := TX5) (N := 7) rfl) hK (mA_mono hS.1) hP hS rfl hl.1 rfl (lv_room (Nat.le_of_ble_eq_true rfl)) dX9_setFilter_27 ⟨Nat.le_of_ble_eq_true rfl, Nat.le_of_ble_eq_true rfl⟩ (fun H locs hP hS _ _ => ?_)
  refine lv_astore (lv' := [(4, .ref (a (rX5_instrumentOf p1))), (0, .ref (a 0)), (1, .int p1), (2, .int p2), (3, .int p3)]) hx hb dX9_setFilter_30 hl (by decide) rfl (fun ls hl => ?_)
  refine lv_aload hx hb dX9_setFilter_32 (lv_at hl 0 rfl) ?_
  refine g_get (ci := 1) (C := RX1) (T := TX1) (N := 12) (v := .int (S (rX5_instrumentOf p1) 8)) hx hb hts iX9_setFilter_X1 hown hK hP (lt_I (k_X5_instrumentOf )) (cM_I (k_X5_instrumentOf )) rfl 8 (by decide) rfl (by decide +kernel) rfl dX9_setFilter_34 ?_
  refine lv_istore (lv' := [(5, .int (S (rX5_instrumentOf p1) 8)), (4, .ref (a (rX5_instrumentOf p1))), (0, .ref (a 0)), (1, .int p1), (2, .int p2), (3, .int p3)]) hx hb dX9_setFilter_37 hl (by decide) rfl (fun ls hl => ?_)
  refine lv_aload hx hb dX9_setFilter_39 (lv_at hl 1 rfl) ?_
  refine lv_iload_n hx hb dX9_setFilter_41 rfl (lv_at hl 4 rfl) ?_
  refine g_put (ci := 1) (C := RX1) (T := TX1) (N := 12) (ty := .int) hx hb hts iX9_setFilter_X1 tyX1 tyX1_ok nmX1 hown hK ha mA_in hP hS (lt_I (k_X5_instrumentOf )) (cM_I (k_X5_instrumentOf )) rfl 8 (by decide) rfl (by decide +kernel) rfl (by decide +kernel) rfl rfl (Nat.le_of_ble_eq_true rfl) (cM_I_set (k_X5_instrumentOf ) (by decide)) dX9_setFilter_42 (fun H locs hP hS => ?_)
  refine lv_aload hx hb dX9_setFilter_45 (lv_at hl 1 rfl) ?_
  refine lv_iload_n hx hb dX9_setFilter_47 rfl (lv_at hl 5 rfl) ?_
  refine g_put (ci := 1) (C := RX1) (T := TX1) (N := 12) (ty := .int) hx hb hts iX9_setFilter_X1 tyX1 tyX1_ok nmX1 hown hK ha mA_in hP hS (lt_I (k_X5_instrumentOf )) (cM_I (k_X5_instrumentOf )) rfl 9 (by decide) rfl (by decide +kernel) rfl (by decide +kernel) rfl rfl (Nat.le_of_ble_eq_true rfl) (cM_I_set (k_X5_instrumentOf ) (by decide)) dX9_setFilter_48 (fun H locs hP hS => ?_)
  refine lv_iload hx hb dX9_setFilter_51 (lv_at hl 0 rfl) ?_
  exact g_iret hx hb hr hlocks (by unfold rX9_setFilter; rfl) (by unfold fX9_setFilter; rfl) rfl hP hS dX9_setFilter_53

def rX9_setVibrato (S : Mm) (p1 : Int32) (p2 : Int32) (p3 : Int32) : Int32 := S (rX5_instrumentOf p1) 10
def fX9_setVibrato (S : Mm) (p1 : Int32) (p2 : Int32) (p3 : Int32) : Mm := up2 (up2 S (rX5_instrumentOf p1) 10 p2) (rX5_instrumentOf p1) 11 p3
theorem iX9_setVibrato_X1 : ∀ w ∈ u_ws RX1 TX1 12, w ∈ wsX9_setVibrato := by decide +kernel
theorem iX9_setVibrato_X9 : ∀ w ∈ u_ws RX9 TX9 4, w ∈ wsX9_setVibrato := by decide +kernel
set_option maxHeartbeats 4000000 in
set_option maxRecDepth 100000 in
theorem c_X9_setVibrato (l : Launch) (G : va_G) (cA : ClassId) (a : Nat → Nat) (ha : apart 37 a) (S : Mm) (L : Int64) (sz : Nat) (p1 : Int32) (p2 : Int32) (p3 : Int32)  (hh1 : ¬ p1 < 0) (hh2 : p1 < (4 : Int32)) (hh3 : ¬ p2 < (0 : Int32)) (hh4 : p2 ≤ (64 : Int32)) (hh5 : ¬ p3 < (8 : Int32)) (hh6 : p3 ≤ (255 : Int32)) : Met l yX9_setVibrato wsX9_setVibrato ({ frames := 1, cells := 0, slots := 0, locals := 22 } : Room) (va_Pc [.ref (a 0), .int p1, .int p2, .int p3] (gI G cA (a 37) 37 a (cM a cA) S L sz)) (gQi (rX9_setVibrato S p1 p2 p3) G 37 a (cM a cA) (fX9_setVibrato S p1 p2 p3) L sz) 0 0 (mA 37 a sz) := by
  refine g_met (cc := cX9_setVibrato) (maxL := 6) (ret := (some .int)) (by decide) rfl (Nat.le_of_ble_eq_true rfl) ?_
  intro p e s m below meth c ls hx hb hr hlocks hml hts hown hnm hsz hK hP hS hl
  subst hsz
  have hl : lv_has ls 6 [(0, .ref (a 0)), (1, .int p1), (2, .int p2), (3, .int p3)] := hl
  refine lv_iload_n hx hb dX9_setVibrato_0 rfl (lv_at hl 1 rfl) ?_
  refine lv_iconst (v := 4) hx hb dX9_setVibrato_1 (by decide) ?_
  refine g_cSv (As := [.int p1, .int 4]) (rest := []) ⟨hx, hb, hml, hown, hts⟩ (c_X9_needPlace l G cA a ha S L s.heap.size p1 (4 : Int32)  hh1 hh2) (va_cwS 2 hts gX9_setVibrato_X9_needPlace rfl rfl rfl (by decide +kernel) ⟨Nat.le_of_ble_eq_true rfl, Nat.le_of_ble_eq_true rfl⟩) hK (mA_mono hS.1) hP hS rfl hl.1 rfl (lv_room (Nat.le_of_ble_eq_true rfl)) dX9_setVibrato_2 ⟨Nat.le_of_ble_eq_true rfl, Nat.le_of_ble_eq_true rfl⟩ (fun H locs hP hS _ _ => ?_)
  refine lv_iload_n hx hb dX9_setVibrato_5 rfl (lv_at hl 2 rfl) ?_
  refine lv_iconst (v := 0) hx hb dX9_setVibrato_6 (by decide) ?_
  refine lv_bipush (v := 64) hx hb dX9_setVibrato_7 (by decide) ?_
  refine g_cSv (As := [.int p2, .int 0, .int 64]) (rest := []) ⟨hx, hb, hml, hown, hts⟩ (c_X9_needWithin l G cA a ha S L H.size p2 (0 : Int32) (64 : Int32)  hh3 hh4) (va_cwS 3 hts gX9_setVibrato_X9_needWithin rfl rfl rfl (by decide +kernel) ⟨Nat.le_of_ble_eq_true rfl, Nat.le_of_ble_eq_true rfl⟩) hK (mA_mono hS.1) hP hS rfl hl.1 rfl (lv_room (Nat.le_of_ble_eq_true rfl)) dX9_setVibrato_9 ⟨Nat.le_of_ble_eq_true rfl, Nat.le_of_ble_eq_true rfl⟩ (fun H locs hP hS _ _ => ?_)
  refine lv_iload_n hx hb dX9_setVibrato_12 rfl (lv_at hl 3 rfl) ?_
  refine lv_bipush (v := 8) hx hb dX9_setVibrato_13 (by decide) ?_
  refine lv_sipush (v := 255) hx hb dX9_setVibrato_15 (by decide) ?_
  refine g_cSv (As := [.int p3, .int 8, .int 255]) (rest := []) ⟨hx, hb, hml, hown, hts⟩ (c_X9_needWithin l G cA a ha S L H.size p3 (8 : Int32) (255 : Int32)  hh5 hh6) (va_cwS 3 hts gX9_setVibrato_X9_needWithin rfl rfl rfl (by decide +kernel) ⟨Nat.le_of_ble_eq_true rfl, Nat.le_of_ble_eq_true rfl⟩) hK (mA_mono hS.1) hP hS rfl hl.1 rfl (lv_room (Nat.le_of_ble_eq_true rfl)) dX9_setVibrato_18 ⟨Nat.le_of_ble_eq_true rfl, Nat.le_of_ble_eq_true rfl⟩ (fun H locs hP hS _ _ => ?_)
  refine lv_aload_n hx hb dX9_setVibrato_21 rfl (lv_at hl 0 rfl) ?_
  refine g_get (ci := 9) (C := RX9) (T := TX9) (N := 4) (v := .ref (a 1)) hx hb hts iX9_setVibrato_X9 hown hK hP (by decide) rfl rfl 0 (by decide) rfl (by decide +kernel) rfl dX9_setVibrato_22 ?_
  refine lv_iload_n hx hb dX9_setVibrato_25 rfl (lv_at hl 1 rfl) ?_
  refine g_cVr (As := [.int p1]) (rest := []) ⟨hx, hb, hml, hown, hts⟩ (c_X5_instrumentOf l G cA a ha S L H.size p1  ) (cwV 1 hts gX9_setVibrato_X5_instrumentOf rfl rfl rfl (by decide +kernel) ⟨Nat.le_of_ble_eq_true rfl, Nat.le_of_ble_eq_true rfl⟩) (g_recv hK hP (by decide) cM_S (C := RX5) (T := TX5) (N := 7) rfl) hK (mA_mono hS.1) hP hS rfl hl.1 rfl (lv_room (Nat.le_of_ble_eq_true rfl)) dX9_setVibrato_26 ⟨Nat.le_of_ble_eq_true rfl, Nat.le_of_ble_eq_true rfl⟩ (fun H locs hP hS _ _ => ?_)
  refine lv_astore (lv' := [(4, .ref (a (rX5_instrumentOf p1))), (0, .ref (a 0)), (1, .int p1), (2, .int p2), (3, .int p3)]) hx hb dX9_setVibrato_29 hl (by decide) rfl (fun ls hl => ?_)
  refine lv_aload hx hb dX9_setVibrato_31 (lv_at hl 0 rfl) ?_
  refine g_get (ci := 1) (C := RX1) (T := TX1) (N := 12) (v := .int (S (rX5_instrumentOf p1) 10)) hx hb hts iX9_setVibrato_X1 hown hK hP (lt_I (k_X5_instrumentOf )) (cM_I (k_X5_instrumentOf )) rfl 10 (by decide) rfl (by decide +kernel) rfl dX9_setVibrato_33 ?_
  refine lv_istore (lv' := [(5, .int (S (rX5_instrumentOf p1) 10)), (4, .ref (a (rX5_instrumentOf p1))), (0, .ref (a 0)), (1, .int p1), (2, .int p2), (3, .int p3)]) hx hb dX9_setVibrato_36 hl (by decide) rfl (fun ls hl => ?_)
  refine lv_aload hx hb dX9_setVibrato_38 (lv_at hl 1 rfl) ?_
  refine lv_iload_n hx hb dX9_setVibrato_40 rfl (lv_at hl 4 rfl) ?_
  refine g_put (ci := 1) (C := RX1) (T := TX1) (N := 12) (ty := .int) hx hb hts iX9_setVibrato_X1 tyX1 tyX1_ok nmX1 hown hK ha mA_in hP hS (lt_I (k_X5_instrumentOf )) (cM_I (k_X5_instrumentOf )) rfl 10 (by decide) rfl (by decide +kernel) rfl (by decide +kernel) rfl rfl (Nat.le_of_ble_eq_true rfl) (cM_I_set (k_X5_instrumentOf ) (by decide)) dX9_setVibrato_41 (fun H locs hP hS => ?_)
  refine lv_aload hx hb dX9_setVibrato_44 (lv_at hl 1 rfl) ?_
  refine lv_iload_n hx hb dX9_setVibrato_46 rfl (lv_at hl 5 rfl) ?_
  refine g_put (ci := 1) (C := RX1) (T := TX1) (N := 12) (ty := .int) hx hb hts iX9_setVibrato_X1 tyX1 tyX1_ok nmX1 hown hK ha mA_in hP hS (lt_I (k_X5_instrumentOf )) (cM_I (k_X5_instrumentOf )) rfl 11 (by decide) rfl (by decide +kernel) rfl (by decide +kernel) rfl rfl (Nat.le_of_ble_eq_true rfl) (cM_I_set (k_X5_instrumentOf ) (by decide)) dX9_setVibrato_47 (fun H locs hP hS => ?_)
  refine lv_iload hx hb dX9_setVibrato_50 (lv_at hl 0 rfl) ?_
  exact g_iret hx hb hr hlocks (by unfold rX9_setVibrato; rfl) (by unfold fX9_setVibrato; rfl) rfl hP hS dX9_setVibrato_52

def rX9_setGain (S : Mm) (p1 : Int32) : Int32 := S 1 2
def fX9_setGain (S : Mm) (p1 : Int32) : Mm := up2 S 1 2 p1
theorem iX9_setGain_X5 : ∀ w ∈ u_ws RX5 TX5 7, w ∈ wsX9_setGain := by decide +kernel
theorem iX9_setGain_X9 : ∀ w ∈ u_ws RX9 TX9 4, w ∈ wsX9_setGain := by decide +kernel
set_option maxHeartbeats 4000000 in
set_option maxRecDepth 100000 in
theorem c_X9_setGain (l : Launch) (G : va_G) (cA : ClassId) (a : Nat → Nat) (ha : apart 37 a) (S : Mm) (L : Int64) (sz : Nat) (p1 : Int32)  (hh1 : ¬ p1 < (0 : Int32)) (hh2 : p1 ≤ (256 : Int32)) : Met l yX9_setGain wsX9_setGain ({ frames := 1, cells := 0, slots := 0, locals := 22 } : Room) (va_Pc [.ref (a 0), .int p1] (gI G cA (a 37) 37 a (cM a cA) S L sz)) (gQi (rX9_setGain S p1) G 37 a (cM a cA) (fX9_setGain S p1) L sz) 0 0 (mA 37 a sz) := by
  refine g_met (cc := cX9_setGain) (maxL := 3) (ret := (some .int)) (by decide) rfl (Nat.le_of_ble_eq_true rfl) ?_
  intro p e s m below meth c ls hx hb hr hlocks hml hts hown hnm hsz hK hP hS hl
  subst hsz
  have hl : lv_has ls 3 [(0, .ref (a 0)), (1, .int p1)] := hl
  refine lv_iload_n hx hb dX9_setGain_0 rfl (lv_at hl 1 rfl) ?_
  refine lv_iconst (v := 0) hx hb dX9_setGain_1 (by decide) ?_
  refine lv_sipush (v := 256) hx hb dX9_setGain_2 (by decide) ?_
  refine g_cSv (As := [.int p1, .int 0, .int 256]) (rest := []) ⟨hx, hb, hml, hown, hts⟩ (c_X9_needWithin l G cA a ha S L s.heap.size p1 (0 : Int32) (256 : Int32)  hh1 hh2) (va_cwS 3 hts gX9_setGain_X9_needWithin rfl rfl rfl (by decide +kernel) ⟨Nat.le_of_ble_eq_true rfl, Nat.le_of_ble_eq_true rfl⟩) hK (mA_mono hS.1) hP hS rfl hl.1 rfl (lv_room (Nat.le_of_ble_eq_true rfl)) dX9_setGain_5 ⟨Nat.le_of_ble_eq_true rfl, Nat.le_of_ble_eq_true rfl⟩ (fun H locs hP hS _ _ => ?_)
  refine lv_aload_n hx hb dX9_setGain_8 rfl (lv_at hl 0 rfl) ?_
  refine g_get (ci := 9) (C := RX9) (T := TX9) (N := 4) (v := .ref (a 1)) hx hb hts iX9_setGain_X9 hown hK hP (by decide) rfl rfl 0 (by decide) rfl (by decide +kernel) rfl dX9_setGain_9 ?_
  refine g_get (ci := 5) (C := RX5) (T := TX5) (N := 7) (v := .int (S 1 2)) hx hb hts iX9_setGain_X5 hown hK hP (by decide) cM_S rfl 2 (by decide) rfl (by decide +kernel) rfl dX9_setGain_12 ?_
  refine lv_istore_n (lv' := [(2, .int (S 1 2)), (0, .ref (a 0)), (1, .int p1)]) hx hb dX9_setGain_15 rfl hl (by decide) rfl (fun ls hl => ?_)
  refine lv_aload_n hx hb dX9_setGain_16 rfl (lv_at hl 1 rfl) ?_
  refine g_get (ci := 9) (C := RX9) (T := TX9) (N := 4) (v := .ref (a 1)) hx hb hts iX9_setGain_X9 hown hK hP (by decide) rfl rfl 0 (by decide) rfl (by decide +kernel) rfl dX9_setGain_17 ?_
  refine lv_iload_n hx hb dX9_setGain_20 rfl (lv_at hl 2 rfl) ?_
  refine g_put (ci := 5) (C := RX5) (T := TX5) (N := 7) (ty := .int) hx hb hts iX9_setGain_X5 tyX5 tyX5_ok nmX5 hown hK ha mA_in hP hS (by decide) cM_S rfl 2 (by decide) rfl (by decide +kernel) rfl (by decide +kernel) rfl rfl (Nat.le_of_ble_eq_true rfl) (cM_S_set (by decide)) dX9_setGain_21 (fun H locs hP hS => ?_)
  refine lv_iload_n hx hb dX9_setGain_24 rfl (lv_at hl 0 rfl) ?_
  exact g_iret hx hb hr hlocks (by unfold rX9_setGain; rfl) (by unfold fX9_setGain; rfl) rfl hP hS dX9_setGain_25

def rX9_setDelay (S : Mm) (p1 : Int32) (p2 : Int32) (p3 : Int32) : Int32 := S 19 0
def fX9_setDelay (S : Mm) (p1 : Int32) (p2 : Int32) (p3 : Int32) : Mm := fX0_tell S 19 p1 p2 p3
theorem iX9_setDelay_X0 : ∀ w ∈ u_ws RX0 TX0 5, w ∈ wsX9_setDelay := by decide +kernel
theorem iX9_setDelay_X6 : ∀ w ∈ u_ws RX6 TX6 12, w ∈ wsX9_setDelay := by decide +kernel
theorem iX9_setDelay_X9 : ∀ w ∈ u_ws RX9 TX9 4, w ∈ wsX9_setDelay := by decide +kernel
set_option maxHeartbeats 4000000 in
set_option maxRecDepth 100000 in
theorem c_X9_setDelay (l : Launch) (G : va_G) (cA : ClassId) (a : Nat → Nat) (ha : apart 37 a) (S : Mm) (L : Int64) (sz : Nat) (p1 : Int32) (p2 : Int32) (p3 : Int32)  (hh1 : ¬ p1 < (0 : Int32)) (hh2 : p1 ≤ (200 : Int32)) (hh3 : ¬ p2 < (0 : Int32)) (hh4 : p2 ≤ (256 : Int32)) (hh5 : ¬ p3 < (0 : Int32)) (hh6 : p3 ≤ (256 : Int32)) : Met l yX9_setDelay wsX9_setDelay ({ frames := 2, cells := 0, slots := 0, locals := 45 } : Room) (va_Pc [.ref (a 0), .int p1, .int p2, .int p3] (gI G cA (a 37) 37 a (cM a cA) S L sz)) (gQi (rX9_setDelay S p1 p2 p3) G 37 a (cM a cA) (fX9_setDelay S p1 p2 p3) L sz) 0 0 (mA 37 a sz) := by
  refine g_met (cc := cX9_setDelay) (maxL := 5) (ret := (some .int)) (by decide) rfl (Nat.le_of_ble_eq_true rfl) ?_
  intro p e s m below meth c ls hx hb hr hlocks hml hts hown hnm hsz hK hP hS hl
  subst hsz
  have hl : lv_has ls 5 [(0, .ref (a 0)), (1, .int p1), (2, .int p2), (3, .int p3)] := hl
  refine lv_iload_n hx hb dX9_setDelay_0 rfl (lv_at hl 1 rfl) ?_
  refine lv_iconst (v := 0) hx hb dX9_setDelay_1 (by decide) ?_
  refine lv_sipush (v := 200) hx hb dX9_setDelay_2 (by decide) ?_
  refine g_cSv (As := [.int p1, .int 0, .int 200]) (rest := []) ⟨hx, hb, hml, hown, hts⟩ (c_X9_needWithin l G cA a ha S L s.heap.size p1 (0 : Int32) (200 : Int32)  hh1 hh2) (va_cwS 3 hts gX9_setDelay_X9_needWithin rfl rfl rfl (by decide +kernel) ⟨Nat.le_of_ble_eq_true rfl, Nat.le_of_ble_eq_true rfl⟩) hK (mA_mono hS.1) hP hS rfl hl.1 rfl (lv_room (Nat.le_of_ble_eq_true rfl)) dX9_setDelay_5 ⟨Nat.le_of_ble_eq_true rfl, Nat.le_of_ble_eq_true rfl⟩ (fun H locs hP hS _ _ => ?_)
  refine lv_iload_n hx hb dX9_setDelay_8 rfl (lv_at hl 2 rfl) ?_
  refine lv_iconst (v := 0) hx hb dX9_setDelay_9 (by decide) ?_
  refine lv_sipush (v := 256) hx hb dX9_setDelay_10 (by decide) ?_
  refine g_cSv (As := [.int p2, .int 0, .int 256]) (rest := []) ⟨hx, hb, hml, hown, hts⟩ (c_X9_needWithin l G cA a ha S L H.size p2 (0 : Int32) (256 : Int32)  hh3 hh4) (va_cwS 3 hts gX9_setDelay_X9_needWithin rfl rfl rfl (by decide +kernel) ⟨Nat.le_of_ble_eq_true rfl, Nat.le_of_ble_eq_true rfl⟩) hK (mA_mono hS.1) hP hS rfl hl.1 rfl (lv_room (Nat.le_of_ble_eq_true rfl)) dX9_setDelay_13 ⟨Nat.le_of_ble_eq_true rfl, Nat.le_of_ble_eq_true rfl⟩ (fun H locs hP hS _ _ => ?_)
  refine lv_iload_n hx hb dX9_setDelay_16 rfl (lv_at hl 3 rfl) ?_
  refine lv_iconst (v := 0) hx hb dX9_setDelay_17 (by decide) ?_
  refine lv_sipush (v := 256) hx hb dX9_setDelay_18 (by decide) ?_
  refine g_cSv (As := [.int p3, .int 0, .int 256]) (rest := []) ⟨hx, hb, hml, hown, hts⟩ (c_X9_needWithin l G cA a ha S L H.size p3 (0 : Int32) (256 : Int32)  hh5 hh6) (va_cwS 3 hts gX9_setDelay_X9_needWithin rfl rfl rfl (by decide +kernel) ⟨Nat.le_of_ble_eq_true rfl, Nat.le_of_ble_eq_true rfl⟩) hK (mA_mono hS.1) hP hS rfl hl.1 rfl (lv_room (Nat.le_of_ble_eq_true rfl)) dX9_setDelay_21 ⟨Nat.le_of_ble_eq_true rfl, Nat.le_of_ble_eq_true rfl⟩ (fun H locs hP hS _ _ => ?_)
  refine lv_aload_n hx hb dX9_setDelay_24 rfl (lv_at hl 0 rfl) ?_
  refine g_get (ci := 9) (C := RX9) (T := TX9) (N := 4) (v := .ref (a 18)) hx hb hts iX9_setDelay_X9 hown hK hP (by decide) rfl rfl 1 (by decide) rfl (by decide +kernel) rfl dX9_setDelay_25 ?_
  refine g_get (ci := 6) (C := RX6) (T := TX6) (N := 12) (v := .ref (a 19)) hx hb hts iX9_setDelay_X6 hown hK hP (lt_G (by decide)) (cM_G (by decide)) rfl 1 (by decide) rfl (by decide +kernel) rfl dX9_setDelay_28 ?_
  refine g_get (ci := 0) (C := RX0) (T := TX0) (N := 5) (v := .int (S 19 0)) hx hb hts iX9_setDelay_X0 hown hK hP (lt_Dl (isDl_G (by decide))) (cM_Dl (isDl_G (by decide))) rfl 0 (by decide) rfl (by decide +kernel) rfl dX9_setDelay_31 ?_
  refine lv_istore (lv' := [(4, .int (S 19 0)), (0, .ref (a 0)), (1, .int p1), (2, .int p2), (3, .int p3)]) hx hb dX9_setDelay_34 hl (by decide) rfl (fun ls hl => ?_)
  refine lv_aload_n hx hb dX9_setDelay_36 rfl (lv_at hl 1 rfl) ?_
  refine g_get (ci := 9) (C := RX9) (T := TX9) (N := 4) (v := .ref (a 18)) hx hb hts iX9_setDelay_X9 hown hK hP (by decide) rfl rfl 1 (by decide) rfl (by decide +kernel) rfl dX9_setDelay_37 ?_
  refine g_get (ci := 6) (C := RX6) (T := TX6) (N := 12) (v := .ref (a 19)) hx hb hts iX9_setDelay_X6 hown hK hP (lt_G (by decide)) (cM_G (by decide)) rfl 1 (by decide) rfl (by decide +kernel) rfl dX9_setDelay_40 ?_
  refine lv_iload_n hx hb dX9_setDelay_43 rfl (lv_at hl 2 rfl) ?_
  refine lv_iload_n hx hb dX9_setDelay_44 rfl (lv_at hl 3 rfl) ?_
  refine lv_iload_n hx hb dX9_setDelay_45 rfl (lv_at hl 4 rfl) ?_
  refine g_cVv (As := [.int p1, .int p2, .int p3]) (rest := []) ⟨hx, hb, hml, hown, hts⟩ (c_X0_tell l G cA a ha S L H.size 19 p1 p2 p3 (isDl_G (by decide)) ) (cwV 3 hts gX9_setDelay_X0_tell rfl rfl rfl (by decide +kernel) ⟨Nat.le_of_ble_eq_true rfl, Nat.le_of_ble_eq_true rfl⟩) (g_recv hK hP (lt_Dl (isDl_G (by decide))) (cM_Dl (isDl_G (by decide))) (C := RX0) (T := TX0) (N := 5) rfl) hK (mA_mono hS.1) hP hS rfl hl.1 rfl (lv_room (Nat.le_of_ble_eq_true rfl)) dX9_setDelay_46 ⟨Nat.le_of_ble_eq_true rfl, Nat.le_of_ble_eq_true rfl⟩ (fun H locs hP hS _ _ => ?_)
  refine lv_iload hx hb dX9_setDelay_49 (lv_at hl 0 rfl) ?_
  exact g_iret hx hb hr hlocks (by unfold rX9_setDelay; rfl) (by unfold fX9_setDelay; rfl) rfl hP hS dX9_setDelay_51

def rX9_begin (S : Mm) (p1 : Int32) (p2 : Int32) (p3 : Int32) : Int32 := rX6_startNote S 18 p1 p2 p3 ((-1) : Int32)
def fX9_begin (S : Mm) (p1 : Int32) (p2 : Int32) (p3 : Int32) : Mm := fX6_startNote S 18 p1 p2 p3 ((-1) : Int32)
theorem iX9_begin_X9 : ∀ w ∈ u_ws RX9 TX9 4, w ∈ wsX9_begin := by decide +kernel
set_option maxHeartbeats 4000000 in
set_option maxRecDepth 100000 in
theorem c_X9_begin (l : Launch) (G : va_G) (cA : ClassId) (a : Nat → Nat) (ha : apart 37 a) (S : Mm) (L : Int64) (sz : Nat) (p1 : Int32) (p2 : Int32) (p3 : Int32)  (hh1 : ¬ p1 < 0) (hh2 : p1 < (4 : Int32)) (hh3 : ¬ p2 < (0 : Int32)) (hh4 : p2 ≤ (47 : Int32)) (hh5 : ¬ p3 < (1 : Int32)) (hh6 : p3 ≤ (127 : Int32)) : Met l yX9_begin wsX9_begin ({ frames := 4, cells := 0, slots := 0, locals := 91 } : Room) (va_Pc [.ref (a 0), .int p1, .int p2, .int p3] (gI G cA (a 37) 37 a (cM a cA) S L sz)) (gQi (rX9_begin S p1 p2 p3) G 37 a (cM a cA) (fX9_begin S p1 p2 p3) L sz) 0 0 (mA 37 a sz) := by
  refine g_met (cc := cX9_begin) (maxL := 4) (ret := (some .int)) (by decide) rfl (Nat.le_of_ble_eq_true rfl) ?_
  intro p e s m below meth c ls hx hb hr hlocks hml hts hown hnm hsz hK hP hS hl
  subst hsz
  have hl : lv_has ls 4 [(0, .ref (a 0)), (1, .int p1), (2, .int p2), (3, .int p3)] := hl
  refine lv_iload_n hx hb dX9_begin_0 rfl (lv_at hl 1 rfl) ?_
  refine lv_iconst (v := 4) hx hb dX9_begin_1 (by decide) ?_
  refine g_cSv (As := [.int p1, .int 4]) (rest := []) ⟨hx, hb, hml, hown, hts⟩ (c_X9_needPlace l G cA a ha S L s.heap.size p1 (4 : Int32)  hh1 hh2) (va_cwS 2 hts gX9_begin_X9_needPlace rfl rfl rfl (by decide +kernel) ⟨Nat.le_of_ble_eq_true rfl, Nat.le_of_ble_eq_true rfl⟩) hK (mA_mono hS.1) hP hS rfl hl.1 rfl (lv_room (Nat.le_of_ble_eq_true rfl)) dX9_begin_2 ⟨Nat.le_of_ble_eq_true rfl, Nat.le_of_ble_eq_true rfl⟩ (fun H locs hP hS _ _ => ?_)
  refine lv_iload_n hx hb dX9_begin_5 rfl (lv_at hl 2 rfl) ?_
  refine lv_iconst (v := 0) hx hb dX9_begin_6 (by decide) ?_
  refine lv_bipush (v := 47) hx hb dX9_begin_7 (by decide) ?_
  refine g_cSv (As := [.int p2, .int 0, .int 47]) (rest := []) ⟨hx, hb, hml, hown, hts⟩ (c_X9_needWithin l G cA a ha S L H.size p2 (0 : Int32) (47 : Int32)  hh3 hh4) (va_cwS 3 hts gX9_begin_X9_needWithin rfl rfl rfl (by decide +kernel) ⟨Nat.le_of_ble_eq_true rfl, Nat.le_of_ble_eq_true rfl⟩) hK (mA_mono hS.1) hP hS rfl hl.1 rfl (lv_room (Nat.le_of_ble_eq_true rfl)) dX9_begin_9 ⟨Nat.le_of_ble_eq_true rfl, Nat.le_of_ble_eq_true rfl⟩ (fun H locs hP hS _ _ => ?_)
  refine lv_iload_n hx hb dX9_begin_12 rfl (lv_at hl 3 rfl) ?_
  refine lv_iconst (v := 1) hx hb dX9_begin_13 (by decide) ?_
  refine lv_bipush (v := 127) hx hb dX9_begin_14 (by decide) ?_
  refine g_cSv (As := [.int p3, .int 1, .int 127]) (rest := []) ⟨hx, hb, hml, hown, hts⟩ (c_X9_needWithin l G cA a ha S L H.size p3 (1 : Int32) (127 : Int32)  hh5 hh6) (va_cwS 3 hts gX9_begin_X9_needWithin rfl rfl rfl (by decide +kernel) ⟨Nat.le_of_ble_eq_true rfl, Nat.le_of_ble_eq_true rfl⟩) hK (mA_mono hS.1) hP hS rfl hl.1 rfl (lv_room (Nat.le_of_ble_eq_true rfl)) dX9_begin_16 ⟨Nat.le_of_ble_eq_true rfl, Nat.le_of_ble_eq_true rfl⟩ (fun H locs hP hS _ _ => ?_)
  refine lv_aload_n hx hb dX9_begin_19 rfl (lv_at hl 0 rfl) ?_
  refine g_get (ci := 9) (C := RX9) (T := TX9) (N := 4) (v := .ref (a 18)) hx hb hts iX9_begin_X9 hown hK hP (by decide) rfl rfl 1 (by decide) rfl (by decide +kernel) rfl dX9_begin_20 ?_
  refine lv_iload_n hx hb dX9_begin_23 rfl (lv_at hl 1 rfl) ?_
  refine lv_iload_n hx hb dX9_begin_24 rfl (lv_at hl 2 rfl) ?_
  refine lv_iload_n hx hb dX9_begin_25 rfl (lv_at hl 3 rfl) ?_
  refine lv_iconst (v := (-1)) hx hb dX9_begin_26 (by decide) ?_
  refine g_cVi (As := [.int p1, .int p2, .int p3, .int (-1)]) (rest := []) ⟨hx, hb, hml, hown, hts⟩ (c_X6_startNote l G cA a ha S L H.size 18 p1 p2 p3 ((-1) : Int32) (by decide) ) (cwV 4 hts gX9_begin_X6_startNote rfl rfl rfl (by decide +kernel) ⟨Nat.le_of_ble_eq_true rfl, Nat.le_of_ble_eq_true rfl⟩) (g_recv hK hP (lt_G (by decide)) (cM_G (by decide)) (C := RX6) (T := TX6) (N := 12) rfl) hK (mA_mono hS.1) hP hS rfl hl.1 rfl (lv_room (Nat.le_of_ble_eq_true rfl)) dX9_begin_27 ⟨Nat.le_of_ble_eq_true rfl, Nat.le_of_ble_eq_true rfl⟩ (fun H locs hP hS _ _ => ?_)
  exact g_iret hx hb hr hlocks (by unfold rX9_begin; rfl) (by unfold fX9_begin; rfl) rfl hP hS dX9_begin_30

def rX9_end (S : Mm) (p1 : Int32) : Int32 := S (rX6_voiceOf 18 p1) 0
def fX9_end (S : Mm) (p1 : Int32) : Mm := fX7_release S (rX6_voiceOf 18 p1)
theorem iX9_end_X7 : ∀ w ∈ u_ws RX7 TX7 11, w ∈ wsX9_end := by decide +kernel
theorem iX9_end_X9 : ∀ w ∈ u_ws RX9 TX9 4, w ∈ wsX9_end := by decide +kernel
set_option maxHeartbeats 4000000 in
set_option maxRecDepth 100000 in
theorem c_X9_end (l : Launch) (G : va_G) (cA : ClassId) (a : Nat → Nat) (ha : apart 37 a) (S : Mm) (L : Int64) (sz : Nat) (p1 : Int32)  (hh1 : ¬ p1 < 0) (hh2 : p1 < (4 : Int32)) : Met l yX9_end wsX9_end ({ frames := 1, cells := 0, slots := 0, locals := 21 } : Room) (va_Pc [.ref (a 0), .int p1] (gI G cA (a 37) 37 a (cM a cA) S L sz)) (gQi (rX9_end S p1) G 37 a (cM a cA) (fX9_end S p1) L sz) 0 0 (mA 37 a sz) := by
  refine g_met (cc := cX9_end) (maxL := 4) (ret := (some .int)) (by decide) rfl (Nat.le_of_ble_eq_true rfl) ?_
  intro p e s m below meth c ls hx hb hr hlocks hml hts hown hnm hsz hK hP hS hl
  subst hsz
  have hl : lv_has ls 4 [(0, .ref (a 0)), (1, .int p1)] := hl
  refine lv_iload_n hx hb dX9_end_0 rfl (lv_at hl 1 rfl) ?_
  refine lv_iconst (v := 4) hx hb dX9_end_1 (by decide) ?_
  refine g_cSv (As := [.int p1, .int 4]) (rest := []) ⟨hx, hb, hml, hown, hts⟩ (c_X9_needPlace l G cA a ha S L s.heap.size p1 (4 : Int32)  hh1 hh2) (va_cwS 2 hts gX9_end_X9_needPlace rfl rfl rfl (by decide +kernel) ⟨Nat.le_of_ble_eq_true rfl, Nat.le_of_ble_eq_true rfl⟩) hK (mA_mono hS.1) hP hS rfl hl.1 rfl (lv_room (Nat.le_of_ble_eq_true rfl)) dX9_end_2 ⟨Nat.le_of_ble_eq_true rfl, Nat.le_of_ble_eq_true rfl⟩ (fun H locs hP hS _ _ => ?_)
  refine lv_aload_n hx hb dX9_end_5 rfl (lv_at hl 0 rfl) ?_
  refine g_get (ci := 9) (C := RX9) (T := TX9) (N := 4) (v := .ref (a 18)) hx hb hts iX9_end_X9 hown hK hP (by decide) rfl rfl 1 (by decide) rfl (by decide +kernel) rfl dX9_end_6 ?_
  refine lv_iload_n hx hb dX9_end_9 rfl (lv_at hl 1 rfl) ?_
  refine g_cVr (As := [.int p1]) (rest := []) ⟨hx, hb, hml, hown, hts⟩ (c_X6_voiceOf l G cA a ha S L H.size 18 p1 (by decide) ) (cwV 1 hts gX9_end_X6_voiceOf rfl rfl rfl (by decide +kernel) ⟨Nat.le_of_ble_eq_true rfl, Nat.le_of_ble_eq_true rfl⟩) (g_recv hK hP (lt_G (by decide)) (cM_G (by decide)) (C := RX6) (T := TX6) (N := 12) rfl) hK (mA_mono hS.1) hP hS rfl hl.1 rfl (lv_room (Nat.le_of_ble_eq_true rfl)) dX9_end_10 ⟨Nat.le_of_ble_eq_true rfl, Nat.le_of_ble_eq_true rfl⟩ (fun H locs hP hS _ _ => ?_)
  refine lv_astore_n (lv' := [(2, .ref (a (rX6_voiceOf 18 p1))), (0, .ref (a 0)), (1, .int p1)]) hx hb dX9_end_13 rfl hl (by decide) rfl (fun ls hl => ?_)
  refine lv_aload_n hx hb dX9_end_14 rfl (lv_at hl 0 rfl) ?_
  refine g_get (ci := 7) (C := RX7) (T := TX7) (N := 11) (v := .int (S (rX6_voiceOf 18 p1) 0)) hx hb hts iX9_end_X7 hown hK hP (lt_V (k_X6_voiceOf (by decide))) (cM_V (k_X6_voiceOf (by decide))) rfl 0 (by decide) rfl (by decide +kernel) rfl dX9_end_15 ?_
  refine lv_istore_n (lv' := [(3, .int (S (rX6_voiceOf 18 p1) 0)), (2, .ref (a (rX6_voiceOf 18 p1))), (0, .ref (a 0)), (1, .int p1)]) hx hb dX9_end_18 rfl hl (by decide) rfl (fun ls hl => ?_)
  refine lv_aload_n hx hb dX9_end_19 rfl (lv_at hl 1 rfl) ?_
  refine g_cVv (As := []) (rest := []) ⟨hx, hb, hml, hown, hts⟩ (c_X7_release l G cA a ha S L H.size (rX6_voiceOf 18 p1) (k_X6_voiceOf (by decide)) ) (cwV 0 hts gX9_end_X7_release rfl rfl rfl (by decide +kernel) ⟨Nat.le_of_ble_eq_true rfl, Nat.le_of_ble_eq_true rfl⟩) (g_recv hK hP (lt_V (k_X6_voiceOf (by decide))) (cM_V (k_X6_voiceOf (by decide))) (C := RX7) (T := TX7) (N := 11) rfl) hK (mA_mono hS.1) hP hS rfl hl.1 rfl (lv_room (Nat.le_of_ble_eq_true rfl)) dX9_end_20 ⟨Nat.le_of_ble_eq_true rfl, Nat.le_of_ble_eq_true rfl⟩ (fun H locs hP hS _ _ => ?_)
  refine lv_iload_n hx hb dX9_end_23 rfl (lv_at hl 0 rfl) ?_
  exact g_iret hx hb hr hlocks (by unfold rX9_end; rfl) (by unfold fX9_end; rfl) rfl hP hS dX9_end_24

def rX9_write (S : Mm) (p1 : Int32) (p2 : Int32) (p3 : Int32) (p4 : Int32) (p5 : Int32) : Int32 := rX4_pitchOf S p1 p2
def fX9_write (S : Mm) (p1 : Int32) (p2 : Int32) (p3 : Int32) (p4 : Int32) (p5 : Int32) : Mm := (if p3 = (-1) then fX4_note S p1 p2 ((-1) : Int32) (0 : Int32) (0 : Int32) else fX4_note S p1 p2 p3 p4 p5)
theorem iX9_write_X5 : ∀ w ∈ u_ws RX5 TX5 7, w ∈ wsX9_write := by decide +kernel
theorem iX9_write_X9 : ∀ w ∈ u_ws RX9 TX9 4, w ∈ wsX9_write := by decide +kernel
set_option maxHeartbeats 4000000 in
set_option maxRecDepth 100000 in
theorem c_X9_write (l : Launch) (G : va_G) (cA : ClassId) (a : Nat → Nat) (ha : apart 37 a) (S : Mm) (L : Int64) (sz : Nat) (p1 : Int32) (p2 : Int32) (p3 : Int32) (p4 : Int32) (p5 : Int32)  (hh1 : ¬ p1 < 0) (hh2 : p1 < (3 : Int32)) (hh3 : ¬ p2 < 0) (hh4 : p2 < (8 : Int32)) (hh5 : ¬ p3 < ((-1) : Int32)) (hh6 : p3 ≤ (47 : Int32)) (hh7 : ¬ (p3 = (-1)) → ¬ p4 < (1 : Int32)) (hh8 : ¬ (p3 = (-1)) → p4 ≤ (127 : Int32)) (hh9 : ¬ (p3 = (-1)) → ¬ p5 < (1 : Int32)) (hh10 : ¬ (p3 = (-1)) → p5 ≤ (200 : Int32)) : Met l yX9_write wsX9_write ({ frames := 2, cells := 0, slots := 0, locals := 48 } : Room) (va_Pc [.ref (a 0), .int p1, .int p2, .int p3, .int p4, .int p5] (gI G cA (a 37) 37 a (cM a cA) S L sz)) (gQi (rX9_write S p1 p2 p3 p4 p5) G 37 a (cM a cA) (fX9_write S p1 p2 p3 p4 p5) L sz) 0 0 (mA 37 a sz) := by
  refine g_met (cc := cX9_write) (maxL := 7) (ret := (some .int)) (by decide) rfl (Nat.le_of_ble_eq_true rfl) ?_
  intro p e s m below meth c ls hx hb hr hlocks hml hts hown hnm hsz hK hP hS hl
  subst hsz
  have hl : lv_has ls 7 [(0, .ref (a 0)), (1, .int p1), (2, .int p2), (3, .int p3), (4, .int p4), (5, .int p5)] := hl
  refine lv_iload_n hx hb dX9_write_0 rfl (lv_at hl 1 rfl) ?_
  refine lv_iconst (v := 3) hx hb dX9_write_1 (by decide) ?_
  refine g_cSv (As := [.int p1, .int 3]) (rest := []) ⟨hx, hb, hml, hown, hts⟩ (c_X9_needPlace l G cA a ha S L s.heap.size p1 (3 : Int32)  hh1 hh2) (va_cwS 2 hts gX9_write_X9_needPlace rfl rfl rfl (by decide +kernel) ⟨Nat.le_of_ble_eq_true rfl, Nat.le_of_ble_eq_true rfl⟩) hK (mA_mono hS.1) hP hS rfl hl.1 rfl (lv_room (Nat.le_of_ble_eq_true rfl)) dX9_write_2 ⟨Nat.le_of_ble_eq_true rfl, Nat.le_of_ble_eq_true rfl⟩ (fun H locs hP hS _ _ => ?_)
  refine lv_iload_n hx hb dX9_write_5 rfl (lv_at hl 2 rfl) ?_
  refine lv_bipush (v := 8) hx hb dX9_write_6 (by decide) ?_
  refine g_cSv (As := [.int p2, .int 8]) (rest := []) ⟨hx, hb, hml, hown, hts⟩ (c_X9_needPlace l G cA a ha S L H.size p2 (8 : Int32)  hh3 hh4) (va_cwS 2 hts gX9_write_X9_needPlace rfl rfl rfl (by decide +kernel) ⟨Nat.le_of_ble_eq_true rfl, Nat.le_of_ble_eq_true rfl⟩) hK (mA_mono hS.1) hP hS rfl hl.1 rfl (lv_room (Nat.le_of_ble_eq_true rfl)) dX9_write_8 ⟨Nat.le_of_ble_eq_true rfl, Nat.le_of_ble_eq_true rfl⟩ (fun H locs hP hS _ _ => ?_)
  refine lv_iload_n hx hb dX9_write_11 rfl (lv_at hl 3 rfl) ?_
  refine lv_iconst (v := (-1)) hx hb dX9_write_12 (by decide) ?_
  refine lv_bipush (v := 47) hx hb dX9_write_13 (by decide) ?_
  refine g_cSv (As := [.int p3, .int (-1), .int 47]) (rest := []) ⟨hx, hb, hml, hown, hts⟩ (c_X9_needWithin l G cA a ha S L H.size p3 ((-1) : Int32) (47 : Int32)  hh5 hh6) (va_cwS 3 hts gX9_write_X9_needWithin rfl rfl rfl (by decide +kernel) ⟨Nat.le_of_ble_eq_true rfl, Nat.le_of_ble_eq_true rfl⟩) hK (mA_mono hS.1) hP hS rfl hl.1 rfl (lv_room (Nat.le_of_ble_eq_true rfl)) dX9_write_15 ⟨Nat.le_of_ble_eq_true rfl, Nat.le_of_ble_eq_true rfl⟩ (fun H locs hP hS _ _ => ?_)
  refine lv_iload_n hx hb dX9_write_18 rfl (lv_at hl 3 rfl) ?_
  refine lv_iconst (v := (-1)) hx hb dX9_write_19 (by decide) ?_
  have hj2 : ∀  (H : Heap) (locs : List Loc) (ls : Array Slot), va_P G vwCl (wG 37 a (cM a cA) S L) H → va_S (mA 37 a s.heap.size) s.heap H locs → lv_has ls 7 [(0, .ref (a 0)), (1, .int p1), (2, .int p2), (3, .int p3), (4, .int p4), (5, .int p5)] → W p l e ({ frames := 2, cells := 0, slots := 0, locals := 48 } : Room) s m ([.ref (a 0), .int p1, .int p2, .int p3, .int p4, .int p5] : List Value).toArray below meth c H locs 0 0 (MQ below (gQi (rX9_write S p1 p2 p3 p4 p5) G 37 a (cM a cA) (fX9_write S p1 p2 p3 p4 p5) L s.heap.size) ([.ref (a 0), .int p1, .int p2, .int p3, .int p4, .int p5] : List Value).toArray s 0 0 (mA 37 a s.heap.size)) (F0 m 40 ls []) := by
    intro  H locs ls  hP hS hl
    refine lv_aload_n hx hb dX9_write_40 rfl (lv_at hl 0 rfl) ?_
    refine g_get (ci := 9) (C := RX9) (T := TX9) (N := 4) (v := .ref (a 1)) hx hb hts iX9_write_X9 hown hK hP (by decide) rfl rfl 0 (by decide) rfl (by decide +kernel) rfl dX9_write_41 ?_
    refine g_get (ci := 5) (C := RX5) (T := TX5) (N := 7) (v := .ref (a 5)) hx hb hts iX9_write_X5 hown hK hP (by decide) cM_S rfl 1 (by decide) rfl (by decide +kernel) rfl dX9_write_44 ?_
    refine lv_iload_n hx hb dX9_write_47 rfl (lv_at hl 1 rfl) ?_
    refine lv_iload_n hx hb dX9_write_48 rfl (lv_at hl 2 rfl) ?_
    refine g_cVi (As := [.int p1, .int p2]) (rest := []) ⟨hx, hb, hml, hown, hts⟩ (c_X4_pitchOf l G cA a ha S L H.size p1 p2  ) (cwV 2 hts gX9_write_X4_pitchOf rfl rfl rfl (by decide +kernel) ⟨Nat.le_of_ble_eq_true rfl, Nat.le_of_ble_eq_true rfl⟩) (g_recv hK hP (by decide) cM_C (C := RX4) (T := TX4) (N := 6) rfl) hK (mA_mono hS.1) hP hS rfl hl.1 rfl (lv_room (Nat.le_of_ble_eq_true rfl)) dX9_write_49 ⟨Nat.le_of_ble_eq_true rfl, Nat.le_of_ble_eq_true rfl⟩ (fun H locs hP hS _ _ => ?_)
    refine lv_istore (lv' := [(6, .int (rX4_pitchOf S p1 p2)), (0, .ref (a 0)), (1, .int p1), (2, .int p2), (3, .int p3), (4, .int p4), (5, .int p5)]) hx hb dX9_write_52 hl (by decide) rfl (fun ls hl => ?_)
    refine lv_iload_n hx hb dX9_write_54 rfl (lv_at hl 4 rfl) ?_
    refine lv_iconst (v := (-1)) hx hb dX9_write_55 (by decide) ?_
    refine lv_icmp_ne (tgt := 77) hx hb dX9_write_56 (by decide) (fun c3 => ?_) (fun c3 => ?_)
    ·
      refine lv_aload_n hx hb dX9_write_77 rfl (lv_at hl 1 rfl) ?_
      refine g_get (ci := 9) (C := RX9) (T := TX9) (N := 4) (v := .ref (a 1)) hx hb hts iX9_write_X9 hown hK hP (by decide) rfl rfl 0 (by decide) rfl (by decide +kernel) rfl dX9_write_78 ?_
      refine g_get (ci := 5) (C := RX5) (T := TX5) (N := 7) (v := .ref (a 5)) hx hb hts iX9_write_X5 hown hK hP (by decide) cM_S rfl 1 (by decide) rfl (by decide +kernel) rfl dX9_write_81 ?_
      refine lv_iload_n hx hb dX9_write_84 rfl (lv_at hl 2 rfl) ?_
      refine lv_iload_n hx hb dX9_write_85 rfl (lv_at hl 3 rfl) ?_
      refine lv_iload_n hx hb dX9_write_86 rfl (lv_at hl 4 rfl) ?_
      refine lv_iload hx hb dX9_write_87 (lv_at hl 5 rfl) ?_
      refine lv_iload hx hb dX9_write_89 (lv_at hl 6 rfl) ?_
      refine g_cVv (As := [.int p1, .int p2, .int p3, .int p4, .int p5]) (rest := []) ⟨hx, hb, hml, hown, hts⟩ (c_X4_note l G cA a ha S L H.size p1 p2 p3 p4 p5  ) (cwV 5 hts gX9_write_X4_note rfl rfl rfl (by decide +kernel) ⟨Nat.le_of_ble_eq_true rfl, Nat.le_of_ble_eq_true rfl⟩) (g_recv hK hP (by decide) cM_C (C := RX4) (T := TX4) (N := 6) rfl) hK (mA_mono hS.1) hP hS rfl hl.1 rfl (lv_room (Nat.le_of_ble_eq_true rfl)) dX9_write_91 ⟨Nat.le_of_ble_eq_true rfl, Nat.le_of_ble_eq_true rfl⟩ (fun H locs hP hS _ _ => ?_)
      refine lv_iload hx hb dX9_write_94 (lv_at hl 0 rfl) ?_
      exact g_iret hx hb hr hlocks (by unfold rX9_write; rfl) (by unfold fX9_write; rw [if_neg c3]) rfl hP hS dX9_write_96
    ·
      refine lv_aload_n hx hb dX9_write_59 rfl (lv_at hl 1 rfl) ?_
      refine g_get (ci := 9) (C := RX9) (T := TX9) (N := 4) (v := .ref (a 1)) hx hb hts iX9_write_X9 hown hK hP (by decide) rfl rfl 0 (by decide) rfl (by decide +kernel) rfl dX9_write_60 ?_
      refine g_get (ci := 5) (C := RX5) (T := TX5) (N := 7) (v := .ref (a 5)) hx hb hts iX9_write_X5 hown hK hP (by decide) cM_S rfl 1 (by decide) rfl (by decide +kernel) rfl dX9_write_63 ?_
      refine lv_iload_n hx hb dX9_write_66 rfl (lv_at hl 2 rfl) ?_
      refine lv_iload_n hx hb dX9_write_67 rfl (lv_at hl 3 rfl) ?_
      refine lv_iconst (v := (-1)) hx hb dX9_write_68 (by decide) ?_
      refine lv_iconst (v := 0) hx hb dX9_write_69 (by decide) ?_
      refine lv_iconst (v := 0) hx hb dX9_write_70 (by decide) ?_
      refine g_cVv (As := [.int p1, .int p2, .int (-1), .int 0, .int 0]) (rest := []) ⟨hx, hb, hml, hown, hts⟩ (c_X4_note l G cA a ha S L H.size p1 p2 ((-1) : Int32) (0 : Int32) (0 : Int32)  ) (cwV 5 hts gX9_write_X4_note rfl rfl rfl (by decide +kernel) ⟨Nat.le_of_ble_eq_true rfl, Nat.le_of_ble_eq_true rfl⟩) (g_recv hK hP (by decide) cM_C (C := RX4) (T := TX4) (N := 6) rfl) hK (mA_mono hS.1) hP hS rfl hl.1 rfl (lv_room (Nat.le_of_ble_eq_true rfl)) dX9_write_71 ⟨Nat.le_of_ble_eq_true rfl, Nat.le_of_ble_eq_true rfl⟩ (fun H locs hP hS _ _ => ?_)
      refine lv_goto (tgt := 94) hx hb dX9_write_74 (by decide) ?_
      refine lv_iload hx hb dX9_write_94 (lv_at hl 0 rfl) ?_
      exact g_iret hx hb hr hlocks (by unfold rX9_write; rfl) (by unfold fX9_write; rw [if_pos c3]) rfl hP hS dX9_write_96
  refine lv_icmp_eq (tgt := 40) hx hb dX9_write_20 (by decide) (fun c1 => ?_) (fun c1 => ?_)
  ·
    exact hj2  _ _ _  hP hS (lv_sub hl [0, 1, 2, 3, 4, 5] rfl)
  ·
    refine lv_iload hx hb dX9_write_23 (lv_at hl 4 rfl) ?_
    refine lv_iconst (v := 1) hx hb dX9_write_25 (by decide) ?_
    refine lv_bipush (v := 127) hx hb dX9_write_26 (by decide) ?_
    refine g_cSv (As := [.int p4, .int 1, .int 127]) (rest := []) ⟨hx, hb, hml, hown, hts⟩ (c_X9_needWithin l G cA a ha S L H.size p4 (1 : Int32) (127 : Int32)  (hh7 c1) (hh8 c1)) (va_cwS 3 hts gX9_write_X9_needWithin rfl rfl rfl (by decide +kernel) ⟨Nat.le_of_ble_eq_true rfl, Nat.le_of_ble_eq_true rfl⟩) hK (mA_mono hS.1) hP hS rfl hl.1 rfl (lv_room (Nat.le_of_ble_eq_true rfl)) dX9_write_28 ⟨Nat.le_of_ble_eq_true rfl, Nat.le_of_ble_eq_true rfl⟩ (fun H locs hP hS _ _ => ?_)
    refine lv_iload hx hb dX9_write_31 (lv_at hl 5 rfl) ?_
    refine lv_iconst (v := 1) hx hb dX9_write_33 (by decide) ?_
    refine lv_sipush (v := 200) hx hb dX9_write_34 (by decide) ?_
    refine g_cSv (As := [.int p5, .int 1, .int 200]) (rest := []) ⟨hx, hb, hml, hown, hts⟩ (c_X9_needWithin l G cA a ha S L H.size p5 (1 : Int32) (200 : Int32)  (hh9 c1) (hh10 c1)) (va_cwS 3 hts gX9_write_X9_needWithin rfl rfl rfl (by decide +kernel) ⟨Nat.le_of_ble_eq_true rfl, Nat.le_of_ble_eq_true rfl⟩) hK (mA_mono hS.1) hP hS rfl hl.1 rfl (lv_room (Nat.le_of_ble_eq_true rfl)) dX9_write_37 ⟨Nat.le_of_ble_eq_true rfl, Nat.le_of_ble_eq_true rfl⟩ (fun H locs hP hS _ _ => ?_)
    exact hj2  _ _ _  hP hS (lv_sub hl [0, 1, 2, 3, 4, 5] rfl)

def rX9_setTempo (S : Mm) (p1 : Int32) (p2 : Int32) : Int32 := S 5 4
def fX9_setTempo (S : Mm) (p1 : Int32) (p2 : Int32) : Mm := up2 (up2 S 5 4 p1) 5 5 p2
theorem iX9_setTempo_X4 : ∀ w ∈ u_ws RX4 TX4 6, w ∈ wsX9_setTempo := by decide +kernel
theorem iX9_setTempo_X5 : ∀ w ∈ u_ws RX5 TX5 7, w ∈ wsX9_setTempo := by decide +kernel
theorem iX9_setTempo_X9 : ∀ w ∈ u_ws RX9 TX9 4, w ∈ wsX9_setTempo := by decide +kernel
set_option maxHeartbeats 4000000 in
set_option maxRecDepth 100000 in
theorem c_X9_setTempo (l : Launch) (G : va_G) (cA : ClassId) (a : Nat → Nat) (ha : apart 37 a) (S : Mm) (L : Int64) (sz : Nat) (p1 : Int32) (p2 : Int32)  (hh1 : ¬ p1 < (1 : Int32)) (hh2 : p1 ≤ (200 : Int32)) (hh3 : ¬ p2 < (0 : Int32)) (hh4 : p2 ≤ (p1 - 1)) : Met l yX9_setTempo wsX9_setTempo ({ frames := 1, cells := 0, slots := 0, locals := 22 } : Room) (va_Pc [.ref (a 0), .int p1, .int p2] (gI G cA (a 37) 37 a (cM a cA) S L sz)) (gQi (rX9_setTempo S p1 p2) G 37 a (cM a cA) (fX9_setTempo S p1 p2) L sz) 0 0 (mA 37 a sz) := by
  refine g_met (cc := cX9_setTempo) (maxL := 4) (ret := (some .int)) (by decide) rfl (Nat.le_of_ble_eq_true rfl) ?_
  intro p e s m below meth c ls hx hb hr hlocks hml hts hown hnm hsz hK hP hS hl
  subst hsz
  have hl : lv_has ls 4 [(0, .ref (a 0)), (1, .int p1), (2, .int p2)] := hl
  refine lv_iload_n hx hb dX9_setTempo_0 rfl (lv_at hl 1 rfl) ?_
  refine lv_iconst (v := 1) hx hb dX9_setTempo_1 (by decide) ?_
  refine lv_sipush (v := 200) hx hb dX9_setTempo_2 (by decide) ?_
  refine g_cSv (As := [.int p1, .int 1, .int 200]) (rest := []) ⟨hx, hb, hml, hown, hts⟩ (c_X9_needWithin l G cA a ha S L s.heap.size p1 (1 : Int32) (200 : Int32)  hh1 hh2) (va_cwS 3 hts gX9_setTempo_X9_needWithin rfl rfl rfl (by decide +kernel) ⟨Nat.le_of_ble_eq_true rfl, Nat.le_of_ble_eq_true rfl⟩) hK (mA_mono hS.1) hP hS rfl hl.1 rfl (lv_room (Nat.le_of_ble_eq_true rfl)) dX9_setTempo_5 ⟨Nat.le_of_ble_eq_true rfl, Nat.le_of_ble_eq_true rfl⟩ (fun H locs hP hS _ _ => ?_)
  refine lv_iload_n hx hb dX9_setTempo_8 rfl (lv_at hl 2 rfl) ?_
  refine lv_iconst (v := 0) hx hb dX9_setTempo_9 (by decide) ?_
  refine lv_iload_n hx hb dX9_setTempo_10 rfl (lv_at hl 1 rfl) ?_
  refine lv_iconst (v := 1) hx hb dX9_setTempo_11 (by decide) ?_
  refine lv_isub hx hb dX9_setTempo_12 ?_
  refine g_cSv (As := [.int p2, .int 0, .int (p1 - 1)]) (rest := []) ⟨hx, hb, hml, hown, hts⟩ (c_X9_needWithin l G cA a ha S L H.size p2 (0 : Int32) (p1 - 1)  hh3 hh4) (va_cwS 3 hts gX9_setTempo_X9_needWithin rfl rfl rfl (by decide +kernel) ⟨Nat.le_of_ble_eq_true rfl, Nat.le_of_ble_eq_true rfl⟩) hK (mA_mono hS.1) hP hS rfl hl.1 rfl (lv_room (Nat.le_of_ble_eq_true rfl)) dX9_setTempo_13 ⟨Nat.le_of_ble_eq_true rfl, Nat.le_of_ble_eq_true rfl⟩ (fun H locs hP hS _ _ => ?_)
  refine lv_aload_n hx hb dX9_setTempo_16 rfl (lv_at hl 0 rfl) ?_
  refine g_get (ci := 9) (C := RX9) (T := TX9) (N := 4) (v := .ref (a 1)) hx hb hts iX9_setTempo_X9 hown hK hP (by decide) rfl rfl 0 (by decide) rfl (by decide +kernel) rfl dX9_setTempo_17 ?_
  refine g_get (ci := 5) (C := RX5) (T := TX5) (N := 7) (v := .ref (a 5)) hx hb hts iX9_setTempo_X5 hown hK hP (by decide) cM_S rfl 1 (by decide) rfl (by decide +kernel) rfl dX9_setTempo_20 ?_
  refine g_get (ci := 4) (C := RX4) (T := TX4) (N := 6) (v := .int (S 5 4)) hx hb hts iX9_setTempo_X4 hown hK hP (by decide) cM_C rfl 4 (by decide) rfl (by decide +kernel) rfl dX9_setTempo_23 ?_
  refine lv_istore_n (lv' := [(3, .int (S 5 4)), (0, .ref (a 0)), (1, .int p1), (2, .int p2)]) hx hb dX9_setTempo_26 rfl hl (by decide) rfl (fun ls hl => ?_)
  refine lv_aload_n hx hb dX9_setTempo_27 rfl (lv_at hl 1 rfl) ?_
  refine g_get (ci := 9) (C := RX9) (T := TX9) (N := 4) (v := .ref (a 1)) hx hb hts iX9_setTempo_X9 hown hK hP (by decide) rfl rfl 0 (by decide) rfl (by decide +kernel) rfl dX9_setTempo_28 ?_
  refine g_get (ci := 5) (C := RX5) (T := TX5) (N := 7) (v := .ref (a 5)) hx hb hts iX9_setTempo_X5 hown hK hP (by decide) cM_S rfl 1 (by decide) rfl (by decide +kernel) rfl dX9_setTempo_31 ?_
  refine lv_iload_n hx hb dX9_setTempo_34 rfl (lv_at hl 2 rfl) ?_
  refine g_put (ci := 4) (C := RX4) (T := TX4) (N := 6) (ty := .int) hx hb hts iX9_setTempo_X4 tyX4 tyX4_ok nmX4 hown hK ha mA_in hP hS (by decide) cM_C rfl 4 (by decide) rfl (by decide +kernel) rfl (by decide +kernel) rfl rfl (Nat.le_of_ble_eq_true rfl) (cM_C_set (by decide)) dX9_setTempo_35 (fun H locs hP hS => ?_)
  refine lv_aload_n hx hb dX9_setTempo_38 rfl (lv_at hl 1 rfl) ?_
  refine g_get (ci := 9) (C := RX9) (T := TX9) (N := 4) (v := .ref (a 1)) hx hb hts iX9_setTempo_X9 hown hK hP (by decide) rfl rfl 0 (by decide) rfl (by decide +kernel) rfl dX9_setTempo_39 ?_
  refine g_get (ci := 5) (C := RX5) (T := TX5) (N := 7) (v := .ref (a 5)) hx hb hts iX9_setTempo_X5 hown hK hP (by decide) cM_S rfl 1 (by decide) rfl (by decide +kernel) rfl dX9_setTempo_42 ?_
  refine lv_iload_n hx hb dX9_setTempo_45 rfl (lv_at hl 3 rfl) ?_
  refine g_put (ci := 4) (C := RX4) (T := TX4) (N := 6) (ty := .int) hx hb hts iX9_setTempo_X4 tyX4 tyX4_ok nmX4 hown hK ha mA_in hP hS (by decide) cM_C rfl 5 (by decide) rfl (by decide +kernel) rfl (by decide +kernel) rfl rfl (Nat.le_of_ble_eq_true rfl) (cM_C_set (by decide)) dX9_setTempo_46 (fun H locs hP hS => ?_)
  refine lv_iload_n hx hb dX9_setTempo_49 rfl (lv_at hl 0 rfl) ?_
  exact g_iret hx hb hr hlocks (by unfold rX9_setTempo; rfl) (by unfold fX9_setTempo; rfl) rfl hP hS dX9_setTempo_50

def rX9_play (S : Mm) (p1 : Int32) : Int32 := S 18 9
def fX9_play (S : Mm) (p1 : Int32) : Mm := up2 (up2 (up2 S 18 9 1) 18 10 p1) 18 11 0
theorem iX9_play_X6 : ∀ w ∈ u_ws RX6 TX6 12, w ∈ wsX9_play := by decide +kernel
theorem iX9_play_X9 : ∀ w ∈ u_ws RX9 TX9 4, w ∈ wsX9_play := by decide +kernel
set_option maxHeartbeats 4000000 in
set_option maxRecDepth 100000 in
theorem c_X9_play (l : Launch) (G : va_G) (cA : ClassId) (a : Nat → Nat) (ha : apart 37 a) (S : Mm) (L : Int64) (sz : Nat) (p1 : Int32)  (hbn : narrow .boolean (.int (S 18 9)) = .int (S 18 9)) (hh1 : ¬ p1 < 0) (hh2 : p1 < (8 : Int32)) : Met l yX9_play wsX9_play ({ frames := 1, cells := 0, slots := 0, locals := 21 } : Room) (va_Pc [.ref (a 0), .int p1] (gI G cA (a 37) 37 a (cM a cA) S L sz)) (gQi (rX9_play S p1) G 37 a (cM a cA) (fX9_play S p1) L sz) 0 0 (mA 37 a sz) := by
  refine g_met (cc := cX9_play) (maxL := 3) (ret := (some .boolean)) (by decide) rfl (Nat.le_of_ble_eq_true rfl) ?_
  intro p e s m below meth c ls hx hb hr hlocks hml hts hown hnm hsz hK hP hS hl
  subst hsz
  have hl : lv_has ls 3 [(0, .ref (a 0)), (1, .int p1)] := hl
  refine lv_iload_n hx hb dX9_play_0 rfl (lv_at hl 1 rfl) ?_
  refine lv_bipush (v := 8) hx hb dX9_play_1 (by decide) ?_
  refine g_cSv (As := [.int p1, .int 8]) (rest := []) ⟨hx, hb, hml, hown, hts⟩ (c_X9_needPlace l G cA a ha S L s.heap.size p1 (8 : Int32)  hh1 hh2) (va_cwS 2 hts gX9_play_X9_needPlace rfl rfl rfl (by decide +kernel) ⟨Nat.le_of_ble_eq_true rfl, Nat.le_of_ble_eq_true rfl⟩) hK (mA_mono hS.1) hP hS rfl hl.1 rfl (lv_room (Nat.le_of_ble_eq_true rfl)) dX9_play_3 ⟨Nat.le_of_ble_eq_true rfl, Nat.le_of_ble_eq_true rfl⟩ (fun H locs hP hS _ _ => ?_)
  refine lv_aload_n hx hb dX9_play_6 rfl (lv_at hl 0 rfl) ?_
  refine g_get (ci := 9) (C := RX9) (T := TX9) (N := 4) (v := .ref (a 18)) hx hb hts iX9_play_X9 hown hK hP (by decide) rfl rfl 1 (by decide) rfl (by decide +kernel) rfl dX9_play_7 ?_
  refine g_get (ci := 6) (C := RX6) (T := TX6) (N := 12) (v := .int (S 18 9)) hx hb hts iX9_play_X6 hown hK hP (lt_G (by decide)) (cM_G (by decide)) rfl 9 (by decide) rfl (by decide +kernel) rfl dX9_play_10 ?_
  refine lv_istore_n (lv' := [(2, .int (S 18 9)), (0, .ref (a 0)), (1, .int p1)]) hx hb dX9_play_13 rfl hl (by decide) rfl (fun ls hl => ?_)
  refine lv_aload_n hx hb dX9_play_14 rfl (lv_at hl 1 rfl) ?_
  refine g_get (ci := 9) (C := RX9) (T := TX9) (N := 4) (v := .ref (a 18)) hx hb hts iX9_play_X9 hown hK hP (by decide) rfl rfl 1 (by decide) rfl (by decide +kernel) rfl dX9_play_15 ?_
  refine lv_iconst (v := 1) hx hb dX9_play_18 (by decide) ?_
  refine g_put (ci := 6) (C := RX6) (T := TX6) (N := 12) (ty := .boolean) hx hb hts iX9_play_X6 tyX6 tyX6_ok nmX6 hown hK ha mA_in hP hS (lt_G (by decide)) (cM_G (by decide)) rfl 9 (by decide) rfl (by decide +kernel) rfl (by decide +kernel) rfl rfl (Nat.le_of_ble_eq_true rfl) (cM_G_set (by decide) (by decide)) dX9_play_19 (fun H locs hP hS => ?_)
  refine lv_aload_n hx hb dX9_play_22 rfl (lv_at hl 1 rfl) ?_
  refine g_get (ci := 9) (C := RX9) (T := TX9) (N := 4) (v := .ref (a 18)) hx hb hts iX9_play_X9 hown hK hP (by decide) rfl rfl 1 (by decide) rfl (by decide +kernel) rfl dX9_play_23 ?_
  refine lv_iload_n hx hb dX9_play_26 rfl (lv_at hl 2 rfl) ?_
  refine g_put (ci := 6) (C := RX6) (T := TX6) (N := 12) (ty := .int) hx hb hts iX9_play_X6 tyX6 tyX6_ok nmX6 hown hK ha mA_in hP hS (lt_G (by decide)) (cM_G (by decide)) rfl 10 (by decide) rfl (by decide +kernel) rfl (by decide +kernel) rfl rfl (Nat.le_of_ble_eq_true rfl) (cM_G_set (by decide) (by decide)) dX9_play_27 (fun H locs hP hS => ?_)
  refine lv_aload_n hx hb dX9_play_30 rfl (lv_at hl 1 rfl) ?_
  refine g_get (ci := 9) (C := RX9) (T := TX9) (N := 4) (v := .ref (a 18)) hx hb hts iX9_play_X9 hown hK hP (by decide) rfl rfl 1 (by decide) rfl (by decide +kernel) rfl dX9_play_31 ?_
  refine lv_iconst (v := 0) hx hb dX9_play_34 (by decide) ?_
  refine g_put (ci := 6) (C := RX6) (T := TX6) (N := 12) (ty := .int) hx hb hts iX9_play_X6 tyX6 tyX6_ok nmX6 hown hK ha mA_in hP hS (lt_G (by decide)) (cM_G (by decide)) rfl 11 (by decide) rfl (by decide +kernel) rfl (by decide +kernel) rfl rfl (Nat.le_of_ble_eq_true rfl) (cM_G_set (by decide) (by decide)) dX9_play_35 (fun H locs hP hS => ?_)
  refine lv_iload_n hx hb dX9_play_38 rfl (lv_at hl 0 rfl) ?_
  exact g_zret hx hb hr hlocks hbn (by unfold rX9_play; rfl) (by unfold fX9_play; rfl) rfl hP hS dX9_play_39

def bX9_run_12_zS (S : Mm) (L : Int64) (p1 : Int32) (zS : Mm) (z2 : Int32) (zL : Int64) (i : Nat) : Mm := fX2_count (fX6_advance zS 18) zL (rX6_advance zS 18)
def bX9_run_12_z2 (S : Mm) (L : Int64) (p1 : Int32) (zS : Mm) (z2 : Int32) (zL : Int64) (i : Nat) : Int32 := rX2_count (fX6_advance zS 18) zL (rX6_advance zS 18)
def bX9_run_12_zL (S : Mm) (L : Int64) (p1 : Int32) (zS : Mm) (z2 : Int32) (zL : Int64) (i : Nat) : Int64 := lX2_count (fX6_advance zS 18) zL (rX6_advance zS 18)
def lpX9_run_12 (S : Mm) (L : Int64) (p1 : Int32) : Nat → Mm × Int32 × Int64
  | 0 => (S, 0, L)
  | i + 1 => (bX9_run_12_zS S L p1 (lpX9_run_12 S L p1 i).1 (lpX9_run_12 S L p1 i).2.1 (lpX9_run_12 S L p1 i).2.2 i, bX9_run_12_z2 S L p1 (lpX9_run_12 S L p1 i).1 (lpX9_run_12 S L p1 i).2.1 (lpX9_run_12 S L p1 i).2.2 i, bX9_run_12_zL S L p1 (lpX9_run_12 S L p1 i).1 (lpX9_run_12 S L p1 i).2.1 (lpX9_run_12 S L p1 i).2.2 i)
theorem lpX9_run_12_0 (S : Mm) (L : Int64) (p1 : Int32) : lpX9_run_12 S L p1 0 = (S, 0, L) := by rw [lpX9_run_12]
theorem lpX9_run_12_s (S : Mm) (L : Int64) (p1 : Int32) (i : Nat) : lpX9_run_12 S L p1 (i + 1) = (bX9_run_12_zS S L p1 (lpX9_run_12 S L p1 i).1 (lpX9_run_12 S L p1 i).2.1 (lpX9_run_12 S L p1 i).2.2 i, bX9_run_12_z2 S L p1 (lpX9_run_12 S L p1 i).1 (lpX9_run_12 S L p1 i).2.1 (lpX9_run_12 S L p1 i).2.2 i, bX9_run_12_zL S L p1 (lpX9_run_12 S L p1 i).1 (lpX9_run_12 S L p1 i).2.1 (lpX9_run_12 S L p1 i).2.2 i) := by rw [lpX9_run_12]
def rX9_run (S : Mm) (L : Int64) (p1 : Int32) : Int32 := (lpX9_run_12 S L p1 (p1.toNatClampNeg)).2.1
def fX9_run (S : Mm) (L : Int64) (p1 : Int32) : Mm := (lpX9_run_12 S L p1 (p1.toNatClampNeg)).1
def lX9_run (S : Mm) (L : Int64) (p1 : Int32) : Int64 := (lpX9_run_12 S L p1 (p1.toNatClampNeg)).2.2
theorem iX9_run_X9 : ∀ w ∈ u_ws RX9 TX9 4, w ∈ wsX9_run := by decide +kernel
set_option maxHeartbeats 4000000 in
set_option maxRecDepth 100000 in
theorem c_X9_run (l : Launch) (G : va_G) (cA : ClassId) (a : Nat → Nat) (ha : apart 37 a) (S : Mm) (L : Int64) (sz : Nat) (p1 : Int32)  (hh1 : ¬ p1 < (1 : Int32)) (hh2 : p1 ≤ (200 : Int32)) : Met l yX9_run wsX9_run ({ frames := 7, cells := 0, slots := 0, locals := 163 } : Room) (va_Pc [.ref (a 0), .int p1] (gI G cA (a 37) 37 a (cM a cA) S L sz)) (gQi (rX9_run S L p1) G 37 a (cM a cA) (fX9_run S L p1) (lX9_run S L p1) sz) 0 0 (mA 37 a sz) := by
  refine g_met (cc := cX9_run) (maxL := 4) (ret := (some .int)) (by decide) rfl (Nat.le_of_ble_eq_true rfl) ?_
  intro p e s m below meth c ls hx hb hr hlocks hml hts hown hnm hsz hK hP hS hl
  subst hsz
  have hl : lv_has ls 4 [(0, .ref (a 0)), (1, .int p1)] := hl
  refine lv_iload_n hx hb dX9_run_0 rfl (lv_at hl 1 rfl) ?_
  refine lv_iconst (v := 1) hx hb dX9_run_1 (by decide) ?_
  refine lv_sipush (v := 200) hx hb dX9_run_2 (by decide) ?_
  refine g_cSv (As := [.int p1, .int 1, .int 200]) (rest := []) ⟨hx, hb, hml, hown, hts⟩ (c_X9_needWithin l G cA a ha S L s.heap.size p1 (1 : Int32) (200 : Int32)  hh1 hh2) (va_cwS 3 hts gX9_run_X9_needWithin rfl rfl rfl (by decide +kernel) ⟨Nat.le_of_ble_eq_true rfl, Nat.le_of_ble_eq_true rfl⟩) hK (mA_mono hS.1) hP hS rfl hl.1 rfl (lv_room (Nat.le_of_ble_eq_true rfl)) dX9_run_5 ⟨Nat.le_of_ble_eq_true rfl, Nat.le_of_ble_eq_true rfl⟩ (fun H locs hP hS _ _ => ?_)
  refine lv_iconst (v := 0) hx hb dX9_run_8 (by decide) ?_
  refine lv_istore_n (lv' := [(2, .int 0), (0, .ref (a 0)), (1, .int p1)]) hx hb dX9_run_9 rfl hl (by decide) rfl (fun ls hl => ?_)
  refine lv_iconst (v := 0) hx hb dX9_run_10 (by decide) ?_
  refine lv_istore_n (lv' := [(3, .int 0), (2, .int 0), (0, .ref (a 0)), (1, .int p1)]) hx hb dX9_run_11 rfl hl (by decide) rfl (fun ls hl => ?_)
  have loop : ∀ (k i : Nat), i ≤ p1.toNatClampNeg → p1.toNatClampNeg < i + k → ∀ (zS : Mm) (z2 : Int32) (zL : Int64) (H : Heap) (locs : List Loc) (ls : Array Slot), zS = (lpX9_run_12 S L p1 i).1 → z2 = (lpX9_run_12 S L p1 i).2.1 → zL = (lpX9_run_12 S L p1 i).2.2 → va_P G vwCl (wG 37 a (cM a cA) zS zL) H → va_S (mA 37 a s.heap.size) s.heap H locs → lv_has ls 4 [(3, .int (nI i)), (2, .int z2), (0, .ref (a 0)), (1, .int p1)] → W p l e ({ frames := 7, cells := 0, slots := 0, locals := 163 } : Room) s m ([.ref (a 0), .int p1] : List Value).toArray below meth c H locs 0 0 (MQ below (gQi (rX9_run S L p1) G 37 a (cM a cA) (fX9_run S L p1) (lX9_run S L p1) s.heap.size) ([.ref (a 0), .int p1] : List Value).toArray s 0 0 (mA 37 a s.heap.size)) (F0 m 12 ls []) := by
    intro k
    induction k with
    | zero => intro i h1 h2; omega
    | succ k ih =>
      intro i hi hk zS z2 zL H locs ls ezS ez2 ezL hP hS hl
      refine lv_iload_n hx hb dX9_run_12 rfl (lv_at hl 0 rfl) ?_
      refine lv_iload_n hx hb dX9_run_13 rfl (lv_at hl 3 rfl) ?_
      refine lv_icmp_ge (tgt := 38) hx hb dX9_run_14 (by decide) (fun cx => ?_) (fun cx => ?_)
      ·
        have hN := lx_exit hi cx
        subst hN
        rw [ezS] at hP
        rw [ez2] at hl
        rw [ezL] at hP
        refine lv_iload_n hx hb dX9_run_38 rfl (lv_at hl 1 rfl) ?_
        exact g_iret hx hb hr hlocks (by unfold rX9_run; rfl) (by unfold fX9_run; rfl) (by unfold lX9_run; rfl) hP hS dX9_run_39
      ·
        have hlt := lx_body cx hi
        refine lv_aload_n hx hb dX9_run_17 rfl (lv_at hl 2 rfl) ?_
        refine g_get (ci := 9) (C := RX9) (T := TX9) (N := 4) (v := .ref (a 34)) hx hb hts iX9_run_X9 hown hK hP (by decide) rfl rfl 3 (by decide) rfl (by decide +kernel) rfl dX9_run_18 ?_
        refine lv_aload_n hx hb dX9_run_21 rfl (lv_at hl 2 rfl) ?_
        refine g_get (ci := 9) (C := RX9) (T := TX9) (N := 4) (v := .ref (a 18)) hx hb hts iX9_run_X9 hown hK hP (by decide) rfl rfl 1 (by decide) rfl (by decide +kernel) rfl dX9_run_22 ?_
        refine g_cVi (As := []) (rest := [.ref (a 34)]) ⟨hx, hb, hml, hown, hts⟩ (c_X6_advance l G cA a ha zS zL H.size 18 (by decide) ) (cwV 0 hts gX9_run_X6_advance rfl rfl rfl (by decide +kernel) ⟨Nat.le_of_ble_eq_true rfl, Nat.le_of_ble_eq_true rfl⟩) (g_recv hK hP (lt_G (by decide)) (cM_G (by decide)) (C := RX6) (T := TX6) (N := 12) rfl) hK (mA_mono hS.1) hP hS rfl hl.1 rfl (lv_room (Nat.le_of_ble_eq_true rfl)) dX9_run_25 ⟨Nat.le_of_ble_eq_true rfl, Nat.le_of_ble_eq_true rfl⟩ (fun H locs hP hS _ _ => ?_)
        refine g_cVi (As := [.int (rX6_advance zS 18)]) (rest := []) ⟨hx, hb, hml, hown, hts⟩ (c_X2_count l G cA a ha (fX6_advance zS 18) zL H.size (rX6_advance zS 18)  ) (cwV 1 hts gX9_run_X2_count rfl rfl rfl (by decide +kernel) ⟨Nat.le_of_ble_eq_true rfl, Nat.le_of_ble_eq_true rfl⟩) (g_recv hK hP (by decide) cM_T (C := RX2) (T := TX2) (N := 8) rfl) hK (mA_mono hS.1) hP hS rfl hl.1 rfl (lv_room (Nat.le_of_ble_eq_true rfl)) dX9_run_28 ⟨Nat.le_of_ble_eq_true rfl, Nat.le_of_ble_eq_true rfl⟩ (fun H locs hP hS _ _ => ?_)
        refine lv_istore_n (lv' := [(2, .int (rX2_count (fX6_advance zS 18) zL (rX6_advance zS 18))), (3, .int (nI i)), (0, .ref (a 0)), (1, .int p1)]) hx hb dX9_run_31 rfl hl (by decide) rfl (fun ls hl => ?_)
        refine lv_iinc (v := nI (i + 1)) (lv' := [(3, .int (nI (i + 1))), (2, .int (rX2_count (fX6_advance zS 18) zL (rX6_advance zS 18))), (0, .ref (a 0)), (1, .int p1)]) hx hb dX9_run_32 hl (k := 1) rfl (nI_1 i) (by decide) rfl (fun ls hl => ?_)
        refine lv_goto (tgt := 12) hx hb dX9_run_35 (by decide) ?_
        exact ih (i + 1) (by omega) (by omega) (fX2_count (fX6_advance zS 18) zL (rX6_advance zS 18)) (rX2_count (fX6_advance zS 18) zL (rX6_advance zS 18)) (lX2_count (fX6_advance zS 18) zL (rX6_advance zS 18)) _ _ _ (by rw [lpX9_run_12_s]; (try rw [← ezS]); (try rw [← ez2]); (try rw [← ezL]); (try dsimp only); unfold bX9_run_12_zS; rfl) (by rw [lpX9_run_12_s]; (try rw [← ezS]); (try rw [← ez2]); (try rw [← ezL]); (try dsimp only); unfold bX9_run_12_z2; rfl) (by rw [lpX9_run_12_s]; (try rw [← ezS]); (try rw [← ez2]); (try rw [← ezL]); (try dsimp only); unfold bX9_run_12_zL; rfl) hP hS (lv_sub hl [0, 1, 2, 3] rfl)
  exact loop (p1.toNatClampNeg + 1) 0 (Nat.zero_le _) (by omega) S 0 L _ _ _ (by rw [lpX9_run_12_0]) (by rw [lpX9_run_12_0]) (by rw [lpX9_run_12_0]) hP hS (lv_sub hl [0, 1, 2, 3] rfl)

def rX9_heard (S : Mm) (p1 : Int32) : Int32 := rX2_latest S p1
theorem iX9_heard_X9 : ∀ w ∈ u_ws RX9 TX9 4, w ∈ wsX9_heard := by decide +kernel
set_option maxHeartbeats 4000000 in
set_option maxRecDepth 100000 in
theorem c_X9_heard (l : Launch) (G : va_G) (cA : ClassId) (a : Nat → Nat) (ha : apart 37 a) (S : Mm) (L : Int64) (sz : Nat) (p1 : Int32)  (hh1 : ¬ p1 < (0 : Int32)) (hh2 : p1 ≤ (63 : Int32)) : Met l yX9_heard wsX9_heard ({ frames := 2, cells := 0, slots := 0, locals := 43 } : Room) (va_Pc [.ref (a 0), .int p1] (gI G cA (a 37) 37 a (cM a cA) S L sz)) (gQi (rX9_heard S p1) G 37 a (cM a cA) S L sz) 0 0 (mA 37 a sz) := by
  refine g_met (cc := cX9_heard) (maxL := 2) (ret := (some .int)) (by decide) rfl (Nat.le_of_ble_eq_true rfl) ?_
  intro p e s m below meth c ls hx hb hr hlocks hml hts hown hnm hsz hK hP hS hl
  subst hsz
  have hl : lv_has ls 2 [(0, .ref (a 0)), (1, .int p1)] := hl
  refine lv_iload_n hx hb dX9_heard_0 rfl (lv_at hl 1 rfl) ?_
  refine lv_iconst (v := 0) hx hb dX9_heard_1 (by decide) ?_
  refine lv_bipush (v := 63) hx hb dX9_heard_2 (by decide) ?_
  refine g_cSv (As := [.int p1, .int 0, .int 63]) (rest := []) ⟨hx, hb, hml, hown, hts⟩ (c_X9_needWithin l G cA a ha S L s.heap.size p1 (0 : Int32) (63 : Int32)  hh1 hh2) (va_cwS 3 hts gX9_heard_X9_needWithin rfl rfl rfl (by decide +kernel) ⟨Nat.le_of_ble_eq_true rfl, Nat.le_of_ble_eq_true rfl⟩) hK (mA_mono hS.1) hP hS rfl hl.1 rfl (lv_room (Nat.le_of_ble_eq_true rfl)) dX9_heard_4 ⟨Nat.le_of_ble_eq_true rfl, Nat.le_of_ble_eq_true rfl⟩ (fun H locs hP hS _ _ => ?_)
  refine lv_aload_n hx hb dX9_heard_7 rfl (lv_at hl 0 rfl) ?_
  refine g_get (ci := 9) (C := RX9) (T := TX9) (N := 4) (v := .ref (a 34)) hx hb hts iX9_heard_X9 hown hK hP (by decide) rfl rfl 3 (by decide) rfl (by decide +kernel) rfl dX9_heard_8 ?_
  refine lv_iload_n hx hb dX9_heard_11 rfl (lv_at hl 1 rfl) ?_
  refine g_cVi (As := [.int p1]) (rest := []) ⟨hx, hb, hml, hown, hts⟩ (c_X2_latest l G cA a ha S L H.size p1  ) (cwV 1 hts gX9_heard_X2_latest rfl rfl rfl (by decide +kernel) ⟨Nat.le_of_ble_eq_true rfl, Nat.le_of_ble_eq_true rfl⟩) (g_recv hK hP (by decide) cM_T (C := RX2) (T := TX2) (N := 8) rfl) hK (mA_mono hS.1) hP hS rfl hl.1 rfl (lv_room (Nat.le_of_ble_eq_true rfl)) dX9_heard_12 ⟨Nat.le_of_ble_eq_true rfl, Nat.le_of_ble_eq_true rfl⟩ (fun H locs hP hS _ _ => ?_)
  exact g_iret hx hb hr hlocks (by unfold rX9_heard; rfl) rfl rfl hP hS dX9_heard_15

def rX9_ofVoice (S : Mm) (p1 : Int32) (p2 : Int32) : Int32 := rX7_fact S (rX6_voiceOf 18 p1) p2
theorem iX9_ofVoice_X9 : ∀ w ∈ u_ws RX9 TX9 4, w ∈ wsX9_ofVoice := by decide +kernel
set_option maxHeartbeats 4000000 in
set_option maxRecDepth 100000 in
theorem c_X9_ofVoice (l : Launch) (G : va_G) (cA : ClassId) (a : Nat → Nat) (ha : apart 37 a) (S : Mm) (L : Int64) (sz : Nat) (p1 : Int32) (p2 : Int32)  (hh1 : ¬ p1 < 0) (hh2 : p1 < (4 : Int32)) (hh3 : ¬ p2 < (0 : Int32)) (hh4 : p2 ≤ (9 : Int32)) : Met l yX9_ofVoice wsX9_ofVoice ({ frames := 1, cells := 0, slots := 0, locals := 22 } : Room) (va_Pc [.ref (a 0), .int p1, .int p2] (gI G cA (a 37) 37 a (cM a cA) S L sz)) (gQi (rX9_ofVoice S p1 p2) G 37 a (cM a cA) S L sz) 0 0 (mA 37 a sz) := by
  refine g_met (cc := cX9_ofVoice) (maxL := 3) (ret := (some .int)) (by decide) rfl (Nat.le_of_ble_eq_true rfl) ?_
  intro p e s m below meth c ls hx hb hr hlocks hml hts hown hnm hsz hK hP hS hl
  subst hsz
  have hl : lv_has ls 3 [(0, .ref (a 0)), (1, .int p1), (2, .int p2)] := hl
  refine lv_iload_n hx hb dX9_ofVoice_0 rfl (lv_at hl 1 rfl) ?_
  refine lv_iconst (v := 4) hx hb dX9_ofVoice_1 (by decide) ?_
  refine g_cSv (As := [.int p1, .int 4]) (rest := []) ⟨hx, hb, hml, hown, hts⟩ (c_X9_needPlace l G cA a ha S L s.heap.size p1 (4 : Int32)  hh1 hh2) (va_cwS 2 hts gX9_ofVoice_X9_needPlace rfl rfl rfl (by decide +kernel) ⟨Nat.le_of_ble_eq_true rfl, Nat.le_of_ble_eq_true rfl⟩) hK (mA_mono hS.1) hP hS rfl hl.1 rfl (lv_room (Nat.le_of_ble_eq_true rfl)) dX9_ofVoice_2 ⟨Nat.le_of_ble_eq_true rfl, Nat.le_of_ble_eq_true rfl⟩ (fun H locs hP hS _ _ => ?_)
  refine lv_iload_n hx hb dX9_ofVoice_5 rfl (lv_at hl 2 rfl) ?_
  refine lv_iconst (v := 0) hx hb dX9_ofVoice_6 (by decide) ?_
  refine lv_bipush (v := 9) hx hb dX9_ofVoice_7 (by decide) ?_
  refine g_cSv (As := [.int p2, .int 0, .int 9]) (rest := []) ⟨hx, hb, hml, hown, hts⟩ (c_X9_needWithin l G cA a ha S L H.size p2 (0 : Int32) (9 : Int32)  hh3 hh4) (va_cwS 3 hts gX9_ofVoice_X9_needWithin rfl rfl rfl (by decide +kernel) ⟨Nat.le_of_ble_eq_true rfl, Nat.le_of_ble_eq_true rfl⟩) hK (mA_mono hS.1) hP hS rfl hl.1 rfl (lv_room (Nat.le_of_ble_eq_true rfl)) dX9_ofVoice_9 ⟨Nat.le_of_ble_eq_true rfl, Nat.le_of_ble_eq_true rfl⟩ (fun H locs hP hS _ _ => ?_)
  refine lv_aload_n hx hb dX9_ofVoice_12 rfl (lv_at hl 0 rfl) ?_
  refine g_get (ci := 9) (C := RX9) (T := TX9) (N := 4) (v := .ref (a 18)) hx hb hts iX9_ofVoice_X9 hown hK hP (by decide) rfl rfl 1 (by decide) rfl (by decide +kernel) rfl dX9_ofVoice_13 ?_
  refine lv_iload_n hx hb dX9_ofVoice_16 rfl (lv_at hl 1 rfl) ?_
  refine g_cVr (As := [.int p1]) (rest := []) ⟨hx, hb, hml, hown, hts⟩ (c_X6_voiceOf l G cA a ha S L H.size 18 p1 (by decide) ) (cwV 1 hts gX9_ofVoice_X6_voiceOf rfl rfl rfl (by decide +kernel) ⟨Nat.le_of_ble_eq_true rfl, Nat.le_of_ble_eq_true rfl⟩) (g_recv hK hP (lt_G (by decide)) (cM_G (by decide)) (C := RX6) (T := TX6) (N := 12) rfl) hK (mA_mono hS.1) hP hS rfl hl.1 rfl (lv_room (Nat.le_of_ble_eq_true rfl)) dX9_ofVoice_17 ⟨Nat.le_of_ble_eq_true rfl, Nat.le_of_ble_eq_true rfl⟩ (fun H locs hP hS _ _ => ?_)
  refine lv_iload_n hx hb dX9_ofVoice_20 rfl (lv_at hl 2 rfl) ?_
  refine g_cVi (As := [.int p2]) (rest := []) ⟨hx, hb, hml, hown, hts⟩ (c_X7_fact l G cA a ha S L H.size (rX6_voiceOf 18 p1) p2 (k_X6_voiceOf (by decide)) ) (cwV 1 hts gX9_ofVoice_X7_fact rfl rfl rfl (by decide +kernel) ⟨Nat.le_of_ble_eq_true rfl, Nat.le_of_ble_eq_true rfl⟩) (g_recv hK hP (lt_V (k_X6_voiceOf (by decide))) (cM_V (k_X6_voiceOf (by decide))) (C := RX7) (T := TX7) (N := 11) rfl) hK (mA_mono hS.1) hP hS rfl hl.1 rfl (lv_room (Nat.le_of_ble_eq_true rfl)) dX9_ofVoice_21 ⟨Nat.le_of_ble_eq_true rfl, Nat.le_of_ble_eq_true rfl⟩ (fun H locs hP hS _ _ => ?_)
  exact g_iret hx hb hr hlocks (by unfold rX9_ofVoice; rfl) rfl rfl hP hS dX9_ofVoice_24

def rX9_ofStep (S : Mm) (p1 : Int32) (p2 : Int32) (p3 : Int32) : Int32 := rX4_fact S p1 p2 p3
theorem iX9_ofStep_X5 : ∀ w ∈ u_ws RX5 TX5 7, w ∈ wsX9_ofStep := by decide +kernel
theorem iX9_ofStep_X9 : ∀ w ∈ u_ws RX9 TX9 4, w ∈ wsX9_ofStep := by decide +kernel
set_option maxHeartbeats 4000000 in
set_option maxRecDepth 100000 in
theorem c_X9_ofStep (l : Launch) (G : va_G) (cA : ClassId) (a : Nat → Nat) (ha : apart 37 a) (S : Mm) (L : Int64) (sz : Nat) (p1 : Int32) (p2 : Int32) (p3 : Int32)  (hh1 : ¬ p1 < 0) (hh2 : p1 < (3 : Int32)) (hh3 : ¬ p2 < 0) (hh4 : p2 < (8 : Int32)) (hh5 : ¬ p3 < (0 : Int32)) (hh6 : p3 ≤ (2 : Int32)) : Met l yX9_ofStep wsX9_ofStep ({ frames := 3, cells := 0, slots := 0, locals := 66 } : Room) (va_Pc [.ref (a 0), .int p1, .int p2, .int p3] (gI G cA (a 37) 37 a (cM a cA) S L sz)) (gQi (rX9_ofStep S p1 p2 p3) G 37 a (cM a cA) S L sz) 0 0 (mA 37 a sz) := by
  refine g_met (cc := cX9_ofStep) (maxL := 4) (ret := (some .int)) (by decide) rfl (Nat.le_of_ble_eq_true rfl) ?_
  intro p e s m below meth c ls hx hb hr hlocks hml hts hown hnm hsz hK hP hS hl
  subst hsz
  have hl : lv_has ls 4 [(0, .ref (a 0)), (1, .int p1), (2, .int p2), (3, .int p3)] := hl
  refine lv_iload_n hx hb dX9_ofStep_0 rfl (lv_at hl 1 rfl) ?_
  refine lv_iconst (v := 3) hx hb dX9_ofStep_1 (by decide) ?_
  refine g_cSv (As := [.int p1, .int 3]) (rest := []) ⟨hx, hb, hml, hown, hts⟩ (c_X9_needPlace l G cA a ha S L s.heap.size p1 (3 : Int32)  hh1 hh2) (va_cwS 2 hts gX9_ofStep_X9_needPlace rfl rfl rfl (by decide +kernel) ⟨Nat.le_of_ble_eq_true rfl, Nat.le_of_ble_eq_true rfl⟩) hK (mA_mono hS.1) hP hS rfl hl.1 rfl (lv_room (Nat.le_of_ble_eq_true rfl)) dX9_ofStep_2 ⟨Nat.le_of_ble_eq_true rfl, Nat.le_of_ble_eq_true rfl⟩ (fun H locs hP hS _ _ => ?_)
  refine lv_iload_n hx hb dX9_ofStep_5 rfl (lv_at hl 2 rfl) ?_
  refine lv_bipush (v := 8) hx hb dX9_ofStep_6 (by decide) ?_
  refine g_cSv (As := [.int p2, .int 8]) (rest := []) ⟨hx, hb, hml, hown, hts⟩ (c_X9_needPlace l G cA a ha S L H.size p2 (8 : Int32)  hh3 hh4) (va_cwS 2 hts gX9_ofStep_X9_needPlace rfl rfl rfl (by decide +kernel) ⟨Nat.le_of_ble_eq_true rfl, Nat.le_of_ble_eq_true rfl⟩) hK (mA_mono hS.1) hP hS rfl hl.1 rfl (lv_room (Nat.le_of_ble_eq_true rfl)) dX9_ofStep_8 ⟨Nat.le_of_ble_eq_true rfl, Nat.le_of_ble_eq_true rfl⟩ (fun H locs hP hS _ _ => ?_)
  refine lv_iload_n hx hb dX9_ofStep_11 rfl (lv_at hl 3 rfl) ?_
  refine lv_iconst (v := 0) hx hb dX9_ofStep_12 (by decide) ?_
  refine lv_iconst (v := 2) hx hb dX9_ofStep_13 (by decide) ?_
  refine g_cSv (As := [.int p3, .int 0, .int 2]) (rest := []) ⟨hx, hb, hml, hown, hts⟩ (c_X9_needWithin l G cA a ha S L H.size p3 (0 : Int32) (2 : Int32)  hh5 hh6) (va_cwS 3 hts gX9_ofStep_X9_needWithin rfl rfl rfl (by decide +kernel) ⟨Nat.le_of_ble_eq_true rfl, Nat.le_of_ble_eq_true rfl⟩) hK (mA_mono hS.1) hP hS rfl hl.1 rfl (lv_room (Nat.le_of_ble_eq_true rfl)) dX9_ofStep_14 ⟨Nat.le_of_ble_eq_true rfl, Nat.le_of_ble_eq_true rfl⟩ (fun H locs hP hS _ _ => ?_)
  refine lv_aload_n hx hb dX9_ofStep_17 rfl (lv_at hl 0 rfl) ?_
  refine g_get (ci := 9) (C := RX9) (T := TX9) (N := 4) (v := .ref (a 1)) hx hb hts iX9_ofStep_X9 hown hK hP (by decide) rfl rfl 0 (by decide) rfl (by decide +kernel) rfl dX9_ofStep_18 ?_
  refine g_get (ci := 5) (C := RX5) (T := TX5) (N := 7) (v := .ref (a 5)) hx hb hts iX9_ofStep_X5 hown hK hP (by decide) cM_S rfl 1 (by decide) rfl (by decide +kernel) rfl dX9_ofStep_21 ?_
  refine lv_iload_n hx hb dX9_ofStep_24 rfl (lv_at hl 1 rfl) ?_
  refine lv_iload_n hx hb dX9_ofStep_25 rfl (lv_at hl 2 rfl) ?_
  refine lv_iload_n hx hb dX9_ofStep_26 rfl (lv_at hl 3 rfl) ?_
  refine g_cVi (As := [.int p1, .int p2, .int p3]) (rest := []) ⟨hx, hb, hml, hown, hts⟩ (c_X4_fact l G cA a ha S L H.size p1 p2 p3  ) (cwV 3 hts gX9_ofStep_X4_fact rfl rfl rfl (by decide +kernel) ⟨Nat.le_of_ble_eq_true rfl, Nat.le_of_ble_eq_true rfl⟩) (g_recv hK hP (by decide) cM_C (C := RX4) (T := TX4) (N := 6) rfl) hK (mA_mono hS.1) hP hS rfl hl.1 rfl (lv_room (Nat.le_of_ble_eq_true rfl)) dX9_ofStep_27 ⟨Nat.le_of_ble_eq_true rfl, Nat.le_of_ble_eq_true rfl⟩ (fun H locs hP hS _ _ => ?_)
  exact g_iret hx hb hr hlocks (by unfold rX9_ofStep; rfl) rfl rfl hP hS dX9_ofStep_30

def rX9_inDelay (S : Mm) (p1 : Int32) : Int32 := rX0_at S 19 p1
theorem iX9_inDelay_X0 : ∀ w ∈ u_ws RX0 TX0 5, w ∈ wsX9_inDelay := by decide +kernel
theorem iX9_inDelay_X6 : ∀ w ∈ u_ws RX6 TX6 12, w ∈ wsX9_inDelay := by decide +kernel
theorem iX9_inDelay_X9 : ∀ w ∈ u_ws RX9 TX9 4, w ∈ wsX9_inDelay := by decide +kernel
set_option maxHeartbeats 4000000 in
set_option maxRecDepth 100000 in
theorem c_X9_inDelay (l : Launch) (G : va_G) (cA : ClassId) (a : Nat → Nat) (ha : apart 37 a) (S : Mm) (L : Int64) (sz : Nat) (p1 : Int32)  (hh1 : ¬ p1 < 0) (hh2 : p1 < (S 19 0)) : Met l yX9_inDelay wsX9_inDelay ({ frames := 2, cells := 0, slots := 0, locals := 43 } : Room) (va_Pc [.ref (a 0), .int p1] (gI G cA (a 37) 37 a (cM a cA) S L sz)) (gQi (rX9_inDelay S p1) G 37 a (cM a cA) S L sz) 0 0 (mA 37 a sz) := by
  refine g_met (cc := cX9_inDelay) (maxL := 2) (ret := (some .int)) (by decide) rfl (Nat.le_of_ble_eq_true rfl) ?_
  intro p e s m below meth c ls hx hb hr hlocks hml hts hown hnm hsz hK hP hS hl
  subst hsz
  have hl : lv_has ls 2 [(0, .ref (a 0)), (1, .int p1)] := hl
  refine lv_iload_n hx hb dX9_inDelay_0 rfl (lv_at hl 1 rfl) ?_
  refine lv_aload_n hx hb dX9_inDelay_1 rfl (lv_at hl 0 rfl) ?_
  refine g_get (ci := 9) (C := RX9) (T := TX9) (N := 4) (v := .ref (a 18)) hx hb hts iX9_inDelay_X9 hown hK hP (by decide) rfl rfl 1 (by decide) rfl (by decide +kernel) rfl dX9_inDelay_2 ?_
  refine g_get (ci := 6) (C := RX6) (T := TX6) (N := 12) (v := .ref (a 19)) hx hb hts iX9_inDelay_X6 hown hK hP (lt_G (by decide)) (cM_G (by decide)) rfl 1 (by decide) rfl (by decide +kernel) rfl dX9_inDelay_5 ?_
  refine g_get (ci := 0) (C := RX0) (T := TX0) (N := 5) (v := .int (S 19 0)) hx hb hts iX9_inDelay_X0 hown hK hP (lt_Dl (isDl_G (by decide))) (cM_Dl (isDl_G (by decide))) rfl 0 (by decide) rfl (by decide +kernel) rfl dX9_inDelay_8 ?_
  refine g_cSv (As := [.int p1, .int (S 19 0)]) (rest := []) ⟨hx, hb, hml, hown, hts⟩ (c_X9_needPlace l G cA a ha S L s.heap.size p1 (S 19 0)  hh1 hh2) (va_cwS 2 hts gX9_inDelay_X9_needPlace rfl rfl rfl (by decide +kernel) ⟨Nat.le_of_ble_eq_true rfl, Nat.le_of_ble_eq_true rfl⟩) hK (mA_mono hS.1) hP hS rfl hl.1 rfl (lv_room (Nat.le_of_ble_eq_true rfl)) dX9_inDelay_11 ⟨Nat.le_of_ble_eq_true rfl, Nat.le_of_ble_eq_true rfl⟩ (fun H locs hP hS _ _ => ?_)
  refine lv_aload_n hx hb dX9_inDelay_14 rfl (lv_at hl 0 rfl) ?_
  refine g_get (ci := 9) (C := RX9) (T := TX9) (N := 4) (v := .ref (a 18)) hx hb hts iX9_inDelay_X9 hown hK hP (by decide) rfl rfl 1 (by decide) rfl (by decide +kernel) rfl dX9_inDelay_15 ?_
  refine g_get (ci := 6) (C := RX6) (T := TX6) (N := 12) (v := .ref (a 19)) hx hb hts iX9_inDelay_X6 hown hK hP (lt_G (by decide)) (cM_G (by decide)) rfl 1 (by decide) rfl (by decide +kernel) rfl dX9_inDelay_18 ?_
  refine lv_iload_n hx hb dX9_inDelay_21 rfl (lv_at hl 1 rfl) ?_
  refine g_cVi (As := [.int p1]) (rest := []) ⟨hx, hb, hml, hown, hts⟩ (c_X0_at l G cA a ha S L H.size 19 p1 (isDl_G (by decide)) ) (cwV 1 hts gX9_inDelay_X0_at rfl rfl rfl (by decide +kernel) ⟨Nat.le_of_ble_eq_true rfl, Nat.le_of_ble_eq_true rfl⟩) (g_recv hK hP (lt_Dl (isDl_G (by decide))) (cM_Dl (isDl_G (by decide))) (C := RX0) (T := TX0) (N := 5) rfl) hK (mA_mono hS.1) hP hS rfl hl.1 rfl (lv_room (Nat.le_of_ble_eq_true rfl)) dX9_inDelay_22 ⟨Nat.le_of_ble_eq_true rfl, Nat.le_of_ble_eq_true rfl⟩ (fun H locs hP hS _ _ => ?_)
  exact g_iret hx hb hr hlocks (by unfold rX9_inDelay; rfl) rfl rfl hP hS dX9_inDelay_25

def vX9_wouldPeak_1 (S : Mm) (p1 : Int32) (zS : Mm) (z2 : Int32) (i : Nat) : Int32 := (if 0 ≤ rX9_kept (rX6_advance zS 26) (32767 : Int32) then rX9_kept (rX6_advance zS 26) (32767 : Int32) else 0 - (rX9_kept (rX6_advance zS 26) (32767 : Int32)))
def bX9_wouldPeak_23_zS (S : Mm) (p1 : Int32) (zS : Mm) (z2 : Int32) (i : Nat) : Mm := fX6_advance zS 26
def bX9_wouldPeak_23_z2 (S : Mm) (p1 : Int32) (zS : Mm) (z2 : Int32) (i : Nat) : Int32 := (if z2 < (vX9_wouldPeak_1 S p1 zS z2 i) then (vX9_wouldPeak_1 S p1 zS z2 i) else z2)
def lpX9_wouldPeak_23 (S : Mm) (p1 : Int32) : Nat → Mm × Int32
  | 0 => (fX6_copy S 26 18, 0)
  | i + 1 => (bX9_wouldPeak_23_zS S p1 (lpX9_wouldPeak_23 S p1 i).1 (lpX9_wouldPeak_23 S p1 i).2 i, bX9_wouldPeak_23_z2 S p1 (lpX9_wouldPeak_23 S p1 i).1 (lpX9_wouldPeak_23 S p1 i).2 i)
theorem lpX9_wouldPeak_23_0 (S : Mm) (p1 : Int32) : lpX9_wouldPeak_23 S p1 0 = (fX6_copy S 26 18, 0) := by rw [lpX9_wouldPeak_23]
theorem lpX9_wouldPeak_23_s (S : Mm) (p1 : Int32) (i : Nat) : lpX9_wouldPeak_23 S p1 (i + 1) = (bX9_wouldPeak_23_zS S p1 (lpX9_wouldPeak_23 S p1 i).1 (lpX9_wouldPeak_23 S p1 i).2 i, bX9_wouldPeak_23_z2 S p1 (lpX9_wouldPeak_23 S p1 i).1 (lpX9_wouldPeak_23 S p1 i).2 i) := by rw [lpX9_wouldPeak_23]
def rX9_wouldPeak (S : Mm) (p1 : Int32) : Int32 := (lpX9_wouldPeak_23 S p1 (p1.toNatClampNeg)).2
def fX9_wouldPeak (S : Mm) (p1 : Int32) : Mm := (lpX9_wouldPeak_23 S p1 (p1.toNatClampNeg)).1
theorem iX9_wouldPeak_X9 : ∀ w ∈ u_ws RX9 TX9 4, w ∈ wsX9_wouldPeak := by decide +kernel
set_option maxHeartbeats 4000000 in
set_option maxRecDepth 100000 in
theorem c_X9_wouldPeak (l : Launch) (G : va_G) (cA : ClassId) (a : Nat → Nat) (ha : apart 37 a) (S : Mm) (L : Int64) (sz : Nat) (p1 : Int32)  (hh1 : ¬ p1 < (1 : Int32)) (hh2 : p1 ≤ (200 : Int32)) (hh3 : narrow .boolean (.int (eX6_copy S 26 18)) = .int (eX6_copy S 26 18)) (hh4 : fits .boolean (.int (eX6_copy S 26 18)) = true) : Met l yX9_wouldPeak wsX9_wouldPeak ({ frames := 7, cells := 0, slots := 0, locals := 163 } : Room) (va_Pc [.ref (a 0), .int p1] (gI G cA (a 37) 37 a (cM a cA) S L sz)) (gQi (rX9_wouldPeak S p1) G 37 a (cM a cA) (fX9_wouldPeak S p1) L sz) 0 0 (mA 37 a sz) := by
  refine g_met (cc := cX9_wouldPeak) (maxL := 4) (ret := (some .int)) (by decide) rfl (Nat.le_of_ble_eq_true rfl) ?_
  intro p e s m below meth c ls hx hb hr hlocks hml hts hown hnm hsz hK hP hS hl
  subst hsz
  have hl : lv_has ls 4 [(0, .ref (a 0)), (1, .int p1)] := hl
  refine lv_iload_n hx hb dX9_wouldPeak_0 rfl (lv_at hl 1 rfl) ?_
  refine lv_iconst (v := 1) hx hb dX9_wouldPeak_1 (by decide) ?_
  refine lv_sipush (v := 200) hx hb dX9_wouldPeak_2 (by decide) ?_
  refine g_cSv (As := [.int p1, .int 1, .int 200]) (rest := []) ⟨hx, hb, hml, hown, hts⟩ (c_X9_needWithin l G cA a ha S L s.heap.size p1 (1 : Int32) (200 : Int32)  hh1 hh2) (va_cwS 3 hts gX9_wouldPeak_X9_needWithin rfl rfl rfl (by decide +kernel) ⟨Nat.le_of_ble_eq_true rfl, Nat.le_of_ble_eq_true rfl⟩) hK (mA_mono hS.1) hP hS rfl hl.1 rfl (lv_room (Nat.le_of_ble_eq_true rfl)) dX9_wouldPeak_5 ⟨Nat.le_of_ble_eq_true rfl, Nat.le_of_ble_eq_true rfl⟩ (fun H locs hP hS _ _ => ?_)
  refine lv_aload_n hx hb dX9_wouldPeak_8 rfl (lv_at hl 0 rfl) ?_
  refine g_get (ci := 9) (C := RX9) (T := TX9) (N := 4) (v := .ref (a 26)) hx hb hts iX9_wouldPeak_X9 hown hK hP (by decide) rfl rfl 2 (by decide) rfl (by decide +kernel) rfl dX9_wouldPeak_9 ?_
  refine lv_aload_n hx hb dX9_wouldPeak_12 rfl (lv_at hl 0 rfl) ?_
  refine g_get (ci := 9) (C := RX9) (T := TX9) (N := 4) (v := .ref (a 18)) hx hb hts iX9_wouldPeak_X9 hown hK hP (by decide) rfl rfl 1 (by decide) rfl (by decide +kernel) rfl dX9_wouldPeak_13 ?_
  refine g_cVv (As := [.ref (a 18)]) (rest := []) ⟨hx, hb, hml, hown, hts⟩ (c_X6_copy l G cA a ha S L H.size 26 18 (by decide) (by decide) hh3 hh4) (cwV 1 hts gX9_wouldPeak_X6_copy rfl rfl rfl (by decide +kernel) ⟨Nat.le_of_ble_eq_true rfl, Nat.le_of_ble_eq_true rfl⟩) (g_recv hK hP (lt_G (by decide)) (cM_G (by decide)) (C := RX6) (T := TX6) (N := 12) rfl) hK (mA_mono hS.1) hP hS rfl hl.1 rfl (lv_room (Nat.le_of_ble_eq_true rfl)) dX9_wouldPeak_16 ⟨Nat.le_of_ble_eq_true rfl, Nat.le_of_ble_eq_true rfl⟩ (fun H locs hP hS _ _ => ?_)
  refine lv_iconst (v := 0) hx hb dX9_wouldPeak_19 (by decide) ?_
  refine lv_istore_n (lv' := [(2, .int 0), (0, .ref (a 0)), (1, .int p1)]) hx hb dX9_wouldPeak_20 rfl hl (by decide) rfl (fun ls hl => ?_)
  refine lv_iconst (v := 0) hx hb dX9_wouldPeak_21 (by decide) ?_
  refine lv_istore_n (lv' := [(3, .int 0), (2, .int 0), (0, .ref (a 0)), (1, .int p1)]) hx hb dX9_wouldPeak_22 rfl hl (by decide) rfl (fun ls hl => ?_)
  have loop : ∀ (k i : Nat), i ≤ p1.toNatClampNeg → p1.toNatClampNeg < i + k → ∀ (zS : Mm) (z2 : Int32) (H : Heap) (locs : List Loc) (ls : Array Slot), zS = (lpX9_wouldPeak_23 S p1 i).1 → z2 = (lpX9_wouldPeak_23 S p1 i).2 → va_P G vwCl (wG 37 a (cM a cA) zS L) H → va_S (mA 37 a s.heap.size) s.heap H locs → lv_has ls 4 [(3, .int (nI i)), (2, .int z2), (0, .ref (a 0)), (1, .int p1)] → W p l e ({ frames := 7, cells := 0, slots := 0, locals := 163 } : Room) s m ([.ref (a 0), .int p1] : List Value).toArray below meth c H locs 0 0 (MQ below (gQi (rX9_wouldPeak S p1) G 37 a (cM a cA) (fX9_wouldPeak S p1) L s.heap.size) ([.ref (a 0), .int p1] : List Value).toArray s 0 0 (mA 37 a s.heap.size)) (F0 m 23 ls []) := by
    intro k
    induction k with
    | zero => intro i h1 h2; omega
    | succ k ih =>
      intro i hi hk zS z2 H locs ls ezS ez2 hP hS hl
      refine lv_iload_n hx hb dX9_wouldPeak_23 rfl (lv_at hl 0 rfl) ?_
      refine lv_iload_n hx hb dX9_wouldPeak_24 rfl (lv_at hl 3 rfl) ?_
      refine lv_icmp_ge (tgt := 55) hx hb dX9_wouldPeak_25 (by decide) (fun cx => ?_) (fun cx => ?_)
      ·
        have hN := lx_exit hi cx
        subst hN
        rw [ezS] at hP
        rw [ez2] at hl
        refine lv_iload_n hx hb dX9_wouldPeak_55 rfl (lv_at hl 1 rfl) ?_
        exact g_iret hx hb hr hlocks (by unfold rX9_wouldPeak; rfl) (by unfold fX9_wouldPeak; rfl) rfl hP hS dX9_wouldPeak_56
      ·
        have hlt := lx_body cx hi
        refine lv_iload_n hx hb dX9_wouldPeak_28 rfl (lv_at hl 1 rfl) ?_
        refine lv_aload_n hx hb dX9_wouldPeak_29 rfl (lv_at hl 2 rfl) ?_
        refine g_get (ci := 9) (C := RX9) (T := TX9) (N := 4) (v := .ref (a 26)) hx hb hts iX9_wouldPeak_X9 hown hK hP (by decide) rfl rfl 2 (by decide) rfl (by decide +kernel) rfl dX9_wouldPeak_30 ?_
        refine g_cVi (As := []) (rest := [.int z2]) ⟨hx, hb, hml, hown, hts⟩ (c_X6_advance l G cA a ha zS L H.size 26 (by decide) ) (cwV 0 hts gX9_wouldPeak_X6_advance rfl rfl rfl (by decide +kernel) ⟨Nat.le_of_ble_eq_true rfl, Nat.le_of_ble_eq_true rfl⟩) (g_recv hK hP (lt_G (by decide)) (cM_G (by decide)) (C := RX6) (T := TX6) (N := 12) rfl) hK (mA_mono hS.1) hP hS rfl hl.1 rfl (lv_room (Nat.le_of_ble_eq_true rfl)) dX9_wouldPeak_33 ⟨Nat.le_of_ble_eq_true rfl, Nat.le_of_ble_eq_true rfl⟩ (fun H locs hP hS _ _ => ?_)
        refine lv_sipush (v := 32767) hx hb dX9_wouldPeak_36 (by decide) ?_
        refine g_cSi (As := [.int (rX6_advance zS 26), .int 32767]) (rest := [.int z2]) ⟨hx, hb, hml, hown, hts⟩ (c_X9_kept l G cA a ha (fX6_advance zS 26) L H.size (rX6_advance zS 26) (32767 : Int32)  ) (va_cwS 2 hts gX9_wouldPeak_X9_kept rfl rfl rfl (by decide +kernel) ⟨Nat.le_of_ble_eq_true rfl, Nat.le_of_ble_eq_true rfl⟩) hK (mA_mono hS.1) hP hS rfl hl.1 rfl (lv_room (Nat.le_of_ble_eq_true rfl)) dX9_wouldPeak_39 ⟨Nat.le_of_ble_eq_true rfl, Nat.le_of_ble_eq_true rfl⟩ (fun H locs hP hS _ _ => ?_)
        refine va_mabs hx hb (hml.trans hl.1.symm) hown (hts (.methodLink RX9 234 Lib.Math.abs.name) (by decide +kernel)) (hts (.static Lib.Math.abs.name) (by decide +kernel)) (hts (.initialized "java/lang/Math") (by decide +kernel)) (hts (.code Lib.Math.abs.name Lib.Math.abs.code 1 (some .int)) (by decide +kernel)) (Nat.le_of_ble_eq_true rfl) (Nat.le_of_ble_eq_true rfl) (Nat.le_of_ble_eq_true rfl) (Nat.le_of_ble_eq_true rfl) dX9_wouldPeak_42 ?_
        refine W.eq (g2 := F0 m 45 ls [.int (vX9_wouldPeak_1 S p1 zS z2 i), .int z2]) rfl ?_
        refine va_mmax hx hb (hml.trans hl.1.symm) hown (hts (.methodLink RX9 239 Lib.Math.max.name) (by decide +kernel)) (hts (.static Lib.Math.max.name) (by decide +kernel)) (hts (.initialized "java/lang/Math") (by decide +kernel)) (hts (.code Lib.Math.max.name Lib.Math.max.code 2 (some .int)) (by decide +kernel)) (Nat.le_of_ble_eq_true rfl) (Nat.le_of_ble_eq_true rfl) (Nat.le_of_ble_eq_true rfl) (Nat.le_of_ble_eq_true rfl) dX9_wouldPeak_45 ?_
        refine lv_istore_n (lv' := [(2, .int (if z2 < (vX9_wouldPeak_1 S p1 zS z2 i) then (vX9_wouldPeak_1 S p1 zS z2 i) else z2)), (3, .int (nI i)), (0, .ref (a 0)), (1, .int p1)]) hx hb dX9_wouldPeak_48 rfl hl (by decide) rfl (fun ls hl => ?_)
        refine lv_iinc (v := nI (i + 1)) (lv' := [(3, .int (nI (i + 1))), (2, .int (if z2 < (vX9_wouldPeak_1 S p1 zS z2 i) then (vX9_wouldPeak_1 S p1 zS z2 i) else z2)), (0, .ref (a 0)), (1, .int p1)]) hx hb dX9_wouldPeak_49 hl (k := 1) rfl (nI_1 i) (by decide) rfl (fun ls hl => ?_)
        refine lv_goto (tgt := 23) hx hb dX9_wouldPeak_52 (by decide) ?_
        exact ih (i + 1) (by omega) (by omega) (fX6_advance zS 26) (if z2 < (vX9_wouldPeak_1 S p1 zS z2 i) then (vX9_wouldPeak_1 S p1 zS z2 i) else z2) _ _ _ (by rw [lpX9_wouldPeak_23_s]; (try rw [← ezS]); (try rw [← ez2]); (try dsimp only); unfold bX9_wouldPeak_23_zS; rfl) (by rw [lpX9_wouldPeak_23_s]; (try rw [← ezS]); (try rw [← ez2]); (try dsimp only); unfold bX9_wouldPeak_23_z2; rfl) hP hS (lv_sub hl [0, 1, 2, 3] rfl)
  exact loop (p1.toNatClampNeg + 1) 0 (Nat.zero_le _) (by omega) (fX6_copy S 26 18) 0 _ _ _ (by rw [lpX9_wouldPeak_23_0]) (by rw [lpX9_wouldPeak_23_0]) hP hS (lv_sub hl [0, 1, 2, 3] rfl)

