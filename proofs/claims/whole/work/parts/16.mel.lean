set_option maxHeartbeats 4000000 in
set_option maxRecDepth 100000 in
theorem c_X9_needPlace (l : Launch) (G : va_G) (cA : ClassId) (a : Nat → Nat) (ha : apart 38 a) (S : Mm) (L : Int64) (sz : Nat) (p1 : Int32) (p2 : Int32)  (h1 : ¬ p1 < 0) (h2 : p1 < p2) : Met l yX9_needPlace wsX9_needPlace ({ frames := 0, cells := 0, slots := 0, locals := 0 } : Room) (va_Pc [.int p1, .int p2] (gI G cA (a 37) 38 a (cM a cA) S L sz)) (gQv G 38 a (cM a cA) S L sz) 0 0 (mA 38 a sz) := by
  refine g_met (cc := cX9_needPlace) (maxL := 2) (ret := none) (by decide) rfl (Nat.le_of_ble_eq_true rfl) ?_
  intro p e s m below meth c ls hx hb hr hlocks hml hts hown hnm hsz hK hP hS hl
  subst hsz
  have hl : lv_has ls 2 [(0, .int p1), (1, .int p2)] := hl
  refine lv_iload_n hx hb dX9_needPlace_0 rfl (lv_at hl 0 rfl) ?_
  refine lv_if_lt (tgt := 9) hx hb dX9_needPlace_1 (by decide) (fun c => absurd c h1) (fun _ => ?_)
  refine lv_iload_n hx hb dX9_needPlace_4 rfl (lv_at hl 0 rfl) ?_
  refine lv_iload_n hx hb dX9_needPlace_5 rfl (lv_at hl 1 rfl) ?_
  refine lv_icmp_lt (tgt := 20) hx hb dX9_needPlace_6 (by decide) (fun _ => ?_) (fun c => absurd h2 c)
  exact g_vret hx hb hr hlocks rfl rfl hP hS dX9_needPlace_20

set_option maxHeartbeats 4000000 in
set_option maxRecDepth 100000 in
theorem c_X9_needWithin (l : Launch) (G : va_G) (cA : ClassId) (a : Nat → Nat) (ha : apart 38 a) (S : Mm) (L : Int64) (sz : Nat) (p1 : Int32) (p2 : Int32) (p3 : Int32)  (h1 : ¬ p1 < p2) (h2 : p1 ≤ p3) : Met l yX9_needWithin wsX9_needWithin ({ frames := 0, cells := 0, slots := 0, locals := 0 } : Room) (va_Pc [.int p1, .int p2, .int p3] (gI G cA (a 37) 38 a (cM a cA) S L sz)) (gQv G 38 a (cM a cA) S L sz) 0 0 (mA 38 a sz) := by
  refine g_met (cc := cX9_needWithin) (maxL := 3) (ret := none) (by decide) rfl (Nat.le_of_ble_eq_true rfl) ?_
  intro p e s m below meth c ls hx hb hr hlocks hml hts hown hnm hsz hK hP hS hl
  subst hsz
  have hl : lv_has ls 3 [(0, .int p1), (1, .int p2), (2, .int p3)] := hl
  refine lv_iload_n hx hb dX9_needWithin_0 rfl (lv_at hl 0 rfl) ?_
  refine lv_iload_n hx hb dX9_needWithin_1 rfl (lv_at hl 1 rfl) ?_
  refine lv_icmp_lt (tgt := 10) hx hb dX9_needWithin_2 (by decide) (fun c => absurd c h1) (fun _ => ?_)
  refine lv_iload_n hx hb dX9_needWithin_5 rfl (lv_at hl 0 rfl) ?_
  refine lv_iload_n hx hb dX9_needWithin_6 rfl (lv_at hl 2 rfl) ?_
  refine lv_icmp_le (tgt := 21) hx hb dX9_needWithin_7 (by decide) (fun _ => ?_) (fun c => absurd h2 c)
  exact g_vret hx hb hr hlocks rfl rfl hP hS dX9_needWithin_21

def rX9_draw (S : Mm) (p1 : Int32) (p2 : Int32) : Int32 := rX8_redraw S p1 p2
def fX9_draw (S : Mm) (p1 : Int32) (p2 : Int32) : Mm := fX8_redraw S p1 p2
theorem iX9_draw_X5 : ∀ w ∈ u_ws RX5 TX5 7, w ∈ wsX9_draw := by decide +kernel
theorem iX9_draw_X9 : ∀ w ∈ u_ws RX9 TX9 4, w ∈ wsX9_draw := by decide +kernel
set_option maxHeartbeats 4000000 in
set_option maxRecDepth 100000 in
theorem c_X9_draw (l : Launch) (G : va_G) (cA : ClassId) (a : Nat → Nat) (ha : apart 38 a) (S : Mm) (L : Int64) (sz : Nat) (p1 : Int32) (p2 : Int32)  (hh1 : ¬ p1 < 0) (hh2 : p1 < (32 : Int32)) (hh3 : ¬ p2 < ((-1000) : Int32)) (hh4 : p2 ≤ (1000 : Int32)) : Met l yX9_draw wsX9_draw ({ frames := 2, cells := 0, slots := 0, locals := 45 } : Room) (va_Pc [.ref (a 0), .int p1, .int p2] (gI G cA (a 37) 38 a (cM a cA) S L sz)) (gQi (rX9_draw S p1 p2) G 38 a (cM a cA) (fX9_draw S p1 p2) L sz) 0 0 (mA 38 a sz) := by
  refine g_met (cc := cX9_draw) (maxL := 3) (ret := (some .int)) (by decide) rfl (Nat.le_of_ble_eq_true rfl) ?_
  intro p e s m below meth c ls hx hb hr hlocks hml hts hown hnm hsz hK hP hS hl
  subst hsz
  have hl : lv_has ls 3 [(0, .ref (a 0)), (1, .int p1), (2, .int p2)] := hl
  refine lv_iload_n hx hb dX9_draw_0 rfl (lv_at hl 1 rfl) ?_
  refine lv_bipush (v := 32) hx hb dX9_draw_1 (by decide) ?_
  refine g_cSv (As := [.int p1, .int 32]) (rest := []) ⟨hx, hb, hml, hown, hts⟩ (c_X9_needPlace l G cA a ha S L s.heap.size p1 (32 : Int32)  hh1 hh2) (va_cwS 2 hts gX9_draw_X9_needPlace rfl rfl rfl (by decide +kernel) ⟨Nat.le_of_ble_eq_true rfl, Nat.le_of_ble_eq_true rfl⟩) hK (mA_mono hS.1) hP hS rfl hl.1 rfl (lv_room (Nat.le_of_ble_eq_true rfl)) dX9_draw_3 ⟨Nat.le_of_ble_eq_true rfl, Nat.le_of_ble_eq_true rfl⟩ (fun H locs hP hS _ _ => ?_)
  refine lv_iload_n hx hb dX9_draw_6 rfl (lv_at hl 2 rfl) ?_
  refine lv_sipush (v := (-1000)) hx hb dX9_draw_7 (by decide) ?_
  refine lv_sipush (v := 1000) hx hb dX9_draw_10 (by decide) ?_
  refine g_cSv (As := [.int p2, .int (-1000), .int 1000]) (rest := []) ⟨hx, hb, hml, hown, hts⟩ (c_X9_needWithin l G cA a ha S L H.size p2 ((-1000) : Int32) (1000 : Int32)  hh3 hh4) (va_cwS 3 hts gX9_draw_X9_needWithin rfl rfl rfl (by decide +kernel) ⟨Nat.le_of_ble_eq_true rfl, Nat.le_of_ble_eq_true rfl⟩) hK (mA_mono hS.1) hP hS rfl hl.1 rfl (lv_room (Nat.le_of_ble_eq_true rfl)) dX9_draw_13 ⟨Nat.le_of_ble_eq_true rfl, Nat.le_of_ble_eq_true rfl⟩ (fun H locs hP hS _ _ => ?_)
  refine lv_aload_n hx hb dX9_draw_16 rfl (lv_at hl 0 rfl) ?_
  refine g_get (ci := 9) (C := RX9) (T := TX9) (N := 4) (v := .ref (a 1)) hx hb hts iX9_draw_X9 hown hK hP (by decide) rfl rfl 0 (by decide) rfl (by decide +kernel) rfl dX9_draw_17 ?_
  refine g_get (ci := 5) (C := RX5) (T := TX5) (N := 7) (v := .ref (a 2)) hx hb hts iX9_draw_X5 hown hK hP (by decide) cM_S rfl 0 (by decide) rfl (by decide +kernel) rfl dX9_draw_20 ?_
  refine lv_iload_n hx hb dX9_draw_23 rfl (lv_at hl 1 rfl) ?_
  refine lv_iload_n hx hb dX9_draw_24 rfl (lv_at hl 2 rfl) ?_
  refine g_cVi (As := [.int p1, .int p2]) (rest := []) ⟨hx, hb, hml, hown, hts⟩ (c_X8_redraw l G cA a ha S L H.size p1 p2  ) (cwV 2 hts gX9_draw_X8_redraw rfl rfl rfl (by decide +kernel) ⟨Nat.le_of_ble_eq_true rfl, Nat.le_of_ble_eq_true rfl⟩) (g_recv hK hP (by decide) rfl (C := RX8) (T := TX8) (N := 1) rfl) hK (mA_mono hS.1) hP hS rfl hl.1 rfl (lv_room (Nat.le_of_ble_eq_true rfl)) dX9_draw_25 ⟨Nat.le_of_ble_eq_true rfl, Nat.le_of_ble_eq_true rfl⟩ (fun H locs hP hS _ _ => ?_)
  exact g_iret hx hb hr hlocks (by unfold rX9_draw; rfl) (by unfold fX9_draw; rfl) rfl hP hS dX9_draw_28

def rX9_wave (S : Mm) (p1 : Int32) (p2 : Int32) : Int32 := rX8_at S p1 p2
theorem iX9_wave_X5 : ∀ w ∈ u_ws RX5 TX5 7, w ∈ wsX9_wave := by decide +kernel
theorem iX9_wave_X9 : ∀ w ∈ u_ws RX9 TX9 4, w ∈ wsX9_wave := by decide +kernel
set_option maxHeartbeats 4000000 in
set_option maxRecDepth 100000 in
theorem c_X9_wave (l : Launch) (G : va_G) (cA : ClassId) (a : Nat → Nat) (ha : apart 38 a) (S : Mm) (L : Int64) (sz : Nat) (p1 : Int32) (p2 : Int32)  (hh1 : ¬ p1 < 0) (hh2 : p1 < (4 : Int32)) (hh3 : ¬ p2 < (0 : Int32)) (hh4 : p2 ≤ (65535 : Int32)) : Met l yX9_wave wsX9_wave ({ frames := 2, cells := 0, slots := 0, locals := 46 } : Room) (va_Pc [.ref (a 0), .int p1, .int p2] (gI G cA (a 37) 38 a (cM a cA) S L sz)) (gQi (rX9_wave S p1 p2) G 38 a (cM a cA) S L sz) 0 0 (mA 38 a sz) := by
  refine g_met (cc := cX9_wave) (maxL := 3) (ret := (some .int)) (by decide) rfl (Nat.le_of_ble_eq_true rfl) ?_
  intro p e s m below meth c ls hx hb hr hlocks hml hts hown hnm hsz hK hP hS hl
  subst hsz
  have hl : lv_has ls 3 [(0, .ref (a 0)), (1, .int p1), (2, .int p2)] := hl
  refine lv_iload_n hx hb dX9_wave_0 rfl (lv_at hl 1 rfl) ?_
  refine lv_iconst (v := 4) hx hb dX9_wave_1 (by decide) ?_
  refine g_cSv (As := [.int p1, .int 4]) (rest := []) ⟨hx, hb, hml, hown, hts⟩ (c_X9_needPlace l G cA a ha S L s.heap.size p1 (4 : Int32)  hh1 hh2) (va_cwS 2 hts gX9_wave_X9_needPlace rfl rfl rfl (by decide +kernel) ⟨Nat.le_of_ble_eq_true rfl, Nat.le_of_ble_eq_true rfl⟩) hK (mA_mono hS.1) hP hS rfl hl.1 rfl (lv_room (Nat.le_of_ble_eq_true rfl)) dX9_wave_2 ⟨Nat.le_of_ble_eq_true rfl, Nat.le_of_ble_eq_true rfl⟩ (fun H locs hP hS _ _ => ?_)
  refine lv_iload_n hx hb dX9_wave_5 rfl (lv_at hl 2 rfl) ?_
  refine lv_iconst (v := 0) hx hb dX9_wave_6 (by decide) ?_
  refine lv_ldc (v := 65535) hx hb hown (hts (.constant RX9 53 65535) (by decide +kernel)) dX9_wave_7 ?_
  refine g_cSv (As := [.int p2, .int 0, .int 65535]) (rest := []) ⟨hx, hb, hml, hown, hts⟩ (c_X9_needWithin l G cA a ha S L H.size p2 (0 : Int32) (65535 : Int32)  hh3 hh4) (va_cwS 3 hts gX9_wave_X9_needWithin rfl rfl rfl (by decide +kernel) ⟨Nat.le_of_ble_eq_true rfl, Nat.le_of_ble_eq_true rfl⟩) hK (mA_mono hS.1) hP hS rfl hl.1 rfl (lv_room (Nat.le_of_ble_eq_true rfl)) dX9_wave_9 ⟨Nat.le_of_ble_eq_true rfl, Nat.le_of_ble_eq_true rfl⟩ (fun H locs hP hS _ _ => ?_)
  refine lv_aload_n hx hb dX9_wave_12 rfl (lv_at hl 0 rfl) ?_
  refine g_get (ci := 9) (C := RX9) (T := TX9) (N := 4) (v := .ref (a 1)) hx hb hts iX9_wave_X9 hown hK hP (by decide) rfl rfl 0 (by decide) rfl (by decide +kernel) rfl dX9_wave_13 ?_
  refine g_get (ci := 5) (C := RX5) (T := TX5) (N := 7) (v := .ref (a 2)) hx hb hts iX9_wave_X5 hown hK hP (by decide) cM_S rfl 0 (by decide) rfl (by decide +kernel) rfl dX9_wave_16 ?_
  refine lv_iload_n hx hb dX9_wave_19 rfl (lv_at hl 1 rfl) ?_
  refine lv_iload_n hx hb dX9_wave_20 rfl (lv_at hl 2 rfl) ?_
  refine g_cVi (As := [.int p1, .int p2]) (rest := []) ⟨hx, hb, hml, hown, hts⟩ (c_X8_at l G cA a ha S L H.size p1 p2  ) (cwV 2 hts gX9_wave_X8_at rfl rfl rfl (by decide +kernel) ⟨Nat.le_of_ble_eq_true rfl, Nat.le_of_ble_eq_true rfl⟩) (g_recv hK hP (by decide) rfl (C := RX8) (T := TX8) (N := 1) rfl) hK (mA_mono hS.1) hP hS rfl hl.1 rfl (lv_room (Nat.le_of_ble_eq_true rfl)) dX9_wave_21 ⟨Nat.le_of_ble_eq_true rfl, Nat.le_of_ble_eq_true rfl⟩ (fun H locs hP hS _ _ => ?_)
  exact g_iret hx hb hr hlocks (by unfold rX9_wave; rfl) rfl rfl hP hS dX9_wave_24

def rX9_stride (S : Mm) (p1 : Int32) : Int32 := rX9_strideOf S p1
set_option maxHeartbeats 4000000 in
set_option maxRecDepth 100000 in
theorem c_X9_stride (l : Launch) (G : va_G) (cA : ClassId) (a : Nat → Nat) (ha : apart 38 a) (S : Mm) (L : Int64) (sz : Nat) (p1 : Int32)  (hh1 : ¬ p1 < (0 : Int32)) (hh2 : p1 ≤ (47 : Int32)) : Met l yX9_stride wsX9_stride ({ frames := 1, cells := 0, slots := 0, locals := 22 } : Room) (va_Pc [.ref (a 0), .int p1] (gI G cA (a 37) 38 a (cM a cA) S L sz)) (gQi (rX9_stride S p1) G 38 a (cM a cA) S L sz) 0 0 (mA 38 a sz) := by
  refine g_met (cc := cX9_stride) (maxL := 2) (ret := (some .int)) (by decide) rfl (Nat.le_of_ble_eq_true rfl) ?_
  intro p e s m below meth c ls hx hb hr hlocks hml hts hown hnm hsz hK hP hS hl
  subst hsz
  have hl : lv_has ls 2 [(0, .ref (a 0)), (1, .int p1)] := hl
  refine lv_iload_n hx hb dX9_stride_0 rfl (lv_at hl 1 rfl) ?_
  refine lv_iconst (v := 0) hx hb dX9_stride_1 (by decide) ?_
  refine lv_bipush (v := 47) hx hb dX9_stride_2 (by decide) ?_
  refine g_cSv (As := [.int p1, .int 0, .int 47]) (rest := []) ⟨hx, hb, hml, hown, hts⟩ (c_X9_needWithin l G cA a ha S L s.heap.size p1 (0 : Int32) (47 : Int32)  hh1 hh2) (va_cwS 3 hts gX9_stride_X9_needWithin rfl rfl rfl (by decide +kernel) ⟨Nat.le_of_ble_eq_true rfl, Nat.le_of_ble_eq_true rfl⟩) hK (mA_mono hS.1) hP hS rfl hl.1 rfl (lv_room (Nat.le_of_ble_eq_true rfl)) dX9_stride_4 ⟨Nat.le_of_ble_eq_true rfl, Nat.le_of_ble_eq_true rfl⟩ (fun H locs hP hS _ _ => ?_)
  refine lv_iload_n hx hb dX9_stride_7 rfl (lv_at hl 1 rfl) ?_
  refine g_cSi (As := [.int p1]) (rest := []) ⟨hx, hb, hml, hown, hts⟩ (c_X9_strideOf l G cA a ha S L H.size p1  ) (va_cwS 1 hts gX9_stride_X9_strideOf rfl rfl rfl (by decide +kernel) ⟨Nat.le_of_ble_eq_true rfl, Nat.le_of_ble_eq_true rfl⟩) hK (mA_mono hS.1) hP hS rfl hl.1 rfl (lv_room (Nat.le_of_ble_eq_true rfl)) dX9_stride_8 ⟨Nat.le_of_ble_eq_true rfl, Nat.le_of_ble_eq_true rfl⟩ (fun H locs hP hS _ _ => ?_)
  exact g_iret hx hb hr hlocks (by unfold rX9_stride; rfl) rfl rfl hP hS dX9_stride_11

def mX9_setWaves_1 (S : Mm) (p1 : Int32) (p2 : Int32) (p3 : Int32) (p4 : Int32) (p5 : Int32) : Mm := up2 (up2 (up2 S (rX5_instrumentOf p1) 0 p2) (rX5_instrumentOf p1) 1 p3) (rX5_instrumentOf p1) 2 p4
def rX9_setWaves (S : Mm) (p1 : Int32) (p2 : Int32) (p3 : Int32) (p4 : Int32) (p5 : Int32) : Int32 := S (rX5_instrumentOf p1) 3
def fX9_setWaves (S : Mm) (p1 : Int32) (p2 : Int32) (p3 : Int32) (p4 : Int32) (p5 : Int32) : Mm := up2 (mX9_setWaves_1 S p1 p2 p3 p4 p5) (rX5_instrumentOf p1) 3 p5
theorem iX9_setWaves_X1 : ∀ w ∈ u_ws RX1 TX1 12, w ∈ wsX9_setWaves := by decide +kernel
theorem iX9_setWaves_X9 : ∀ w ∈ u_ws RX9 TX9 4, w ∈ wsX9_setWaves := by decide +kernel
set_option maxHeartbeats 4000000 in
set_option maxRecDepth 100000 in
theorem c_X9_setWaves (l : Launch) (G : va_G) (cA : ClassId) (a : Nat → Nat) (ha : apart 38 a) (S : Mm) (L : Int64) (sz : Nat) (p1 : Int32) (p2 : Int32) (p3 : Int32) (p4 : Int32) (p5 : Int32)  (hh1 : ¬ p1 < 0) (hh2 : p1 < (4 : Int32)) (hh3 : ¬ p2 < 0) (hh4 : p2 < (4 : Int32)) (hh5 : ¬ p3 < 0) (hh6 : p3 < (4 : Int32)) (hh7 : ¬ p4 < ((-64) : Int32)) (hh8 : p4 ≤ (64 : Int32)) (hh9 : ¬ p5 < (0 : Int32)) (hh10 : p5 ≤ (100 : Int32)) : Met l yX9_setWaves wsX9_setWaves ({ frames := 1, cells := 0, slots := 0, locals := 22 } : Room) (va_Pc [.ref (a 0), .int p1, .int p2, .int p3, .int p4, .int p5] (gI G cA (a 37) 38 a (cM a cA) S L sz)) (gQi (rX9_setWaves S p1 p2 p3 p4 p5) G 38 a (cM a cA) (fX9_setWaves S p1 p2 p3 p4 p5) L sz) 0 0 (mA 38 a sz) := by
  refine g_met (cc := cX9_setWaves) (maxL := 8) (ret := (some .int)) (by decide) rfl (Nat.le_of_ble_eq_true rfl) ?_
  intro p e s m below meth c ls hx hb hr hlocks hml hts hown hnm hsz hK hP hS hl
  subst hsz
  have hl : lv_has ls 8 [(0, .ref (a 0)), (1, .int p1), (2, .int p2), (3, .int p3), (4, .int p4), (5, .int p5)] := hl
  refine lv_iload_n hx hb dX9_setWaves_0 rfl (lv_at hl 1 rfl) ?_
  refine lv_iconst (v := 4) hx hb dX9_setWaves_1 (by decide) ?_
  refine g_cSv (As := [.int p1, .int 4]) (rest := []) ⟨hx, hb, hml, hown, hts⟩ (c_X9_needPlace l G cA a ha S L s.heap.size p1 (4 : Int32)  hh1 hh2) (va_cwS 2 hts gX9_setWaves_X9_needPlace rfl rfl rfl (by decide +kernel) ⟨Nat.le_of_ble_eq_true rfl, Nat.le_of_ble_eq_true rfl⟩) hK (mA_mono hS.1) hP hS rfl hl.1 rfl (lv_room (Nat.le_of_ble_eq_true rfl)) dX9_setWaves_2 ⟨Nat.le_of_ble_eq_true rfl, Nat.le_of_ble_eq_true rfl⟩ (fun H locs hP hS _ _ => ?_)
  refine lv_iload_n hx hb dX9_setWaves_5 rfl (lv_at hl 2 rfl) ?_
  refine lv_iconst (v := 4) hx hb dX9_setWaves_6 (by decide) ?_
  refine g_cSv (As := [.int p2, .int 4]) (rest := []) ⟨hx, hb, hml, hown, hts⟩ (c_X9_needPlace l G cA a ha S L H.size p2 (4 : Int32)  hh3 hh4) (va_cwS 2 hts gX9_setWaves_X9_needPlace rfl rfl rfl (by decide +kernel) ⟨Nat.le_of_ble_eq_true rfl, Nat.le_of_ble_eq_true rfl⟩) hK (mA_mono hS.1) hP hS rfl hl.1 rfl (lv_room (Nat.le_of_ble_eq_true rfl)) dX9_setWaves_7 ⟨Nat.le_of_ble_eq_true rfl, Nat.le_of_ble_eq_true rfl⟩ (fun H locs hP hS _ _ => ?_)
  refine lv_iload_n hx hb dX9_setWaves_10 rfl (lv_at hl 3 rfl) ?_
  refine lv_iconst (v := 4) hx hb dX9_setWaves_11 (by decide) ?_
  refine g_cSv (As := [.int p3, .int 4]) (rest := []) ⟨hx, hb, hml, hown, hts⟩ (c_X9_needPlace l G cA a ha S L H.size p3 (4 : Int32)  hh5 hh6) (va_cwS 2 hts gX9_setWaves_X9_needPlace rfl rfl rfl (by decide +kernel) ⟨Nat.le_of_ble_eq_true rfl, Nat.le_of_ble_eq_true rfl⟩) hK (mA_mono hS.1) hP hS rfl hl.1 rfl (lv_room (Nat.le_of_ble_eq_true rfl)) dX9_setWaves_12 ⟨Nat.le_of_ble_eq_true rfl, Nat.le_of_ble_eq_true rfl⟩ (fun H locs hP hS _ _ => ?_)
  refine lv_iload hx hb dX9_setWaves_15 (lv_at hl 4 rfl) ?_
  refine lv_bipush (v := (-64)) hx hb dX9_setWaves_17 (by decide) ?_
  refine lv_bipush (v := 64) hx hb dX9_setWaves_19 (by decide) ?_
  refine g_cSv (As := [.int p4, .int (-64), .int 64]) (rest := []) ⟨hx, hb, hml, hown, hts⟩ (c_X9_needWithin l G cA a ha S L H.size p4 ((-64) : Int32) (64 : Int32)  hh7 hh8) (va_cwS 3 hts gX9_setWaves_X9_needWithin rfl rfl rfl (by decide +kernel) ⟨Nat.le_of_ble_eq_true rfl, Nat.le_of_ble_eq_true rfl⟩) hK (mA_mono hS.1) hP hS rfl hl.1 rfl (lv_room (Nat.le_of_ble_eq_true rfl)) dX9_setWaves_21 ⟨Nat.le_of_ble_eq_true rfl, Nat.le_of_ble_eq_true rfl⟩ (fun H locs hP hS _ _ => ?_)
  refine lv_iload hx hb dX9_setWaves_24 (lv_at hl 5 rfl) ?_
  refine lv_iconst (v := 0) hx hb dX9_setWaves_26 (by decide) ?_
  refine lv_bipush (v := 100) hx hb dX9_setWaves_27 (by decide) ?_
  refine g_cSv (As := [.int p5, .int 0, .int 100]) (rest := []) ⟨hx, hb, hml, hown, hts⟩ (c_X9_needWithin l G cA a ha S L H.size p5 (0 : Int32) (100 : Int32)  hh9 hh10) (va_cwS 3 hts gX9_setWaves_X9_needWithin rfl rfl rfl (by decide +kernel) ⟨Nat.le_of_ble_eq_true rfl, Nat.le_of_ble_eq_true rfl⟩) hK (mA_mono hS.1) hP hS rfl hl.1 rfl (lv_room (Nat.le_of_ble_eq_true rfl)) dX9_setWaves_29 ⟨Nat.le_of_ble_eq_true rfl, Nat.le_of_ble_eq_true rfl⟩ (fun H locs hP hS _ _ => ?_)
  refine lv_aload_n hx hb dX9_setWaves_32 rfl (lv_at hl 0 rfl) ?_
  refine g_get (ci := 9) (C := RX9) (T := TX9) (N := 4) (v := .ref (a 1)) hx hb hts iX9_setWaves_X9 hown hK hP (by decide) rfl rfl 0 (by decide) rfl (by decide +kernel) rfl dX9_setWaves_33 ?_
  refine lv_iload_n hx hb dX9_setWaves_36 rfl (lv_at hl 1 rfl) ?_
  refine g_cVr (As := [.int p1]) (rest := []) ⟨hx, hb, hml, hown, hts⟩ (c_X5_instrumentOf l G cA a ha S L H.size p1  ) (cwV 1 hts gX9_setWaves_X5_instrumentOf rfl rfl rfl (by decide +kernel) ⟨Nat.le_of_ble_eq_true rfl, Nat.le_of_ble_eq_true rfl⟩) (g_recv hK hP (by decide) cM_S (C := RX5) (T := TX5) (N := 7) rfl) hK (mA_mono hS.1) hP hS rfl hl.1 rfl (lv_room (Nat.le_of_ble_eq_true rfl)) dX9_setWaves_37 ⟨Nat.le_of_ble_eq_true rfl, Nat.le_of_ble_eq_true rfl⟩ (fun H locs hP hS _ _ => ?_)
  refine lv_astore (lv' := [(6, .ref (a (rX5_instrumentOf p1))), (0, .ref (a 0)), (1, .int p1), (2, .int p2), (3, .int p3), (4, .int p4), (5, .int p5)]) hx hb dX9_setWaves_40 hl (by decide) rfl (fun ls hl => ?_)
  refine lv_aload hx hb dX9_setWaves_42 (lv_at hl 0 rfl) ?_
  refine g_get (ci := 1) (C := RX1) (T := TX1) (N := 12) (v := .int (S (rX5_instrumentOf p1) 3)) hx hb hts iX9_setWaves_X1 hown hK hP (lt_I (k_X5_instrumentOf )) (cM_I (k_X5_instrumentOf )) rfl 3 (by decide) rfl (by decide +kernel) rfl dX9_setWaves_44 ?_
  refine lv_istore (lv' := [(7, .int (S (rX5_instrumentOf p1) 3)), (6, .ref (a (rX5_instrumentOf p1))), (0, .ref (a 0)), (1, .int p1), (2, .int p2), (3, .int p3), (4, .int p4), (5, .int p5)]) hx hb dX9_setWaves_47 hl (by decide) rfl (fun ls hl => ?_)
  refine lv_aload hx hb dX9_setWaves_49 (lv_at hl 1 rfl) ?_
  refine lv_iload_n hx hb dX9_setWaves_51 rfl (lv_at hl 4 rfl) ?_
  refine g_put (ci := 1) (C := RX1) (T := TX1) (N := 12) (ty := .int) hx hb hts iX9_setWaves_X1 tyX1 tyX1_ok nmX1 hown hK ha mA_in hP hS (lt_I (k_X5_instrumentOf )) (cM_I (k_X5_instrumentOf )) rfl 0 (by decide) rfl (by decide +kernel) rfl (by decide +kernel) rfl rfl (Nat.le_of_ble_eq_true rfl) (cM_I_set (k_X5_instrumentOf ) (by decide)) dX9_setWaves_52 (fun H locs hP hS => ?_)
  refine lv_aload hx hb dX9_setWaves_55 (lv_at hl 1 rfl) ?_
  refine lv_iload_n hx hb dX9_setWaves_57 rfl (lv_at hl 5 rfl) ?_
  refine g_put (ci := 1) (C := RX1) (T := TX1) (N := 12) (ty := .int) hx hb hts iX9_setWaves_X1 tyX1 tyX1_ok nmX1 hown hK ha mA_in hP hS (lt_I (k_X5_instrumentOf )) (cM_I (k_X5_instrumentOf )) rfl 1 (by decide) rfl (by decide +kernel) rfl (by decide +kernel) rfl rfl (Nat.le_of_ble_eq_true rfl) (cM_I_set (k_X5_instrumentOf ) (by decide)) dX9_setWaves_58 (fun H locs hP hS => ?_)
  refine lv_aload hx hb dX9_setWaves_61 (lv_at hl 1 rfl) ?_
  refine lv_iload hx hb dX9_setWaves_63 (lv_at hl 6 rfl) ?_
  refine g_put (ci := 1) (C := RX1) (T := TX1) (N := 12) (ty := .int) hx hb hts iX9_setWaves_X1 tyX1 tyX1_ok nmX1 hown hK ha mA_in hP hS (lt_I (k_X5_instrumentOf )) (cM_I (k_X5_instrumentOf )) rfl 2 (by decide) rfl (by decide +kernel) rfl (by decide +kernel) rfl rfl (Nat.le_of_ble_eq_true rfl) (cM_I_set (k_X5_instrumentOf ) (by decide)) dX9_setWaves_65 (fun H locs hP hS => ?_)
  have hP : va_P G vwCl (wG 38 a (cM a cA) (mX9_setWaves_1 S p1 p2 p3 p4 p5) L) H := hP
  refine lv_aload hx hb dX9_setWaves_68 (lv_at hl 1 rfl) ?_
  refine lv_iload hx hb dX9_setWaves_70 (lv_at hl 7 rfl) ?_
  refine g_put (ci := 1) (C := RX1) (T := TX1) (N := 12) (ty := .int) hx hb hts iX9_setWaves_X1 tyX1 tyX1_ok nmX1 hown hK ha mA_in hP hS (lt_I (k_X5_instrumentOf )) (cM_I (k_X5_instrumentOf )) rfl 3 (by decide) rfl (by decide +kernel) rfl (by decide +kernel) rfl rfl (Nat.le_of_ble_eq_true rfl) (cM_I_set (k_X5_instrumentOf ) (by decide)) dX9_setWaves_72 (fun H locs hP hS => ?_)
  refine lv_iload hx hb dX9_setWaves_75 (lv_at hl 0 rfl) ?_
  exact g_iret hx hb hr hlocks (by unfold rX9_setWaves; rfl) (by unfold fX9_setWaves; rfl) rfl hP hS dX9_setWaves_77

def mX9_setEnvelope_1 (S : Mm) (p1 : Int32) (p2 : Int32) (p3 : Int32) (p4 : Int32) (p5 : Int32) : Mm := up2 (up2 (up2 S (rX5_instrumentOf p1) 4 p2) (rX5_instrumentOf p1) 5 p3) (rX5_instrumentOf p1) 6 p4
def rX9_setEnvelope (S : Mm) (p1 : Int32) (p2 : Int32) (p3 : Int32) (p4 : Int32) (p5 : Int32) : Int32 := S (rX5_instrumentOf p1) 6
def fX9_setEnvelope (S : Mm) (p1 : Int32) (p2 : Int32) (p3 : Int32) (p4 : Int32) (p5 : Int32) : Mm := up2 (mX9_setEnvelope_1 S p1 p2 p3 p4 p5) (rX5_instrumentOf p1) 7 p5
theorem iX9_setEnvelope_X1 : ∀ w ∈ u_ws RX1 TX1 12, w ∈ wsX9_setEnvelope := by decide +kernel
theorem iX9_setEnvelope_X9 : ∀ w ∈ u_ws RX9 TX9 4, w ∈ wsX9_setEnvelope := by decide +kernel
set_option maxHeartbeats 4000000 in
set_option maxRecDepth 100000 in
theorem c_X9_setEnvelope (l : Launch) (G : va_G) (cA : ClassId) (a : Nat → Nat) (ha : apart 38 a) (S : Mm) (L : Int64) (sz : Nat) (p1 : Int32) (p2 : Int32) (p3 : Int32) (p4 : Int32) (p5 : Int32)  (hh1 : ¬ p1 < 0) (hh2 : p1 < (4 : Int32)) (hh3 : ¬ p2 < (1 : Int32)) (hh4 : p2 ≤ (400 : Int32)) (hh5 : ¬ p3 < (1 : Int32)) (hh6 : p3 ≤ (400 : Int32)) (hh7 : ¬ p4 < (0 : Int32)) (hh8 : p4 ≤ (1000 : Int32)) (hh9 : ¬ p5 < (1 : Int32)) (hh10 : p5 ≤ (400 : Int32)) : Met l yX9_setEnvelope wsX9_setEnvelope ({ frames := 1, cells := 0, slots := 0, locals := 22 } : Room) (va_Pc [.ref (a 0), .int p1, .int p2, .int p3, .int p4, .int p5] (gI G cA (a 37) 38 a (cM a cA) S L sz)) (gQi (rX9_setEnvelope S p1 p2 p3 p4 p5) G 38 a (cM a cA) (fX9_setEnvelope S p1 p2 p3 p4 p5) L sz) 0 0 (mA 38 a sz) := by
  refine g_met (cc := cX9_setEnvelope) (maxL := 8) (ret := (some .int)) (by decide) rfl (Nat.le_of_ble_eq_true rfl) ?_
  intro p e s m below meth c ls hx hb hr hlocks hml hts hown hnm hsz hK hP hS hl
  subst hsz
  have hl : lv_has ls 8 [(0, .ref (a 0)), (1, .int p1), (2, .int p2), (3, .int p3), (4, .int p4), (5, .int p5)] := hl
  refine lv_iload_n hx hb dX9_setEnvelope_0 rfl (lv_at hl 1 rfl) ?_
  refine lv_iconst (v := 4) hx hb dX9_setEnvelope_1 (by decide) ?_
  refine g_cSv (As := [.int p1, .int 4]) (rest := []) ⟨hx, hb, hml, hown, hts⟩ (c_X9_needPlace l G cA a ha S L s.heap.size p1 (4 : Int32)  hh1 hh2) (va_cwS 2 hts gX9_setEnvelope_X9_needPlace rfl rfl rfl (by decide +kernel) ⟨Nat.le_of_ble_eq_true rfl, Nat.le_of_ble_eq_true rfl⟩) hK (mA_mono hS.1) hP hS rfl hl.1 rfl (lv_room (Nat.le_of_ble_eq_true rfl)) dX9_setEnvelope_2 ⟨Nat.le_of_ble_eq_true rfl, Nat.le_of_ble_eq_true rfl⟩ (fun H locs hP hS _ _ => ?_)
  refine lv_iload_n hx hb dX9_setEnvelope_5 rfl (lv_at hl 2 rfl) ?_
  refine lv_iconst (v := 1) hx hb dX9_setEnvelope_6 (by decide) ?_
  refine lv_sipush (v := 400) hx hb dX9_setEnvelope_7 (by decide) ?_
  refine g_cSv (As := [.int p2, .int 1, .int 400]) (rest := []) ⟨hx, hb, hml, hown, hts⟩ (c_X9_needWithin l G cA a ha S L H.size p2 (1 : Int32) (400 : Int32)  hh3 hh4) (va_cwS 3 hts gX9_setEnvelope_X9_needWithin rfl rfl rfl (by decide +kernel) ⟨Nat.le_of_ble_eq_true rfl, Nat.le_of_ble_eq_true rfl⟩) hK (mA_mono hS.1) hP hS rfl hl.1 rfl (lv_room (Nat.le_of_ble_eq_true rfl)) dX9_setEnvelope_10 ⟨Nat.le_of_ble_eq_true rfl, Nat.le_of_ble_eq_true rfl⟩ (fun H locs hP hS _ _ => ?_)
  refine lv_iload_n hx hb dX9_setEnvelope_13 rfl (lv_at hl 3 rfl) ?_
  refine lv_iconst (v := 1) hx hb dX9_setEnvelope_14 (by decide) ?_
  refine lv_sipush (v := 400) hx hb dX9_setEnvelope_15 (by decide) ?_
  refine g_cSv (As := [.int p3, .int 1, .int 400]) (rest := []) ⟨hx, hb, hml, hown, hts⟩ (c_X9_needWithin l G cA a ha S L H.size p3 (1 : Int32) (400 : Int32)  hh5 hh6) (va_cwS 3 hts gX9_setEnvelope_X9_needWithin rfl rfl rfl (by decide +kernel) ⟨Nat.le_of_ble_eq_true rfl, Nat.le_of_ble_eq_true rfl⟩) hK (mA_mono hS.1) hP hS rfl hl.1 rfl (lv_room (Nat.le_of_ble_eq_true rfl)) dX9_setEnvelope_18 ⟨Nat.le_of_ble_eq_true rfl, Nat.le_of_ble_eq_true rfl⟩ (fun H locs hP hS _ _ => ?_)
  refine lv_iload hx hb dX9_setEnvelope_21 (lv_at hl 4 rfl) ?_
  refine lv_iconst (v := 0) hx hb dX9_setEnvelope_23 (by decide) ?_
  refine lv_sipush (v := 1000) hx hb dX9_setEnvelope_24 (by decide) ?_
  refine g_cSv (As := [.int p4, .int 0, .int 1000]) (rest := []) ⟨hx, hb, hml, hown, hts⟩ (c_X9_needWithin l G cA a ha S L H.size p4 (0 : Int32) (1000 : Int32)  hh7 hh8) (va_cwS 3 hts gX9_setEnvelope_X9_needWithin rfl rfl rfl (by decide +kernel) ⟨Nat.le_of_ble_eq_true rfl, Nat.le_of_ble_eq_true rfl⟩) hK (mA_mono hS.1) hP hS rfl hl.1 rfl (lv_room (Nat.le_of_ble_eq_true rfl)) dX9_setEnvelope_27 ⟨Nat.le_of_ble_eq_true rfl, Nat.le_of_ble_eq_true rfl⟩ (fun H locs hP hS _ _ => ?_)
  refine lv_iload hx hb dX9_setEnvelope_30 (lv_at hl 5 rfl) ?_
  refine lv_iconst (v := 1) hx hb dX9_setEnvelope_32 (by decide) ?_
  refine lv_sipush (v := 400) hx hb dX9_setEnvelope_33 (by decide) ?_
  refine g_cSv (As := [.int p5, .int 1, .int 400]) (rest := []) ⟨hx, hb, hml, hown, hts⟩ (c_X9_needWithin l G cA a ha S L H.size p5 (1 : Int32) (400 : Int32)  hh9 hh10) (va_cwS 3 hts gX9_setEnvelope_X9_needWithin rfl rfl rfl (by decide +kernel) ⟨Nat.le_of_ble_eq_true rfl, Nat.le_of_ble_eq_true rfl⟩) hK (mA_mono hS.1) hP hS rfl hl.1 rfl (lv_room (Nat.le_of_ble_eq_true rfl)) dX9_setEnvelope_36 ⟨Nat.le_of_ble_eq_true rfl, Nat.le_of_ble_eq_true rfl⟩ (fun H locs hP hS _ _ => ?_)
  refine lv_aload_n hx hb dX9_setEnvelope_39 rfl (lv_at hl 0 rfl) ?_
  refine g_get (ci := 9) (C := RX9) (T := TX9) (N := 4) (v := .ref (a 1)) hx hb hts iX9_setEnvelope_X9 hown hK hP (by decide) rfl rfl 0 (by decide) rfl (by decide +kernel) rfl dX9_setEnvelope_40 ?_
  refine lv_iload_n hx hb dX9_setEnvelope_43 rfl (lv_at hl 1 rfl) ?_
  refine g_cVr (As := [.int p1]) (rest := []) ⟨hx, hb, hml, hown, hts⟩ (c_X5_instrumentOf l G cA a ha S L H.size p1  ) (cwV 1 hts gX9_setEnvelope_X5_instrumentOf rfl rfl rfl (by decide +kernel) ⟨Nat.le_of_ble_eq_true rfl, Nat.le_of_ble_eq_true rfl⟩) (g_recv hK hP (by decide) cM_S (C := RX5) (T := TX5) (N := 7) rfl) hK (mA_mono hS.1) hP hS rfl hl.1 rfl (lv_room (Nat.le_of_ble_eq_true rfl)) dX9_setEnvelope_44 ⟨Nat.le_of_ble_eq_true rfl, Nat.le_of_ble_eq_true rfl⟩ (fun H locs hP hS _ _ => ?_)
  refine lv_astore (lv' := [(6, .ref (a (rX5_instrumentOf p1))), (0, .ref (a 0)), (1, .int p1), (2, .int p2), (3, .int p3), (4, .int p4), (5, .int p5)]) hx hb dX9_setEnvelope_47 hl (by decide) rfl (fun ls hl => ?_)
  refine lv_aload hx hb dX9_setEnvelope_49 (lv_at hl 0 rfl) ?_
  refine g_get (ci := 1) (C := RX1) (T := TX1) (N := 12) (v := .int (S (rX5_instrumentOf p1) 6)) hx hb hts iX9_setEnvelope_X1 hown hK hP (lt_I (k_X5_instrumentOf )) (cM_I (k_X5_instrumentOf )) rfl 6 (by decide) rfl (by decide +kernel) rfl dX9_setEnvelope_51 ?_
  refine lv_istore (lv' := [(7, .int (S (rX5_instrumentOf p1) 6)), (6, .ref (a (rX5_instrumentOf p1))), (0, .ref (a 0)), (1, .int p1), (2, .int p2), (3, .int p3), (4, .int p4), (5, .int p5)]) hx hb dX9_setEnvelope_54 hl (by decide) rfl (fun ls hl => ?_)
  refine lv_aload hx hb dX9_setEnvelope_56 (lv_at hl 1 rfl) ?_
  refine lv_iload_n hx hb dX9_setEnvelope_58 rfl (lv_at hl 4 rfl) ?_
  refine g_put (ci := 1) (C := RX1) (T := TX1) (N := 12) (ty := .int) hx hb hts iX9_setEnvelope_X1 tyX1 tyX1_ok nmX1 hown hK ha mA_in hP hS (lt_I (k_X5_instrumentOf )) (cM_I (k_X5_instrumentOf )) rfl 4 (by decide) rfl (by decide +kernel) rfl (by decide +kernel) rfl rfl (Nat.le_of_ble_eq_true rfl) (cM_I_set (k_X5_instrumentOf ) (by decide)) dX9_setEnvelope_59 (fun H locs hP hS => ?_)
  refine lv_aload hx hb dX9_setEnvelope_62 (lv_at hl 1 rfl) ?_
  refine lv_iload_n hx hb dX9_setEnvelope_64 rfl (lv_at hl 5 rfl) ?_
  refine g_put (ci := 1) (C := RX1) (T := TX1) (N := 12) (ty := .int) hx hb hts iX9_setEnvelope_X1 tyX1 tyX1_ok nmX1 hown hK ha mA_in hP hS (lt_I (k_X5_instrumentOf )) (cM_I (k_X5_instrumentOf )) rfl 5 (by decide) rfl (by decide +kernel) rfl (by decide +kernel) rfl rfl (Nat.le_of_ble_eq_true rfl) (cM_I_set (k_X5_instrumentOf ) (by decide)) dX9_setEnvelope_65 (fun H locs hP hS => ?_)
  refine lv_aload hx hb dX9_setEnvelope_68 (lv_at hl 1 rfl) ?_
  refine lv_iload hx hb dX9_setEnvelope_70 (lv_at hl 6 rfl) ?_
  refine g_put (ci := 1) (C := RX1) (T := TX1) (N := 12) (ty := .int) hx hb hts iX9_setEnvelope_X1 tyX1 tyX1_ok nmX1 hown hK ha mA_in hP hS (lt_I (k_X5_instrumentOf )) (cM_I (k_X5_instrumentOf )) rfl 6 (by decide) rfl (by decide +kernel) rfl (by decide +kernel) rfl rfl (Nat.le_of_ble_eq_true rfl) (cM_I_set (k_X5_instrumentOf ) (by decide)) dX9_setEnvelope_72 (fun H locs hP hS => ?_)
  have hP : va_P G vwCl (wG 38 a (cM a cA) (mX9_setEnvelope_1 S p1 p2 p3 p4 p5) L) H := hP
  refine lv_aload hx hb dX9_setEnvelope_75 (lv_at hl 1 rfl) ?_
  refine lv_iload hx hb dX9_setEnvelope_77 (lv_at hl 7 rfl) ?_
  refine g_put (ci := 1) (C := RX1) (T := TX1) (N := 12) (ty := .int) hx hb hts iX9_setEnvelope_X1 tyX1 tyX1_ok nmX1 hown hK ha mA_in hP hS (lt_I (k_X5_instrumentOf )) (cM_I (k_X5_instrumentOf )) rfl 7 (by decide) rfl (by decide +kernel) rfl (by decide +kernel) rfl rfl (Nat.le_of_ble_eq_true rfl) (cM_I_set (k_X5_instrumentOf ) (by decide)) dX9_setEnvelope_79 (fun H locs hP hS => ?_)
  refine lv_iload hx hb dX9_setEnvelope_82 (lv_at hl 0 rfl) ?_
  exact g_iret hx hb hr hlocks (by unfold rX9_setEnvelope; rfl) (by unfold fX9_setEnvelope; rfl) rfl hP hS dX9_setEnvelope_84

def rX9_setFilter (S : Mm) (p1 : Int32) (p2 : Int32) (p3 : Int32) : Int32 := S (rX5_instrumentOf p1) 8
def fX9_setFilter (S : Mm) (p1 : Int32) (p2 : Int32) (p3 : Int32) : Mm := up2 (up2 S (rX5_instrumentOf p1) 8 p2) (rX5_instrumentOf p1) 9 p3
theorem iX9_setFilter_X1 : ∀ w ∈ u_ws RX1 TX1 12, w ∈ wsX9_setFilter := by decide +kernel
theorem iX9_setFilter_X9 : ∀ w ∈ u_ws RX9 TX9 4, w ∈ wsX9_setFilter := by decide +kernel
set_option maxHeartbeats 4000000 in
set_option maxRecDepth 100000 in
theorem c_X9_setFilter (l : Launch) (G : va_G) (cA : ClassId) (a : Nat → Nat) (ha : apart 38 a) (S : Mm) (L : Int64) (sz : Nat) (p1 : Int32) (p2 : Int32) (p3 : Int32)  (hh1 : ¬ p1 < 0) (hh2 : p1 < (4 : Int32)) (hh3 : ¬ p2 < (1 : Int32)) (hh4 : p2 ≤ (128 : Int32)) (hh5 : ¬ p3 < (16 : Int32)) (hh6 : p3 ≤ (256 : Int32)) : Met l yX9_setFilter wsX9_setFilter ({ frames := 1, cells := 0, slots := 0, locals := 22 } : Room) (va_Pc [.ref (a 0), .int p1, .int p2, .int p3] (gI G cA (a 37) 38 a (cM a cA) S L sz)) (gQi (rX9_setFilter S p1 p2 p3) G 38 a (cM a cA) (fX9_setFilter S p1 p2 p3) L sz) 0 0 (mA 38 a sz) := by
  refine g_met (cc := cX9_setFilter) (maxL := 6) (ret := (some .int)) (by decide) rfl (Nat.le_of_ble_eq_true rfl) ?_
  intro p e s m below meth c ls hx hb hr hlocks hml hts hown hnm hsz hK hP hS hl
  subst hsz
  have hl : lv_has ls 6 [(0, .ref (a 0)), (1, .int p1), (2, .int p2), (3, .int p3)] := hl
  refine lv_iload_n hx hb dX9_setFilter_0 rfl (lv_at hl 1 rfl) ?_
  refine lv_iconst (v := 4) hx hb dX9_setFilter_1 (by decide) ?_
  refine g_cSv (As := [.int p1, .int 4]) (rest := []) ⟨hx, hb, hml, hown, hts⟩ (c_X9_needPlace l G cA a ha S L s.heap.size p1 (4 : Int32)  hh1 hh2) (va_cwS 2 hts gX9_setFilter_X9_needPlace rfl rfl rfl (by decide +kernel) ⟨Nat.le_of_ble_eq_true rfl, Nat.le_of_ble_eq_true rfl⟩) hK (mA_mono hS.1) hP hS rfl hl.1 rfl (lv_room (Nat.le_of_ble_eq_true rfl)) dX9_setFilter_2 ⟨Nat.le_of_ble_eq_true rfl, Nat.le_of_ble_eq_true rfl⟩ (fun H locs hP hS _ _ => ?_)
  refine lv_iload_n hx hb dX9_setFilter_5 rfl (lv_at hl 2 rfl) ?_
  refine lv_iconst (v := 1) hx hb dX9_setFilter_6 (by decide) ?_
  refine lv_sipush (v := 128) hx hb dX9_setFilter_7 (by decide) ?_
  refine g_cSv (As := [.int p2, .int 1, .int 128]) (rest := []) ⟨hx, hb, hml, hown, hts⟩ (c_X9_needWithin l G cA a ha S L H.size p2 (1 : Int32) (128 : Int32)  hh3 hh4) (va_cwS 3 hts gX9_setFilter_X9_needWithin rfl rfl rfl (by decide +kernel) ⟨Nat.le_of_ble_eq_true rfl, Nat.le_of_ble_eq_true rfl⟩) hK (mA_mono hS.1) hP hS rfl hl.1 rfl (lv_room (Nat.le_of_ble_eq_true rfl)) dX9_setFilter_10 ⟨Nat.le_of_ble_eq_true rfl, Nat.le_of_ble_eq_true rfl⟩ (fun H locs hP hS _ _ => ?_)
  refine lv_iload_n hx hb dX9_setFilter_13 rfl (lv_at hl 3 rfl) ?_
  refine lv_bipush (v := 16) hx hb dX9_setFilter_14 (by decide) ?_
  refine lv_sipush (v := 256) hx hb dX9_setFilter_16 (by decide) ?_
  refine g_cSv (As := [.int p3, .int 16, .int 256]) (rest := []) ⟨hx, hb, hml, hown, hts⟩ (c_X9_needWithin l G cA a ha S L H.size p3 (16 : Int32) (256 : Int32)  hh5 hh6) (va_cwS 3 hts gX9_setFilter_X9_needWithin rfl rfl rfl (by decide +kernel) ⟨Nat.le_of_ble_eq_true rfl, Nat.le_of_ble_eq_true rfl⟩) hK (mA_mono hS.1) hP hS rfl hl.1 rfl (lv_room (Nat.le_of_ble_eq_true rfl)) dX9_setFilter_19 ⟨Nat.le_of_ble_eq_true rfl, Nat.le_of_ble_eq_true rfl⟩ (fun H locs hP hS _ _ => ?_)
  refine lv_aload_n hx hb dX9_setFilter_22 rfl (lv_at hl 0 rfl) ?_
  refine g_get (ci := 9) (C := RX9) (T := TX9) (N := 4) (v := .ref (a 1)) hx hb hts iX9_setFilter_X9 hown hK hP (by decide) rfl rfl 0 (by decide) rfl (by decide +kernel) rfl dX9_setFilter_23 ?_
  refine lv_iload_n hx hb dX9_setFilter_26 rfl (lv_at hl 1 rfl) ?_
  refine g_cVr (As := [.int p1]) (rest := []) ⟨hx, hb, hml, hown, hts⟩ (c_X5_instrumentOf l G cA a ha S L H.size p1  ) (cwV 1 hts gX9_setFilter_X5_instrumentOf rfl rfl rfl (by decide +kernel) ⟨Nat.le_of_ble_eq_true rfl, Nat.le_of_ble_eq_true rfl⟩) (g_recv hK hP (by decide) cM_S (C := RX5) (T := TX5) (N := 7) rfl) hK (mA_mono hS.1) hP hS rfl hl.1 rfl (lv_room (Nat.le_of_ble_eq_true rfl)) dX9_setFilter_27 ⟨Nat.le_of_ble_eq_true rfl, Nat.le_of_ble_eq_true rfl⟩ (fun H locs hP hS _ _ => ?_)
  refine lv_astore (lv' := [(4, .ref (a (rX5_instrumentOf p1))), (0, .ref (a 0)), (1, .int p1), (2, .int p2), (3, .int p3)]) hx hb dX9_setFilter_30 hl (by decide) rfl (fun ls hl => ?_)
  refine lv_aload hx hb dX9_setFilter_32 (lv_at hl 0 rfl) ?_
  refine g_get (ci := 1) (C := RX1) (T := TX1) (N := 12) (v := .int (S (rX5_instrumentOf p1) 8)) hx hb hts iX9_setFilter_X1 hown hK hP (lt_I (k_X5_instrumentOf )) (cM_I (k_X5_instrumentOf )) rfl 8 (by decide) rfl (by decide +kernel) rfl dX9_setFilter_34 ?_
  refine lv_istore (lv' := [(5, .int (S (rX5_instrumentOf p1) 8)), (4, .ref (a (rX5_instrumentOf p1))), (0, .ref (a 0)), (1, .int p1), (2, .int p2), (3, .int p3)]) hx hb dX9_setFilter_37 hl (by decide) rfl (fun ls hl => ?_)
  refine lv_aload hx hb dX9_setFilter_39 (lv_at hl 1 rfl) ?_
  refine lv_iload_n hx hb dX9_setFilter_41 rfl (lv_at hl 4 rfl) ?_
  refine g_put (ci := 1) (C := RX1) (T := TX1) (N := 12) (ty := .int) hx hb hts iX9_setFilter_X1 tyX1 tyX1_ok nmX1 hown hK ha mA_in hP hS (lt_I (k_X5_instrumentOf )) (cM_I (k_X5_instrumentOf )) rfl 8 (by decide) rfl (by decide +kernel) rfl (by decide +kernel) rfl rfl (Nat.le_of_ble_eq_true rfl) (cM_I_set (k_X5_instrumentOf ) (by decide)) dX9_setFilter_42 (fun H locs hP hS => ?_)
  refine lv_aload hx hb dX9_setFilter_45 (lv_at hl 1 rfl) ?_
  refine lv_iload_n hx hb dX9_setFilter_47 rfl (lv_at hl 5 rfl) ?_
  refine g_put (ci := 1) (C := RX1) (T := TX1) (N := 12) (ty := .int) hx hb hts iX9_setFilter_X1 tyX1 tyX1_ok nmX1 hown hK ha mA_in hP hS (lt_I (k_X5_instrumentOf )) (cM_I (k_X5_instrumentOf )) rfl 9 (by decide) rfl (by decide +kernel) rfl (by decide +kernel) rfl rfl (Nat.le_of_ble_eq_true rfl) (cM_I_set (k_X5_instrumentOf ) (by decide)) dX9_setFilter_48 (fun H locs hP hS => ?_)
  refine lv_iload hx hb dX9_setFilter_51 (lv_at hl 0 rfl) ?_
  exact g_iret hx hb hr hlocks (by unfold rX9_setFilter; rfl) (by unfold fX9_setFilter; rfl) rfl hP hS dX9_setFilter_53

def rX9_setVibrato (S : Mm) (p1 : Int32) (p2 : Int32) (p3 : Int32) : Int32 := S (rX5_instrumentOf p1) 10
def fX9_setVibrato (S : Mm) (p1 : Int32) (p2 : Int32) (p3 : Int32) : Mm := up2 (up2 S (rX5_instrumentOf p1) 10 p2) (rX5_instrumentOf p1) 11 p3
theorem iX9_setVibrato_X1 : ∀ w ∈ u_ws RX1 TX1 12, w ∈ wsX9_setVibrato := by decide +kernel
theorem iX9_setVibrato_X9 : ∀ w ∈ u_ws RX9 TX9 4, w ∈ wsX9_setVibrato := by decide +kernel
set_option maxHeartbeats 4000000 in
set_option maxRecDepth 100000 in
theorem c_X9_setVibrato (l : Launch) (G : va_G) (cA : ClassId) (a : Nat → Nat) (ha : apart 38 a) (S : Mm) (L : Int64) (sz : Nat) (p1 : Int32) (p2 : Int32) (p3 : Int32)  (hh1 : ¬ p1 < 0) (hh2 : p1 < (4 : Int32)) (hh3 : ¬ p2 < (0 : Int32)) (hh4 : p2 ≤ (64 : Int32)) (hh5 : ¬ p3 < (8 : Int32)) (hh6 : p3 ≤ (255 : Int32)) : Met l yX9_setVibrato wsX9_setVibrato ({ frames := 1, cells := 0, slots := 0, locals := 22 } : Room) (va_Pc [.ref (a 0), .int p1, .int p2, .int p3] (gI G cA (a 37) 38 a (cM a cA) S L sz)) (gQi (rX9_setVibrato S p1 p2 p3) G 38 a (cM a cA) (fX9_setVibrato S p1 p2 p3) L sz) 0 0 (mA 38 a sz) := by
  refine g_met (cc := cX9_setVibrato) (maxL := 6) (ret := (some .int)) (by decide) rfl (Nat.le_of_ble_eq_true rfl) ?_
  intro p e s m below meth c ls hx hb hr hlocks hml hts hown hnm hsz hK hP hS hl
  subst hsz
  have hl : lv_has ls 6 [(0, .ref (a 0)), (1, .int p1), (2, .int p2), (3, .int p3)] := hl
  refine lv_iload_n hx hb dX9_setVibrato_0 rfl (lv_at hl 1 rfl) ?_
  refine lv_iconst (v := 4) hx hb dX9_setVibrato_1 (by decide) ?_
  refine g_cSv (As := [.int p1, .int 4]) (rest := []) ⟨hx, hb, hml, hown, hts⟩ (c_X9_needPlace l G cA a ha S L s.heap.size p1 (4 : Int32)  hh1 hh2) (va_cwS 2 hts gX9_setVibrato_X9_needPlace rfl rfl rfl (by decide +kernel) ⟨Nat.le_of_ble_eq_true rfl, Nat.le_of_ble_eq_true rfl⟩) hK (mA_mono hS.1) hP hS rfl hl.1 rfl (lv_room (Nat.le_of_ble_eq_true rfl)) dX9_setVibrato_2 ⟨Nat.le_of_ble_eq_true rfl, Nat.le_of_ble_eq_true rfl⟩ (fun H locs hP hS _ _ => ?_)
  refine lv_iload_n hx hb dX9_setVibrato_5 rfl (lv_at hl 2 rfl) ?_
  refine lv_iconst (v := 0) hx hb dX9_setVibrato_6 (by decide) ?_
  refine lv_bipush (v := 64) hx hb dX9_setVibrato_7 (by decide) ?_
  refine g_cSv (As := [.int p2, .int 0, .int 64]) (rest := []) ⟨hx, hb, hml, hown, hts⟩ (c_X9_needWithin l G cA a ha S L H.size p2 (0 : Int32) (64 : Int32)  hh3 hh4) (va_cwS 3 hts gX9_setVibrato_X9_needWithin rfl rfl rfl (by decide +kernel) ⟨Nat.le_of_ble_eq_true rfl, Nat.le_of_ble_eq_true rfl⟩) hK (mA_mono hS.1) hP hS rfl hl.1 rfl (lv_room (Nat.le_of_ble_eq_true rfl)) dX9_setVibrato_9 ⟨Nat.le_of_ble_eq_true rfl, Nat.le_of_ble_eq_true rfl⟩ (fun H locs hP hS _ _ => ?_)
  refine lv_iload_n hx hb dX9_setVibrato_12 rfl (lv_at hl 3 rfl) ?_
  refine lv_bipush (v := 8) hx hb dX9_setVibrato_13 (by decide) ?_
  refine lv_sipush (v := 255) hx hb dX9_setVibrato_15 (by decide) ?_
  refine g_cSv (As := [.int p3, .int 8, .int 255]) (rest := []) ⟨hx, hb, hml, hown, hts⟩ (c_X9_needWithin l G cA a ha S L H.size p3 (8 : Int32) (255 : Int32)  hh5 hh6) (va_cwS 3 hts gX9_setVibrato_X9_needWithin rfl rfl rfl (by decide +kernel) ⟨Nat.le_of_ble_eq_true rfl, Nat.le_of_ble_eq_true rfl⟩) hK (mA_mono hS.1) hP hS rfl hl.1 rfl (lv_room (Nat.le_of_ble_eq_true rfl)) dX9_setVibrato_18 ⟨Nat.le_of_ble_eq_true rfl, Nat.le_of_ble_eq_true rfl⟩ (fun H locs hP hS _ _ => ?_)
  refine lv_aload_n hx hb dX9_setVibrato_21 rfl (lv_at hl 0 rfl) ?_
  refine g_get (ci := 9) (C := RX9) (T := TX9) (N := 4) (v := .ref (a 1)) hx hb hts iX9_setVibrato_X9 hown hK hP (by decide) rfl rfl 0 (by decide) rfl (by decide +kernel) rfl dX9_setVibrato_22 ?_
  refine lv_iload_n hx hb dX9_setVibrato_25 rfl (lv_at hl 1 rfl) ?_
  refine g_cVr (As := [.int p1]) (rest := []) ⟨hx, hb, hml, hown, hts⟩ (c_X5_instrumentOf l G cA a ha S L H.size p1  ) (cwV 1 hts gX9_setVibrato_X5_instrumentOf rfl rfl rfl (by decide +kernel) ⟨Nat.le_of_ble_eq_true rfl, Nat.le_of_ble_eq_true rfl⟩) (g_recv hK hP (by decide) cM_S (C := RX5) (T := TX5) (N := 7) rfl) hK (mA_mono hS.1) hP hS rfl hl.1 rfl (lv_room (Nat.le_of_ble_eq_true rfl)) dX9_setVibrato_26 ⟨Nat.le_of_ble_eq_true rfl, Nat.le_of_ble_eq_true rfl⟩ (fun H locs hP hS _ _ => ?_)
  refine lv_astore (lv' := [(4, .ref (a (rX5_instrumentOf p1))), (0, .ref (a 0)), (1, .int p1), (2, .int p2), (3, .int p3)]) hx hb dX9_setVibrato_29 hl (by decide) rfl (fun ls hl => ?_)
  refine lv_aload hx hb dX9_setVibrato_31 (lv_at hl 0 rfl) ?_
  refine g_get (ci := 1) (C := RX1) (T := TX1) (N := 12) (v := .int (S (rX5_instrumentOf p1) 10)) hx hb hts iX9_setVibrato_X1 hown hK hP (lt_I (k_X5_instrumentOf )) (cM_I (k_X5_instrumentOf )) rfl 10 (by decide) rfl (by decide +kernel) rfl dX9_setVibrato_33 ?_
  refine lv_istore (lv' := [(5, .int (S (rX5_instrumentOf p1) 10)), (4, .ref (a (rX5_instrumentOf p1))), (0, .ref (a 0)), (1, .int p1), (2, .int p2), (3, .int p3)]) hx hb dX9_setVibrato_36 hl (by decide) rfl (fun ls hl => ?_)
  refine lv_aload hx hb dX9_setVibrato_38 (lv_at hl 1 rfl) ?_
  refine lv_iload_n hx hb dX9_setVibrato_40 rfl (lv_at hl 4 rfl) ?_
  refine g_put (ci := 1) (C := RX1) (T := TX1) (N := 12) (ty := .int) hx hb hts iX9_setVibrato_X1 tyX1 tyX1_ok nmX1 hown hK ha mA_in hP hS (lt_I (k_X5_instrumentOf )) (cM_I (k_X5_instrumentOf )) rfl 10 (by decide) rfl (by decide +kernel) rfl (by decide +kernel) rfl rfl (Nat.le_of_ble_eq_true rfl) (cM_I_set (k_X5_instrumentOf ) (by decide)) dX9_setVibrato_41 (fun H locs hP hS => ?_)
  refine lv_aload hx hb dX9_setVibrato_44 (lv_at hl 1 rfl) ?_
  refine lv_iload_n hx hb dX9_setVibrato_46 rfl (lv_at hl 5 rfl) ?_
  refine g_put (ci := 1) (C := RX1) (T := TX1) (N := 12) (ty := .int) hx hb hts iX9_setVibrato_X1 tyX1 tyX1_ok nmX1 hown hK ha mA_in hP hS (lt_I (k_X5_instrumentOf )) (cM_I (k_X5_instrumentOf )) rfl 11 (by decide) rfl (by decide +kernel) rfl (by decide +kernel) rfl rfl (Nat.le_of_ble_eq_true rfl) (cM_I_set (k_X5_instrumentOf ) (by decide)) dX9_setVibrato_47 (fun H locs hP hS => ?_)
  refine lv_iload hx hb dX9_setVibrato_50 (lv_at hl 0 rfl) ?_
  exact g_iret hx hb hr hlocks (by unfold rX9_setVibrato; rfl) (by unfold fX9_setVibrato; rfl) rfl hP hS dX9_setVibrato_52

def rX9_setGain (S : Mm) (p1 : Int32) : Int32 := S 1 2
def fX9_setGain (S : Mm) (p1 : Int32) : Mm := up2 S 1 2 p1
theorem iX9_setGain_X5 : ∀ w ∈ u_ws RX5 TX5 7, w ∈ wsX9_setGain := by decide +kernel
theorem iX9_setGain_X9 : ∀ w ∈ u_ws RX9 TX9 4, w ∈ wsX9_setGain := by decide +kernel
set_option maxHeartbeats 4000000 in
set_option maxRecDepth 100000 in
theorem c_X9_setGain (l : Launch) (G : va_G) (cA : ClassId) (a : Nat → Nat) (ha : apart 38 a) (S : Mm) (L : Int64) (sz : Nat) (p1 : Int32)  (hh1 : ¬ p1 < (0 : Int32)) (hh2 : p1 ≤ (256 : Int32)) : Met l yX9_setGain wsX9_setGain ({ frames := 1, cells := 0, slots := 0, locals := 22 } : Room) (va_Pc [.ref (a 0), .int p1] (gI G cA (a 37) 38 a (cM a cA) S L sz)) (gQi (rX9_setGain S p1) G 38 a (cM a cA) (fX9_setGain S p1) L sz) 0 0 (mA 38 a sz) := by
  refine g_met (cc := cX9_setGain) (maxL := 3) (ret := (some .int)) (by decide) rfl (Nat.le_of_ble_eq_true rfl) ?_
  intro p e s m below meth c ls hx hb hr hlocks hml hts hown hnm hsz hK hP hS hl
  subst hsz
  have hl : lv_has ls 3 [(0, .ref (a 0)), (1, .int p1)] := hl
  refine lv_iload_n hx hb dX9_setGain_0 rfl (lv_at hl 1 rfl) ?_
  refine lv_iconst (v := 0) hx hb dX9_setGain_1 (by decide) ?_
  refine lv_sipush (v := 256) hx hb dX9_setGain_2 (by decide) ?_
  refine g_cSv (As := [.int p1, .int 0, .int 256]) (rest := []) ⟨hx, hb, hml, hown, hts⟩ (c_X9_needWithin l G cA a ha S L s.heap.size p1 (0 : Int32) (256 : Int32)  hh1 hh2) (va_cwS 3 hts gX9_setGain_X9_needWithin rfl rfl rfl (by decide +kernel) ⟨Nat.le_of_ble_eq_true rfl, Nat.le_of_ble_eq_true rfl⟩) hK (mA_mono hS.1) hP hS rfl hl.1 rfl (lv_room (Nat.le_of_ble_eq_true rfl)) dX9_setGain_5 ⟨Nat.le_of_ble_eq_true rfl, Nat.le_of_ble_eq_true rfl⟩ (fun H locs hP hS _ _ => ?_)
  refine lv_aload_n hx hb dX9_setGain_8 rfl (lv_at hl 0 rfl) ?_
  refine g_get (ci := 9) (C := RX9) (T := TX9) (N := 4) (v := .ref (a 1)) hx hb hts iX9_setGain_X9 hown hK hP (by decide) rfl rfl 0 (by decide) rfl (by decide +kernel) rfl dX9_setGain_9 ?_
  refine g_get (ci := 5) (C := RX5) (T := TX5) (N := 7) (v := .int (S 1 2)) hx hb hts iX9_setGain_X5 hown hK hP (by decide) cM_S rfl 2 (by decide) rfl (by decide +kernel) rfl dX9_setGain_12 ?_
  refine lv_istore_n (lv' := [(2, .int (S 1 2)), (0, .ref (a 0)), (1, .int p1)]) hx hb dX9_setGain_15 rfl hl (by decide) rfl (fun ls hl => ?_)
  refine lv_aload_n hx hb dX9_setGain_16 rfl (lv_at hl 1 rfl) ?_
  refine g_get (ci := 9) (C := RX9) (T := TX9) (N := 4) (v := .ref (a 1)) hx hb hts iX9_setGain_X9 hown hK hP (by decide) rfl rfl 0 (by decide) rfl (by decide +kernel) rfl dX9_setGain_17 ?_
  refine lv_iload_n hx hb dX9_setGain_20 rfl (lv_at hl 2 rfl) ?_
  refine g_put (ci := 5) (C := RX5) (T := TX5) (N := 7) (ty := .int) hx hb hts iX9_setGain_X5 tyX5 tyX5_ok nmX5 hown hK ha mA_in hP hS (by decide) cM_S rfl 2 (by decide) rfl (by decide +kernel) rfl (by decide +kernel) rfl rfl (Nat.le_of_ble_eq_true rfl) (cM_S_set (by decide)) dX9_setGain_21 (fun H locs hP hS => ?_)
  refine lv_iload_n hx hb dX9_setGain_24 rfl (lv_at hl 0 rfl) ?_
  exact g_iret hx hb hr hlocks (by unfold rX9_setGain; rfl) (by unfold fX9_setGain; rfl) rfl hP hS dX9_setGain_25

def rX9_setDelay (S : Mm) (p1 : Int32) (p2 : Int32) (p3 : Int32) : Int32 := S 19 0
def fX9_setDelay (S : Mm) (p1 : Int32) (p2 : Int32) (p3 : Int32) : Mm := fX0_tell S 19 p1 p2 p3
theorem iX9_setDelay_X0 : ∀ w ∈ u_ws RX0 TX0 5, w ∈ wsX9_setDelay := by decide +kernel
theorem iX9_setDelay_X6 : ∀ w ∈ u_ws RX6 TX6 12, w ∈ wsX9_setDelay := by decide +kernel
theorem iX9_setDelay_X9 : ∀ w ∈ u_ws RX9 TX9 4, w ∈ wsX9_setDelay := by decide +kernel
set_option maxHeartbeats 4000000 in
set_option maxRecDepth 100000 in
theorem c_X9_setDelay (l : Launch) (G : va_G) (cA : ClassId) (a : Nat → Nat) (ha : apart 38 a) (S : Mm) (L : Int64) (sz : Nat) (p1 : Int32) (p2 : Int32) (p3 : Int32)  (hh1 : ¬ p1 < (0 : Int32)) (hh2 : p1 ≤ (200 : Int32)) (hh3 : ¬ p2 < (0 : Int32)) (hh4 : p2 ≤ (256 : Int32)) (hh5 : ¬ p3 < (0 : Int32)) (hh6 : p3 ≤ (256 : Int32)) : Met l yX9_setDelay wsX9_setDelay ({ frames := 2, cells := 0, slots := 0, locals := 45 } : Room) (va_Pc [.ref (a 0), .int p1, .int p2, .int p3] (gI G cA (a 37) 38 a (cM a cA) S L sz)) (gQi (rX9_setDelay S p1 p2 p3) G 38 a (cM a cA) (fX9_setDelay S p1 p2 p3) L sz) 0 0 (mA 38 a sz) := by
  refine g_met (cc := cX9_setDelay) (maxL := 5) (ret := (some .int)) (by decide) rfl (Nat.le_of_ble_eq_true rfl) ?_
  intro p e s m below meth c ls hx hb hr hlocks hml hts hown hnm hsz hK hP hS hl
  subst hsz
  have hl : lv_has ls 5 [(0, .ref (a 0)), (1, .int p1), (2, .int p2), (3, .int p3)] := hl
  refine lv_iload_n hx hb dX9_setDelay_0 rfl (lv_at hl 1 rfl) ?_
  refine lv_iconst (v := 0) hx hb dX9_setDelay_1 (by decide) ?_
  refine lv_sipush (v := 200) hx hb dX9_setDelay_2 (by decide) ?_
  refine g_cSv (As := [.int p1, .int 0, .int 200]) (rest := []) ⟨hx, hb, hml, hown, hts⟩ (c_X9_needWithin l G cA a ha S L s.heap.size p1 (0 : Int32) (200 : Int32)  hh1 hh2) (va_cwS 3 hts gX9_setDelay_X9_needWithin rfl rfl rfl (by decide +kernel) ⟨Nat.le_of_ble_eq_true rfl, Nat.le_of_ble_eq_true rfl⟩) hK (mA_mono hS.1) hP hS rfl hl.1 rfl (lv_room (Nat.le_of_ble_eq_true rfl)) dX9_setDelay_5 ⟨Nat.le_of_ble_eq_true rfl, Nat.le_of_ble_eq_true rfl⟩ (fun H locs hP hS _ _ => ?_)
  refine lv_iload_n hx hb dX9_setDelay_8 rfl (lv_at hl 2 rfl) ?_
  refine lv_iconst (v := 0) hx hb dX9_setDelay_9 (by decide) ?_
  refine lv_sipush (v := 256) hx hb dX9_setDelay_10 (by decide) ?_
  refine g_cSv (As := [.int p2, .int 0, .int 256]) (rest := []) ⟨hx, hb, hml, hown, hts⟩ (c_X9_needWithin l G cA a ha S L H.size p2 (0 : Int32) (256 : Int32)  hh3 hh4) (va_cwS 3 hts gX9_setDelay_X9_needWithin rfl rfl rfl (by decide +kernel) ⟨Nat.le_of_ble_eq_true rfl, Nat.le_of_ble_eq_true rfl⟩) hK (mA_mono hS.1) hP hS rfl hl.1 rfl (lv_room (Nat.le_of_ble_eq_true rfl)) dX9_setDelay_13 ⟨Nat.le_of_ble_eq_true rfl, Nat.le_of_ble_eq_true rfl⟩ (fun H locs hP hS _ _ => ?_)
  refine lv_iload_n hx hb dX9_setDelay_16 rfl (lv_at hl 3 rfl) ?_
  refine lv_iconst (v := 0) hx hb dX9_setDelay_17 (by decide) ?_
  refine lv_sipush (v := 256) hx hb dX9_setDelay_18 (by decide) ?_
  refine g_cSv (As := [.int p3, .int 0, .int 256]) (rest := []) ⟨hx, hb, hml, hown, hts⟩ (c_X9_needWithin l G cA a ha S L H.size p3 (0 : Int32) (256 : Int32)  hh5 hh6) (va_cwS 3 hts gX9_setDelay_X9_needWithin rfl rfl rfl (by decide +kernel) ⟨Nat.le_of_ble_eq_true rfl, Nat.le_of_ble_eq_true rfl⟩) hK (mA_mono hS.1) hP hS rfl hl.1 rfl (lv_room (Nat.le_of_ble_eq_true rfl)) dX9_setDelay_21 ⟨Nat.le_of_ble_eq_true rfl, Nat.le_of_ble_eq_true rfl⟩ (fun H locs hP hS _ _ => ?_)
  refine lv_aload_n hx hb dX9_setDelay_24 rfl (lv_at hl 0 rfl) ?_
  refine g_get (ci := 9) (C := RX9) (T := TX9) (N := 4) (v := .ref (a 18)) hx hb hts iX9_setDelay_X9 hown hK hP (by decide) rfl rfl 1 (by decide) rfl (by decide +kernel) rfl dX9_setDelay_25 ?_
  refine g_get (ci := 6) (C := RX6) (T := TX6) (N := 12) (v := .ref (a 19)) hx hb hts iX9_setDelay_X6 hown hK hP (lt_G (by decide)) (cM_G (by decide)) rfl 1 (by decide) rfl (by decide +kernel) rfl dX9_setDelay_28 ?_
  refine g_get (ci := 0) (C := RX0) (T := TX0) (N := 5) (v := .int (S 19 0)) hx hb hts iX9_setDelay_X0 hown hK hP (lt_Dl (isDl_G (by decide))) (cM_Dl (isDl_G (by decide))) rfl 0 (by decide) rfl (by decide +kernel) rfl dX9_setDelay_31 ?_
  refine lv_istore (lv' := [(4, .int (S 19 0)), (0, .ref (a 0)), (1, .int p1), (2, .int p2), (3, .int p3)]) hx hb dX9_setDelay_34 hl (by decide) rfl (fun ls hl => ?_)
  refine lv_aload_n hx hb dX9_setDelay_36 rfl (lv_at hl 1 rfl) ?_
  refine g_get (ci := 9) (C := RX9) (T := TX9) (N := 4) (v := .ref (a 18)) hx hb hts iX9_setDelay_X9 hown hK hP (by decide) rfl rfl 1 (by decide) rfl (by decide +kernel) rfl dX9_setDelay_37 ?_
  refine g_get (ci := 6) (C := RX6) (T := TX6) (N := 12) (v := .ref (a 19)) hx hb hts iX9_setDelay_X6 hown hK hP (lt_G (by decide)) (cM_G (by decide)) rfl 1 (by decide) rfl (by decide +kernel) rfl dX9_setDelay_40 ?_
  refine lv_iload_n hx hb dX9_setDelay_43 rfl (lv_at hl 2 rfl) ?_
  refine lv_iload_n hx hb dX9_setDelay_44 rfl (lv_at hl 3 rfl) ?_
  refine lv_iload_n hx hb dX9_setDelay_45 rfl (lv_at hl 4 rfl) ?_
  refine g_cVv (As := [.int p1, .int p2, .int p3]) (rest := []) ⟨hx, hb, hml, hown, hts⟩ (c_X0_tell l G cA a ha S L H.size 19 p1 p2 p3 (isDl_G (by decide)) ) (cwV 3 hts gX9_setDelay_X0_tell rfl rfl rfl (by decide +kernel) ⟨Nat.le_of_ble_eq_true rfl, Nat.le_of_ble_eq_true rfl⟩) (g_recv hK hP (lt_Dl (isDl_G (by decide))) (cM_Dl (isDl_G (by decide))) (C := RX0) (T := TX0) (N := 5) rfl) hK (mA_mono hS.1) hP hS rfl hl.1 rfl (lv_room (Nat.le_of_ble_eq_true rfl)) dX9_setDelay_46 ⟨Nat.le_of_ble_eq_true rfl, Nat.le_of_ble_eq_true rfl⟩ (fun H locs hP hS _ _ => ?_)
  refine lv_iload hx hb dX9_setDelay_49 (lv_at hl 0 rfl) ?_
  exact g_iret hx hb hr hlocks (by unfold rX9_setDelay; rfl) (by unfold fX9_setDelay; rfl) rfl hP hS dX9_setDelay_51

def rX9_begin (S : Mm) (p1 : Int32) (p2 : Int32) (p3 : Int32) : Int32 := rX6_startNote S 18 p1 p2 p3 ((-1) : Int32)
def fX9_begin (S : Mm) (p1 : Int32) (p2 : Int32) (p3 : Int32) : Mm := fX6_startNote S 18 p1 p2 p3 ((-1) : Int32)
theorem iX9_begin_X9 : ∀ w ∈ u_ws RX9 TX9 4, w ∈ wsX9_begin := by decide +kernel
set_option maxHeartbeats 4000000 in
set_option maxRecDepth 100000 in
theorem c_X9_begin (l : Launch) (G : va_G) (cA : ClassId) (a : Nat → Nat) (ha : apart 38 a) (S : Mm) (L : Int64) (sz : Nat) (p1 : Int32) (p2 : Int32) (p3 : Int32)  (hh1 : ¬ p1 < 0) (hh2 : p1 < (4 : Int32)) (hh3 : ¬ p2 < (0 : Int32)) (hh4 : p2 ≤ (47 : Int32)) (hh5 : ¬ p3 < (1 : Int32)) (hh6 : p3 ≤ (127 : Int32)) : Met l yX9_begin wsX9_begin ({ frames := 4, cells := 0, slots := 0, locals := 91 } : Room) (va_Pc [.ref (a 0), .int p1, .int p2, .int p3] (gI G cA (a 37) 38 a (cM a cA) S L sz)) (gQi (rX9_begin S p1 p2 p3) G 38 a (cM a cA) (fX9_begin S p1 p2 p3) L sz) 0 0 (mA 38 a sz) := by
  refine g_met (cc := cX9_begin) (maxL := 4) (ret := (some .int)) (by decide) rfl (Nat.le_of_ble_eq_true rfl) ?_
  intro p e s m below meth c ls hx hb hr hlocks hml hts hown hnm hsz hK hP hS hl
  subst hsz
  have hl : lv_has ls 4 [(0, .ref (a 0)), (1, .int p1), (2, .int p2), (3, .int p3)] := hl
  refine lv_iload_n hx hb dX9_begin_0 rfl (lv_at hl 1 rfl) ?_
  refine lv_iconst (v := 4) hx hb dX9_begin_1 (by decide) ?_
  refine g_cSv (As := [.int p1, .int 4]) (rest := []) ⟨hx, hb, hml, hown, hts⟩ (c_X9_needPlace l G cA a ha S L s.heap.size p1 (4 : Int32)  hh1 hh2) (va_cwS 2 hts gX9_begin_X9_needPlace rfl rfl rfl (by decide +kernel) ⟨Nat.le_of_ble_eq_true rfl, Nat.le_of_ble_eq_true rfl⟩) hK (mA_mono hS.1) hP hS rfl hl.1 rfl (lv_room (Nat.le_of_ble_eq_true rfl)) dX9_begin_2 ⟨Nat.le_of_ble_eq_true rfl, Nat.le_of_ble_eq_true rfl⟩ (fun H locs hP hS _ _ => ?_)
  refine lv_iload_n hx hb dX9_begin_5 rfl (lv_at hl 2 rfl) ?_
  refine lv_iconst (v := 0) hx hb dX9_begin_6 (by decide) ?_
  refine lv_bipush (v := 47) hx hb dX9_begin_7 (by decide) ?_
  refine g_cSv (As := [.int p2, .int 0, .int 47]) (rest := []) ⟨hx, hb, hml, hown, hts⟩ (c_X9_needWithin l G cA a ha S L H.size p2 (0 : Int32) (47 : Int32)  hh3 hh4) (va_cwS 3 hts gX9_begin_X9_needWithin rfl rfl rfl (by decide +kernel) ⟨Nat.le_of_ble_eq_true rfl, Nat.le_of_ble_eq_true rfl⟩) hK (mA_mono hS.1) hP hS rfl hl.1 rfl (lv_room (Nat.le_of_ble_eq_true rfl)) dX9_begin_9 ⟨Nat.le_of_ble_eq_true rfl, Nat.le_of_ble_eq_true rfl⟩ (fun H locs hP hS _ _ => ?_)
  refine lv_iload_n hx hb dX9_begin_12 rfl (lv_at hl 3 rfl) ?_
  refine lv_iconst (v := 1) hx hb dX9_begin_13 (by decide) ?_
  refine lv_bipush (v := 127) hx hb dX9_begin_14 (by decide) ?_
  refine g_cSv (As := [.int p3, .int 1, .int 127]) (rest := []) ⟨hx, hb, hml, hown, hts⟩ (c_X9_needWithin l G cA a ha S L H.size p3 (1 : Int32) (127 : Int32)  hh5 hh6) (va_cwS 3 hts gX9_begin_X9_needWithin rfl rfl rfl (by decide +kernel) ⟨Nat.le_of_ble_eq_true rfl, Nat.le_of_ble_eq_true rfl⟩) hK (mA_mono hS.1) hP hS rfl hl.1 rfl (lv_room (Nat.le_of_ble_eq_true rfl)) dX9_begin_16 ⟨Nat.le_of_ble_eq_true rfl, Nat.le_of_ble_eq_true rfl⟩ (fun H locs hP hS _ _ => ?_)
  refine lv_aload_n hx hb dX9_begin_19 rfl (lv_at hl 0 rfl) ?_
  refine g_get (ci := 9) (C := RX9) (T := TX9) (N := 4) (v := .ref (a 18)) hx hb hts iX9_begin_X9 hown hK hP (by decide) rfl rfl 1 (by decide) rfl (by decide +kernel) rfl dX9_begin_20 ?_
  refine lv_iload_n hx hb dX9_begin_23 rfl (lv_at hl 1 rfl) ?_
  refine lv_iload_n hx hb dX9_begin_24 rfl (lv_at hl 2 rfl) ?_
  refine lv_iload_n hx hb dX9_begin_25 rfl (lv_at hl 3 rfl) ?_
  refine lv_iconst (v := (-1)) hx hb dX9_begin_26 (by decide) ?_
  refine g_cVi (As := [.int p1, .int p2, .int p3, .int (-1)]) (rest := []) ⟨hx, hb, hml, hown, hts⟩ (c_X6_startNote l G cA a ha S L H.size 18 p1 p2 p3 ((-1) : Int32) (by decide) ) (cwV 4 hts gX9_begin_X6_startNote rfl rfl rfl (by decide +kernel) ⟨Nat.le_of_ble_eq_true rfl, Nat.le_of_ble_eq_true rfl⟩) (g_recv hK hP (lt_G (by decide)) (cM_G (by decide)) (C := RX6) (T := TX6) (N := 12) rfl) hK (mA_mono hS.1) hP hS rfl hl.1 rfl (lv_room (Nat.le_of_ble_eq_true rfl)) dX9_begin_27 ⟨Nat.le_of_ble_eq_true rfl, Nat.le_of_ble_eq_true rfl⟩ (fun H locs hP hS _ _ => ?_)
  exact g_iret hx hb hr hlocks (by unfold rX9_begin; rfl) (by unfold fX9_begin; rfl) rfl hP hS dX9_begin_30

def rX9_end (S : Mm) (p1 : Int32) : Int32 := S (rX6_voiceOf 18 p1) 0
def fX9_end (S : Mm) (p1 : Int32) : Mm := fX7_release S (rX6_voiceOf 18 p1)
theorem iX9_end_X7 : ∀ w ∈ u_ws RX7 TX7 11, w ∈ wsX9_end := by decide +kernel
theorem iX9_end_X9 : ∀ w ∈ u_ws RX9 TX9 4, w ∈ wsX9_end := by decide +kernel
set_option maxHeartbeats 4000000 in
set_option maxRecDepth 100000 in
theorem c_X9_end (l : Launch) (G : va_G) (cA : ClassId) (a : Nat → Nat) (ha : apart 38 a) (S : Mm) (L : Int64) (sz : Nat) (p1 : Int32)  (hh1 : ¬ p1 < 0) (hh2 : p1 < (4 : Int32)) : Met l yX9_end wsX9_end ({ frames := 1, cells := 0, slots := 0, locals := 21 } : Room) (va_Pc [.ref (a 0), .int p1] (gI G cA (a 37) 38 a (cM a cA) S L sz)) (gQi (rX9_end S p1) G 38 a (cM a cA) (fX9_end S p1) L sz) 0 0 (mA 38 a sz) := by
  refine g_met (cc := cX9_end) (maxL := 4) (ret := (some .int)) (by decide) rfl (Nat.le_of_ble_eq_true rfl) ?_
  intro p e s m below meth c ls hx hb hr hlocks hml hts hown hnm hsz hK hP hS hl
  subst hsz
  have hl : lv_has ls 4 [(0, .ref (a 0)), (1, .int p1)] := hl
  refine lv_iload_n hx hb dX9_end_0 rfl (lv_at hl 1 rfl) ?_
  refine lv_iconst (v := 4) hx hb dX9_end_1 (by decide) ?_
  refine g_cSv (As := [.int p1, .int 4]) (rest := []) ⟨hx, hb, hml, hown, hts⟩ (c_X9_needPlace l G cA a ha S L s.heap.size p1 (4 : Int32)  hh1 hh2) (va_cwS 2 hts gX9_end_X9_needPlace rfl rfl rfl (by decide +kernel) ⟨Nat.le_of_ble_eq_true rfl, Nat.le_of_ble_eq_true rfl⟩) hK (mA_mono hS.1) hP hS rfl hl.1 rfl (lv_room (Nat.le_of_ble_eq_true rfl)) dX9_end_2 ⟨Nat.le_of_ble_eq_true rfl, Nat.le_of_ble_eq_true rfl⟩ (fun H locs hP hS _ _ => ?_)
  refine lv_aload_n hx hb dX9_end_5 rfl (lv_at hl 0 rfl) ?_
  refine g_get (ci := 9) (C := RX9) (T := TX9) (N := 4) (v := .ref (a 18)) hx hb hts iX9_end_X9 hown hK hP (by decide) rfl rfl 1 (by decide) rfl (by decide +kernel) rfl dX9_end_6 ?_
  refine lv_iload_n hx hb dX9_end_9 rfl (lv_at hl 1 rfl) ?_
  refine g_cVr (As := [.int p1]) (rest := []) ⟨hx, hb, hml, hown, hts⟩ (c_X6_voiceOf l G cA a ha S L H.size 18 p1 (by decide) ) (cwV 1 hts gX9_end_X6_voiceOf rfl rfl rfl (by decide +kernel) ⟨Nat.le_of_ble_eq_true rfl, Nat.le_of_ble_eq_true rfl⟩) (g_recv hK hP (lt_G (by decide)) (cM_G (by decide)) (C := RX6) (T := TX6) (N := 12) rfl) hK (mA_mono hS.1) hP hS rfl hl.1 rfl (lv_room (Nat.le_of_ble_eq_true rfl)) dX9_end_10 ⟨Nat.le_of_ble_eq_true rfl, Nat.le_of_ble_eq_true rfl⟩ (fun H locs hP hS _ _ => ?_)
  refine lv_astore_n (lv' := [(2, .ref (a (rX6_voiceOf 18 p1))), (0, .ref (a 0)), (1, .int p1)]) hx hb dX9_end_13 rfl hl (by decide) rfl (fun ls hl => ?_)
  refine lv_aload_n hx hb dX9_end_14 rfl (lv_at hl 0 rfl) ?_
  refine g_get (ci := 7) (C := RX7) (T := TX7) (N := 11) (v := .int (S (rX6_voiceOf 18 p1) 0)) hx hb hts iX9_end_X7 hown hK hP (lt_V (k_X6_voiceOf (by decide))) (cM_V (k_X6_voiceOf (by decide))) rfl 0 (by decide) rfl (by decide +kernel) rfl dX9_end_15 ?_
  refine lv_istore_n (lv' := [(3, .int (S (rX6_voiceOf 18 p1) 0)), (2, .ref (a (rX6_voiceOf 18 p1))), (0, .ref (a 0)), (1, .int p1)]) hx hb dX9_end_18 rfl hl (by decide) rfl (fun ls hl => ?_)
  refine lv_aload_n hx hb dX9_end_19 rfl (lv_at hl 1 rfl) ?_
  refine g_cVv (As := []) (rest := []) ⟨hx, hb, hml, hown, hts⟩ (c_X7_release l G cA a ha S L H.size (rX6_voiceOf 18 p1) (k_X6_voiceOf (by decide)) ) (cwV 0 hts gX9_end_X7_release rfl rfl rfl (by decide +kernel) ⟨Nat.le_of_ble_eq_true rfl, Nat.le_of_ble_eq_true rfl⟩) (g_recv hK hP (lt_V (k_X6_voiceOf (by decide))) (cM_V (k_X6_voiceOf (by decide))) (C := RX7) (T := TX7) (N := 11) rfl) hK (mA_mono hS.1) hP hS rfl hl.1 rfl (lv_room (Nat.le_of_ble_eq_true rfl)) dX9_end_20 ⟨Nat.le_of_ble_eq_true rfl, Nat.le_of_ble_eq_true rfl⟩ (fun H locs hP hS _ _ => ?_)
  refine lv_iload_n hx hb dX9_end_23 rfl (lv_at hl 0 rfl) ?_
  exact g_iret hx hb hr hlocks (by unfold rX9_end; rfl) (by unfold fX9_end; rfl) rfl hP hS dX9_end_24
