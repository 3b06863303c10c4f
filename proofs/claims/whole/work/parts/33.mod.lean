def rX11_no (S : Mm) (p1 : Int32) : Int32 := 0
def fX11_no (S : Mm) (p1 : Int32) : Mm := up2 S 18 0 p1
theorem iX11_no_X11 : ∀ w ∈ u_ws RX11 TX11 2, w ∈ wsX11_no := by decide +kernel
set_option maxHeartbeats 4000000 in
set_option maxRecDepth 100000 in
theorem c_X11_no (l : Launch) (G : va_G) (cA : ClassId) (zq : Nat) (a : Nat → Nat) (ha : apart 19 a) (S : Mm) (L : Int64) (sz : Nat) (p1 : Int32)  : Met l yX11_no wsX11_no ({ frames := 0, cells := 0, slots := 0, locals := 0 } : Room) (va_Pc [.ref (a 18), .int p1] (gI G cA zq 19 a (cD a cA) S L sz)) (gQi (rX11_no S p1) G 19 a (cD a cA) (fX11_no S p1) L sz) 0 0 (mA 19 a sz) := by
  refine g_met (cc := cX11_no) (maxL := 2) (ret := (some .int)) (by decide) rfl (Nat.le_of_ble_eq_true rfl) ?_
  intro p e s m below meth c ls hx hb hr hlocks hml hts hown hnm hsz hK hP hS hl
  subst hsz
  have hl : lv_has ls 2 [(0, .ref (a 18)), (1, .int p1)] := hl
  refine lv_aload_n hx hb dX11_no_0 rfl (lv_at hl 0 rfl) ?_
  refine lv_iload_n hx hb dX11_no_1 rfl (lv_at hl 1 rfl) ?_
  refine g_put (ci := 11) (C := RX11) (T := TX11) (N := 2) (ty := .int) hx hb hts iX11_no_X11 tyX11 tyX11_ok nmX11 hown hK ha mA_in hP hS (by decide) cD_Mo rfl 0 (by decide) rfl (by decide +kernel) rfl (by decide +kernel) rfl rfl (Nat.le_of_ble_eq_true rfl) (cD_Mo_set (by decide)) dX11_no_2 (fun H locs hP hS => ?_)
  refine lv_iconst (v := 0) hx hb dX11_no_5 (by decide) ?_
  exact g_iret hx hb hr hlocks (by unfold rX11_no; rfl) (by unfold fX11_no; rfl) rfl hP hS dX11_no_6

def rX11_ok (S : Mm) (p1 : Int32) : Int32 := p1
def fX11_ok (S : Mm) (p1 : Int32) : Mm := up2 S 18 0 0
theorem iX11_ok_X11 : ∀ w ∈ u_ws RX11 TX11 2, w ∈ wsX11_ok := by decide +kernel
set_option maxHeartbeats 4000000 in
set_option maxRecDepth 100000 in
theorem c_X11_ok (l : Launch) (G : va_G) (cA : ClassId) (zq : Nat) (a : Nat → Nat) (ha : apart 19 a) (S : Mm) (L : Int64) (sz : Nat) (p1 : Int32)  : Met l yX11_ok wsX11_ok ({ frames := 0, cells := 0, slots := 0, locals := 0 } : Room) (va_Pc [.ref (a 18), .int p1] (gI G cA zq 19 a (cD a cA) S L sz)) (gQi (rX11_ok S p1) G 19 a (cD a cA) (fX11_ok S p1) L sz) 0 0 (mA 19 a sz) := by
  refine g_met (cc := cX11_ok) (maxL := 2) (ret := (some .int)) (by decide) rfl (Nat.le_of_ble_eq_true rfl) ?_
  intro p e s m below meth c ls hx hb hr hlocks hml hts hown hnm hsz hK hP hS hl
  subst hsz
  have hl : lv_has ls 2 [(0, .ref (a 18)), (1, .int p1)] := hl
  refine lv_aload_n hx hb dX11_ok_0 rfl (lv_at hl 0 rfl) ?_
  refine lv_iconst (v := 0) hx hb dX11_ok_1 (by decide) ?_
  refine g_put (ci := 11) (C := RX11) (T := TX11) (N := 2) (ty := .int) hx hb hts iX11_ok_X11 tyX11 tyX11_ok nmX11 hown hK ha mA_in hP hS (by decide) cD_Mo rfl 0 (by decide) rfl (by decide +kernel) rfl (by decide +kernel) rfl rfl (Nat.le_of_ble_eq_true rfl) (cD_Mo_set (by decide)) dX11_ok_2 (fun H locs hP hS => ?_)
  refine lv_iload_n hx hb dX11_ok_5 rfl (lv_at hl 1 rfl) ?_
  exact g_iret hx hb hr hlocks (by unfold rX11_ok; rfl) (by unfold fX11_ok; rfl) rfl hP hS dX11_ok_6

def rX11_thrown (S : Mm) : Int32 := S 18 0
theorem iX11_thrown_X11 : ∀ w ∈ u_ws RX11 TX11 2, w ∈ wsX11_thrown := by decide +kernel
set_option maxHeartbeats 4000000 in
set_option maxRecDepth 100000 in
theorem c_X11_thrown (l : Launch) (G : va_G) (cA : ClassId) (zq : Nat) (a : Nat → Nat) (ha : apart 19 a) (S : Mm) (L : Int64) (sz : Nat)   : Met l yX11_thrown wsX11_thrown ({ frames := 0, cells := 0, slots := 0, locals := 0 } : Room) (va_Pc [.ref (a 18)] (gI G cA zq 19 a (cD a cA) S L sz)) (gQi (rX11_thrown S) G 19 a (cD a cA) S L sz) 0 0 (mA 19 a sz) := by
  refine g_met (cc := cX11_thrown) (maxL := 1) (ret := (some .int)) (by decide) rfl (Nat.le_of_ble_eq_true rfl) ?_
  intro p e s m below meth c ls hx hb hr hlocks hml hts hown hnm hsz hK hP hS hl
  subst hsz
  have hl : lv_has ls 1 [(0, .ref (a 18))] := hl
  refine lv_aload_n hx hb dX11_thrown_0 rfl (lv_at hl 0 rfl) ?_
  refine g_get (ci := 11) (C := RX11) (T := TX11) (N := 2) (v := .int (S 18 0)) hx hb hts iX11_thrown_X11 hown hK hP (by decide) cD_Mo rfl 0 (by decide) rfl (by decide +kernel) rfl dX11_thrown_1 ?_
  exact g_iret hx hb hr hlocks (by unfold rX11_thrown; rfl) rfl rfl hP hS dX11_thrown_4

def rX11_isWave (p1 : Int32) : Int32 := rX11_isIn p1 (0 : Int32) (3 : Int32)
set_option maxHeartbeats 4000000 in
set_option maxRecDepth 100000 in
theorem c_X11_isWave (l : Launch) (G : va_G) (cA : ClassId) (zq : Nat) (a : Nat → Nat) (ha : apart 19 a) (S : Mm) (L : Int64) (sz : Nat) (p1 : Int32)  : Met l yX11_isWave wsX11_isWave ({ frames := 1, cells := 0, slots := 0, locals := 22 } : Room) (va_Pc [.int p1] (gI G cA zq 19 a (cD a cA) S L sz)) (gQi (rX11_isWave p1) G 19 a (cD a cA) S L sz) 0 0 (mA 19 a sz) := by
  refine g_met (cc := cX11_isWave) (maxL := 1) (ret := (some .boolean)) (by decide) rfl (Nat.le_of_ble_eq_true rfl) ?_
  intro p e s m below meth c ls hx hb hr hlocks hml hts hown hnm hsz hK hP hS hl
  subst hsz
  have hl : lv_has ls 1 [(0, .int p1)] := hl
  refine lv_iload_n hx hb dX11_isWave_0 rfl (lv_at hl 0 rfl) ?_
  refine lv_iconst (v := 0) hx hb dX11_isWave_1 (by decide) ?_
  refine lv_iconst (v := 3) hx hb dX11_isWave_2 (by decide) ?_
  refine g_cSi (As := [.int p1, .int 0, .int 3]) (rest := []) ⟨hx, hb, hml, hown, hts⟩ (c_X11_isIn l G cA zq 19 (by decide) a ha S L s.heap.size p1 (0 : Int32) (3 : Int32)  ) (va_cwS 3 hts gX11_isWave_X11_isIn rfl rfl rfl (by decide +kernel) ⟨Nat.le_of_ble_eq_true rfl, Nat.le_of_ble_eq_true rfl⟩) hK (mA_mono hS.1) hP hS rfl hl.1 rfl (lv_room (Nat.le_of_ble_eq_true rfl)) dX11_isWave_3 ⟨Nat.le_of_ble_eq_true rfl, Nat.le_of_ble_eq_true rfl⟩ (fun H locs hP hS _ _ => ?_)
  exact g_zret hx hb hr hlocks isIn_b (by unfold rX11_isWave; rfl) rfl rfl hP hS dX11_isWave_6

def rX11_isInstrument (p1 : Int32) : Int32 := rX11_isIn p1 (0 : Int32) (3 : Int32)
set_option maxHeartbeats 4000000 in
set_option maxRecDepth 100000 in
theorem c_X11_isInstrument (l : Launch) (G : va_G) (cA : ClassId) (zq : Nat) (a : Nat → Nat) (ha : apart 19 a) (S : Mm) (L : Int64) (sz : Nat) (p1 : Int32)  : Met l yX11_isInstrument wsX11_isInstrument ({ frames := 1, cells := 0, slots := 0, locals := 22 } : Room) (va_Pc [.int p1] (gI G cA zq 19 a (cD a cA) S L sz)) (gQi (rX11_isInstrument p1) G 19 a (cD a cA) S L sz) 0 0 (mA 19 a sz) := by
  refine g_met (cc := cX11_isInstrument) (maxL := 1) (ret := (some .boolean)) (by decide) rfl (Nat.le_of_ble_eq_true rfl) ?_
  intro p e s m below meth c ls hx hb hr hlocks hml hts hown hnm hsz hK hP hS hl
  subst hsz
  have hl : lv_has ls 1 [(0, .int p1)] := hl
  refine lv_iload_n hx hb dX11_isInstrument_0 rfl (lv_at hl 0 rfl) ?_
  refine lv_iconst (v := 0) hx hb dX11_isInstrument_1 (by decide) ?_
  refine lv_iconst (v := 3) hx hb dX11_isInstrument_2 (by decide) ?_
  refine g_cSi (As := [.int p1, .int 0, .int 3]) (rest := []) ⟨hx, hb, hml, hown, hts⟩ (c_X11_isIn l G cA zq 19 (by decide) a ha S L s.heap.size p1 (0 : Int32) (3 : Int32)  ) (va_cwS 3 hts gX11_isInstrument_X11_isIn rfl rfl rfl (by decide +kernel) ⟨Nat.le_of_ble_eq_true rfl, Nat.le_of_ble_eq_true rfl⟩) hK (mA_mono hS.1) hP hS rfl hl.1 rfl (lv_room (Nat.le_of_ble_eq_true rfl)) dX11_isInstrument_3 ⟨Nat.le_of_ble_eq_true rfl, Nat.le_of_ble_eq_true rfl⟩ (fun H locs hP hS _ _ => ?_)
  exact g_zret hx hb hr hlocks isIn_b (by unfold rX11_isInstrument; rfl) rfl rfl hP hS dX11_isInstrument_6

def rX11_isVoice (p1 : Int32) : Int32 := rX11_isIn p1 (0 : Int32) (3 : Int32)
set_option maxHeartbeats 4000000 in
set_option maxRecDepth 100000 in
theorem c_X11_isVoice (l : Launch) (G : va_G) (cA : ClassId) (zq : Nat) (a : Nat → Nat) (ha : apart 19 a) (S : Mm) (L : Int64) (sz : Nat) (p1 : Int32)  : Met l yX11_isVoice wsX11_isVoice ({ frames := 1, cells := 0, slots := 0, locals := 22 } : Room) (va_Pc [.int p1] (gI G cA zq 19 a (cD a cA) S L sz)) (gQi (rX11_isVoice p1) G 19 a (cD a cA) S L sz) 0 0 (mA 19 a sz) := by
  refine g_met (cc := cX11_isVoice) (maxL := 1) (ret := (some .boolean)) (by decide) rfl (Nat.le_of_ble_eq_true rfl) ?_
  intro p e s m below meth c ls hx hb hr hlocks hml hts hown hnm hsz hK hP hS hl
  subst hsz
  have hl : lv_has ls 1 [(0, .int p1)] := hl
  refine lv_iload_n hx hb dX11_isVoice_0 rfl (lv_at hl 0 rfl) ?_
  refine lv_iconst (v := 0) hx hb dX11_isVoice_1 (by decide) ?_
  refine lv_iconst (v := 3) hx hb dX11_isVoice_2 (by decide) ?_
  refine g_cSi (As := [.int p1, .int 0, .int 3]) (rest := []) ⟨hx, hb, hml, hown, hts⟩ (c_X11_isIn l G cA zq 19 (by decide) a ha S L s.heap.size p1 (0 : Int32) (3 : Int32)  ) (va_cwS 3 hts gX11_isVoice_X11_isIn rfl rfl rfl (by decide +kernel) ⟨Nat.le_of_ble_eq_true rfl, Nat.le_of_ble_eq_true rfl⟩) hK (mA_mono hS.1) hP hS rfl hl.1 rfl (lv_room (Nat.le_of_ble_eq_true rfl)) dX11_isVoice_3 ⟨Nat.le_of_ble_eq_true rfl, Nat.le_of_ble_eq_true rfl⟩ (fun H locs hP hS _ _ => ?_)
  exact g_zret hx hb hr hlocks isIn_b (by unfold rX11_isVoice; rfl) rfl rfl hP hS dX11_isVoice_6

def rX11_isStep (p1 : Int32) : Int32 := rX11_isIn p1 (0 : Int32) (7 : Int32)
set_option maxHeartbeats 4000000 in
set_option maxRecDepth 100000 in
theorem c_X11_isStep (l : Launch) (G : va_G) (cA : ClassId) (zq : Nat) (a : Nat → Nat) (ha : apart 19 a) (S : Mm) (L : Int64) (sz : Nat) (p1 : Int32)  : Met l yX11_isStep wsX11_isStep ({ frames := 1, cells := 0, slots := 0, locals := 22 } : Room) (va_Pc [.int p1] (gI G cA zq 19 a (cD a cA) S L sz)) (gQi (rX11_isStep p1) G 19 a (cD a cA) S L sz) 0 0 (mA 19 a sz) := by
  refine g_met (cc := cX11_isStep) (maxL := 1) (ret := (some .boolean)) (by decide) rfl (Nat.le_of_ble_eq_true rfl) ?_
  intro p e s m below meth c ls hx hb hr hlocks hml hts hown hnm hsz hK hP hS hl
  subst hsz
  have hl : lv_has ls 1 [(0, .int p1)] := hl
  refine lv_iload_n hx hb dX11_isStep_0 rfl (lv_at hl 0 rfl) ?_
  refine lv_iconst (v := 0) hx hb dX11_isStep_1 (by decide) ?_
  refine lv_bipush (v := 7) hx hb dX11_isStep_2 (by decide) ?_
  refine g_cSi (As := [.int p1, .int 0, .int 7]) (rest := []) ⟨hx, hb, hml, hown, hts⟩ (c_X11_isIn l G cA zq 19 (by decide) a ha S L s.heap.size p1 (0 : Int32) (7 : Int32)  ) (va_cwS 3 hts gX11_isStep_X11_isIn rfl rfl rfl (by decide +kernel) ⟨Nat.le_of_ble_eq_true rfl, Nat.le_of_ble_eq_true rfl⟩) hK (mA_mono hS.1) hP hS rfl hl.1 rfl (lv_room (Nat.le_of_ble_eq_true rfl)) dX11_isStep_4 ⟨Nat.le_of_ble_eq_true rfl, Nat.le_of_ble_eq_true rfl⟩ (fun H locs hP hS _ _ => ?_)
  exact g_zret hx hb hr hlocks isIn_b (by unfold rX11_isStep; rfl) rfl rfl hP hS dX11_isStep_7

def rX11_draw (S : Mm) (p1 : Int32) (p2 : Int32) : Int32 := (if rX11_isIn p1 (0 : Int32) (31 : Int32) = 0 then rX11_no (up2 S 18 0 0) (1 : Int32) else (if rX11_isIn p2 ((-1000) : Int32) (1000 : Int32) = 0 then rX11_no (up2 S 18 0 0) (2 : Int32) else (up2 S 18 0 0) 1 p1.toNatClampNeg))
def fX11_draw (S : Mm) (p1 : Int32) (p2 : Int32) : Mm := (if rX11_isIn p1 (0 : Int32) (31 : Int32) = 0 then fX11_no (up2 S 18 0 0) (1 : Int32) else (if rX11_isIn p2 ((-1000) : Int32) (1000 : Int32) = 0 then fX11_no (up2 S 18 0 0) (2 : Int32) else up2 (up2 S 18 0 0) 1 p1.toNatClampNeg p2))
theorem iX11_draw_X10 : ∀ w ∈ u_ws RX10 TX10 35, w ∈ wsX11_draw := by decide +kernel
theorem iX11_draw_X11 : ∀ w ∈ u_ws RX11 TX11 2, w ∈ wsX11_draw := by decide +kernel
set_option maxHeartbeats 4000000 in
set_option maxRecDepth 100000 in
theorem c_X11_draw (l : Launch) (G : va_G) (cA : ClassId) (zq : Nat) (a : Nat → Nat) (ha : apart 19 a) (S : Mm) (L : Int64) (sz : Nat) (p1 : Int32) (p2 : Int32)  : Met l yX11_draw wsX11_draw ({ frames := 1, cells := 0, slots := 0, locals := 22 } : Room) (va_Pc [.ref (a 18), .int p1, .int p2] (gI G cA zq 19 a (cD a cA) S L sz)) (gQi (rX11_draw S p1 p2) G 19 a (cD a cA) (fX11_draw S p1 p2) L sz) 0 0 (mA 19 a sz) := by
  refine g_met (cc := cX11_draw) (maxL := 4) (ret := (some .int)) (by decide) rfl (Nat.le_of_ble_eq_true rfl) ?_
  intro p e s m below meth c ls hx hb hr hlocks hml hts hown hnm hsz hK hP hS hl
  subst hsz
  have hl : lv_has ls 4 [(0, .ref (a 18)), (1, .int p1), (2, .int p2)] := hl
  refine lv_aload_n hx hb dX11_draw_0 rfl (lv_at hl 0 rfl) ?_
  refine lv_iconst (v := 0) hx hb dX11_draw_1 (by decide) ?_
  refine g_put (ci := 11) (C := RX11) (T := TX11) (N := 2) (ty := .int) hx hb hts iX11_draw_X11 tyX11 tyX11_ok nmX11 hown hK ha mA_in hP hS (by decide) cD_Mo rfl 0 (by decide) rfl (by decide +kernel) rfl (by decide +kernel) rfl rfl (Nat.le_of_ble_eq_true rfl) (cD_Mo_set (by decide)) dX11_draw_2 (fun H locs hP hS => ?_)
  refine lv_iload_n hx hb dX11_draw_5 rfl (lv_at hl 1 rfl) ?_
  refine lv_iconst (v := 0) hx hb dX11_draw_6 (by decide) ?_
  refine lv_bipush (v := 31) hx hb dX11_draw_7 (by decide) ?_
  refine g_cSi (As := [.int p1, .int 0, .int 31]) (rest := []) ⟨hx, hb, hml, hown, hts⟩ (c_X11_isIn l G cA zq 19 (by decide) a ha (up2 S 18 0 0) L H.size p1 (0 : Int32) (31 : Int32)  ) (va_cwS 3 hts gX11_draw_X11_isIn rfl rfl rfl (by decide +kernel) ⟨Nat.le_of_ble_eq_true rfl, Nat.le_of_ble_eq_true rfl⟩) hK (mA_mono hS.1) hP hS rfl hl.1 rfl (lv_room (Nat.le_of_ble_eq_true rfl)) dX11_draw_9 ⟨Nat.le_of_ble_eq_true rfl, Nat.le_of_ble_eq_true rfl⟩ (fun H locs hP hS _ _ => ?_)
  refine lv_if_ne (tgt := 21) hx hb dX11_draw_12 (by decide) (fun c1 => ?_) (fun c1 => ?_)
  ·
    refine lv_iload_n hx hb dX11_draw_21 rfl (lv_at hl 2 rfl) ?_
    refine lv_sipush (v := (-1000)) hx hb dX11_draw_22 (by decide) ?_
    refine lv_sipush (v := 1000) hx hb dX11_draw_25 (by decide) ?_
    refine g_cSi (As := [.int p2, .int (-1000), .int 1000]) (rest := []) ⟨hx, hb, hml, hown, hts⟩ (c_X11_isIn l G cA zq 19 (by decide) a ha (up2 S 18 0 0) L H.size p2 ((-1000) : Int32) (1000 : Int32)  ) (va_cwS 3 hts gX11_draw_X11_isIn rfl rfl rfl (by decide +kernel) ⟨Nat.le_of_ble_eq_true rfl, Nat.le_of_ble_eq_true rfl⟩) hK (mA_mono hS.1) hP hS rfl hl.1 rfl (lv_room (Nat.le_of_ble_eq_true rfl)) dX11_draw_28 ⟨Nat.le_of_ble_eq_true rfl, Nat.le_of_ble_eq_true rfl⟩ (fun H locs hP hS _ _ => ?_)
    refine lv_if_ne (tgt := 40) hx hb dX11_draw_31 (by decide) (fun c2 => ?_) (fun c2 => ?_)
    ·
      refine lv_aload_n hx hb dX11_draw_40 rfl (lv_at hl 0 rfl) ?_
      refine g_get (ci := 11) (C := RX11) (T := TX11) (N := 2) (v := .ref (a 0)) hx hb hts iX11_draw_X11 hown hK hP (by decide) cD_Mo rfl 1 (by decide) rfl (by decide +kernel) rfl dX11_draw_41 ?_
      refine g_get (ci := 10) (C := RX10) (T := TX10) (N := 35) (v := .ref (a 1)) hx hb hts iX11_draw_X10 hown hK hP (lt_hn (by decide) (by decide)) cD_D rfl 0 (by decide) rfl (by decide +kernel) rfl dX11_draw_44 ?_
      refine lv_iload_n hx hb dX11_draw_47 rfl (lv_at hl 1 rfl) ?_
      refine g_iald (N := 32) (g := (up2 S 18 0 0) 1) hx hb hK hP (lt_hn (by decide) (by decide)) rfl (isIn_vp c1 (by decide)) dX11_draw_48 ?_
      refine lv_istore_n (lv' := [(3, .int ((up2 S 18 0 0) 1 p1.toNatClampNeg)), (0, .ref (a 18)), (1, .int p1), (2, .int p2)]) hx hb dX11_draw_49 rfl hl (by decide) rfl (fun ls hl => ?_)
      refine lv_aload_n hx hb dX11_draw_50 rfl (lv_at hl 1 rfl) ?_
      refine g_get (ci := 11) (C := RX11) (T := TX11) (N := 2) (v := .ref (a 0)) hx hb hts iX11_draw_X11 hown hK hP (by decide) cD_Mo rfl 1 (by decide) rfl (by decide +kernel) rfl dX11_draw_51 ?_
      refine g_get (ci := 10) (C := RX10) (T := TX10) (N := 35) (v := .ref (a 1)) hx hb hts iX11_draw_X10 hown hK hP (lt_hn (by decide) (by decide)) cD_D rfl 0 (by decide) rfl (by decide +kernel) rfl dX11_draw_54 ?_
      refine lv_iload_n hx hb dX11_draw_57 rfl (lv_at hl 2 rfl) ?_
      refine lv_iload_n hx hb dX11_draw_58 rfl (lv_at hl 3 rfl) ?_
      refine g_iast (N := 32) (g := (up2 S 18 0 0) 1) hx hb hK ha mA_in hP hS (lt_hn (by decide) (by decide)) rfl (isIn_vp c1 (by decide)) rfl dX11_draw_59 (fun H locs hP hS => ?_)
      refine lv_iload_n hx hb dX11_draw_60 rfl (lv_at hl 0 rfl) ?_
      exact g_iret hx hb hr hlocks (by unfold rX11_draw; rw [if_neg c1, if_neg c2]) (by unfold fX11_draw; rw [if_neg c1, if_neg c2]) rfl hP hS dX11_draw_61
    ·
      refine lv_aload_n hx hb dX11_draw_34 rfl (lv_at hl 0 rfl) ?_
      refine lv_iconst (v := 2) hx hb dX11_draw_35 (by decide) ?_
      refine g_cVi (As := [.int 2]) (rest := []) ⟨hx, hb, hml, hown, hts⟩ (c_X11_no l G cA zq a ha (up2 S 18 0 0) L H.size (2 : Int32)  ) (cwV 1 hts gX11_draw_X11_no rfl rfl rfl (by decide +kernel) ⟨Nat.le_of_ble_eq_true rfl, Nat.le_of_ble_eq_true rfl⟩) (g_recv hK hP (by decide) cD_Mo (C := RX11) (T := TX11) (N := 2) rfl) hK (mA_mono hS.1) hP hS rfl hl.1 rfl (lv_room (Nat.le_of_ble_eq_true rfl)) dX11_draw_36 ⟨Nat.le_of_ble_eq_true rfl, Nat.le_of_ble_eq_true rfl⟩ (fun H locs hP hS _ _ => ?_)
      exact g_iret hx hb hr hlocks (by unfold rX11_draw; rw [if_neg c1, if_pos c2]) (by unfold fX11_draw; rw [if_neg c1, if_pos c2]) rfl hP hS dX11_draw_39
  ·
    refine lv_aload_n hx hb dX11_draw_15 rfl (lv_at hl 0 rfl) ?_
    refine lv_iconst (v := 1) hx hb dX11_draw_16 (by decide) ?_
    refine g_cVi (As := [.int 1]) (rest := []) ⟨hx, hb, hml, hown, hts⟩ (c_X11_no l G cA zq a ha (up2 S 18 0 0) L H.size (1 : Int32)  ) (cwV 1 hts gX11_draw_X11_no rfl rfl rfl (by decide +kernel) ⟨Nat.le_of_ble_eq_true rfl, Nat.le_of_ble_eq_true rfl⟩) (g_recv hK hP (by decide) cD_Mo (C := RX11) (T := TX11) (N := 2) rfl) hK (mA_mono hS.1) hP hS rfl hl.1 rfl (lv_room (Nat.le_of_ble_eq_true rfl)) dX11_draw_17 ⟨Nat.le_of_ble_eq_true rfl, Nat.le_of_ble_eq_true rfl⟩ (fun H locs hP hS _ _ => ?_)
    exact g_iret hx hb hr hlocks (by unfold rX11_draw; rw [if_pos c1]) (by unfold fX11_draw; rw [if_pos c1]) rfl hP hS dX11_draw_20

def rX11_wave (S : Mm) (p1 : Int32) (p2 : Int32) : Int32 := (if rX11_isWave p1 = 0 then rX11_no (up2 S 18 0 0) (1 : Int32) else (if rX11_isIn p2 (0 : Int32) (65535 : Int32) = 0 then rX11_no (up2 S 18 0 0) (2 : Int32) else rX10_wave (up2 S 18 0 0) p1 p2))
def fX11_wave (S : Mm) (p1 : Int32) (p2 : Int32) : Mm := (if rX11_isWave p1 = 0 then fX11_no (up2 S 18 0 0) (1 : Int32) else (if rX11_isIn p2 (0 : Int32) (65535 : Int32) = 0 then fX11_no (up2 S 18 0 0) (2 : Int32) else up2 S 18 0 0))
theorem iX11_wave_X11 : ∀ w ∈ u_ws RX11 TX11 2, w ∈ wsX11_wave := by decide +kernel
set_option maxHeartbeats 4000000 in
set_option maxRecDepth 100000 in
theorem c_X11_wave (l : Launch) (G : va_G) (cA : ClassId) (zq : Nat) (a : Nat → Nat) (ha : apart 19 a) (S : Mm) (L : Int64) (sz : Nat) (p1 : Int32) (p2 : Int32)  : Met l yX11_wave wsX11_wave ({ frames := 2, cells := 0, slots := 0, locals := 47 } : Room) (va_Pc [.ref (a 18), .int p1, .int p2] (gI G cA zq 19 a (cD a cA) S L sz)) (gQi (rX11_wave S p1 p2) G 19 a (cD a cA) (fX11_wave S p1 p2) L sz) 0 0 (mA 19 a sz) := by
  refine g_met (cc := cX11_wave) (maxL := 3) (ret := (some .int)) (by decide) rfl (Nat.le_of_ble_eq_true rfl) ?_
  intro p e s m below meth c ls hx hb hr hlocks hml hts hown hnm hsz hK hP hS hl
  subst hsz
  have hl : lv_has ls 3 [(0, .ref (a 18)), (1, .int p1), (2, .int p2)] := hl
  refine lv_aload_n hx hb dX11_wave_0 rfl (lv_at hl 0 rfl) ?_
  refine lv_iconst (v := 0) hx hb dX11_wave_1 (by decide) ?_
  refine g_put (ci := 11) (C := RX11) (T := TX11) (N := 2) (ty := .int) hx hb hts iX11_wave_X11 tyX11 tyX11_ok nmX11 hown hK ha mA_in hP hS (by decide) cD_Mo rfl 0 (by decide) rfl (by decide +kernel) rfl (by decide +kernel) rfl rfl (Nat.le_of_ble_eq_true rfl) (cD_Mo_set (by decide)) dX11_wave_2 (fun H locs hP hS => ?_)
  refine lv_iload_n hx hb dX11_wave_5 rfl (lv_at hl 1 rfl) ?_
  refine g_cSi (As := [.int p1]) (rest := []) ⟨hx, hb, hml, hown, hts⟩ (c_X11_isWave l G cA zq a ha (up2 S 18 0 0) L H.size p1  ) (va_cwS 1 hts gX11_wave_X11_isWave rfl rfl rfl (by decide +kernel) ⟨Nat.le_of_ble_eq_true rfl, Nat.le_of_ble_eq_true rfl⟩) hK (mA_mono hS.1) hP hS rfl hl.1 rfl (lv_room (Nat.le_of_ble_eq_true rfl)) dX11_wave_6 ⟨Nat.le_of_ble_eq_true rfl, Nat.le_of_ble_eq_true rfl⟩ (fun H locs hP hS _ _ => ?_)
  refine lv_if_ne (tgt := 18) hx hb dX11_wave_9 (by decide) (fun c1 => ?_) (fun c1 => ?_)
  ·
    refine lv_iload_n hx hb dX11_wave_18 rfl (lv_at hl 2 rfl) ?_
    refine lv_iconst (v := 0) hx hb dX11_wave_19 (by decide) ?_
    refine lv_ldc (v := 65535) hx hb hown (hts (.constant RX11 51 65535) (by decide +kernel)) dX11_wave_20 ?_
    refine g_cSi (As := [.int p2, .int 0, .int 65535]) (rest := []) ⟨hx, hb, hml, hown, hts⟩ (c_X11_isIn l G cA zq 19 (by decide) a ha (up2 S 18 0 0) L H.size p2 (0 : Int32) (65535 : Int32)  ) (va_cwS 3 hts gX11_wave_X11_isIn rfl rfl rfl (by decide +kernel) ⟨Nat.le_of_ble_eq_true rfl, Nat.le_of_ble_eq_true rfl⟩) hK (mA_mono hS.1) hP hS rfl hl.1 rfl (lv_room (Nat.le_of_ble_eq_true rfl)) dX11_wave_22 ⟨Nat.le_of_ble_eq_true rfl, Nat.le_of_ble_eq_true rfl⟩ (fun H locs hP hS _ _ => ?_)
    refine lv_if_eq (tgt := 40) hx hb dX11_wave_25 (by decide) (fun c2 => ?_) (fun c2 => ?_)
    ·
      refine lv_aload_n hx hb dX11_wave_40 rfl (lv_at hl 0 rfl) ?_
      refine lv_iconst (v := 2) hx hb dX11_wave_41 (by decide) ?_
      refine g_cVi (As := [.int 2]) (rest := []) ⟨hx, hb, hml, hown, hts⟩ (c_X11_no l G cA zq a ha (up2 S 18 0 0) L H.size (2 : Int32)  ) (cwV 1 hts gX11_wave_X11_no rfl rfl rfl (by decide +kernel) ⟨Nat.le_of_ble_eq_true rfl, Nat.le_of_ble_eq_true rfl⟩) (g_recv hK hP (by decide) cD_Mo (C := RX11) (T := TX11) (N := 2) rfl) hK (mA_mono hS.1) hP hS rfl hl.1 rfl (lv_room (Nat.le_of_ble_eq_true rfl)) dX11_wave_42 ⟨Nat.le_of_ble_eq_true rfl, Nat.le_of_ble_eq_true rfl⟩ (fun H locs hP hS _ _ => ?_)
      exact g_iret hx hb hr hlocks (by unfold rX11_wave; rw [if_neg c1, if_pos c2]) (by unfold fX11_wave; rw [if_neg c1, if_pos c2]) rfl hP hS dX11_wave_45
    ·
      refine lv_aload_n hx hb dX11_wave_28 rfl (lv_at hl 0 rfl) ?_
      refine g_get (ci := 11) (C := RX11) (T := TX11) (N := 2) (v := .ref (a 0)) hx hb hts iX11_wave_X11 hown hK hP (by decide) cD_Mo rfl 1 (by decide) rfl (by decide +kernel) rfl dX11_wave_29 ?_
      refine lv_iload_n hx hb dX11_wave_32 rfl (lv_at hl 1 rfl) ?_
      refine lv_iload_n hx hb dX11_wave_33 rfl (lv_at hl 2 rfl) ?_
      refine g_cVi (As := [.int p1, .int p2]) (rest := []) ⟨hx, hb, hml, hown, hts⟩ (c_X10_wave l G cA zq 19 (by decide) a ha (up2 S 18 0 0) L H.size p1 p2  (fun _ _ _ => (ph_div (isIn_vp c2 (by decide)))) (fun _ _ _ => (ph_div1 (isIn_vp c2 (by decide))))) (cwV 2 hts gX11_wave_X10_wave rfl rfl rfl (by decide +kernel) ⟨Nat.le_of_ble_eq_true rfl, Nat.le_of_ble_eq_true rfl⟩) (g_recv hK hP (lt_hn (by decide) (by decide)) cD_D (C := RX10) (T := TX10) (N := 35) rfl) hK (mA_mono hS.1) hP hS rfl hl.1 rfl (lv_room (Nat.le_of_ble_eq_true rfl)) dX11_wave_34 ⟨Nat.le_of_ble_eq_true rfl, Nat.le_of_ble_eq_true rfl⟩ (fun H locs hP hS _ _ => ?_)
      refine lv_goto (tgt := 45) hx hb dX11_wave_37 (by decide) ?_
      exact g_iret hx hb hr hlocks (by unfold rX11_wave; rw [if_neg c1, if_neg c2]) (by unfold fX11_wave; rw [if_neg c1, if_neg c2]) rfl hP hS dX11_wave_45
  ·
    refine lv_aload_n hx hb dX11_wave_12 rfl (lv_at hl 0 rfl) ?_
    refine lv_iconst (v := 1) hx hb dX11_wave_13 (by decide) ?_
    refine g_cVi (As := [.int 1]) (rest := []) ⟨hx, hb, hml, hown, hts⟩ (c_X11_no l G cA zq a ha (up2 S 18 0 0) L H.size (1 : Int32)  ) (cwV 1 hts gX11_wave_X11_no rfl rfl rfl (by decide +kernel) ⟨Nat.le_of_ble_eq_true rfl, Nat.le_of_ble_eq_true rfl⟩) (g_recv hK hP (by decide) cD_Mo (C := RX11) (T := TX11) (N := 2) rfl) hK (mA_mono hS.1) hP hS rfl hl.1 rfl (lv_room (Nat.le_of_ble_eq_true rfl)) dX11_wave_14 ⟨Nat.le_of_ble_eq_true rfl, Nat.le_of_ble_eq_true rfl⟩ (fun H locs hP hS _ _ => ?_)
    exact g_iret hx hb hr hlocks (by unfold rX11_wave; rw [if_pos c1]) (by unfold fX11_wave; rw [if_pos c1]) rfl hP hS dX11_wave_17

def rX11_stride (S : Mm) (p1 : Int32) : Int32 := (if rX11_isIn p1 (0 : Int32) (47 : Int32) = 0 then rX11_no (up2 S 18 0 0) (1 : Int32) else rX10_stride p1)
def fX11_stride (S : Mm) (p1 : Int32) : Mm := (if rX11_isIn p1 (0 : Int32) (47 : Int32) = 0 then fX11_no (up2 S 18 0 0) (1 : Int32) else up2 S 18 0 0)
theorem iX11_stride_X11 : ∀ w ∈ u_ws RX11 TX11 2, w ∈ wsX11_stride := by decide +kernel
set_option maxHeartbeats 4000000 in
set_option maxRecDepth 100000 in
theorem c_X11_stride (l : Launch) (G : va_G) (cA : ClassId) (zq : Nat) (a : Nat → Nat) (ha : apart 19 a) (S : Mm) (L : Int64) (sz : Nat) (p1 : Int32)  : Met l yX11_stride wsX11_stride ({ frames := 1, cells := 1, slots := 12, locals := 22 } : Room) (va_Pc [.ref (a 18), .int p1] (gI G cA zq 19 a (cD a cA) S L sz)) (gQi (rX11_stride S p1) G 19 a (cD a cA) (fX11_stride S p1) L sz) 1 12 (mA 19 a sz) := by
  refine g_met (cc := cX11_stride) (maxL := 2) (ret := (some .int)) (by decide) rfl (Nat.le_of_ble_eq_true rfl) ?_
  intro p e s m below meth c ls hx hb hr hlocks hml hts hown hnm hsz hK hP hS hl
  subst hsz
  have hl : lv_has ls 2 [(0, .ref (a 18)), (1, .int p1)] := hl
  refine lv_aload_n hx hb dX11_stride_0 rfl (lv_at hl 0 rfl) ?_
  refine lv_iconst (v := 0) hx hb dX11_stride_1 (by decide) ?_
  refine g_put (ci := 11) (C := RX11) (T := TX11) (N := 2) (ty := .int) hx hb hts iX11_stride_X11 tyX11 tyX11_ok nmX11 hown hK ha mA_in hP hS (by decide) cD_Mo rfl 0 (by decide) rfl (by decide +kernel) rfl (by decide +kernel) rfl rfl (Nat.le_of_ble_eq_true rfl) (cD_Mo_set (by decide)) dX11_stride_2 (fun H locs hP hS => ?_)
  refine lv_iload_n hx hb dX11_stride_5 rfl (lv_at hl 1 rfl) ?_
  refine lv_iconst (v := 0) hx hb dX11_stride_6 (by decide) ?_
  refine lv_bipush (v := 47) hx hb dX11_stride_7 (by decide) ?_
  refine g_cSi (As := [.int p1, .int 0, .int 47]) (rest := []) ⟨hx, hb, hml, hown, hts⟩ (c_X11_isIn l G cA zq 19 (by decide) a ha (up2 S 18 0 0) L H.size p1 (0 : Int32) (47 : Int32)  ) (va_cwS 3 hts gX11_stride_X11_isIn rfl rfl rfl (by decide +kernel) ⟨Nat.le_of_ble_eq_true rfl, Nat.le_of_ble_eq_true rfl⟩) hK (mA_mono hS.1) hP hS rfl hl.1 rfl (lv_room (Nat.le_of_ble_eq_true rfl)) dX11_stride_9 ⟨Nat.le_of_ble_eq_true rfl, Nat.le_of_ble_eq_true rfl⟩ (fun H locs hP hS _ _ => ?_)
  refine lv_if_eq (tgt := 22) hx hb dX11_stride_12 (by decide) (fun c1 => ?_) (fun c1 => ?_)
  ·
    refine lv_aload_n hx hb dX11_stride_22 rfl (lv_at hl 0 rfl) ?_
    refine lv_iconst (v := 1) hx hb dX11_stride_23 (by decide) ?_
    refine g_cVi (As := [.int 1]) (rest := []) ⟨hx, hb, hml, hown, hts⟩ (c_X11_no l G cA zq a ha (up2 S 18 0 0) L H.size (1 : Int32)  ) (cwV 1 hts gX11_stride_X11_no rfl rfl rfl (by decide +kernel) ⟨Nat.le_of_ble_eq_true rfl, Nat.le_of_ble_eq_true rfl⟩) (g_recv hK hP (by decide) cD_Mo (C := RX11) (T := TX11) (N := 2) rfl) hK (mA_mono hS.1) hP hS rfl hl.1 rfl (lv_room (Nat.le_of_ble_eq_true rfl)) dX11_stride_24 ⟨Nat.le_of_ble_eq_true rfl, Nat.le_of_ble_eq_true rfl⟩ (fun H locs hP hS _ _ => ?_)
    refine W.widen (k := 1) (n := 12) (by omega) (by omega) ?_
    exact g_iret hx hb hr hlocks (by unfold rX11_stride; rw [if_pos c1]) (by unfold fX11_stride; rw [if_pos c1]) rfl hP hS dX11_stride_27
  ·
    refine lv_iload_n hx hb dX11_stride_15 rfl (lv_at hl 1 rfl) ?_
    refine g_cSi (As := [.int p1]) (rest := []) ⟨hx, hb, hml, hown, hts⟩ (c_X10_stride l G cA zq 19 (by decide) a ha (up2 S 18 0 0) L H.size p1  (pt_rem (isIn_vp c1 (by decide)))) (va_cwS 1 hts gX11_stride_X10_stride rfl rfl rfl (by decide +kernel) ⟨Nat.le_of_ble_eq_true rfl, Nat.le_of_ble_eq_true rfl⟩) hK (mA_mono hS.1) hP hS rfl hl.1 rfl (lv_room (Nat.le_of_ble_eq_true rfl)) dX11_stride_16 ⟨Nat.le_of_ble_eq_true rfl, Nat.le_of_ble_eq_true rfl⟩ (fun H locs hP hS _ _ => ?_)
    refine lv_goto (tgt := 27) hx hb dX11_stride_19 (by decide) ?_
    exact g_iret hx hb hr hlocks (by unfold rX11_stride; rw [if_neg c1]) (by unfold fX11_stride; rw [if_neg c1]) rfl hP hS dX11_stride_27

def rX11_setGain (S : Mm) (p1 : Int32) : Int32 := (if rX11_isIn p1 (0 : Int32) (256 : Int32) = 0 then rX11_no (up2 S 18 0 0) (1 : Int32) else (up2 S 18 0 0) 0 15)
def fX11_setGain (S : Mm) (p1 : Int32) : Mm := (if rX11_isIn p1 (0 : Int32) (256 : Int32) = 0 then fX11_no (up2 S 18 0 0) (1 : Int32) else up2 (up2 S 18 0 0) 0 15 p1)
theorem iX11_setGain_X10 : ∀ w ∈ u_ws RX10 TX10 35, w ∈ wsX11_setGain := by decide +kernel
theorem iX11_setGain_X11 : ∀ w ∈ u_ws RX11 TX11 2, w ∈ wsX11_setGain := by decide +kernel
set_option maxHeartbeats 4000000 in
set_option maxRecDepth 100000 in
theorem c_X11_setGain (l : Launch) (G : va_G) (cA : ClassId) (zq : Nat) (a : Nat → Nat) (ha : apart 19 a) (S : Mm) (L : Int64) (sz : Nat) (p1 : Int32)  : Met l yX11_setGain wsX11_setGain ({ frames := 1, cells := 0, slots := 0, locals := 22 } : Room) (va_Pc [.ref (a 18), .int p1] (gI G cA zq 19 a (cD a cA) S L sz)) (gQi (rX11_setGain S p1) G 19 a (cD a cA) (fX11_setGain S p1) L sz) 0 0 (mA 19 a sz) := by
  refine g_met (cc := cX11_setGain) (maxL := 3) (ret := (some .int)) (by decide) rfl (Nat.le_of_ble_eq_true rfl) ?_
  intro p e s m below meth c ls hx hb hr hlocks hml hts hown hnm hsz hK hP hS hl
  subst hsz
  have hl : lv_has ls 3 [(0, .ref (a 18)), (1, .int p1)] := hl
  refine lv_aload_n hx hb dX11_setGain_0 rfl (lv_at hl 0 rfl) ?_
  refine lv_iconst (v := 0) hx hb dX11_setGain_1 (by decide) ?_
  refine g_put (ci := 11) (C := RX11) (T := TX11) (N := 2) (ty := .int) hx hb hts iX11_setGain_X11 tyX11 tyX11_ok nmX11 hown hK ha mA_in hP hS (by decide) cD_Mo rfl 0 (by decide) rfl (by decide +kernel) rfl (by decide +kernel) rfl rfl (Nat.le_of_ble_eq_true rfl) (cD_Mo_set (by decide)) dX11_setGain_2 (fun H locs hP hS => ?_)
  refine lv_iload_n hx hb dX11_setGain_5 rfl (lv_at hl 1 rfl) ?_
  refine lv_iconst (v := 0) hx hb dX11_setGain_6 (by decide) ?_
  refine lv_sipush (v := 256) hx hb dX11_setGain_7 (by decide) ?_
  refine g_cSi (As := [.int p1, .int 0, .int 256]) (rest := []) ⟨hx, hb, hml, hown, hts⟩ (c_X11_isIn l G cA zq 19 (by decide) a ha (up2 S 18 0 0) L H.size p1 (0 : Int32) (256 : Int32)  ) (va_cwS 3 hts gX11_setGain_X11_isIn rfl rfl rfl (by decide +kernel) ⟨Nat.le_of_ble_eq_true rfl, Nat.le_of_ble_eq_true rfl⟩) hK (mA_mono hS.1) hP hS rfl hl.1 rfl (lv_room (Nat.le_of_ble_eq_true rfl)) dX11_setGain_10 ⟨Nat.le_of_ble_eq_true rfl, Nat.le_of_ble_eq_true rfl⟩ (fun H locs hP hS _ _ => ?_)
  refine lv_if_ne (tgt := 22) hx hb dX11_setGain_13 (by decide) (fun c1 => ?_) (fun c1 => ?_)
  ·
    refine lv_aload_n hx hb dX11_setGain_22 rfl (lv_at hl 0 rfl) ?_
    refine g_get (ci := 11) (C := RX11) (T := TX11) (N := 2) (v := .ref (a 0)) hx hb hts iX11_setGain_X11 hown hK hP (by decide) cD_Mo rfl 1 (by decide) rfl (by decide +kernel) rfl dX11_setGain_23 ?_
    refine g_get (ci := 10) (C := RX10) (T := TX10) (N := 35) (v := .int ((up2 S 18 0 0) 0 15)) hx hb hts iX11_setGain_X10 hown hK hP (lt_hn (by decide) (by decide)) cD_D rfl 15 (by decide) rfl (by decide +kernel) rfl dX11_setGain_26 ?_
    refine lv_istore_n (lv' := [(2, .int ((up2 S 18 0 0) 0 15)), (0, .ref (a 18)), (1, .int p1)]) hx hb dX11_setGain_29 rfl hl (by decide) rfl (fun ls hl => ?_)
    refine lv_aload_n hx hb dX11_setGain_30 rfl (lv_at hl 1 rfl) ?_
    refine g_get (ci := 11) (C := RX11) (T := TX11) (N := 2) (v := .ref (a 0)) hx hb hts iX11_setGain_X11 hown hK hP (by decide) cD_Mo rfl 1 (by decide) rfl (by decide +kernel) rfl dX11_setGain_31 ?_
    refine lv_iload_n hx hb dX11_setGain_34 rfl (lv_at hl 2 rfl) ?_
    refine g_put (ci := 10) (C := RX10) (T := TX10) (N := 35) (ty := .int) hx hb hts iX11_setGain_X10 tyX10 tyX10_ok nmX10 hown hK ha mA_in hP hS (lt_hn (by decide) (by decide)) cD_D rfl 15 (by decide) rfl (by decide +kernel) rfl (by decide +kernel) rfl rfl (Nat.le_of_ble_eq_true rfl) (cD_D_set (by decide)) dX11_setGain_35 (fun H locs hP hS => ?_)
    refine lv_iload_n hx hb dX11_setGain_38 rfl (lv_at hl 0 rfl) ?_
    exact g_iret hx hb hr hlocks (by unfold rX11_setGain; rw [if_neg c1]) (by unfold fX11_setGain; rw [if_neg c1]) rfl hP hS dX11_setGain_39
  ·
    refine lv_aload_n hx hb dX11_setGain_16 rfl (lv_at hl 0 rfl) ?_
    refine lv_iconst (v := 1) hx hb dX11_setGain_17 (by decide) ?_
    refine g_cVi (As := [.int 1]) (rest := []) ⟨hx, hb, hml, hown, hts⟩ (c_X11_no l G cA zq a ha (up2 S 18 0 0) L H.size (1 : Int32)  ) (cwV 1 hts gX11_setGain_X11_no rfl rfl rfl (by decide +kernel) ⟨Nat.le_of_ble_eq_true rfl, Nat.le_of_ble_eq_true rfl⟩) (g_recv hK hP (by decide) cD_Mo (C := RX11) (T := TX11) (N := 2) rfl) hK (mA_mono hS.1) hP hS rfl hl.1 rfl (lv_room (Nat.le_of_ble_eq_true rfl)) dX11_setGain_18 ⟨Nat.le_of_ble_eq_true rfl, Nat.le_of_ble_eq_true rfl⟩ (fun H locs hP hS _ _ => ?_)
    exact g_iret hx hb hr hlocks (by unfold rX11_setGain; rw [if_pos c1]) (by unfold fX11_setGain; rw [if_pos c1]) rfl hP hS dX11_setGain_21

def bX11_setDelay_80_zS (S : Mm) (p1 : Int32) (p2 : Int32) (p3 : Int32) (zS : Mm) (i : Nat) : Mm := up2 zS 14 (nI i).toNatClampNeg 0
def lpX11_setDelay_80 (S : Mm) (p1 : Int32) (p2 : Int32) (p3 : Int32) : Nat → Mm
  | 0 => up2 (up2 (up2 (up2 S 18 0 0) 0 16 p1) 0 17 p2) 0 18 p3
  | i + 1 => bX11_setDelay_80_zS S p1 p2 p3 (lpX11_setDelay_80 S p1 p2 p3 i) i
theorem lpX11_setDelay_80_0 (S : Mm) (p1 : Int32) (p2 : Int32) (p3 : Int32) : lpX11_setDelay_80 S p1 p2 p3 0 = up2 (up2 (up2 (up2 S 18 0 0) 0 16 p1) 0 17 p2) 0 18 p3 := by rw [lpX11_setDelay_80]
theorem lpX11_setDelay_80_s (S : Mm) (p1 : Int32) (p2 : Int32) (p3 : Int32) (i : Nat) : lpX11_setDelay_80 S p1 p2 p3 (i + 1) = bX11_setDelay_80_zS S p1 p2 p3 (lpX11_setDelay_80 S p1 p2 p3 i) i := by rw [lpX11_setDelay_80]
def rX11_setDelay (S : Mm) (p1 : Int32) (p2 : Int32) (p3 : Int32) : Int32 := (if rX11_isIn p1 (0 : Int32) (200 : Int32) = 0 then rX11_no (up2 S 18 0 0) (1 : Int32) else (if rX11_isIn p2 (0 : Int32) (256 : Int32) = 0 then rX11_no (up2 S 18 0 0) (1 : Int32) else (if rX11_isIn p3 (0 : Int32) (256 : Int32) = 0 then rX11_no (up2 S 18 0 0) (1 : Int32) else (up2 S 18 0 0) 0 16)))
def fX11_setDelay (S : Mm) (p1 : Int32) (p2 : Int32) (p3 : Int32) : Mm := (if rX11_isIn p1 (0 : Int32) (200 : Int32) = 0 then fX11_no (up2 S 18 0 0) (1 : Int32) else (if rX11_isIn p2 (0 : Int32) (256 : Int32) = 0 then fX11_no (up2 S 18 0 0) (1 : Int32) else (if rX11_isIn p3 (0 : Int32) (256 : Int32) = 0 then fX11_no (up2 S 18 0 0) (1 : Int32) else (lpX11_setDelay_80 S p1 p2 p3 ((200 : Int32).toNatClampNeg)))))
theorem iX11_setDelay_X10 : ∀ w ∈ u_ws RX10 TX10 35, w ∈ wsX11_setDelay := by decide +kernel
theorem iX11_setDelay_X11 : ∀ w ∈ u_ws RX11 TX11 2, w ∈ wsX11_setDelay := by decide +kernel
set_option maxHeartbeats 4000000 in
set_option maxRecDepth 100000 in
theorem c_X11_setDelay (l : Launch) (G : va_G) (cA : ClassId) (zq : Nat) (a : Nat → Nat) (ha : apart 19 a) (S : Mm) (L : Int64) (sz : Nat) (p1 : Int32) (p2 : Int32) (p3 : Int32)  : Met l yX11_setDelay wsX11_setDelay ({ frames := 1, cells := 0, slots := 0, locals := 22 } : Room) (va_Pc [.ref (a 18), .int p1, .int p2, .int p3] (gI G cA zq 19 a (cD a cA) S L sz)) (gQi (rX11_setDelay S p1 p2 p3) G 19 a (cD a cA) (fX11_setDelay S p1 p2 p3) L sz) 0 0 (mA 19 a sz) := by
  refine g_met (cc := cX11_setDelay) (maxL := 6) (ret := (some .int)) (by decide) rfl (Nat.le_of_ble_eq_true rfl) ?_
  intro p e s m below meth c ls hx hb hr hlocks hml hts hown hnm hsz hK hP hS hl
  subst hsz
  have hl : lv_has ls 6 [(0, .ref (a 18)), (1, .int p1), (2, .int p2), (3, .int p3)] := hl
  refine lv_aload_n hx hb dX11_setDelay_0 rfl (lv_at hl 0 rfl) ?_
  refine lv_iconst (v := 0) hx hb dX11_setDelay_1 (by decide) ?_
  refine g_put (ci := 11) (C := RX11) (T := TX11) (N := 2) (ty := .int) hx hb hts iX11_setDelay_X11 tyX11 tyX11_ok nmX11 hown hK ha mA_in hP hS (by decide) cD_Mo rfl 0 (by decide) rfl (by decide +kernel) rfl (by decide +kernel) rfl rfl (Nat.le_of_ble_eq_true rfl) (cD_Mo_set (by decide)) dX11_setDelay_2 (fun H locs hP hS => ?_)
  refine lv_iload_n hx hb dX11_setDelay_5 rfl (lv_at hl 1 rfl) ?_
  refine lv_iconst (v := 0) hx hb dX11_setDelay_6 (by decide) ?_
  refine lv_sipush (v := 200) hx hb dX11_setDelay_7 (by decide) ?_
  refine g_cSi (As := [.int p1, .int 0, .int 200]) (rest := []) ⟨hx, hb, hml, hown, hts⟩ (c_X11_isIn l G cA zq 19 (by decide) a ha (up2 S 18 0 0) L H.size p1 (0 : Int32) (200 : Int32)  ) (va_cwS 3 hts gX11_setDelay_X11_isIn rfl rfl rfl (by decide +kernel) ⟨Nat.le_of_ble_eq_true rfl, Nat.le_of_ble_eq_true rfl⟩) hK (mA_mono hS.1) hP hS rfl hl.1 rfl (lv_room (Nat.le_of_ble_eq_true rfl)) dX11_setDelay_10 ⟨Nat.le_of_ble_eq_true rfl, Nat.le_of_ble_eq_true rfl⟩ (fun H locs hP hS _ _ => ?_)
  refine lv_if_eq (tgt := 38) hx hb dX11_setDelay_13 (by decide) (fun c1 => ?_) (fun c1 => ?_)
  ·
    refine lv_aload_n hx hb dX11_setDelay_38 rfl (lv_at hl 0 rfl) ?_
    refine lv_iconst (v := 1) hx hb dX11_setDelay_39 (by decide) ?_
    refine g_cVi (As := [.int 1]) (rest := []) ⟨hx, hb, hml, hown, hts⟩ (c_X11_no l G cA zq a ha (up2 S 18 0 0) L H.size (1 : Int32)  ) (cwV 1 hts gX11_setDelay_X11_no rfl rfl rfl (by decide +kernel) ⟨Nat.le_of_ble_eq_true rfl, Nat.le_of_ble_eq_true rfl⟩) (g_recv hK hP (by decide) cD_Mo (C := RX11) (T := TX11) (N := 2) rfl) hK (mA_mono hS.1) hP hS rfl hl.1 rfl (lv_room (Nat.le_of_ble_eq_true rfl)) dX11_setDelay_40 ⟨Nat.le_of_ble_eq_true rfl, Nat.le_of_ble_eq_true rfl⟩ (fun H locs hP hS _ _ => ?_)
    exact g_iret hx hb hr hlocks (by unfold rX11_setDelay; rw [if_pos c1]) (by unfold fX11_setDelay; rw [if_pos c1]) rfl hP hS dX11_setDelay_43
  ·
    refine lv_iload_n hx hb dX11_setDelay_16 rfl (lv_at hl 2 rfl) ?_
    refine lv_iconst (v := 0) hx hb dX11_setDelay_17 (by decide) ?_
    refine lv_sipush (v := 256) hx hb dX11_setDelay_18 (by decide) ?_
    refine g_cSi (As := [.int p2, .int 0, .int 256]) (rest := []) ⟨hx, hb, hml, hown, hts⟩ (c_X11_isIn l G cA zq 19 (by decide) a ha (up2 S 18 0 0) L H.size p2 (0 : Int32) (256 : Int32)  ) (va_cwS 3 hts gX11_setDelay_X11_isIn rfl rfl rfl (by decide +kernel) ⟨Nat.le_of_ble_eq_true rfl, Nat.le_of_ble_eq_true rfl⟩) hK (mA_mono hS.1) hP hS rfl hl.1 rfl (lv_room (Nat.le_of_ble_eq_true rfl)) dX11_setDelay_21 ⟨Nat.le_of_ble_eq_true rfl, Nat.le_of_ble_eq_true rfl⟩ (fun H locs hP hS _ _ => ?_)
    refine lv_if_eq (tgt := 38) hx hb dX11_setDelay_24 (by decide) (fun c2 => ?_) (fun c2 => ?_)
    ·
      refine lv_aload_n hx hb dX11_setDelay_38 rfl (lv_at hl 0 rfl) ?_
      refine lv_iconst (v := 1) hx hb dX11_setDelay_39 (by decide) ?_
      refine g_cVi (As := [.int 1]) (rest := []) ⟨hx, hb, hml, hown, hts⟩ (c_X11_no l G cA zq a ha (up2 S 18 0 0) L H.size (1 : Int32)  ) (cwV 1 hts gX11_setDelay_X11_no rfl rfl rfl (by decide +kernel) ⟨Nat.le_of_ble_eq_true rfl, Nat.le_of_ble_eq_true rfl⟩) (g_recv hK hP (by decide) cD_Mo (C := RX11) (T := TX11) (N := 2) rfl) hK (mA_mono hS.1) hP hS rfl hl.1 rfl (lv_room (Nat.le_of_ble_eq_true rfl)) dX11_setDelay_40 ⟨Nat.le_of_ble_eq_true rfl, Nat.le_of_ble_eq_true rfl⟩ (fun H locs hP hS _ _ => ?_)
      exact g_iret hx hb hr hlocks (by unfold rX11_setDelay; rw [if_neg c1, if_pos c2]) (by unfold fX11_setDelay; rw [if_neg c1, if_pos c2]) rfl hP hS dX11_setDelay_43
    ·
      refine lv_iload_n hx hb dX11_setDelay_27 rfl (lv_at hl 3 rfl) ?_
      refine lv_iconst (v := 0) hx hb dX11_setDelay_28 (by decide) ?_
      refine lv_sipush (v := 256) hx hb dX11_setDelay_29 (by decide) ?_
      refine g_cSi (As := [.int p3, .int 0, .int 256]) (rest := []) ⟨hx, hb, hml, hown, hts⟩ (c_X11_isIn l G cA zq 19 (by decide) a ha (up2 S 18 0 0) L H.size p3 (0 : Int32) (256 : Int32)  ) (va_cwS 3 hts gX11_setDelay_X11_isIn rfl rfl rfl (by decide +kernel) ⟨Nat.le_of_ble_eq_true rfl, Nat.le_of_ble_eq_true rfl⟩) hK (mA_mono hS.1) hP hS rfl hl.1 rfl (lv_room (Nat.le_of_ble_eq_true rfl)) dX11_setDelay_32 ⟨Nat.le_of_ble_eq_true rfl, Nat.le_of_ble_eq_true rfl⟩ (fun H locs hP hS _ _ => ?_)
      refine lv_if_ne (tgt := 44) hx hb dX11_setDelay_35 (by decide) (fun c3 => ?_) (fun c3 => ?_)
      ·
        refine lv_aload_n hx hb dX11_setDelay_44 rfl (lv_at hl 0 rfl) ?_
        refine g_get (ci := 11) (C := RX11) (T := TX11) (N := 2) (v := .ref (a 0)) hx hb hts iX11_setDelay_X11 hown hK hP (by decide) cD_Mo rfl 1 (by decide) rfl (by decide +kernel) rfl dX11_setDelay_45 ?_
        refine g_get (ci := 10) (C := RX10) (T := TX10) (N := 35) (v := .int ((up2 S 18 0 0) 0 16)) hx hb hts iX11_setDelay_X10 hown hK hP (lt_hn (by decide) (by decide)) cD_D rfl 16 (by decide) rfl (by decide +kernel) rfl dX11_setDelay_48 ?_
        refine lv_istore (lv' := [(4, .int ((up2 S 18 0 0) 0 16)), (0, .ref (a 18)), (1, .int p1), (2, .int p2), (3, .int p3)]) hx hb dX11_setDelay_51 hl (by decide) rfl (fun ls hl => ?_)
        refine lv_aload_n hx hb dX11_setDelay_53 rfl (lv_at hl 1 rfl) ?_
        refine g_get (ci := 11) (C := RX11) (T := TX11) (N := 2) (v := .ref (a 0)) hx hb hts iX11_setDelay_X11 hown hK hP (by decide) cD_Mo rfl 1 (by decide) rfl (by decide +kernel) rfl dX11_setDelay_54 ?_
        refine lv_iload_n hx hb dX11_setDelay_57 rfl (lv_at hl 2 rfl) ?_
        refine g_put (ci := 10) (C := RX10) (T := TX10) (N := 35) (ty := .int) hx hb hts iX11_setDelay_X10 tyX10 tyX10_ok nmX10 hown hK ha mA_in hP hS (lt_hn (by decide) (by decide)) cD_D rfl 16 (by decide) rfl (by decide +kernel) rfl (by decide +kernel) rfl rfl (Nat.le_of_ble_eq_true rfl) (cD_D_set (by decide)) dX11_setDelay_58 (fun H locs hP hS => ?_)
        refine lv_aload_n hx hb dX11_setDelay_61 rfl (lv_at hl 1 rfl) ?_
        refine g_get (ci := 11) (C := RX11) (T := TX11) (N := 2) (v := .ref (a 0)) hx hb hts iX11_setDelay_X11 hown hK hP (by decide) cD_Mo rfl 1 (by decide) rfl (by decide +kernel) rfl dX11_setDelay_62 ?_
        refine lv_iload_n hx hb dX11_setDelay_65 rfl (lv_at hl 3 rfl) ?_
        refine g_put (ci := 10) (C := RX10) (T := TX10) (N := 35) (ty := .int) hx hb hts iX11_setDelay_X10 tyX10 tyX10_ok nmX10 hown hK ha mA_in hP hS (lt_hn (by decide) (by decide)) cD_D rfl 17 (by decide) rfl (by decide +kernel) rfl (by decide +kernel) rfl rfl (Nat.le_of_ble_eq_true rfl) (cD_D_set (by decide)) dX11_setDelay_66 (fun H locs hP hS => ?_)
        refine lv_aload_n hx hb dX11_setDelay_69 rfl (lv_at hl 1 rfl) ?_
        refine g_get (ci := 11) (C := RX11) (T := TX11) (N := 2) (v := .ref (a 0)) hx hb hts iX11_setDelay_X11 hown hK hP (by decide) cD_Mo rfl 1 (by decide) rfl (by decide +kernel) rfl dX11_setDelay_70 ?_
        refine lv_iload_n hx hb dX11_setDelay_73 rfl (lv_at hl 4 rfl) ?_
        refine g_put (ci := 10) (C := RX10) (T := TX10) (N := 35) (ty := .int) hx hb hts iX11_setDelay_X10 tyX10 tyX10_ok nmX10 hown hK ha mA_in hP hS (lt_hn (by decide) (by decide)) cD_D rfl 18 (by decide) rfl (by decide +kernel) rfl (by decide +kernel) rfl rfl (Nat.le_of_ble_eq_true rfl) (cD_D_set (by decide)) dX11_setDelay_74 (fun H locs hP hS => ?_)
        refine lv_iconst (v := 0) hx hb dX11_setDelay_77 (by decide) ?_
        refine lv_istore (lv' := [(5, .int 0), (4, .int ((up2 S 18 0 0) 0 16)), (0, .ref (a 18)), (1, .int p1), (2, .int p2), (3, .int p3)]) hx hb dX11_setDelay_78 hl (by decide) rfl (fun ls hl => ?_)
        have loop : ∀ (k i : Nat), i ≤ (200 : Int32).toNatClampNeg → (200 : Int32).toNatClampNeg < i + k → ∀ (zS : Mm) (H : Heap) (locs : List Loc) (ls : Array Slot), zS = (lpX11_setDelay_80 S p1 p2 p3 i) → va_P G vwCl (wG 19 a (cD a cA) zS L) H → va_S (mA 19 a s.heap.size) s.heap H locs → lv_has ls 6 [(5, .int (nI i)), (4, .int ((up2 S 18 0 0) 0 16)), (0, .ref (a 18)), (1, .int p1), (2, .int p2), (3, .int p3)] → W p l e ({ frames := 1, cells := 0, slots := 0, locals := 22 } : Room) s m ([.ref (a 18), .int p1, .int p2, .int p3] : List Value).toArray below meth c H locs 0 0 (MQ below (gQi (rX11_setDelay S p1 p2 p3) G 19 a (cD a cA) (fX11_setDelay S p1 p2 p3) L s.heap.size) ([.ref (a 18), .int p1, .int p2, .int p3] : List Value).toArray s 0 0 (mA 19 a s.heap.size)) (F0 m 80 ls []) := by
          intro k
          induction k with
          | zero => intro i h1 h2; omega
          | succ k ih =>
            intro i hi hk zS H locs ls ezS hP hS hl
            refine lv_iload hx hb dX11_setDelay_80 (lv_at hl 0 rfl) ?_
            refine lv_sipush (v := 200) hx hb dX11_setDelay_82 (by decide) ?_
            refine lv_icmp_ge (tgt := 105) hx hb dX11_setDelay_85 (by decide) (fun cx => ?_) (fun cx => ?_)
            ·
              have hN := lx_exit hi cx
              subst hN
              rw [ezS] at hP
              refine lv_iload hx hb dX11_setDelay_105 (lv_at hl 1 rfl) ?_
              exact g_iret hx hb hr hlocks (by unfold rX11_setDelay; rw [if_neg c1, if_neg c2, if_neg c3]) (by unfold fX11_setDelay; rw [if_neg c1, if_neg c2, if_neg c3]) rfl hP hS dX11_setDelay_107
            ·
              have hlt := lx_body cx hi
              refine lv_aload_n hx hb dX11_setDelay_88 rfl (lv_at hl 2 rfl) ?_
              refine g_get (ci := 11) (C := RX11) (T := TX11) (N := 2) (v := .ref (a 0)) hx hb hts iX11_setDelay_X11 hown hK hP (by decide) cD_Mo rfl 1 (by decide) rfl (by decide +kernel) rfl dX11_setDelay_89 ?_
              refine g_get (ci := 10) (C := RX10) (T := TX10) (N := 35) (v := .ref (a 14)) hx hb hts iX11_setDelay_X10 hown hK hP (lt_hn (by decide) (by decide)) cD_D rfl 19 (by decide) rfl (by decide +kernel) rfl dX11_setDelay_92 ?_
              refine lv_iload hx hb dX11_setDelay_95 (lv_at hl 0 rfl) ?_
              refine lv_iconst (v := 0) hx hb dX11_setDelay_97 (by decide) ?_
              refine g_iast (N := 200) (g := zS 14) hx hb hK ha mA_in hP hS (lt_hn (by decide) (by decide)) rfl (in_loop hlt (by decide)) rfl dX11_setDelay_98 (fun H locs hP hS => ?_)
              refine lv_iinc (v := nI (i + 1)) (lv' := [(5, .int (nI (i + 1))), (4, .int ((up2 S 18 0 0) 0 16)), (0, .ref (a 18)), (1, .int p1), (2, .int p2), (3, .int p3)]) hx hb dX11_setDelay_99 hl (k := 0) rfl (nI_1 i) (by decide) rfl (fun ls hl => ?_)
              refine lv_goto (tgt := 80) hx hb dX11_setDelay_102 (by decide) ?_
              exact ih (i + 1) (by omega) (by omega) (up2 zS 14 (nI i).toNatClampNeg 0) _ _ _ (by rw [lpX11_setDelay_80_s]; (try rw [← ezS]); (try dsimp only); unfold bX11_setDelay_80_zS; rfl) hP hS (lv_sub hl [0, 1, 2, 3, 4, 5] rfl)
        exact loop ((200 : Int32).toNatClampNeg + 1) 0 (Nat.zero_le _) (by omega) (up2 (up2 (up2 (up2 S 18 0 0) 0 16 p1) 0 17 p2) 0 18 p3) _ _ _ (by rw [lpX11_setDelay_80_0]) hP hS (lv_sub hl [0, 1, 2, 3, 4, 5] rfl)
      ·
        refine lv_aload_n hx hb dX11_setDelay_38 rfl (lv_at hl 0 rfl) ?_
        refine lv_iconst (v := 1) hx hb dX11_setDelay_39 (by decide) ?_
        refine g_cVi (As := [.int 1]) (rest := []) ⟨hx, hb, hml, hown, hts⟩ (c_X11_no l G cA zq a ha (up2 S 18 0 0) L H.size (1 : Int32)  ) (cwV 1 hts gX11_setDelay_X11_no rfl rfl rfl (by decide +kernel) ⟨Nat.le_of_ble_eq_true rfl, Nat.le_of_ble_eq_true rfl⟩) (g_recv hK hP (by decide) cD_Mo (C := RX11) (T := TX11) (N := 2) rfl) hK (mA_mono hS.1) hP hS rfl hl.1 rfl (lv_room (Nat.le_of_ble_eq_true rfl)) dX11_setDelay_40 ⟨Nat.le_of_ble_eq_true rfl, Nat.le_of_ble_eq_true rfl⟩ (fun H locs hP hS _ _ => ?_)
        exact g_iret hx hb hr hlocks (by unfold rX11_setDelay; rw [if_neg c1, if_neg c2, if_pos c3]) (by unfold fX11_setDelay; rw [if_neg c1, if_neg c2, if_pos c3]) rfl hP hS dX11_setDelay_43

def rX11_begin (S : Mm) (p1 : Int32) (p2 : Int32) (p3 : Int32) : Int32 := (if rX11_isInstrument p1 = 0 then rX11_no (up2 S 18 0 0) (1 : Int32) else (if rX11_isIn p2 (0 : Int32) (47 : Int32) = 0 then rX11_no (up2 S 18 0 0) (2 : Int32) else (if rX11_isIn p3 (1 : Int32) (127 : Int32) = 0 then rX11_no (up2 S 18 0 0) (2 : Int32) else rX10_begin (up2 S 18 0 0) p1 p2 p3 ((-1) : Int32))))
def fX11_begin (S : Mm) (p1 : Int32) (p2 : Int32) (p3 : Int32) : Mm := (if rX11_isInstrument p1 = 0 then fX11_no (up2 S 18 0 0) (1 : Int32) else (if rX11_isIn p2 (0 : Int32) (47 : Int32) = 0 then fX11_no (up2 S 18 0 0) (2 : Int32) else (if rX11_isIn p3 (1 : Int32) (127 : Int32) = 0 then fX11_no (up2 S 18 0 0) (2 : Int32) else fX10_begin (up2 S 18 0 0) p1 p2 p3 ((-1) : Int32))))
theorem iX11_begin_X11 : ∀ w ∈ u_ws RX11 TX11 2, w ∈ wsX11_begin := by decide +kernel
set_option maxHeartbeats 4000000 in
set_option maxRecDepth 100000 in
theorem c_X11_begin (l : Launch) (G : va_G) (cA : ClassId) (zq : Nat) (a : Nat → Nat) (ha : apart 19 a) (S : Mm) (L : Int64) (sz : Nat) (p1 : Int32) (p2 : Int32) (p3 : Int32)  : Met l yX11_begin wsX11_begin ({ frames := 2, cells := 0, slots := 0, locals := 47 } : Room) (va_Pc [.ref (a 18), .int p1, .int p2, .int p3] (gI G cA zq 19 a (cD a cA) S L sz)) (gQi (rX11_begin S p1 p2 p3) G 19 a (cD a cA) (fX11_begin S p1 p2 p3) L sz) 0 0 (mA 19 a sz) := by
  refine g_met (cc := cX11_begin) (maxL := 4) (ret := (some .int)) (by decide) rfl (Nat.le_of_ble_eq_true rfl) ?_
  intro p e s m below meth c ls hx hb hr hlocks hml hts hown hnm hsz hK hP hS hl
  subst hsz
  have hl : lv_has ls 4 [(0, .ref (a 18)), (1, .int p1), (2, .int p2), (3, .int p3)] := hl
  refine lv_aload_n hx hb dX11_begin_0 rfl (lv_at hl 0 rfl) ?_
  refine lv_iconst (v := 0) hx hb dX11_begin_1 (by decide) ?_
  refine g_put (ci := 11) (C := RX11) (T := TX11) (N := 2) (ty := .int) hx hb hts iX11_begin_X11 tyX11 tyX11_ok nmX11 hown hK ha mA_in hP hS (by decide) cD_Mo rfl 0 (by decide) rfl (by decide +kernel) rfl (by decide +kernel) rfl rfl (Nat.le_of_ble_eq_true rfl) (cD_Mo_set (by decide)) dX11_begin_2 (fun H locs hP hS => ?_)
  refine lv_iload_n hx hb dX11_begin_5 rfl (lv_at hl 1 rfl) ?_
  refine g_cSi (As := [.int p1]) (rest := []) ⟨hx, hb, hml, hown, hts⟩ (c_X11_isInstrument l G cA zq a ha (up2 S 18 0 0) L H.size p1  ) (va_cwS 1 hts gX11_begin_X11_isInstrument rfl rfl rfl (by decide +kernel) ⟨Nat.le_of_ble_eq_true rfl, Nat.le_of_ble_eq_true rfl⟩) hK (mA_mono hS.1) hP hS rfl hl.1 rfl (lv_room (Nat.le_of_ble_eq_true rfl)) dX11_begin_6 ⟨Nat.le_of_ble_eq_true rfl, Nat.le_of_ble_eq_true rfl⟩ (fun H locs hP hS _ _ => ?_)
  refine lv_if_ne (tgt := 18) hx hb dX11_begin_9 (by decide) (fun c1 => ?_) (fun c1 => ?_)
  ·
    refine lv_iload_n hx hb dX11_begin_18 rfl (lv_at hl 2 rfl) ?_
    refine lv_iconst (v := 0) hx hb dX11_begin_19 (by decide) ?_
    refine lv_bipush (v := 47) hx hb dX11_begin_20 (by decide) ?_
    refine g_cSi (As := [.int p2, .int 0, .int 47]) (rest := []) ⟨hx, hb, hml, hown, hts⟩ (c_X11_isIn l G cA zq 19 (by decide) a ha (up2 S 18 0 0) L H.size p2 (0 : Int32) (47 : Int32)  ) (va_cwS 3 hts gX11_begin_X11_isIn rfl rfl rfl (by decide +kernel) ⟨Nat.le_of_ble_eq_true rfl, Nat.le_of_ble_eq_true rfl⟩) hK (mA_mono hS.1) hP hS rfl hl.1 rfl (lv_room (Nat.le_of_ble_eq_true rfl)) dX11_begin_22 ⟨Nat.le_of_ble_eq_true rfl, Nat.le_of_ble_eq_true rfl⟩ (fun H locs hP hS _ _ => ?_)
    refine lv_if_eq (tgt := 52) hx hb dX11_begin_25 (by decide) (fun c2 => ?_) (fun c2 => ?_)
    ·
      refine lv_aload_n hx hb dX11_begin_52 rfl (lv_at hl 0 rfl) ?_
      refine lv_iconst (v := 2) hx hb dX11_begin_53 (by decide) ?_
      refine g_cVi (As := [.int 2]) (rest := []) ⟨hx, hb, hml, hown, hts⟩ (c_X11_no l G cA zq a ha (up2 S 18 0 0) L H.size (2 : Int32)  ) (cwV 1 hts gX11_begin_X11_no rfl rfl rfl (by decide +kernel) ⟨Nat.le_of_ble_eq_true rfl, Nat.le_of_ble_eq_true rfl⟩) (g_recv hK hP (by decide) cD_Mo (C := RX11) (T := TX11) (N := 2) rfl) hK (mA_mono hS.1) hP hS rfl hl.1 rfl (lv_room (Nat.le_of_ble_eq_true rfl)) dX11_begin_54 ⟨Nat.le_of_ble_eq_true rfl, Nat.le_of_ble_eq_true rfl⟩ (fun H locs hP hS _ _ => ?_)
      exact g_iret hx hb hr hlocks (by unfold rX11_begin; rw [if_neg c1, if_pos c2]) (by unfold fX11_begin; rw [if_neg c1, if_pos c2]) rfl hP hS dX11_begin_57
    ·
      refine lv_iload_n hx hb dX11_begin_28 rfl (lv_at hl 3 rfl) ?_
      refine lv_iconst (v := 1) hx hb dX11_begin_29 (by decide) ?_
      refine lv_bipush (v := 127) hx hb dX11_begin_30 (by decide) ?_
      refine g_cSi (As := [.int p3, .int 1, .int 127]) (rest := []) ⟨hx, hb, hml, hown, hts⟩ (c_X11_isIn l G cA zq 19 (by decide) a ha (up2 S 18 0 0) L H.size p3 (1 : Int32) (127 : Int32)  ) (va_cwS 3 hts gX11_begin_X11_isIn rfl rfl rfl (by decide +kernel) ⟨Nat.le_of_ble_eq_true rfl, Nat.le_of_ble_eq_true rfl⟩) hK (mA_mono hS.1) hP hS rfl hl.1 rfl (lv_room (Nat.le_of_ble_eq_true rfl)) dX11_begin_32 ⟨Nat.le_of_ble_eq_true rfl, Nat.le_of_ble_eq_true rfl⟩ (fun H locs hP hS _ _ => ?_)
      refine lv_if_eq (tgt := 52) hx hb dX11_begin_35 (by decide) (fun c3 => ?_) (fun c3 => ?_)
      ·
        refine lv_aload_n hx hb dX11_begin_52 rfl (lv_at hl 0 rfl) ?_
        refine lv_iconst (v := 2) hx hb dX11_begin_53 (by decide) ?_
        refine g_cVi (As := [.int 2]) (rest := []) ⟨hx, hb, hml, hown, hts⟩ (c_X11_no l G cA zq a ha (up2 S 18 0 0) L H.size (2 : Int32)  ) (cwV 1 hts gX11_begin_X11_no rfl rfl rfl (by decide +kernel) ⟨Nat.le_of_ble_eq_true rfl, Nat.le_of_ble_eq_true rfl⟩) (g_recv hK hP (by decide) cD_Mo (C := RX11) (T := TX11) (N := 2) rfl) hK (mA_mono hS.1) hP hS rfl hl.1 rfl (lv_room (Nat.le_of_ble_eq_true rfl)) dX11_begin_54 ⟨Nat.le_of_ble_eq_true rfl, Nat.le_of_ble_eq_true rfl⟩ (fun H locs hP hS _ _ => ?_)
        exact g_iret hx hb hr hlocks (by unfold rX11_begin; rw [if_neg c1, if_neg c2, if_pos c3]) (by unfold fX11_begin; rw [if_neg c1, if_neg c2, if_pos c3]) rfl hP hS dX11_begin_57
      ·
        refine lv_aload_n hx hb dX11_begin_38 rfl (lv_at hl 0 rfl) ?_
        refine g_get (ci := 11) (C := RX11) (T := TX11) (N := 2) (v := .ref (a 0)) hx hb hts iX11_begin_X11 hown hK hP (by decide) cD_Mo rfl 1 (by decide) rfl (by decide +kernel) rfl dX11_begin_39 ?_
        refine lv_iload_n hx hb dX11_begin_42 rfl (lv_at hl 1 rfl) ?_
        refine lv_iload_n hx hb dX11_begin_43 rfl (lv_at hl 2 rfl) ?_
        refine lv_iload_n hx hb dX11_begin_44 rfl (lv_at hl 3 rfl) ?_
        refine lv_iconst (v := (-1)) hx hb dX11_begin_45 (by decide) ?_
        refine g_cVi (As := [.int p1, .int p2, .int p3, .int (-1)]) (rest := []) ⟨hx, hb, hml, hown, hts⟩ (c1_X10_begin l G cA zq 19 (by decide) a ha (up2 S 18 0 0) L H.size p1 p2 p3 ((-1) : Int32)  ) (cwV 4 hts gX11_begin_X10_begin rfl rfl rfl (by decide +kernel) ⟨Nat.le_of_ble_eq_true rfl, Nat.le_of_ble_eq_true rfl⟩) (g_recv hK hP (lt_hn (by decide) (by decide)) cD_D (C := RX10) (T := TX10) (N := 35) rfl) hK (mA_mono hS.1) hP hS rfl hl.1 rfl (lv_room (Nat.le_of_ble_eq_true rfl)) dX11_begin_46 ⟨Nat.le_of_ble_eq_true rfl, Nat.le_of_ble_eq_true rfl⟩ (fun H locs hP hS _ _ => ?_)
        refine lv_goto (tgt := 57) hx hb dX11_begin_49 (by decide) ?_
        exact g_iret hx hb hr hlocks (by unfold rX11_begin; rw [if_neg c1, if_neg c2, if_neg c3]) (by unfold fX11_begin; rw [if_neg c1, if_neg c2, if_neg c3]) rfl hP hS dX11_begin_57
  ·
    refine lv_aload_n hx hb dX11_begin_12 rfl (lv_at hl 0 rfl) ?_
    refine lv_iconst (v := 1) hx hb dX11_begin_13 (by decide) ?_
    refine g_cVi (As := [.int 1]) (rest := []) ⟨hx, hb, hml, hown, hts⟩ (c_X11_no l G cA zq a ha (up2 S 18 0 0) L H.size (1 : Int32)  ) (cwV 1 hts gX11_begin_X11_no rfl rfl rfl (by decide +kernel) ⟨Nat.le_of_ble_eq_true rfl, Nat.le_of_ble_eq_true rfl⟩) (g_recv hK hP (by decide) cD_Mo (C := RX11) (T := TX11) (N := 2) rfl) hK (mA_mono hS.1) hP hS rfl hl.1 rfl (lv_room (Nat.le_of_ble_eq_true rfl)) dX11_begin_14 ⟨Nat.le_of_ble_eq_true rfl, Nat.le_of_ble_eq_true rfl⟩ (fun H locs hP hS _ _ => ?_)
    exact g_iret hx hb hr hlocks (by unfold rX11_begin; rw [if_pos c1]) (by unfold fX11_begin; rw [if_pos c1]) rfl hP hS dX11_begin_17

def rX11_end (S : Mm) (p1 : Int32) : Int32 := (if rX11_isVoice p1 = 0 then rX11_no (up2 S 18 0 0) (1 : Int32) else (up2 S 18 0 0) 3 p1.toNatClampNeg)
def fX11_end (S : Mm) (p1 : Int32) : Mm := (if rX11_isVoice p1 = 0 then fX11_no (up2 S 18 0 0) (1 : Int32) else fX10_end (up2 S 18 0 0) p1)
theorem iX11_end_X10 : ∀ w ∈ u_ws RX10 TX10 35, w ∈ wsX11_end := by decide +kernel
theorem iX11_end_X11 : ∀ w ∈ u_ws RX11 TX11 2, w ∈ wsX11_end := by decide +kernel
set_option maxHeartbeats 4000000 in
set_option maxRecDepth 100000 in
theorem c_X11_end (l : Launch) (G : va_G) (cA : ClassId) (zq : Nat) (a : Nat → Nat) (ha : apart 19 a) (S : Mm) (L : Int64) (sz : Nat) (p1 : Int32)  : Met l yX11_end wsX11_end ({ frames := 2, cells := 0, slots := 0, locals := 43 } : Room) (va_Pc [.ref (a 18), .int p1] (gI G cA zq 19 a (cD a cA) S L sz)) (gQi (rX11_end S p1) G 19 a (cD a cA) (fX11_end S p1) L sz) 0 0 (mA 19 a sz) := by
  refine g_met (cc := cX11_end) (maxL := 3) (ret := (some .int)) (by decide) rfl (Nat.le_of_ble_eq_true rfl) ?_
  intro p e s m below meth c ls hx hb hr hlocks hml hts hown hnm hsz hK hP hS hl
  subst hsz
  have hl : lv_has ls 3 [(0, .ref (a 18)), (1, .int p1)] := hl
  refine lv_aload_n hx hb dX11_end_0 rfl (lv_at hl 0 rfl) ?_
  refine lv_iconst (v := 0) hx hb dX11_end_1 (by decide) ?_
  refine g_put (ci := 11) (C := RX11) (T := TX11) (N := 2) (ty := .int) hx hb hts iX11_end_X11 tyX11 tyX11_ok nmX11 hown hK ha mA_in hP hS (by decide) cD_Mo rfl 0 (by decide) rfl (by decide +kernel) rfl (by decide +kernel) rfl rfl (Nat.le_of_ble_eq_true rfl) (cD_Mo_set (by decide)) dX11_end_2 (fun H locs hP hS => ?_)
  refine lv_iload_n hx hb dX11_end_5 rfl (lv_at hl 1 rfl) ?_
  refine g_cSi (As := [.int p1]) (rest := []) ⟨hx, hb, hml, hown, hts⟩ (c_X11_isVoice l G cA zq a ha (up2 S 18 0 0) L H.size p1  ) (va_cwS 1 hts gX11_end_X11_isVoice rfl rfl rfl (by decide +kernel) ⟨Nat.le_of_ble_eq_true rfl, Nat.le_of_ble_eq_true rfl⟩) hK (mA_mono hS.1) hP hS rfl hl.1 rfl (lv_room (Nat.le_of_ble_eq_true rfl)) dX11_end_6 ⟨Nat.le_of_ble_eq_true rfl, Nat.le_of_ble_eq_true rfl⟩ (fun H locs hP hS _ _ => ?_)
  refine lv_if_ne (tgt := 18) hx hb dX11_end_9 (by decide) (fun c1 => ?_) (fun c1 => ?_)
  ·
    refine lv_aload_n hx hb dX11_end_18 rfl (lv_at hl 0 rfl) ?_
    refine g_get (ci := 11) (C := RX11) (T := TX11) (N := 2) (v := .ref (a 0)) hx hb hts iX11_end_X11 hown hK hP (by decide) cD_Mo rfl 1 (by decide) rfl (by decide +kernel) rfl dX11_end_19 ?_
    refine g_get (ci := 10) (C := RX10) (T := TX10) (N := 35) (v := .ref (a 3)) hx hb hts iX11_end_X10 hown hK hP (lt_hn (by decide) (by decide)) cD_D rfl 2 (by decide) rfl (by decide +kernel) rfl dX11_end_22 ?_
    refine lv_iload_n hx hb dX11_end_25 rfl (lv_at hl 1 rfl) ?_
    refine g_iald (N := 4) (g := (up2 S 18 0 0) 3) hx hb hK hP (lt_hn (by decide) (by decide)) rfl (isIn_vp (by unfold rX11_isVoice at c1; exact c1) (by decide)) dX11_end_26 ?_
    refine lv_istore_n (lv' := [(2, .int ((up2 S 18 0 0) 3 p1.toNatClampNeg)), (0, .ref (a 18)), (1, .int p1)]) hx hb dX11_end_27 rfl hl (by decide) rfl (fun ls hl => ?_)
    refine lv_aload_n hx hb dX11_end_28 rfl (lv_at hl 1 rfl) ?_
    refine g_get (ci := 11) (C := RX11) (T := TX11) (N := 2) (v := .ref (a 0)) hx hb hts iX11_end_X11 hown hK hP (by decide) cD_Mo rfl 1 (by decide) rfl (by decide +kernel) rfl dX11_end_29 ?_
    refine lv_iload_n hx hb dX11_end_32 rfl (lv_at hl 2 rfl) ?_
    refine g_cVv (As := [.int p1]) (rest := []) ⟨hx, hb, hml, hown, hts⟩ (c_X10_end l G cA zq 19 (by decide) a ha (up2 S 18 0 0) L H.size p1  (isIn_vp (by unfold rX11_isVoice at c1; exact c1) (by decide))) (cwV 1 hts gX11_end_X10_end rfl rfl rfl (by decide +kernel) ⟨Nat.le_of_ble_eq_true rfl, Nat.le_of_ble_eq_true rfl⟩) (g_recv hK hP (lt_hn (by decide) (by decide)) cD_D (C := RX10) (T := TX10) (N := 35) rfl) hK (mA_mono hS.1) hP hS rfl hl.1 rfl (lv_room (Nat.le_of_ble_eq_true rfl)) dX11_end_33 ⟨Nat.le_of_ble_eq_true rfl, Nat.le_of_ble_eq_true rfl⟩ (fun H locs hP hS _ _ => ?_)
    refine lv_iload_n hx hb dX11_end_36 rfl (lv_at hl 0 rfl) ?_
    exact g_iret hx hb hr hlocks (by unfold rX11_end; rw [if_neg c1]) (by unfold fX11_end; rw [if_neg c1]) rfl hP hS dX11_end_37
  ·
    refine lv_aload_n hx hb dX11_end_12 rfl (lv_at hl 0 rfl) ?_
    refine lv_iconst (v := 1) hx hb dX11_end_13 (by decide) ?_
    refine g_cVi (As := [.int 1]) (rest := []) ⟨hx, hb, hml, hown, hts⟩ (c_X11_no l G cA zq a ha (up2 S 18 0 0) L H.size (1 : Int32)  ) (cwV 1 hts gX11_end_X11_no rfl rfl rfl (by decide +kernel) ⟨Nat.le_of_ble_eq_true rfl, Nat.le_of_ble_eq_true rfl⟩) (g_recv hK hP (by decide) cD_Mo (C := RX11) (T := TX11) (N := 2) rfl) hK (mA_mono hS.1) hP hS rfl hl.1 rfl (lv_room (Nat.le_of_ble_eq_true rfl)) dX11_end_14 ⟨Nat.le_of_ble_eq_true rfl, Nat.le_of_ble_eq_true rfl⟩ (fun H locs hP hS _ _ => ?_)
    exact g_iret hx hb hr hlocks (by unfold rX11_end; rw [if_pos c1]) (by unfold fX11_end; rw [if_pos c1]) rfl hP hS dX11_end_17

def mX11_hush_1 (S : Mm) : Mm := up2 (up2 (up2 S 18 0 0) 3 (0 : Int32).toNatClampNeg 0) 4 (0 : Int32).toNatClampNeg 0
def mX11_hush_2 (S : Mm) : Mm := up2 (up2 (mX11_hush_1 S) 12 (0 : Int32).toNatClampNeg (-1)) 3 (1 : Int32).toNatClampNeg 0
def mX11_hush_3 (S : Mm) : Mm := up2 (up2 (mX11_hush_2 S) 4 (1 : Int32).toNatClampNeg 0) 12 (1 : Int32).toNatClampNeg (-1)
def mX11_hush_4 (S : Mm) : Mm := up2 (up2 (mX11_hush_3 S) 3 (2 : Int32).toNatClampNeg 0) 4 (2 : Int32).toNatClampNeg 0
def mX11_hush_5 (S : Mm) : Mm := up2 (up2 (mX11_hush_4 S) 12 (2 : Int32).toNatClampNeg (-1)) 3 (3 : Int32).toNatClampNeg 0
def mX11_hush_6 (S : Mm) : Mm := up2 (up2 (mX11_hush_5 S) 4 (3 : Int32).toNatClampNeg 0) 12 (3 : Int32).toNatClampNeg (-1)
def rX11_hush (S : Mm) : Int32 := rX10_sounding (up2 S 18 0 0)
def fX11_hush (S : Mm) : Mm := (mX11_hush_6 S)
theorem iX11_hush_X10 : ∀ w ∈ u_ws RX10 TX10 35, w ∈ wsX11_hush := by decide +kernel
theorem iX11_hush_X11 : ∀ w ∈ u_ws RX11 TX11 2, w ∈ wsX11_hush := by decide +kernel
set_option maxHeartbeats 4000000 in
set_option maxRecDepth 100000 in
theorem c_X11_hush (l : Launch) (G : va_G) (cA : ClassId) (zq : Nat) (a : Nat → Nat) (ha : apart 19 a) (S : Mm) (L : Int64) (sz : Nat)   : Met l yX11_hush wsX11_hush ({ frames := 1, cells := 0, slots := 0, locals := 22 } : Room) (va_Pc [.ref (a 18)] (gI G cA zq 19 a (cD a cA) S L sz)) (gQi (rX11_hush S) G 19 a (cD a cA) (fX11_hush S) L sz) 0 0 (mA 19 a sz) := by
  refine g_met (cc := cX11_hush) (maxL := 3) (ret := (some .int)) (by decide) rfl (Nat.le_of_ble_eq_true rfl) ?_
  intro p e s m below meth c ls hx hb hr hlocks hml hts hown hnm hsz hK hP hS hl
  subst hsz
  have hl : lv_has ls 3 [(0, .ref (a 18))] := hl
  refine lv_aload_n hx hb dX11_hush_0 rfl (lv_at hl 0 rfl) ?_
  refine lv_iconst (v := 0) hx hb dX11_hush_1 (by decide) ?_
  refine g_put (ci := 11) (C := RX11) (T := TX11) (N := 2) (ty := .int) hx hb hts iX11_hush_X11 tyX11 tyX11_ok nmX11 hown hK ha mA_in hP hS (by decide) cD_Mo rfl 0 (by decide) rfl (by decide +kernel) rfl (by decide +kernel) rfl rfl (Nat.le_of_ble_eq_true rfl) (cD_Mo_set (by decide)) dX11_hush_2 (fun H locs hP hS => ?_)
  refine lv_aload_n hx hb dX11_hush_5 rfl (lv_at hl 0 rfl) ?_
  refine g_get (ci := 11) (C := RX11) (T := TX11) (N := 2) (v := .ref (a 0)) hx hb hts iX11_hush_X11 hown hK hP (by decide) cD_Mo rfl 1 (by decide) rfl (by decide +kernel) rfl dX11_hush_6 ?_
  refine g_cVi (As := []) (rest := []) ⟨hx, hb, hml, hown, hts⟩ (c_X10_sounding l G cA zq 19 (by decide) a ha (up2 S 18 0 0) L H.size   ) (cwV 0 hts gX11_hush_X10_sounding rfl rfl rfl (by decide +kernel) ⟨Nat.le_of_ble_eq_true rfl, Nat.le_of_ble_eq_true rfl⟩) (g_recv hK hP (lt_hn (by decide) (by decide)) cD_D (C := RX10) (T := TX10) (N := 35) rfl) hK (mA_mono hS.1) hP hS rfl hl.1 rfl (lv_room (Nat.le_of_ble_eq_true rfl)) dX11_hush_9 ⟨Nat.le_of_ble_eq_true rfl, Nat.le_of_ble_eq_true rfl⟩ (fun H locs hP hS _ _ => ?_)
  refine lv_istore_n (lv' := [(1, .int (rX10_sounding (up2 S 18 0 0))), (0, .ref (a 18))]) hx hb dX11_hush_12 rfl hl (by decide) rfl (fun ls hl => ?_)
  refine lv_iconst (v := 0) hx hb dX11_hush_13 (by decide) ?_
  refine lv_istore_n (lv' := [(2, .int 0), (1, .int (rX10_sounding (up2 S 18 0 0))), (0, .ref (a 18))]) hx hb dX11_hush_14 rfl hl (by decide) rfl (fun ls hl => ?_)
  refine lv_iload_n hx hb dX11_hush_15 rfl (lv_at hl 0 rfl) ?_
  refine lv_iconst (v := 4) hx hb dX11_hush_16 (by decide) ?_
  refine lv_icmp_ge (tgt := 56) hx hb dX11_hush_17 (by decide) (fun c => absurd c (by decide)) (fun _ => ?_)
  refine lv_aload_n hx hb dX11_hush_20 rfl (lv_at hl 2 rfl) ?_
  refine g_get (ci := 11) (C := RX11) (T := TX11) (N := 2) (v := .ref (a 0)) hx hb hts iX11_hush_X11 hown hK hP (by decide) cD_Mo rfl 1 (by decide) rfl (by decide +kernel) rfl dX11_hush_21 ?_
  refine g_get (ci := 10) (C := RX10) (T := TX10) (N := 35) (v := .ref (a 3)) hx hb hts iX11_hush_X10 hown hK hP (lt_hn (by decide) (by decide)) cD_D rfl 2 (by decide) rfl (by decide +kernel) rfl dX11_hush_24 ?_
  refine lv_iload_n hx hb dX11_hush_27 rfl (lv_at hl 0 rfl) ?_
  refine lv_iconst (v := 0) hx hb dX11_hush_28 (by decide) ?_
  refine g_iast (N := 4) (g := (up2 S 18 0 0) 3) hx hb hK ha mA_in hP hS (lt_hn (by decide) (by decide)) rfl (vp_in_lit (by decide)) rfl dX11_hush_29 (fun H locs hP hS => ?_)
  refine lv_aload_n hx hb dX11_hush_30 rfl (lv_at hl 2 rfl) ?_
  refine g_get (ci := 11) (C := RX11) (T := TX11) (N := 2) (v := .ref (a 0)) hx hb hts iX11_hush_X11 hown hK hP (by decide) cD_Mo rfl 1 (by decide) rfl (by decide +kernel) rfl dX11_hush_31 ?_
  refine g_get (ci := 10) (C := RX10) (T := TX10) (N := 35) (v := .ref (a 4)) hx hb hts iX11_hush_X10 hown hK hP (lt_hn (by decide) (by decide)) cD_D rfl 3 (by decide) rfl (by decide +kernel) rfl dX11_hush_34 ?_
  refine lv_iload_n hx hb dX11_hush_37 rfl (lv_at hl 0 rfl) ?_
  refine lv_iconst (v := 0) hx hb dX11_hush_38 (by decide) ?_
  refine g_iast (N := 4) (g := (up2 (up2 S 18 0 0) 3 (0 : Int32).toNatClampNeg 0) 4) hx hb hK ha mA_in hP hS (lt_hn (by decide) (by decide)) rfl (vp_in_lit (by decide)) rfl dX11_hush_39 (fun H locs hP hS => ?_)
  have hP : va_P G vwCl (wG 19 a (cD a cA) (mX11_hush_1 S) L) H := hP
  refine lv_aload_n hx hb dX11_hush_40 rfl (lv_at hl 2 rfl) ?_
  refine g_get (ci := 11) (C := RX11) (T := TX11) (N := 2) (v := .ref (a 0)) hx hb hts iX11_hush_X11 hown hK hP (by decide) cD_Mo rfl 1 (by decide) rfl (by decide +kernel) rfl dX11_hush_41 ?_
  refine g_get (ci := 10) (C := RX10) (T := TX10) (N := 35) (v := .ref (a 12)) hx hb hts iX11_hush_X10 hown hK hP (lt_hn (by decide) (by decide)) cD_D rfl 11 (by decide) rfl (by decide +kernel) rfl dX11_hush_44 ?_
  refine lv_iload_n hx hb dX11_hush_47 rfl (lv_at hl 0 rfl) ?_
  refine lv_iconst (v := (-1)) hx hb dX11_hush_48 (by decide) ?_
  refine g_iast (N := 4) (g := (mX11_hush_1 S) 12) hx hb hK ha mA_in hP hS (lt_hn (by decide) (by decide)) rfl (vp_in_lit (by decide)) rfl dX11_hush_49 (fun H locs hP hS => ?_)
  refine lv_iinc (v := 1) (lv' := [(2, .int 1), (1, .int (rX10_sounding (up2 S 18 0 0))), (0, .ref (a 18))]) hx hb dX11_hush_50 hl (k := 0) rfl (by decide) (by decide) rfl (fun ls hl => ?_)
  refine lv_goto (tgt := 15) hx hb dX11_hush_53 (by decide) ?_
  refine lv_iload_n hx hb dX11_hush_15 rfl (lv_at hl 0 rfl) ?_
  refine lv_iconst (v := 4) hx hb dX11_hush_16 (by decide) ?_
  refine lv_icmp_ge (tgt := 56) hx hb dX11_hush_17 (by decide) (fun c => absurd c (by decide)) (fun _ => ?_)
  refine lv_aload_n hx hb dX11_hush_20 rfl (lv_at hl 2 rfl) ?_
  refine g_get (ci := 11) (C := RX11) (T := TX11) (N := 2) (v := .ref (a 0)) hx hb hts iX11_hush_X11 hown hK hP (by decide) cD_Mo rfl 1 (by decide) rfl (by decide +kernel) rfl dX11_hush_21 ?_
  refine g_get (ci := 10) (C := RX10) (T := TX10) (N := 35) (v := .ref (a 3)) hx hb hts iX11_hush_X10 hown hK hP (lt_hn (by decide) (by decide)) cD_D rfl 2 (by decide) rfl (by decide +kernel) rfl dX11_hush_24 ?_
  refine lv_iload_n hx hb dX11_hush_27 rfl (lv_at hl 0 rfl) ?_
  refine lv_iconst (v := 0) hx hb dX11_hush_28 (by decide) ?_
  refine g_iast (N := 4) (g := (up2 (mX11_hush_1 S) 12 (0 : Int32).toNatClampNeg (-1)) 3) hx hb hK ha mA_in hP hS (lt_hn (by decide) (by decide)) rfl (vp_in_lit (by decide)) rfl dX11_hush_29 (fun H locs hP hS => ?_)
  have hP : va_P G vwCl (wG 19 a (cD a cA) (mX11_hush_2 S) L) H := hP
  refine lv_aload_n hx hb dX11_hush_30 rfl (lv_at hl 2 rfl) ?_
  refine g_get (ci := 11) (C := RX11) (T := TX11) (N := 2) (v := .ref (a 0)) hx hb hts iX11_hush_X11 hown hK hP (by decide) cD_Mo rfl 1 (by decide) rfl (by decide +kernel) rfl dX11_hush_31 ?_
  refine g_get (ci := 10) (C := RX10) (T := TX10) (N := 35) (v := .ref (a 4)) hx hb hts iX11_hush_X10 hown hK hP (lt_hn (by decide) (by decide)) cD_D rfl 3 (by decide) rfl (by decide +kernel) rfl dX11_hush_34 ?_
  refine lv_iload_n hx hb dX11_hush_37 rfl (lv_at hl 0 rfl) ?_
  refine lv_iconst (v := 0) hx hb dX11_hush_38 (by decide) ?_
  refine g_iast (N := 4) (g := (mX11_hush_2 S) 4) hx hb hK ha mA_in hP hS (lt_hn (by decide) (by decide)) rfl (vp_in_lit (by decide)) rfl dX11_hush_39 (fun H locs hP hS => ?_)
  refine lv_aload_n hx hb dX11_hush_40 rfl (lv_at hl 2 rfl) ?_
  refine g_get (ci := 11) (C := RX11) (T := TX11) (N := 2) (v := .ref (a 0)) hx hb hts iX11_hush_X11 hown hK hP (by decide) cD_Mo rfl 1 (by decide) rfl (by decide +kernel) rfl dX11_hush_41 ?_
  refine g_get (ci := 10) (C := RX10) (T := TX10) (N := 35) (v := .ref (a 12)) hx hb hts iX11_hush_X10 hown hK hP (lt_hn (by decide) (by decide)) cD_D rfl 11 (by decide) rfl (by decide +kernel) rfl dX11_hush_44 ?_
  refine lv_iload_n hx hb dX11_hush_47 rfl (lv_at hl 0 rfl) ?_
  refine lv_iconst (v := (-1)) hx hb dX11_hush_48 (by decide) ?_
  refine g_iast (N := 4) (g := (up2 (mX11_hush_2 S) 4 (1 : Int32).toNatClampNeg 0) 12) hx hb hK ha mA_in hP hS (lt_hn (by decide) (by decide)) rfl (vp_in_lit (by decide)) rfl dX11_hush_49 (fun H locs hP hS => ?_)
  have hP : va_P G vwCl (wG 19 a (cD a cA) (mX11_hush_3 S) L) H := hP
  refine lv_iinc (v := 2) (lv' := [(2, .int 2), (1, .int (rX10_sounding (up2 S 18 0 0))), (0, .ref (a 18))]) hx hb dX11_hush_50 hl (k := 0) rfl (by decide) (by decide) rfl (fun ls hl => ?_)
  refine lv_goto (tgt := 15) hx hb dX11_hush_53 (by decide) ?_
  refine lv_iload_n hx hb dX11_hush_15 rfl (lv_at hl 0 rfl) ?_
  refine lv_iconst (v := 4) hx hb dX11_hush_16 (by decide) ?_
  refine lv_icmp_ge (tgt := 56) hx hb dX11_hush_17 (by decide) (fun c => absurd c (by decide)) (fun _ => ?_)
  refine lv_aload_n hx hb dX11_hush_20 rfl (lv_at hl 2 rfl) ?_
  refine g_get (ci := 11) (C := RX11) (T := TX11) (N := 2) (v := .ref (a 0)) hx hb hts iX11_hush_X11 hown hK hP (by decide) cD_Mo rfl 1 (by decide) rfl (by decide +kernel) rfl dX11_hush_21 ?_
  refine g_get (ci := 10) (C := RX10) (T := TX10) (N := 35) (v := .ref (a 3)) hx hb hts iX11_hush_X10 hown hK hP (lt_hn (by decide) (by decide)) cD_D rfl 2 (by decide) rfl (by decide +kernel) rfl dX11_hush_24 ?_
  refine lv_iload_n hx hb dX11_hush_27 rfl (lv_at hl 0 rfl) ?_
  refine lv_iconst (v := 0) hx hb dX11_hush_28 (by decide) ?_
  refine g_iast (N := 4) (g := (mX11_hush_3 S) 3) hx hb hK ha mA_in hP hS (lt_hn (by decide) (by decide)) rfl (vp_in_lit (by decide)) rfl dX11_hush_29 (fun H locs hP hS => ?_)
  refine lv_aload_n hx hb dX11_hush_30 rfl (lv_at hl 2 rfl) ?_
  refine g_get (ci := 11) (C := RX11) (T := TX11) (N := 2) (v := .ref (a 0)) hx hb hts iX11_hush_X11 hown hK hP (by decide) cD_Mo rfl 1 (by decide) rfl (by decide +kernel) rfl dX11_hush_31 ?_
  refine g_get (ci := 10) (C := RX10) (T := TX10) (N := 35) (v := .ref (a 4)) hx hb hts iX11_hush_X10 hown hK hP (lt_hn (by decide) (by decide)) cD_D rfl 3 (by decide) rfl (by decide +kernel) rfl dX11_hush_34 ?_
  refine lv_iload_n hx hb dX11_hush_37 rfl (lv_at hl 0 rfl) ?_
  refine lv_iconst (v := 0) hx hb dX11_hush_38 (by decide) ?_
  refine g_iast (N := 4) (g := (up2 (mX11_hush_3 S) 3 (2 : Int32).toNatClampNeg 0) 4) hx hb hK ha mA_in hP hS (lt_hn (by decide) (by decide)) rfl (vp_in_lit (by decide)) rfl dX11_hush_39 (fun H locs hP hS => ?_)
  have hP : va_P G vwCl (wG 19 a (cD a cA) (mX11_hush_4 S) L) H := hP
  refine lv_aload_n hx hb dX11_hush_40 rfl (lv_at hl 2 rfl) ?_
  refine g_get (ci := 11) (C := RX11) (T := TX11) (N := 2) (v := .ref (a 0)) hx hb hts iX11_hush_X11 hown hK hP (by decide) cD_Mo rfl 1 (by decide) rfl (by decide +kernel) rfl dX11_hush_41 ?_
  refine g_get (ci := 10) (C := RX10) (T := TX10) (N := 35) (v := .ref (a 12)) hx hb hts iX11_hush_X10 hown hK hP (lt_hn (by decide) (by decide)) cD_D rfl 11 (by decide) rfl (by decide +kernel) rfl dX11_hush_44 ?_
  refine lv_iload_n hx hb dX11_hush_47 rfl (lv_at hl 0 rfl) ?_
  refine lv_iconst (v := (-1)) hx hb dX11_hush_48 (by decide) ?_
  refine g_iast (N := 4) (g := (mX11_hush_4 S) 12) hx hb hK ha mA_in hP hS (lt_hn (by decide) (by decide)) rfl (vp_in_lit (by decide)) rfl dX11_hush_49 (fun H locs hP hS => ?_)
  refine lv_iinc (v := 3) (lv' := [(2, .int 3), (1, .int (rX10_sounding (up2 S 18 0 0))), (0, .ref (a 18))]) hx hb dX11_hush_50 hl (k := 0) rfl (by decide) (by decide) rfl (fun ls hl => ?_)
  refine lv_goto (tgt := 15) hx hb dX11_hush_53 (by decide) ?_
  refine lv_iload_n hx hb dX11_hush_15 rfl (lv_at hl 0 rfl) ?_
  refine lv_iconst (v := 4) hx hb dX11_hush_16 (by decide) ?_
  refine lv_icmp_ge (tgt := 56) hx hb dX11_hush_17 (by decide) (fun c => absurd c (by decide)) (fun _ => ?_)
  refine lv_aload_n hx hb dX11_hush_20 rfl (lv_at hl 2 rfl) ?_
  refine g_get (ci := 11) (C := RX11) (T := TX11) (N := 2) (v := .ref (a 0)) hx hb hts iX11_hush_X11 hown hK hP (by decide) cD_Mo rfl 1 (by decide) rfl (by decide +kernel) rfl dX11_hush_21 ?_
  refine g_get (ci := 10) (C := RX10) (T := TX10) (N := 35) (v := .ref (a 3)) hx hb hts iX11_hush_X10 hown hK hP (lt_hn (by decide) (by decide)) cD_D rfl 2 (by decide) rfl (by decide +kernel) rfl dX11_hush_24 ?_
  refine lv_iload_n hx hb dX11_hush_27 rfl (lv_at hl 0 rfl) ?_
  refine lv_iconst (v := 0) hx hb dX11_hush_28 (by decide) ?_
  refine g_iast (N := 4) (g := (up2 (mX11_hush_4 S) 12 (2 : Int32).toNatClampNeg (-1)) 3) hx hb hK ha mA_in hP hS (lt_hn (by decide) (by decide)) rfl (vp_in_lit (by decide)) rfl dX11_hush_29 (fun H locs hP hS => ?_)
  have hP : va_P G vwCl (wG 19 a (cD a cA) (mX11_hush_5 S) L) H := hP
  refine lv_aload_n hx hb dX11_hush_30 rfl (lv_at hl 2 rfl) ?_
  refine g_get (ci := 11) (C := RX11) (T := TX11) (N := 2) (v := .ref (a 0)) hx hb hts iX11_hush_X11 hown hK hP (by decide) cD_Mo rfl 1 (by decide) rfl (by decide +kernel) rfl dX11_hush_31 ?_
  refine g_get (ci := 10) (C := RX10) (T := TX10) (N := 35) (v := .ref (a 4)) hx hb hts iX11_hush_X10 hown hK hP (lt_hn (by decide) (by decide)) cD_D rfl 3 (by decide) rfl (by decide +kernel) rfl dX11_hush_34 ?_
  refine lv_iload_n hx hb dX11_hush_37 rfl (lv_at hl 0 rfl) ?_
  refine lv_iconst (v := 0) hx hb dX11_hush_38 (by decide) ?_
  refine g_iast (N := 4) (g := (mX11_hush_5 S) 4) hx hb hK ha mA_in hP hS (lt_hn (by decide) (by decide)) rfl (vp_in_lit (by decide)) rfl dX11_hush_39 (fun H locs hP hS => ?_)
  refine lv_aload_n hx hb dX11_hush_40 rfl (lv_at hl 2 rfl) ?_
  refine g_get (ci := 11) (C := RX11) (T := TX11) (N := 2) (v := .ref (a 0)) hx hb hts iX11_hush_X11 hown hK hP (by decide) cD_Mo rfl 1 (by decide) rfl (by decide +kernel) rfl dX11_hush_41 ?_
  refine g_get (ci := 10) (C := RX10) (T := TX10) (N := 35) (v := .ref (a 12)) hx hb hts iX11_hush_X10 hown hK hP (lt_hn (by decide) (by decide)) cD_D rfl 11 (by decide) rfl (by decide +kernel) rfl dX11_hush_44 ?_
  refine lv_iload_n hx hb dX11_hush_47 rfl (lv_at hl 0 rfl) ?_
  refine lv_iconst (v := (-1)) hx hb dX11_hush_48 (by decide) ?_
  refine g_iast (N := 4) (g := (up2 (mX11_hush_5 S) 4 (3 : Int32).toNatClampNeg 0) 12) hx hb hK ha mA_in hP hS (lt_hn (by decide) (by decide)) rfl (vp_in_lit (by decide)) rfl dX11_hush_49 (fun H locs hP hS => ?_)
  have hP : va_P G vwCl (wG 19 a (cD a cA) (mX11_hush_6 S) L) H := hP
  refine lv_iinc (v := 4) (lv' := [(2, .int 4), (1, .int (rX10_sounding (up2 S 18 0 0))), (0, .ref (a 18))]) hx hb dX11_hush_50 hl (k := 0) rfl (by decide) (by decide) rfl (fun ls hl => ?_)
  refine lv_goto (tgt := 15) hx hb dX11_hush_53 (by decide) ?_
  refine lv_iload_n hx hb dX11_hush_15 rfl (lv_at hl 0 rfl) ?_
  refine lv_iconst (v := 4) hx hb dX11_hush_16 (by decide) ?_
  refine lv_icmp_ge (tgt := 56) hx hb dX11_hush_17 (by decide) (fun _ => ?_) (fun c => absurd c (by decide))
  refine lv_iload_n hx hb dX11_hush_56 rfl (lv_at hl 1 rfl) ?_
  exact g_iret hx hb hr hlocks (by unfold rX11_hush; rfl) (by unfold fX11_hush; rfl) rfl hP hS dX11_hush_57

def mX11_write_1 (S : Mm) (p1 : Int32) (p2 : Int32) (p3 : Int32) (p4 : Int32) (p5 : Int32) : Mm := up2 (up2 (up2 S 18 0 0) 16 (((p1 * 8) + p2) * 3).toNatClampNeg p3) 16 ((((p1 * 8) + p2) * 3) + 1).toNatClampNeg 0
def mX11_write_2 (S : Mm) (p1 : Int32) (p2 : Int32) (p3 : Int32) (p4 : Int32) (p5 : Int32) : Mm := up2 (mX11_write_1 S p1 p2 p3 p4 p5) 16 ((((p1 * 8) + p2) * 3) + 2).toNatClampNeg 0
def mX11_write_3 (S : Mm) (p1 : Int32) (p2 : Int32) (p3 : Int32) (p4 : Int32) (p5 : Int32) : Mm := up2 (up2 (up2 S 18 0 0) 16 (((p1 * 8) + p2) * 3).toNatClampNeg p3) 16 ((((p1 * 8) + p2) * 3) + 1).toNatClampNeg p4
def mX11_write_4 (S : Mm) (p1 : Int32) (p2 : Int32) (p3 : Int32) (p4 : Int32) (p5 : Int32) : Mm := up2 (mX11_write_3 S p1 p2 p3 p4 p5) 16 ((((p1 * 8) + p2) * 3) + 2).toNatClampNeg p5
def rX11_write (S : Mm) (p1 : Int32) (p2 : Int32) (p3 : Int32) (p4 : Int32) (p5 : Int32) : Int32 := (if rX11_isIn p1 (0 : Int32) (2 : Int32) = 0 then rX11_no (up2 S 18 0 0) (1 : Int32) else (if rX11_isStep p2 = 0 then rX11_no (up2 S 18 0 0) (1 : Int32) else (if rX11_isIn p3 ((-1) : Int32) (47 : Int32) = 0 then rX11_no (up2 S 18 0 0) (2 : Int32) else (if p3 = (-1) then (up2 S 18 0 0) 16 (((p1 * 8) + p2) * 3).toNatClampNeg else (if rX11_isIn p4 (1 : Int32) (127 : Int32) = 0 then rX11_no (up2 S 18 0 0) (2 : Int32) else (if rX11_isIn p5 (1 : Int32) (200 : Int32) = 0 then rX11_no (up2 S 18 0 0) (2 : Int32) else (up2 S 18 0 0) 16 (((p1 * 8) + p2) * 3).toNatClampNeg))))))
def fX11_write (S : Mm) (p1 : Int32) (p2 : Int32) (p3 : Int32) (p4 : Int32) (p5 : Int32) : Mm := (if rX11_isIn p1 (0 : Int32) (2 : Int32) = 0 then fX11_no (up2 S 18 0 0) (1 : Int32) else (if rX11_isStep p2 = 0 then fX11_no (up2 S 18 0 0) (1 : Int32) else (if rX11_isIn p3 ((-1) : Int32) (47 : Int32) = 0 then fX11_no (up2 S 18 0 0) (2 : Int32) else (if p3 = (-1) then (mX11_write_2 S p1 p2 p3 p4 p5) else (if rX11_isIn p4 (1 : Int32) (127 : Int32) = 0 then fX11_no (up2 S 18 0 0) (2 : Int32) else (if rX11_isIn p5 (1 : Int32) (200 : Int32) = 0 then fX11_no (up2 S 18 0 0) (2 : Int32) else (mX11_write_4 S p1 p2 p3 p4 p5)))))))
theorem iX11_write_X10 : ∀ w ∈ u_ws RX10 TX10 35, w ∈ wsX11_write := by decide +kernel
theorem iX11_write_X11 : ∀ w ∈ u_ws RX11 TX11 2, w ∈ wsX11_write := by decide +kernel
set_option maxHeartbeats 4000000 in
set_option maxRecDepth 100000 in
theorem c_X11_write (l : Launch) (G : va_G) (cA : ClassId) (zq : Nat) (a : Nat → Nat) (ha : apart 19 a) (S : Mm) (L : Int64) (sz : Nat) (p1 : Int32) (p2 : Int32) (p3 : Int32) (p4 : Int32) (p5 : Int32)  : Met l yX11_write wsX11_write ({ frames := 2, cells := 0, slots := 0, locals := 42 } : Room) (va_Pc [.ref (a 18), .int p1, .int p2, .int p3, .int p4, .int p5] (gI G cA zq 19 a (cD a cA) S L sz)) (gQi (rX11_write S p1 p2 p3 p4 p5) G 19 a (cD a cA) (fX11_write S p1 p2 p3 p4 p5) L sz) 0 0 (mA 19 a sz) := by
  refine g_met (cc := cX11_write) (maxL := 8) (ret := (some .int)) (by decide) rfl (Nat.le_of_ble_eq_true rfl) ?_
  intro p e s m below meth c ls hx hb hr hlocks hml hts hown hnm hsz hK hP hS hl
  subst hsz
  have hl : lv_has ls 8 [(0, .ref (a 18)), (1, .int p1), (2, .int p2), (3, .int p3), (4, .int p4), (5, .int p5)] := hl
  refine lv_aload_n hx hb dX11_write_0 rfl (lv_at hl 0 rfl) ?_
  refine lv_iconst (v := 0) hx hb dX11_write_1 (by decide) ?_
  refine g_put (ci := 11) (C := RX11) (T := TX11) (N := 2) (ty := .int) hx hb hts iX11_write_X11 tyX11 tyX11_ok nmX11 hown hK ha mA_in hP hS (by decide) cD_Mo rfl 0 (by decide) rfl (by decide +kernel) rfl (by decide +kernel) rfl rfl (Nat.le_of_ble_eq_true rfl) (cD_Mo_set (by decide)) dX11_write_2 (fun H locs hP hS => ?_)
  refine lv_iload_n hx hb dX11_write_5 rfl (lv_at hl 1 rfl) ?_
  refine lv_iconst (v := 0) hx hb dX11_write_6 (by decide) ?_
  refine lv_iconst (v := 2) hx hb dX11_write_7 (by decide) ?_
  refine g_cSi (As := [.int p1, .int 0, .int 2]) (rest := []) ⟨hx, hb, hml, hown, hts⟩ (c_X11_isIn l G cA zq 19 (by decide) a ha (up2 S 18 0 0) L H.size p1 (0 : Int32) (2 : Int32)  ) (va_cwS 3 hts gX11_write_X11_isIn rfl rfl rfl (by decide +kernel) ⟨Nat.le_of_ble_eq_true rfl, Nat.le_of_ble_eq_true rfl⟩) hK (mA_mono hS.1) hP hS rfl hl.1 rfl (lv_room (Nat.le_of_ble_eq_true rfl)) dX11_write_8 ⟨Nat.le_of_ble_eq_true rfl, Nat.le_of_ble_eq_true rfl⟩ (fun H locs hP hS _ _ => ?_)
  refine lv_if_eq (tgt := 21) hx hb dX11_write_11 (by decide) (fun c1 => ?_) (fun c1 => ?_)
  ·
    refine lv_aload_n hx hb dX11_write_21 rfl (lv_at hl 0 rfl) ?_
    refine lv_iconst (v := 1) hx hb dX11_write_22 (by decide) ?_
    refine g_cVi (As := [.int 1]) (rest := []) ⟨hx, hb, hml, hown, hts⟩ (c_X11_no l G cA zq a ha (up2 S 18 0 0) L H.size (1 : Int32)  ) (cwV 1 hts gX11_write_X11_no rfl rfl rfl (by decide +kernel) ⟨Nat.le_of_ble_eq_true rfl, Nat.le_of_ble_eq_true rfl⟩) (g_recv hK hP (by decide) cD_Mo (C := RX11) (T := TX11) (N := 2) rfl) hK (mA_mono hS.1) hP hS rfl hl.1 rfl (lv_room (Nat.le_of_ble_eq_true rfl)) dX11_write_23 ⟨Nat.le_of_ble_eq_true rfl, Nat.le_of_ble_eq_true rfl⟩ (fun H locs hP hS _ _ => ?_)
    exact g_iret hx hb hr hlocks (by unfold rX11_write; rw [if_pos c1]) (by unfold fX11_write; rw [if_pos c1]) rfl hP hS dX11_write_26
  ·
    refine lv_iload_n hx hb dX11_write_14 rfl (lv_at hl 2 rfl) ?_
    refine g_cSi (As := [.int p2]) (rest := []) ⟨hx, hb, hml, hown, hts⟩ (c_X11_isStep l G cA zq a ha (up2 S 18 0 0) L H.size p2  ) (va_cwS 1 hts gX11_write_X11_isStep rfl rfl rfl (by decide +kernel) ⟨Nat.le_of_ble_eq_true rfl, Nat.le_of_ble_eq_true rfl⟩) hK (mA_mono hS.1) hP hS rfl hl.1 rfl (lv_room (Nat.le_of_ble_eq_true rfl)) dX11_write_15 ⟨Nat.le_of_ble_eq_true rfl, Nat.le_of_ble_eq_true rfl⟩ (fun H locs hP hS _ _ => ?_)
    refine lv_if_ne (tgt := 27) hx hb dX11_write_18 (by decide) (fun c2 => ?_) (fun c2 => ?_)
    ·
      refine lv_iload_n hx hb dX11_write_27 rfl (lv_at hl 3 rfl) ?_
      refine lv_iconst (v := (-1)) hx hb dX11_write_28 (by decide) ?_
      refine lv_bipush (v := 47) hx hb dX11_write_29 (by decide) ?_
      refine g_cSi (As := [.int p3, .int (-1), .int 47]) (rest := []) ⟨hx, hb, hml, hown, hts⟩ (c_X11_isIn l G cA zq 19 (by decide) a ha (up2 S 18 0 0) L H.size p3 ((-1) : Int32) (47 : Int32)  ) (va_cwS 3 hts gX11_write_X11_isIn rfl rfl rfl (by decide +kernel) ⟨Nat.le_of_ble_eq_true rfl, Nat.le_of_ble_eq_true rfl⟩) hK (mA_mono hS.1) hP hS rfl hl.1 rfl (lv_room (Nat.le_of_ble_eq_true rfl)) dX11_write_31 ⟨Nat.le_of_ble_eq_true rfl, Nat.le_of_ble_eq_true rfl⟩ (fun H locs hP hS _ _ => ?_)
      refine lv_if_eq (tgt := 65) hx hb dX11_write_34 (by decide) (fun c3 => ?_) (fun c3 => ?_)
      ·
        refine lv_aload_n hx hb dX11_write_65 rfl (lv_at hl 0 rfl) ?_
        refine lv_iconst (v := 2) hx hb dX11_write_66 (by decide) ?_
        refine g_cVi (As := [.int 2]) (rest := []) ⟨hx, hb, hml, hown, hts⟩ (c_X11_no l G cA zq a ha (up2 S 18 0 0) L H.size (2 : Int32)  ) (cwV 1 hts gX11_write_X11_no rfl rfl rfl (by decide +kernel) ⟨Nat.le_of_ble_eq_true rfl, Nat.le_of_ble_eq_true rfl⟩) (g_recv hK hP (by decide) cD_Mo (C := RX11) (T := TX11) (N := 2) rfl) hK (mA_mono hS.1) hP hS rfl hl.1 rfl (lv_room (Nat.le_of_ble_eq_true rfl)) dX11_write_67 ⟨Nat.le_of_ble_eq_true rfl, Nat.le_of_ble_eq_true rfl⟩ (fun H locs hP hS _ _ => ?_)
        exact g_iret hx hb hr hlocks (by unfold rX11_write; rw [if_neg c1, if_neg c2, if_pos c3]) (by unfold fX11_write; rw [if_neg c1, if_neg c2, if_pos c3]) rfl hP hS dX11_write_70
      ·
        refine lv_iload_n hx hb dX11_write_37 rfl (lv_at hl 3 rfl) ?_
        refine lv_iconst (v := (-1)) hx hb dX11_write_38 (by decide) ?_
        refine lv_icmp_eq (tgt := 71) hx hb dX11_write_39 (by decide) (fun c4 => ?_) (fun c4 => ?_)
        ·
          refine lv_iload_n hx hb dX11_write_71 rfl (lv_at hl 1 rfl) ?_
          refine lv_bipush (v := 8) hx hb dX11_write_72 (by decide) ?_
          refine lv_imul hx hb dX11_write_74 ?_
          refine lv_iload_n hx hb dX11_write_75 rfl (lv_at hl 2 rfl) ?_
          refine lv_iadd hx hb dX11_write_76 ?_
          refine lv_iconst (v := 3) hx hb dX11_write_77 (by decide) ?_
          refine lv_imul hx hb dX11_write_78 ?_
          refine lv_istore (lv' := [(6, .int (((p1 * 8) + p2) * 3)), (0, .ref (a 18)), (1, .int p1), (2, .int p2), (3, .int p3), (4, .int p4), (5, .int p5)]) hx hb dX11_write_79 hl (by decide) rfl (fun ls hl => ?_)
          refine lv_aload_n hx hb dX11_write_81 rfl (lv_at hl 1 rfl) ?_
          refine g_get (ci := 11) (C := RX11) (T := TX11) (N := 2) (v := .ref (a 0)) hx hb hts iX11_write_X11 hown hK hP (by decide) cD_Mo rfl 1 (by decide) rfl (by decide +kernel) rfl dX11_write_82 ?_
          refine g_get (ci := 10) (C := RX10) (T := TX10) (N := 35) (v := .ref (a 16)) hx hb hts iX11_write_X10 hown hK hP (lt_hn (by decide) (by decide)) cD_D rfl 21 (by decide) rfl (by decide +kernel) rfl dX11_write_85 ?_
          refine lv_iload hx hb dX11_write_88 (lv_at hl 0 rfl) ?_
          refine g_iald (N := 72) (g := (up2 S 18 0 0) 16) hx hb hK hP (lt_hn (by decide) (by decide)) rfl (in_grid0 (isIn_vp c1 (by decide)) (isIn_vp (by unfold rX11_isStep at c2; exact c2) (by decide))) dX11_write_90 ?_
          refine lv_istore (lv' := [(7, .int ((up2 S 18 0 0) 16 (((p1 * 8) + p2) * 3).toNatClampNeg)), (6, .int (((p1 * 8) + p2) * 3)), (0, .ref (a 18)), (1, .int p1), (2, .int p2), (3, .int p3), (4, .int p4), (5, .int p5)]) hx hb dX11_write_91 hl (by decide) rfl (fun ls hl => ?_)
          refine lv_aload_n hx hb dX11_write_93 rfl (lv_at hl 2 rfl) ?_
          refine g_get (ci := 11) (C := RX11) (T := TX11) (N := 2) (v := .ref (a 0)) hx hb hts iX11_write_X11 hown hK hP (by decide) cD_Mo rfl 1 (by decide) rfl (by decide +kernel) rfl dX11_write_94 ?_
          refine g_get (ci := 10) (C := RX10) (T := TX10) (N := 35) (v := .ref (a 16)) hx hb hts iX11_write_X10 hown hK hP (lt_hn (by decide) (by decide)) cD_D rfl 21 (by decide) rfl (by decide +kernel) rfl dX11_write_97 ?_
          refine lv_iload hx hb dX11_write_100 (lv_at hl 1 rfl) ?_
          refine lv_iload_n hx hb dX11_write_102 rfl (lv_at hl 5 rfl) ?_
          refine g_iast (N := 72) (g := (up2 S 18 0 0) 16) hx hb hK ha mA_in hP hS (lt_hn (by decide) (by decide)) rfl (in_grid0 (isIn_vp c1 (by decide)) (isIn_vp (by unfold rX11_isStep at c2; exact c2) (by decide))) rfl dX11_write_103 (fun H locs hP hS => ?_)
          refine lv_aload_n hx hb dX11_write_104 rfl (lv_at hl 2 rfl) ?_
          refine g_get (ci := 11) (C := RX11) (T := TX11) (N := 2) (v := .ref (a 0)) hx hb hts iX11_write_X11 hown hK hP (by decide) cD_Mo rfl 1 (by decide) rfl (by decide +kernel) rfl dX11_write_105 ?_
          refine g_get (ci := 10) (C := RX10) (T := TX10) (N := 35) (v := .ref (a 16)) hx hb hts iX11_write_X10 hown hK hP (lt_hn (by decide) (by decide)) cD_D rfl 21 (by decide) rfl (by decide +kernel) rfl dX11_write_108 ?_
          refine lv_iload hx hb dX11_write_111 (lv_at hl 1 rfl) ?_
          refine lv_iconst (v := 1) hx hb dX11_write_113 (by decide) ?_
          refine lv_iadd hx hb dX11_write_114 ?_
          refine lv_iload_n hx hb dX11_write_115 rfl (lv_at hl 5 rfl) ?_
          refine lv_iconst (v := (-1)) hx hb dX11_write_116 (by decide) ?_
          refine lv_icmp_ne (tgt := 124) hx hb dX11_write_117 (by decide) (fun c => absurd c4 c) (fun _ => ?_)
          refine lv_iconst (v := 0) hx hb dX11_write_120 (by decide) ?_
          refine lv_goto (tgt := 126) hx hb dX11_write_121 (by decide) ?_
          refine g_iast (N := 72) (g := (up2 (up2 S 18 0 0) 16 (((p1 * 8) + p2) * 3).toNatClampNeg p3) 16) hx hb hK ha mA_in hP hS (lt_hn (by decide) (by decide)) rfl (in_grid (isIn_vp c1 (by decide)) (isIn_vp (by unfold rX11_isStep at c2; exact c2) (by decide)) 1 (by decide)) rfl dX11_write_126 (fun H locs hP hS => ?_)
          have hP : va_P G vwCl (wG 19 a (cD a cA) (mX11_write_1 S p1 p2 p3 p4 p5) L) H := hP
          refine lv_aload_n hx hb dX11_write_127 rfl (lv_at hl 2 rfl) ?_
          refine g_get (ci := 11) (C := RX11) (T := TX11) (N := 2) (v := .ref (a 0)) hx hb hts iX11_write_X11 hown hK hP (by decide) cD_Mo rfl 1 (by decide) rfl (by decide +kernel) rfl dX11_write_128 ?_
          refine g_get (ci := 10) (C := RX10) (T := TX10) (N := 35) (v := .ref (a 16)) hx hb hts iX11_write_X10 hown hK hP (lt_hn (by decide) (by decide)) cD_D rfl 21 (by decide) rfl (by decide +kernel) rfl dX11_write_131 ?_
          refine lv_iload hx hb dX11_write_134 (lv_at hl 1 rfl) ?_
          refine lv_iconst (v := 2) hx hb dX11_write_136 (by decide) ?_
          refine lv_iadd hx hb dX11_write_137 ?_
          refine lv_iload_n hx hb dX11_write_138 rfl (lv_at hl 5 rfl) ?_
          refine lv_iconst (v := (-1)) hx hb dX11_write_139 (by decide) ?_
          refine lv_icmp_ne (tgt := 147) hx hb dX11_write_140 (by decide) (fun c => absurd c4 c) (fun _ => ?_)
          refine lv_iconst (v := 0) hx hb dX11_write_143 (by decide) ?_
          refine lv_goto (tgt := 149) hx hb dX11_write_144 (by decide) ?_
          refine g_iast (N := 72) (g := (mX11_write_1 S p1 p2 p3 p4 p5) 16) hx hb hK ha mA_in hP hS (lt_hn (by decide) (by decide)) rfl (in_grid (isIn_vp c1 (by decide)) (isIn_vp (by unfold rX11_isStep at c2; exact c2) (by decide)) 2 (by decide)) rfl dX11_write_149 (fun H locs hP hS => ?_)
          have hP : va_P G vwCl (wG 19 a (cD a cA) (mX11_write_2 S p1 p2 p3 p4 p5) L) H := hP
          refine lv_iload hx hb dX11_write_150 (lv_at hl 0 rfl) ?_
          exact g_iret hx hb hr hlocks (by unfold rX11_write; rw [if_neg c1, if_neg c2, if_neg c3, if_pos c4]) (by unfold fX11_write; rw [if_neg c1, if_neg c2, if_neg c3, if_pos c4]) rfl hP hS dX11_write_152
        ·
          refine lv_iload hx hb dX11_write_42 (lv_at hl 4 rfl) ?_
          refine lv_iconst (v := 1) hx hb dX11_write_44 (by decide) ?_
          refine lv_bipush (v := 127) hx hb dX11_write_45 (by decide) ?_
          refine g_cSi (As := [.int p4, .int 1, .int 127]) (rest := []) ⟨hx, hb, hml, hown, hts⟩ (c_X11_isIn l G cA zq 19 (by decide) a ha (up2 S 18 0 0) L H.size p4 (1 : Int32) (127 : Int32)  ) (va_cwS 3 hts gX11_write_X11_isIn rfl rfl rfl (by decide +kernel) ⟨Nat.le_of_ble_eq_true rfl, Nat.le_of_ble_eq_true rfl⟩) hK (mA_mono hS.1) hP hS rfl hl.1 rfl (lv_room (Nat.le_of_ble_eq_true rfl)) dX11_write_47 ⟨Nat.le_of_ble_eq_true rfl, Nat.le_of_ble_eq_true rfl⟩ (fun H locs hP hS _ _ => ?_)
          refine lv_if_eq (tgt := 65) hx hb dX11_write_50 (by decide) (fun c5 => ?_) (fun c5 => ?_)
          ·
            refine lv_aload_n hx hb dX11_write_65 rfl (lv_at hl 0 rfl) ?_
            refine lv_iconst (v := 2) hx hb dX11_write_66 (by decide) ?_
            refine g_cVi (As := [.int 2]) (rest := []) ⟨hx, hb, hml, hown, hts⟩ (c_X11_no l G cA zq a ha (up2 S 18 0 0) L H.size (2 : Int32)  ) (cwV 1 hts gX11_write_X11_no rfl rfl rfl (by decide +kernel) ⟨Nat.le_of_ble_eq_true rfl, Nat.le_of_ble_eq_true rfl⟩) (g_recv hK hP (by decide) cD_Mo (C := RX11) (T := TX11) (N := 2) rfl) hK (mA_mono hS.1) hP hS rfl hl.1 rfl (lv_room (Nat.le_of_ble_eq_true rfl)) dX11_write_67 ⟨Nat.le_of_ble_eq_true rfl, Nat.le_of_ble_eq_true rfl⟩ (fun H locs hP hS _ _ => ?_)
            exact g_iret hx hb hr hlocks (by unfold rX11_write; rw [if_neg c1, if_neg c2, if_neg c3, if_neg c4, if_pos c5]) (by unfold fX11_write; rw [if_neg c1, if_neg c2, if_neg c3, if_neg c4, if_pos c5]) rfl hP hS dX11_write_70
          ·
            refine lv_iload hx hb dX11_write_53 (lv_at hl 5 rfl) ?_
            refine lv_iconst (v := 1) hx hb dX11_write_55 (by decide) ?_
            refine lv_sipush (v := 200) hx hb dX11_write_56 (by decide) ?_
            refine g_cSi (As := [.int p5, .int 1, .int 200]) (rest := []) ⟨hx, hb, hml, hown, hts⟩ (c_X11_isIn l G cA zq 19 (by decide) a ha (up2 S 18 0 0) L H.size p5 (1 : Int32) (200 : Int32)  ) (va_cwS 3 hts gX11_write_X11_isIn rfl rfl rfl (by decide +kernel) ⟨Nat.le_of_ble_eq_true rfl, Nat.le_of_ble_eq_true rfl⟩) hK (mA_mono hS.1) hP hS rfl hl.1 rfl (lv_room (Nat.le_of_ble_eq_true rfl)) dX11_write_59 ⟨Nat.le_of_ble_eq_true rfl, Nat.le_of_ble_eq_true rfl⟩ (fun H locs hP hS _ _ => ?_)
            refine lv_if_ne (tgt := 71) hx hb dX11_write_62 (by decide) (fun c6 => ?_) (fun c6 => ?_)
            ·
              refine lv_iload_n hx hb dX11_write_71 rfl (lv_at hl 1 rfl) ?_
              refine lv_bipush (v := 8) hx hb dX11_write_72 (by decide) ?_
              refine lv_imul hx hb dX11_write_74 ?_
              refine lv_iload_n hx hb dX11_write_75 rfl (lv_at hl 2 rfl) ?_
              refine lv_iadd hx hb dX11_write_76 ?_
              refine lv_iconst (v := 3) hx hb dX11_write_77 (by decide) ?_
              refine lv_imul hx hb dX11_write_78 ?_
              refine lv_istore (lv' := [(6, .int (((p1 * 8) + p2) * 3)), (0, .ref (a 18)), (1, .int p1), (2, .int p2), (3, .int p3), (4, .int p4), (5, .int p5)]) hx hb dX11_write_79 hl (by decide) rfl (fun ls hl => ?_)
              refine lv_aload_n hx hb dX11_write_81 rfl (lv_at hl 1 rfl) ?_
              refine g_get (ci := 11) (C := RX11) (T := TX11) (N := 2) (v := .ref (a 0)) hx hb hts iX11_write_X11 hown hK hP (by decide) cD_Mo rfl 1 (by decide) rfl (by decide +kernel) rfl dX11_write_82 ?_
              refine g_get (ci := 10) (C := RX10) (T := TX10) (N := 35) (v := .ref (a 16)) hx hb hts iX11_write_X10 hown hK hP (lt_hn (by decide) (by decide)) cD_D rfl 21 (by decide) rfl (by decide +kernel) rfl dX11_write_85 ?_
              refine lv_iload hx hb dX11_write_88 (lv_at hl 0 rfl) ?_
              refine g_iald (N := 72) (g := (up2 S 18 0 0) 16) hx hb hK hP (lt_hn (by decide) (by decide)) rfl (in_grid0 (isIn_vp c1 (by decide)) (isIn_vp (by unfold rX11_isStep at c2; exact c2) (by decide))) dX11_write_90 ?_
              refine lv_istore (lv' := [(7, .int ((up2 S 18 0 0) 16 (((p1 * 8) + p2) * 3).toNatClampNeg)), (6, .int (((p1 * 8) + p2) * 3)), (0, .ref (a 18)), (1, .int p1), (2, .int p2), (3, .int p3), (4, .int p4), (5, .int p5)]) hx hb dX11_write_91 hl (by decide) rfl (fun ls hl => ?_)
              refine lv_aload_n hx hb dX11_write_93 rfl (lv_at hl 2 rfl) ?_
              refine g_get (ci := 11) (C := RX11) (T := TX11) (N := 2) (v := .ref (a 0)) hx hb hts iX11_write_X11 hown hK hP (by decide) cD_Mo rfl 1 (by decide) rfl (by decide +kernel) rfl dX11_write_94 ?_
              refine g_get (ci := 10) (C := RX10) (T := TX10) (N := 35) (v := .ref (a 16)) hx hb hts iX11_write_X10 hown hK hP (lt_hn (by decide) (by decide)) cD_D rfl 21 (by decide) rfl (by decide +kernel) rfl dX11_write_97 ?_
              refine lv_iload hx hb dX11_write_100 (lv_at hl 1 rfl) ?_
              refine lv_iload_n hx hb dX11_write_102 rfl (lv_at hl 5 rfl) ?_
              refine g_iast (N := 72) (g := (up2 S 18 0 0) 16) hx hb hK ha mA_in hP hS (lt_hn (by decide) (by decide)) rfl (in_grid0 (isIn_vp c1 (by decide)) (isIn_vp (by unfold rX11_isStep at c2; exact c2) (by decide))) rfl dX11_write_103 (fun H locs hP hS => ?_)
              refine lv_aload_n hx hb dX11_write_104 rfl (lv_at hl 2 rfl) ?_
              refine g_get (ci := 11) (C := RX11) (T := TX11) (N := 2) (v := .ref (a 0)) hx hb hts iX11_write_X11 hown hK hP (by decide) cD_Mo rfl 1 (by decide) rfl (by decide +kernel) rfl dX11_write_105 ?_
              refine g_get (ci := 10) (C := RX10) (T := TX10) (N := 35) (v := .ref (a 16)) hx hb hts iX11_write_X10 hown hK hP (lt_hn (by decide) (by decide)) cD_D rfl 21 (by decide) rfl (by decide +kernel) rfl dX11_write_108 ?_
              refine lv_iload hx hb dX11_write_111 (lv_at hl 1 rfl) ?_
              refine lv_iconst (v := 1) hx hb dX11_write_113 (by decide) ?_
              refine lv_iadd hx hb dX11_write_114 ?_
              refine lv_iload_n hx hb dX11_write_115 rfl (lv_at hl 5 rfl) ?_
              refine lv_iconst (v := (-1)) hx hb dX11_write_116 (by decide) ?_
              refine lv_icmp_ne (tgt := 124) hx hb dX11_write_117 (by decide) (fun _ => ?_) (fun c => absurd c c4)
              refine lv_iload hx hb dX11_write_124 (lv_at hl 6 rfl) ?_
              refine g_iast (N := 72) (g := (up2 (up2 S 18 0 0) 16 (((p1 * 8) + p2) * 3).toNatClampNeg p3) 16) hx hb hK ha mA_in hP hS (lt_hn (by decide) (by decide)) rfl (in_grid (isIn_vp c1 (by decide)) (isIn_vp (by unfold rX11_isStep at c2; exact c2) (by decide)) 1 (by decide)) rfl dX11_write_126 (fun H locs hP hS => ?_)
              have hP : va_P G vwCl (wG 19 a (cD a cA) (mX11_write_3 S p1 p2 p3 p4 p5) L) H := hP
              refine lv_aload_n hx hb dX11_write_127 rfl (lv_at hl 2 rfl) ?_
              refine g_get (ci := 11) (C := RX11) (T := TX11) (N := 2) (v := .ref (a 0)) hx hb hts iX11_write_X11 hown hK hP (by decide) cD_Mo rfl 1 (by decide) rfl (by decide +kernel) rfl dX11_write_128 ?_
              refine g_get (ci := 10) (C := RX10) (T := TX10) (N := 35) (v := .ref (a 16)) hx hb hts iX11_write_X10 hown hK hP (lt_hn (by decide) (by decide)) cD_D rfl 21 (by decide) rfl (by decide +kernel) rfl dX11_write_131 ?_
              refine lv_iload hx hb dX11_write_134 (lv_at hl 1 rfl) ?_
              refine lv_iconst (v := 2) hx hb dX11_write_136 (by decide) ?_
              refine lv_iadd hx hb dX11_write_137 ?_
              refine lv_iload_n hx hb dX11_write_138 rfl (lv_at hl 5 rfl) ?_
              refine lv_iconst (v := (-1)) hx hb dX11_write_139 (by decide) ?_
              refine lv_icmp_ne (tgt := 147) hx hb dX11_write_140 (by decide) (fun _ => ?_) (fun c => absurd c c4)
              refine lv_iload hx hb dX11_write_147 (lv_at hl 7 rfl) ?_
              refine g_iast (N := 72) (g := (mX11_write_3 S p1 p2 p3 p4 p5) 16) hx hb hK ha mA_in hP hS (lt_hn (by decide) (by decide)) rfl (in_grid (isIn_vp c1 (by decide)) (isIn_vp (by unfold rX11_isStep at c2; exact c2) (by decide)) 2 (by decide)) rfl dX11_write_149 (fun H locs hP hS => ?_)
              have hP : va_P G vwCl (wG 19 a (cD a cA) (mX11_write_4 S p1 p2 p3 p4 p5) L) H := hP
              refine lv_iload hx hb dX11_write_150 (lv_at hl 0 rfl) ?_
              exact g_iret hx hb hr hlocks (by unfold rX11_write; rw [if_neg c1, if_neg c2, if_neg c3, if_neg c4, if_neg c5, if_neg c6]) (by unfold fX11_write; rw [if_neg c1, if_neg c2, if_neg c3, if_neg c4, if_neg c5, if_neg c6]) rfl hP hS dX11_write_152
            ·
              refine lv_aload_n hx hb dX11_write_65 rfl (lv_at hl 0 rfl) ?_
              refine lv_iconst (v := 2) hx hb dX11_write_66 (by decide) ?_
              refine g_cVi (As := [.int 2]) (rest := []) ⟨hx, hb, hml, hown, hts⟩ (c_X11_no l G cA zq a ha (up2 S 18 0 0) L H.size (2 : Int32)  ) (cwV 1 hts gX11_write_X11_no rfl rfl rfl (by decide +kernel) ⟨Nat.le_of_ble_eq_true rfl, Nat.le_of_ble_eq_true rfl⟩) (g_recv hK hP (by decide) cD_Mo (C := RX11) (T := TX11) (N := 2) rfl) hK (mA_mono hS.1) hP hS rfl hl.1 rfl (lv_room (Nat.le_of_ble_eq_true rfl)) dX11_write_67 ⟨Nat.le_of_ble_eq_true rfl, Nat.le_of_ble_eq_true rfl⟩ (fun H locs hP hS _ _ => ?_)
              exact g_iret hx hb hr hlocks (by unfold rX11_write; rw [if_neg c1, if_neg c2, if_neg c3, if_neg c4, if_neg c5, if_pos c6]) (by unfold fX11_write; rw [if_neg c1, if_neg c2, if_neg c3, if_neg c4, if_neg c5, if_pos c6]) rfl hP hS dX11_write_70
    ·
      refine lv_aload_n hx hb dX11_write_21 rfl (lv_at hl 0 rfl) ?_
      refine lv_iconst (v := 1) hx hb dX11_write_22 (by decide) ?_
      refine g_cVi (As := [.int 1]) (rest := []) ⟨hx, hb, hml, hown, hts⟩ (c_X11_no l G cA zq a ha (up2 S 18 0 0) L H.size (1 : Int32)  ) (cwV 1 hts gX11_write_X11_no rfl rfl rfl (by decide +kernel) ⟨Nat.le_of_ble_eq_true rfl, Nat.le_of_ble_eq_true rfl⟩) (g_recv hK hP (by decide) cD_Mo (C := RX11) (T := TX11) (N := 2) rfl) hK (mA_mono hS.1) hP hS rfl hl.1 rfl (lv_room (Nat.le_of_ble_eq_true rfl)) dX11_write_23 ⟨Nat.le_of_ble_eq_true rfl, Nat.le_of_ble_eq_true rfl⟩ (fun H locs hP hS _ _ => ?_)
      exact g_iret hx hb hr hlocks (by unfold rX11_write; rw [if_neg c1, if_pos c2]) (by unfold fX11_write; rw [if_neg c1, if_pos c2]) rfl hP hS dX11_write_26

def rX11_setTrack (S : Mm) (p1 : Int32) (p2 : Int32) : Int32 := (if rX11_isIn p1 (0 : Int32) (2 : Int32) = 0 then rX11_no (up2 S 18 0 0) (1 : Int32) else (if rX11_isInstrument p2 = 0 then rX11_no (up2 S 18 0 0) (1 : Int32) else (up2 S 18 0 0) 15 p1.toNatClampNeg))
def fX11_setTrack (S : Mm) (p1 : Int32) (p2 : Int32) : Mm := (if rX11_isIn p1 (0 : Int32) (2 : Int32) = 0 then fX11_no (up2 S 18 0 0) (1 : Int32) else (if rX11_isInstrument p2 = 0 then fX11_no (up2 S 18 0 0) (1 : Int32) else up2 (up2 S 18 0 0) 15 p1.toNatClampNeg p2))
theorem iX11_setTrack_X10 : ∀ w ∈ u_ws RX10 TX10 35, w ∈ wsX11_setTrack := by decide +kernel
theorem iX11_setTrack_X11 : ∀ w ∈ u_ws RX11 TX11 2, w ∈ wsX11_setTrack := by decide +kernel
set_option maxHeartbeats 4000000 in
set_option maxRecDepth 100000 in
theorem c_X11_setTrack (l : Launch) (G : va_G) (cA : ClassId) (zq : Nat) (a : Nat → Nat) (ha : apart 19 a) (S : Mm) (L : Int64) (sz : Nat) (p1 : Int32) (p2 : Int32)  : Met l yX11_setTrack wsX11_setTrack ({ frames := 2, cells := 0, slots := 0, locals := 42 } : Room) (va_Pc [.ref (a 18), .int p1, .int p2] (gI G cA zq 19 a (cD a cA) S L sz)) (gQi (rX11_setTrack S p1 p2) G 19 a (cD a cA) (fX11_setTrack S p1 p2) L sz) 0 0 (mA 19 a sz) := by
  refine g_met (cc := cX11_setTrack) (maxL := 4) (ret := (some .int)) (by decide) rfl (Nat.le_of_ble_eq_true rfl) ?_
  intro p e s m below meth c ls hx hb hr hlocks hml hts hown hnm hsz hK hP hS hl
  subst hsz
  have hl : lv_has ls 4 [(0, .ref (a 18)), (1, .int p1), (2, .int p2)] := hl
  refine lv_aload_n hx hb dX11_setTrack_0 rfl (lv_at hl 0 rfl) ?_
  refine lv_iconst (v := 0) hx hb dX11_setTrack_1 (by decide) ?_
  refine g_put (ci := 11) (C := RX11) (T := TX11) (N := 2) (ty := .int) hx hb hts iX11_setTrack_X11 tyX11 tyX11_ok nmX11 hown hK ha mA_in hP hS (by decide) cD_Mo rfl 0 (by decide) rfl (by decide +kernel) rfl (by decide +kernel) rfl rfl (Nat.le_of_ble_eq_true rfl) (cD_Mo_set (by decide)) dX11_setTrack_2 (fun H locs hP hS => ?_)
  refine lv_iload_n hx hb dX11_setTrack_5 rfl (lv_at hl 1 rfl) ?_
  refine lv_iconst (v := 0) hx hb dX11_setTrack_6 (by decide) ?_
  refine lv_iconst (v := 2) hx hb dX11_setTrack_7 (by decide) ?_
  refine g_cSi (As := [.int p1, .int 0, .int 2]) (rest := []) ⟨hx, hb, hml, hown, hts⟩ (c_X11_isIn l G cA zq 19 (by decide) a ha (up2 S 18 0 0) L H.size p1 (0 : Int32) (2 : Int32)  ) (va_cwS 3 hts gX11_setTrack_X11_isIn rfl rfl rfl (by decide +kernel) ⟨Nat.le_of_ble_eq_true rfl, Nat.le_of_ble_eq_true rfl⟩) hK (mA_mono hS.1) hP hS rfl hl.1 rfl (lv_room (Nat.le_of_ble_eq_true rfl)) dX11_setTrack_8 ⟨Nat.le_of_ble_eq_true rfl, Nat.le_of_ble_eq_true rfl⟩ (fun H locs hP hS _ _ => ?_)
  refine lv_if_eq (tgt := 21) hx hb dX11_setTrack_11 (by decide) (fun c1 => ?_) (fun c1 => ?_)
  ·
    refine lv_aload_n hx hb dX11_setTrack_21 rfl (lv_at hl 0 rfl) ?_
    refine lv_iconst (v := 1) hx hb dX11_setTrack_22 (by decide) ?_
    refine g_cVi (As := [.int 1]) (rest := []) ⟨hx, hb, hml, hown, hts⟩ (c_X11_no l G cA zq a ha (up2 S 18 0 0) L H.size (1 : Int32)  ) (cwV 1 hts gX11_setTrack_X11_no rfl rfl rfl (by decide +kernel) ⟨Nat.le_of_ble_eq_true rfl, Nat.le_of_ble_eq_true rfl⟩) (g_recv hK hP (by decide) cD_Mo (C := RX11) (T := TX11) (N := 2) rfl) hK (mA_mono hS.1) hP hS rfl hl.1 rfl (lv_room (Nat.le_of_ble_eq_true rfl)) dX11_setTrack_23 ⟨Nat.le_of_ble_eq_true rfl, Nat.le_of_ble_eq_true rfl⟩ (fun H locs hP hS _ _ => ?_)
    exact g_iret hx hb hr hlocks (by unfold rX11_setTrack; rw [if_pos c1]) (by unfold fX11_setTrack; rw [if_pos c1]) rfl hP hS dX11_setTrack_26
  ·
    refine lv_iload_n hx hb dX11_setTrack_14 rfl (lv_at hl 2 rfl) ?_
    refine g_cSi (As := [.int p2]) (rest := []) ⟨hx, hb, hml, hown, hts⟩ (c_X11_isInstrument l G cA zq a ha (up2 S 18 0 0) L H.size p2  ) (va_cwS 1 hts gX11_setTrack_X11_isInstrument rfl rfl rfl (by decide +kernel) ⟨Nat.le_of_ble_eq_true rfl, Nat.le_of_ble_eq_true rfl⟩) hK (mA_mono hS.1) hP hS rfl hl.1 rfl (lv_room (Nat.le_of_ble_eq_true rfl)) dX11_setTrack_15 ⟨Nat.le_of_ble_eq_true rfl, Nat.le_of_ble_eq_true rfl⟩ (fun H locs hP hS _ _ => ?_)
    refine lv_if_ne (tgt := 27) hx hb dX11_setTrack_18 (by decide) (fun c2 => ?_) (fun c2 => ?_)
    ·
      refine lv_aload_n hx hb dX11_setTrack_27 rfl (lv_at hl 0 rfl) ?_
      refine g_get (ci := 11) (C := RX11) (T := TX11) (N := 2) (v := .ref (a 0)) hx hb hts iX11_setTrack_X11 hown hK hP (by decide) cD_Mo rfl 1 (by decide) rfl (by decide +kernel) rfl dX11_setTrack_28 ?_
      refine g_get (ci := 10) (C := RX10) (T := TX10) (N := 35) (v := .ref (a 15)) hx hb hts iX11_setTrack_X10 hown hK hP (lt_hn (by decide) (by decide)) cD_D rfl 20 (by decide) rfl (by decide +kernel) rfl dX11_setTrack_31 ?_
      refine lv_iload_n hx hb dX11_setTrack_34 rfl (lv_at hl 1 rfl) ?_
      refine g_iald (N := 3) (g := (up2 S 18 0 0) 15) hx hb hK hP (lt_hn (by decide) (by decide)) rfl (isIn_vp c1 (by decide)) dX11_setTrack_35 ?_
      refine lv_istore_n (lv' := [(3, .int ((up2 S 18 0 0) 15 p1.toNatClampNeg)), (0, .ref (a 18)), (1, .int p1), (2, .int p2)]) hx hb dX11_setTrack_36 rfl hl (by decide) rfl (fun ls hl => ?_)
      refine lv_aload_n hx hb dX11_setTrack_37 rfl (lv_at hl 1 rfl) ?_
      refine g_get (ci := 11) (C := RX11) (T := TX11) (N := 2) (v := .ref (a 0)) hx hb hts iX11_setTrack_X11 hown hK hP (by decide) cD_Mo rfl 1 (by decide) rfl (by decide +kernel) rfl dX11_setTrack_38 ?_
      refine g_get (ci := 10) (C := RX10) (T := TX10) (N := 35) (v := .ref (a 15)) hx hb hts iX11_setTrack_X10 hown hK hP (lt_hn (by decide) (by decide)) cD_D rfl 20 (by decide) rfl (by decide +kernel) rfl dX11_setTrack_41 ?_
      refine lv_iload_n hx hb dX11_setTrack_44 rfl (lv_at hl 2 rfl) ?_
      refine lv_iload_n hx hb dX11_setTrack_45 rfl (lv_at hl 3 rfl) ?_
      refine g_iast (N := 3) (g := (up2 S 18 0 0) 15) hx hb hK ha mA_in hP hS (lt_hn (by decide) (by decide)) rfl (isIn_vp c1 (by decide)) rfl dX11_setTrack_46 (fun H locs hP hS => ?_)
      refine lv_iload_n hx hb dX11_setTrack_47 rfl (lv_at hl 0 rfl) ?_
      exact g_iret hx hb hr hlocks (by unfold rX11_setTrack; rw [if_neg c1, if_neg c2]) (by unfold fX11_setTrack; rw [if_neg c1, if_neg c2]) rfl hP hS dX11_setTrack_48
    ·
      refine lv_aload_n hx hb dX11_setTrack_21 rfl (lv_at hl 0 rfl) ?_
      refine lv_iconst (v := 1) hx hb dX11_setTrack_22 (by decide) ?_
      refine g_cVi (As := [.int 1]) (rest := []) ⟨hx, hb, hml, hown, hts⟩ (c_X11_no l G cA zq a ha (up2 S 18 0 0) L H.size (1 : Int32)  ) (cwV 1 hts gX11_setTrack_X11_no rfl rfl rfl (by decide +kernel) ⟨Nat.le_of_ble_eq_true rfl, Nat.le_of_ble_eq_true rfl⟩) (g_recv hK hP (by decide) cD_Mo (C := RX11) (T := TX11) (N := 2) rfl) hK (mA_mono hS.1) hP hS rfl hl.1 rfl (lv_room (Nat.le_of_ble_eq_true rfl)) dX11_setTrack_23 ⟨Nat.le_of_ble_eq_true rfl, Nat.le_of_ble_eq_true rfl⟩ (fun H locs hP hS _ _ => ?_)
      exact g_iret hx hb hr hlocks (by unfold rX11_setTrack; rw [if_neg c1, if_pos c2]) (by unfold fX11_setTrack; rw [if_neg c1, if_pos c2]) rfl hP hS dX11_setTrack_26

def rX11_setTempo (S : Mm) (p1 : Int32) (p2 : Int32) : Int32 := (if rX11_isIn p1 (1 : Int32) (200 : Int32) = 0 then rX11_no (up2 S 18 0 0) (1 : Int32) else (if rX11_isIn p2 (0 : Int32) (p1 - 1) = 0 then rX11_no (up2 S 18 0 0) (1 : Int32) else (up2 S 18 0 0) 0 22))
def fX11_setTempo (S : Mm) (p1 : Int32) (p2 : Int32) : Mm := (if rX11_isIn p1 (1 : Int32) (200 : Int32) = 0 then fX11_no (up2 S 18 0 0) (1 : Int32) else (if rX11_isIn p2 (0 : Int32) (p1 - 1) = 0 then fX11_no (up2 S 18 0 0) (1 : Int32) else up2 (up2 (up2 S 18 0 0) 0 22 p1) 0 23 p2))
theorem iX11_setTempo_X10 : ∀ w ∈ u_ws RX10 TX10 35, w ∈ wsX11_setTempo := by decide +kernel
theorem iX11_setTempo_X11 : ∀ w ∈ u_ws RX11 TX11 2, w ∈ wsX11_setTempo := by decide +kernel
set_option maxHeartbeats 4000000 in
set_option maxRecDepth 100000 in
theorem c_X11_setTempo (l : Launch) (G : va_G) (cA : ClassId) (zq : Nat) (a : Nat → Nat) (ha : apart 19 a) (S : Mm) (L : Int64) (sz : Nat) (p1 : Int32) (p2 : Int32)  : Met l yX11_setTempo wsX11_setTempo ({ frames := 1, cells := 0, slots := 0, locals := 22 } : Room) (va_Pc [.ref (a 18), .int p1, .int p2] (gI G cA zq 19 a (cD a cA) S L sz)) (gQi (rX11_setTempo S p1 p2) G 19 a (cD a cA) (fX11_setTempo S p1 p2) L sz) 0 0 (mA 19 a sz) := by
  refine g_met (cc := cX11_setTempo) (maxL := 4) (ret := (some .int)) (by decide) rfl (Nat.le_of_ble_eq_true rfl) ?_
  intro p e s m below meth c ls hx hb hr hlocks hml hts hown hnm hsz hK hP hS hl
  subst hsz
  have hl : lv_has ls 4 [(0, .ref (a 18)), (1, .int p1), (2, .int p2)] := hl
  refine lv_aload_n hx hb dX11_setTempo_0 rfl (lv_at hl 0 rfl) ?_
  refine lv_iconst (v := 0) hx hb dX11_setTempo_1 (by decide) ?_
  refine g_put (ci := 11) (C := RX11) (T := TX11) (N := 2) (ty := .int) hx hb hts iX11_setTempo_X11 tyX11 tyX11_ok nmX11 hown hK ha mA_in hP hS (by decide) cD_Mo rfl 0 (by decide) rfl (by decide +kernel) rfl (by decide +kernel) rfl rfl (Nat.le_of_ble_eq_true rfl) (cD_Mo_set (by decide)) dX11_setTempo_2 (fun H locs hP hS => ?_)
  refine lv_iload_n hx hb dX11_setTempo_5 rfl (lv_at hl 1 rfl) ?_
  refine lv_iconst (v := 1) hx hb dX11_setTempo_6 (by decide) ?_
  refine lv_sipush (v := 200) hx hb dX11_setTempo_7 (by decide) ?_
  refine g_cSi (As := [.int p1, .int 1, .int 200]) (rest := []) ⟨hx, hb, hml, hown, hts⟩ (c_X11_isIn l G cA zq 19 (by decide) a ha (up2 S 18 0 0) L H.size p1 (1 : Int32) (200 : Int32)  ) (va_cwS 3 hts gX11_setTempo_X11_isIn rfl rfl rfl (by decide +kernel) ⟨Nat.le_of_ble_eq_true rfl, Nat.le_of_ble_eq_true rfl⟩) hK (mA_mono hS.1) hP hS rfl hl.1 rfl (lv_room (Nat.le_of_ble_eq_true rfl)) dX11_setTempo_10 ⟨Nat.le_of_ble_eq_true rfl, Nat.le_of_ble_eq_true rfl⟩ (fun H locs hP hS _ _ => ?_)
  refine lv_if_eq (tgt := 27) hx hb dX11_setTempo_13 (by decide) (fun c1 => ?_) (fun c1 => ?_)
  ·
    refine lv_aload_n hx hb dX11_setTempo_27 rfl (lv_at hl 0 rfl) ?_
    refine lv_iconst (v := 1) hx hb dX11_setTempo_28 (by decide) ?_
    refine g_cVi (As := [.int 1]) (rest := []) ⟨hx, hb, hml, hown, hts⟩ (c_X11_no l G cA zq a ha (up2 S 18 0 0) L H.size (1 : Int32)  ) (cwV 1 hts gX11_setTempo_X11_no rfl rfl rfl (by decide +kernel) ⟨Nat.le_of_ble_eq_true rfl, Nat.le_of_ble_eq_true rfl⟩) (g_recv hK hP (by decide) cD_Mo (C := RX11) (T := TX11) (N := 2) rfl) hK (mA_mono hS.1) hP hS rfl hl.1 rfl (lv_room (Nat.le_of_ble_eq_true rfl)) dX11_setTempo_29 ⟨Nat.le_of_ble_eq_true rfl, Nat.le_of_ble_eq_true rfl⟩ (fun H locs hP hS _ _ => ?_)
    exact g_iret hx hb hr hlocks (by unfold rX11_setTempo; rw [if_pos c1]) (by unfold fX11_setTempo; rw [if_pos c1]) rfl hP hS dX11_setTempo_32
  ·
    refine lv_iload_n hx hb dX11_setTempo_16 rfl (lv_at hl 2 rfl) ?_
    refine lv_iconst (v := 0) hx hb dX11_setTempo_17 (by decide) ?_
    refine lv_iload_n hx hb dX11_setTempo_18 rfl (lv_at hl 1 rfl) ?_
    refine lv_iconst (v := 1) hx hb dX11_setTempo_19 (by decide) ?_
    refine lv_isub hx hb dX11_setTempo_20 ?_
    refine g_cSi (As := [.int p2, .int 0, .int (p1 - 1)]) (rest := []) ⟨hx, hb, hml, hown, hts⟩ (c_X11_isIn l G cA zq 19 (by decide) a ha (up2 S 18 0 0) L H.size p2 (0 : Int32) (p1 - 1)  ) (va_cwS 3 hts gX11_setTempo_X11_isIn rfl rfl rfl (by decide +kernel) ⟨Nat.le_of_ble_eq_true rfl, Nat.le_of_ble_eq_true rfl⟩) hK (mA_mono hS.1) hP hS rfl hl.1 rfl (lv_room (Nat.le_of_ble_eq_true rfl)) dX11_setTempo_21 ⟨Nat.le_of_ble_eq_true rfl, Nat.le_of_ble_eq_true rfl⟩ (fun H locs hP hS _ _ => ?_)
    refine lv_if_ne (tgt := 33) hx hb dX11_setTempo_24 (by decide) (fun c2 => ?_) (fun c2 => ?_)
    ·
      refine lv_aload_n hx hb dX11_setTempo_33 rfl (lv_at hl 0 rfl) ?_
      refine g_get (ci := 11) (C := RX11) (T := TX11) (N := 2) (v := .ref (a 0)) hx hb hts iX11_setTempo_X11 hown hK hP (by decide) cD_Mo rfl 1 (by decide) rfl (by decide +kernel) rfl dX11_setTempo_34 ?_
      refine g_get (ci := 10) (C := RX10) (T := TX10) (N := 35) (v := .int ((up2 S 18 0 0) 0 22)) hx hb hts iX11_setTempo_X10 hown hK hP (lt_hn (by decide) (by decide)) cD_D rfl 22 (by decide) rfl (by decide +kernel) rfl dX11_setTempo_37 ?_
      refine lv_istore_n (lv' := [(3, .int ((up2 S 18 0 0) 0 22)), (0, .ref (a 18)), (1, .int p1), (2, .int p2)]) hx hb dX11_setTempo_40 rfl hl (by decide) rfl (fun ls hl => ?_)
      refine lv_aload_n hx hb dX11_setTempo_41 rfl (lv_at hl 1 rfl) ?_
      refine g_get (ci := 11) (C := RX11) (T := TX11) (N := 2) (v := .ref (a 0)) hx hb hts iX11_setTempo_X11 hown hK hP (by decide) cD_Mo rfl 1 (by decide) rfl (by decide +kernel) rfl dX11_setTempo_42 ?_
      refine lv_iload_n hx hb dX11_setTempo_45 rfl (lv_at hl 2 rfl) ?_
      refine g_put (ci := 10) (C := RX10) (T := TX10) (N := 35) (ty := .int) hx hb hts iX11_setTempo_X10 tyX10 tyX10_ok nmX10 hown hK ha mA_in hP hS (lt_hn (by decide) (by decide)) cD_D rfl 22 (by decide) rfl (by decide +kernel) rfl (by decide +kernel) rfl rfl (Nat.le_of_ble_eq_true rfl) (cD_D_set (by decide)) dX11_setTempo_46 (fun H locs hP hS => ?_)
      refine lv_aload_n hx hb dX11_setTempo_49 rfl (lv_at hl 1 rfl) ?_
      refine g_get (ci := 11) (C := RX11) (T := TX11) (N := 2) (v := .ref (a 0)) hx hb hts iX11_setTempo_X11 hown hK hP (by decide) cD_Mo rfl 1 (by decide) rfl (by decide +kernel) rfl dX11_setTempo_50 ?_
      refine lv_iload_n hx hb dX11_setTempo_53 rfl (lv_at hl 3 rfl) ?_
      refine g_put (ci := 10) (C := RX10) (T := TX10) (N := 35) (ty := .int) hx hb hts iX11_setTempo_X10 tyX10 tyX10_ok nmX10 hown hK ha mA_in hP hS (lt_hn (by decide) (by decide)) cD_D rfl 23 (by decide) rfl (by decide +kernel) rfl (by decide +kernel) rfl rfl (Nat.le_of_ble_eq_true rfl) (cD_D_set (by decide)) dX11_setTempo_54 (fun H locs hP hS => ?_)
      refine lv_iload_n hx hb dX11_setTempo_57 rfl (lv_at hl 0 rfl) ?_
      exact g_iret hx hb hr hlocks (by unfold rX11_setTempo; rw [if_neg c1, if_neg c2]) (by unfold fX11_setTempo; rw [if_neg c1, if_neg c2]) rfl hP hS dX11_setTempo_58
    ·
      refine lv_aload_n hx hb dX11_setTempo_27 rfl (lv_at hl 0 rfl) ?_
      refine lv_iconst (v := 1) hx hb dX11_setTempo_28 (by decide) ?_
      refine g_cVi (As := [.int 1]) (rest := []) ⟨hx, hb, hml, hown, hts⟩ (c_X11_no l G cA zq a ha (up2 S 18 0 0) L H.size (1 : Int32)  ) (cwV 1 hts gX11_setTempo_X11_no rfl rfl rfl (by decide +kernel) ⟨Nat.le_of_ble_eq_true rfl, Nat.le_of_ble_eq_true rfl⟩) (g_recv hK hP (by decide) cD_Mo (C := RX11) (T := TX11) (N := 2) rfl) hK (mA_mono hS.1) hP hS rfl hl.1 rfl (lv_room (Nat.le_of_ble_eq_true rfl)) dX11_setTempo_29 ⟨Nat.le_of_ble_eq_true rfl, Nat.le_of_ble_eq_true rfl⟩ (fun H locs hP hS _ _ => ?_)
      exact g_iret hx hb hr hlocks (by unfold rX11_setTempo; rw [if_neg c1, if_pos c2]) (by unfold fX11_setTempo; rw [if_neg c1, if_pos c2]) rfl hP hS dX11_setTempo_32

def jX11_play_1 (S : Mm) (p1 : Int32) : Int32 := (if rX11_isStep p1 = 0 then 1 else 0)
def rX11_play (S : Mm) (p1 : Int32) : Int32 := (if (up2 S 18 0 (jX11_play_1 S p1)) 18 0 = 0 then (up2 S 18 0 (jX11_play_1 S p1)) 0 24 else 0)
def fX11_play (S : Mm) (p1 : Int32) : Mm := (if (up2 S 18 0 (jX11_play_1 S p1)) 18 0 = 0 then up2 (up2 (up2 (up2 S 18 0 (jX11_play_1 S p1)) 0 24 1) 0 25 p1) 0 26 0 else up2 S 18 0 (jX11_play_1 S p1))
theorem iX11_play_X10 : ∀ w ∈ u_ws RX10 TX10 35, w ∈ wsX11_play := by decide +kernel
theorem iX11_play_X11 : ∀ w ∈ u_ws RX11 TX11 2, w ∈ wsX11_play := by decide +kernel
set_option maxHeartbeats 4000000 in
set_option maxRecDepth 100000 in
theorem c_X11_play (l : Launch) (G : va_G) (cA : ClassId) (zq : Nat) (a : Nat → Nat) (ha : apart 19 a) (S : Mm) (L : Int64) (sz : Nat) (p1 : Int32)  (hbn1 : narrow .boolean (.int ((up2 S 18 0 (jX11_play_1 S p1)) 0 24)) = .int ((up2 S 18 0 (jX11_play_1 S p1)) 0 24)) : Met l yX11_play wsX11_play ({ frames := 2, cells := 0, slots := 0, locals := 42 } : Room) (va_Pc [.ref (a 18), .int p1] (gI G cA zq 19 a (cD a cA) S L sz)) (gQi (rX11_play S p1) G 19 a (cD a cA) (fX11_play S p1) L sz) 0 0 (mA 19 a sz) := by
  refine g_met (cc := cX11_play) (maxL := 3) (ret := (some .boolean)) (by decide) rfl (Nat.le_of_ble_eq_true rfl) ?_
  intro p e s m below meth c ls hx hb hr hlocks hml hts hown hnm hsz hK hP hS hl
  subst hsz
  have hl : lv_has ls 3 [(0, .ref (a 18)), (1, .int p1)] := hl
  refine lv_aload_n hx hb dX11_play_0 rfl (lv_at hl 0 rfl) ?_
  refine lv_iload_n hx hb dX11_play_1 rfl (lv_at hl 1 rfl) ?_
  refine g_cSi (As := [.int p1]) (rest := [.ref (a 18)]) ⟨hx, hb, hml, hown, hts⟩ (c_X11_isStep l G cA zq a ha S L s.heap.size p1  ) (va_cwS 1 hts gX11_play_X11_isStep rfl rfl rfl (by decide +kernel) ⟨Nat.le_of_ble_eq_true rfl, Nat.le_of_ble_eq_true rfl⟩) hK (mA_mono hS.1) hP hS rfl hl.1 rfl (lv_room (Nat.le_of_ble_eq_true rfl)) dX11_play_2 ⟨Nat.le_of_ble_eq_true rfl, Nat.le_of_ble_eq_true rfl⟩ (fun H locs hP hS _ _ => ?_)
  have hj2 : ∀ (zy0_hj2 : Int32) (H : Heap) (locs : List Loc) (ls : Array Slot), zy0_hj2 = (jX11_play_1 S p1) → va_P G vwCl (wG 19 a (cD a cA) S L) H → va_S (mA 19 a s.heap.size) s.heap H locs → lv_has ls 3 [(0, .ref (a 18)), (1, .int p1)] → W p l e ({ frames := 2, cells := 0, slots := 0, locals := 42 } : Room) s m ([.ref (a 18), .int p1] : List Value).toArray below meth c H locs 0 0 (MQ below (gQi (rX11_play S p1) G 19 a (cD a cA) (fX11_play S p1) L s.heap.size) ([.ref (a 18), .int p1] : List Value).toArray s 0 0 (mA 19 a s.heap.size)) (F0 m 13 ls [.int zy0_hj2, .ref (a 18)]) := by
    intro zy0_hj2 H locs ls ezy0_hj2 hP hS hl
    rw [ezy0_hj2]
    refine g_put (ci := 11) (C := RX11) (T := TX11) (N := 2) (ty := .int) hx hb hts iX11_play_X11 tyX11 tyX11_ok nmX11 hown hK ha mA_in hP hS (by decide) cD_Mo rfl 0 (by decide) rfl (by decide +kernel) rfl (by decide +kernel) rfl rfl (Nat.le_of_ble_eq_true rfl) (cD_Mo_set (by decide)) dX11_play_13 (fun H locs hP hS => ?_)
    refine lv_aload_n hx hb dX11_play_16 rfl (lv_at hl 0 rfl) ?_
    refine g_get (ci := 11) (C := RX11) (T := TX11) (N := 2) (v := .int ((up2 S 18 0 (jX11_play_1 S p1)) 18 0)) hx hb hts iX11_play_X11 hown hK hP (by decide) cD_Mo rfl 0 (by decide) rfl (by decide +kernel) rfl dX11_play_17 ?_
    refine lv_if_eq (tgt := 25) hx hb dX11_play_20 (by decide) (fun c3 => ?_) (fun c3 => ?_)
    ·
      refine lv_aload_n hx hb dX11_play_25 rfl (lv_at hl 0 rfl) ?_
      refine g_get (ci := 11) (C := RX11) (T := TX11) (N := 2) (v := .ref (a 0)) hx hb hts iX11_play_X11 hown hK hP (by decide) cD_Mo rfl 1 (by decide) rfl (by decide +kernel) rfl dX11_play_26 ?_
      refine g_get (ci := 10) (C := RX10) (T := TX10) (N := 35) (v := .int ((up2 S 18 0 (jX11_play_1 S p1)) 0 24)) hx hb hts iX11_play_X10 hown hK hP (lt_hn (by decide) (by decide)) cD_D rfl 24 (by decide) rfl (by decide +kernel) rfl dX11_play_29 ?_
      refine lv_istore_n (lv' := [(2, .int ((up2 S 18 0 (jX11_play_1 S p1)) 0 24)), (0, .ref (a 18)), (1, .int p1)]) hx hb dX11_play_32 rfl hl (by decide) rfl (fun ls hl => ?_)
      refine lv_aload_n hx hb dX11_play_33 rfl (lv_at hl 1 rfl) ?_
      refine g_get (ci := 11) (C := RX11) (T := TX11) (N := 2) (v := .ref (a 0)) hx hb hts iX11_play_X11 hown hK hP (by decide) cD_Mo rfl 1 (by decide) rfl (by decide +kernel) rfl dX11_play_34 ?_
      refine lv_iconst (v := 1) hx hb dX11_play_37 (by decide) ?_
      refine g_put (ci := 10) (C := RX10) (T := TX10) (N := 35) (ty := .boolean) hx hb hts iX11_play_X10 tyX10 tyX10_ok nmX10 hown hK ha mA_in hP hS (lt_hn (by decide) (by decide)) cD_D rfl 24 (by decide) rfl (by decide +kernel) rfl (by decide +kernel) rfl rfl (Nat.le_of_ble_eq_true rfl) (cD_D_set (by decide)) dX11_play_38 (fun H locs hP hS => ?_)
      refine lv_aload_n hx hb dX11_play_41 rfl (lv_at hl 1 rfl) ?_
      refine g_get (ci := 11) (C := RX11) (T := TX11) (N := 2) (v := .ref (a 0)) hx hb hts iX11_play_X11 hown hK hP (by decide) cD_Mo rfl 1 (by decide) rfl (by decide +kernel) rfl dX11_play_42 ?_
      refine lv_iload_n hx hb dX11_play_45 rfl (lv_at hl 2 rfl) ?_
      refine g_put (ci := 10) (C := RX10) (T := TX10) (N := 35) (ty := .int) hx hb hts iX11_play_X10 tyX10 tyX10_ok nmX10 hown hK ha mA_in hP hS (lt_hn (by decide) (by decide)) cD_D rfl 25 (by decide) rfl (by decide +kernel) rfl (by decide +kernel) rfl rfl (Nat.le_of_ble_eq_true rfl) (cD_D_set (by decide)) dX11_play_46 (fun H locs hP hS => ?_)
      refine lv_aload_n hx hb dX11_play_49 rfl (lv_at hl 1 rfl) ?_
      refine g_get (ci := 11) (C := RX11) (T := TX11) (N := 2) (v := .ref (a 0)) hx hb hts iX11_play_X11 hown hK hP (by decide) cD_Mo rfl 1 (by decide) rfl (by decide +kernel) rfl dX11_play_50 ?_
      refine lv_iconst (v := 0) hx hb dX11_play_53 (by decide) ?_
      refine g_put (ci := 10) (C := RX10) (T := TX10) (N := 35) (ty := .int) hx hb hts iX11_play_X10 tyX10 tyX10_ok nmX10 hown hK ha mA_in hP hS (lt_hn (by decide) (by decide)) cD_D rfl 26 (by decide) rfl (by decide +kernel) rfl (by decide +kernel) rfl rfl (Nat.le_of_ble_eq_true rfl) (cD_D_set (by decide)) dX11_play_54 (fun H locs hP hS => ?_)
      refine lv_iload_n hx hb dX11_play_57 rfl (lv_at hl 0 rfl) ?_
      exact g_zret hx hb hr hlocks hbn1 (by unfold rX11_play; rw [if_pos c3]) (by unfold fX11_play; rw [if_pos c3]) rfl hP hS dX11_play_58
    ·
      refine lv_iconst (v := 0) hx hb dX11_play_23 (by decide) ?_
      exact g_zret hx hb hr hlocks rfl (by unfold rX11_play; rw [if_neg c3]) (by unfold fX11_play; rw [if_neg c3]) rfl hP hS dX11_play_24
  refine lv_if_eq (tgt := 12) hx hb dX11_play_5 (by decide) (fun c1 => ?_) (fun c1 => ?_)
  ·
    refine lv_iconst (v := 1) hx hb dX11_play_12 (by decide) ?_
    exact hj2 _ _ _ _ (by unfold jX11_play_1; rw [if_pos c1]) hP hS (lv_sub hl [0, 1] rfl)
  ·
    refine lv_iconst (v := 0) hx hb dX11_play_8 (by decide) ?_
    refine lv_goto (tgt := 13) hx hb dX11_play_9 (by decide) ?_
    exact hj2 _ _ _ _ (by unfold jX11_play_1; rw [if_neg c1]) hP hS (lv_sub hl [0, 1] rfl)

def rX11_stepNow (S : Mm) : Int32 := (if S 0 24 = 0 then (-1) else S 0 25)
theorem iX11_stepNow_X10 : ∀ w ∈ u_ws RX10 TX10 35, w ∈ wsX11_stepNow := by decide +kernel
theorem iX11_stepNow_X11 : ∀ w ∈ u_ws RX11 TX11 2, w ∈ wsX11_stepNow := by decide +kernel
set_option maxHeartbeats 4000000 in
set_option maxRecDepth 100000 in
theorem c_X11_stepNow (l : Launch) (G : va_G) (cA : ClassId) (zq : Nat) (a : Nat → Nat) (ha : apart 19 a) (S : Mm) (L : Int64) (sz : Nat)   : Met l yX11_stepNow wsX11_stepNow ({ frames := 0, cells := 0, slots := 0, locals := 0 } : Room) (va_Pc [.ref (a 18)] (gI G cA zq 19 a (cD a cA) S L sz)) (gQi (rX11_stepNow S) G 19 a (cD a cA) S L sz) 0 0 (mA 19 a sz) := by
  refine g_met (cc := cX11_stepNow) (maxL := 1) (ret := (some .int)) (by decide) rfl (Nat.le_of_ble_eq_true rfl) ?_
  intro p e s m below meth c ls hx hb hr hlocks hml hts hown hnm hsz hK hP hS hl
  subst hsz
  have hl : lv_has ls 1 [(0, .ref (a 18))] := hl
  refine lv_aload_n hx hb dX11_stepNow_0 rfl (lv_at hl 0 rfl) ?_
  refine g_get (ci := 11) (C := RX11) (T := TX11) (N := 2) (v := .ref (a 0)) hx hb hts iX11_stepNow_X11 hown hK hP (by decide) cD_Mo rfl 1 (by decide) rfl (by decide +kernel) rfl dX11_stepNow_1 ?_
  refine g_get (ci := 10) (C := RX10) (T := TX10) (N := 35) (v := .int (S 0 24)) hx hb hts iX11_stepNow_X10 hown hK hP (lt_hn (by decide) (by decide)) cD_D rfl 24 (by decide) rfl (by decide +kernel) rfl dX11_stepNow_4 ?_
  refine lv_if_eq (tgt := 20) hx hb dX11_stepNow_7 (by decide) (fun c1 => ?_) (fun c1 => ?_)
  ·
    refine lv_iconst (v := (-1)) hx hb dX11_stepNow_20 (by decide) ?_
    exact g_iret hx hb hr hlocks (by unfold rX11_stepNow; rw [if_pos c1]) rfl rfl hP hS dX11_stepNow_21
  ·
    refine lv_aload_n hx hb dX11_stepNow_10 rfl (lv_at hl 0 rfl) ?_
    refine g_get (ci := 11) (C := RX11) (T := TX11) (N := 2) (v := .ref (a 0)) hx hb hts iX11_stepNow_X11 hown hK hP (by decide) cD_Mo rfl 1 (by decide) rfl (by decide +kernel) rfl dX11_stepNow_11 ?_
    refine g_get (ci := 10) (C := RX10) (T := TX10) (N := 35) (v := .int (S 0 25)) hx hb hts iX11_stepNow_X10 hown hK hP (lt_hn (by decide) (by decide)) cD_D rfl 25 (by decide) rfl (by decide +kernel) rfl dX11_stepNow_14 ?_
    refine lv_goto (tgt := 21) hx hb dX11_stepNow_17 (by decide) ?_
    exact g_iret hx hb hr hlocks (by unfold rX11_stepNow; rw [if_neg c1]) rfl rfl hP hS dX11_stepNow_21

def rX11_stop (S : Mm) : Int32 := rX11_stepNow (up2 S 18 0 0)
def fX11_stop (S : Mm) : Mm := up2 (up2 S 18 0 0) 0 24 0
theorem iX11_stop_X10 : ∀ w ∈ u_ws RX10 TX10 35, w ∈ wsX11_stop := by decide +kernel
theorem iX11_stop_X11 : ∀ w ∈ u_ws RX11 TX11 2, w ∈ wsX11_stop := by decide +kernel
set_option maxHeartbeats 4000000 in
set_option maxRecDepth 100000 in
theorem c_X11_stop (l : Launch) (G : va_G) (cA : ClassId) (zq : Nat) (a : Nat → Nat) (ha : apart 19 a) (S : Mm) (L : Int64) (sz : Nat)   : Met l yX11_stop wsX11_stop ({ frames := 1, cells := 0, slots := 0, locals := 20 } : Room) (va_Pc [.ref (a 18)] (gI G cA zq 19 a (cD a cA) S L sz)) (gQi (rX11_stop S) G 19 a (cD a cA) (fX11_stop S) L sz) 0 0 (mA 19 a sz) := by
  refine g_met (cc := cX11_stop) (maxL := 2) (ret := (some .int)) (by decide) rfl (Nat.le_of_ble_eq_true rfl) ?_
  intro p e s m below meth c ls hx hb hr hlocks hml hts hown hnm hsz hK hP hS hl
  subst hsz
  have hl : lv_has ls 2 [(0, .ref (a 18))] := hl
  refine lv_aload_n hx hb dX11_stop_0 rfl (lv_at hl 0 rfl) ?_
  refine lv_iconst (v := 0) hx hb dX11_stop_1 (by decide) ?_
  refine g_put (ci := 11) (C := RX11) (T := TX11) (N := 2) (ty := .int) hx hb hts iX11_stop_X11 tyX11 tyX11_ok nmX11 hown hK ha mA_in hP hS (by decide) cD_Mo rfl 0 (by decide) rfl (by decide +kernel) rfl (by decide +kernel) rfl rfl (Nat.le_of_ble_eq_true rfl) (cD_Mo_set (by decide)) dX11_stop_2 (fun H locs hP hS => ?_)
  refine lv_aload_n hx hb dX11_stop_5 rfl (lv_at hl 0 rfl) ?_
  refine g_cVi (As := []) (rest := []) ⟨hx, hb, hml, hown, hts⟩ (c_X11_stepNow l G cA zq a ha (up2 S 18 0 0) L H.size   ) (cwV 0 hts gX11_stop_X11_stepNow rfl rfl rfl (by decide +kernel) ⟨Nat.le_of_ble_eq_true rfl, Nat.le_of_ble_eq_true rfl⟩) (g_recv hK hP (by decide) cD_Mo (C := RX11) (T := TX11) (N := 2) rfl) hK (mA_mono hS.1) hP hS rfl hl.1 rfl (lv_room (Nat.le_of_ble_eq_true rfl)) dX11_stop_6 ⟨Nat.le_of_ble_eq_true rfl, Nat.le_of_ble_eq_true rfl⟩ (fun H locs hP hS _ _ => ?_)
  refine lv_istore_n (lv' := [(1, .int (rX11_stepNow (up2 S 18 0 0))), (0, .ref (a 18))]) hx hb dX11_stop_9 rfl hl (by decide) rfl (fun ls hl => ?_)
  refine lv_aload_n hx hb dX11_stop_10 rfl (lv_at hl 1 rfl) ?_
  refine g_get (ci := 11) (C := RX11) (T := TX11) (N := 2) (v := .ref (a 0)) hx hb hts iX11_stop_X11 hown hK hP (by decide) cD_Mo rfl 1 (by decide) rfl (by decide +kernel) rfl dX11_stop_11 ?_
  refine lv_iconst (v := 0) hx hb dX11_stop_14 (by decide) ?_
  refine g_put (ci := 10) (C := RX10) (T := TX10) (N := 35) (ty := .boolean) hx hb hts iX11_stop_X10 tyX10 tyX10_ok nmX10 hown hK ha mA_in hP hS (lt_hn (by decide) (by decide)) cD_D rfl 24 (by decide) rfl (by decide +kernel) rfl (by decide +kernel) rfl rfl (Nat.le_of_ble_eq_true rfl) (cD_D_set (by decide)) dX11_stop_15 (fun H locs hP hS => ?_)
  refine lv_iload_n hx hb dX11_stop_18 rfl (lv_at hl 0 rfl) ?_
  exact g_iret hx hb hr hlocks (by unfold rX11_stop; rfl) (by unfold fX11_stop; rfl) rfl hP hS dX11_stop_19

def rX11_sample (S : Mm) (L : Int64) : Int32 := rX11_ok (fX10_sample S L) (rX10_sample S L)
def fX11_sample (S : Mm) (L : Int64) : Mm := fX11_ok (fX10_sample S L) (rX10_sample S L)
def lX11_sample (S : Mm) (L : Int64) : Int64 := lX10_sample S L
theorem iX11_sample_X11 : ∀ w ∈ u_ws RX11 TX11 2, w ∈ wsX11_sample := by decide +kernel
set_option maxHeartbeats 4000000 in
set_option maxRecDepth 100000 in
theorem c_X11_sample (l : Launch) (G : va_G) (cA : ClassId) (zq : Nat) (a : Nat → Nat) (ha : apart 19 a) (S : Mm) (L : Int64) (sz : Nat)   (K : Int) (hh2 : iD S K) : Met l yX11_sample wsX11_sample ({ frames := 4, cells := 4, slots := 48, locals := 97 } : Room) (va_Pc [.ref (a 18)] (gI G cA zq 19 a (cD a cA) S L sz)) (gQi (rX11_sample S L) G 19 a (cD a cA) (fX11_sample S L) (lX11_sample S L) sz) 4 48 (mA 19 a sz) := by
  refine g_met (cc := cX11_sample) (maxL := 1) (ret := (some .int)) (by decide) rfl (Nat.le_of_ble_eq_true rfl) ?_
  intro p e s m below meth c ls hx hb hr hlocks hml hts hown hnm hsz hK hP hS hl
  subst hsz
  have hl : lv_has ls 1 [(0, .ref (a 18))] := hl
  refine lv_aload_n hx hb dX11_sample_0 rfl (lv_at hl 0 rfl) ?_
  refine lv_aload_n hx hb dX11_sample_1 rfl (lv_at hl 0 rfl) ?_
  refine g_get (ci := 11) (C := RX11) (T := TX11) (N := 2) (v := .ref (a 0)) hx hb hts iX11_sample_X11 hown hK hP (by decide) cD_Mo rfl 1 (by decide) rfl (by decide +kernel) rfl dX11_sample_2 ?_
  refine g_cVi (As := []) (rest := [.ref (a 18)]) ⟨hx, hb, hml, hown, hts⟩ (c1_X10_sample l G cA zq 19 (by decide) a ha S L s.heap.size   K hh2) (cwV 0 hts gX11_sample_X10_sample rfl rfl rfl (by decide +kernel) ⟨Nat.le_of_ble_eq_true rfl, Nat.le_of_ble_eq_true rfl⟩) (g_recv hK hP (lt_hn (by decide) (by decide)) cD_D (C := RX10) (T := TX10) (N := 35) rfl) hK (mA_mono hS.1) hP hS rfl hl.1 rfl (lv_room (Nat.le_of_ble_eq_true rfl)) dX11_sample_5 ⟨Nat.le_of_ble_eq_true rfl, Nat.le_of_ble_eq_true rfl⟩ (fun H locs hP hS _ _ => ?_)
  refine g_cVi (As := [.int (rX10_sample S L)]) (rest := []) ⟨hx, hb, hml, hown, hts⟩ (c_X11_ok l G cA zq a ha (fX10_sample S L) (lX10_sample S L) H.size (rX10_sample S L)  ) (cwV 1 hts gX11_sample_X11_ok rfl rfl rfl (by decide +kernel) ⟨Nat.le_of_ble_eq_true rfl, Nat.le_of_ble_eq_true rfl⟩) (g_recv hK hP (by decide) cD_Mo (C := RX11) (T := TX11) (N := 2) rfl) hK (mA_mono hS.1) hP hS rfl hl.1 rfl (lv_room (Nat.le_of_ble_eq_true rfl)) dX11_sample_8 ⟨Nat.le_of_ble_eq_true rfl, Nat.le_of_ble_eq_true rfl⟩ (fun H locs hP hS _ _ => ?_)
  exact g_iret hx hb hr hlocks (by unfold rX11_sample; rfl) (by unfold fX11_sample; rfl) (by unfold lX11_sample; rfl) hP hS dX11_sample_11

def rX11_heard (S : Mm) (p1 : Int32) : Int32 := (if rX11_isIn p1 (0 : Int32) (63 : Int32) = 0 then rX11_no (up2 S 18 0 0) (1 : Int32) else (up2 S 18 0 0) 17 p1.toNatClampNeg)
def fX11_heard (S : Mm) (p1 : Int32) : Mm := (if rX11_isIn p1 (0 : Int32) (63 : Int32) = 0 then fX11_no (up2 S 18 0 0) (1 : Int32) else up2 S 18 0 0)
theorem iX11_heard_X10 : ∀ w ∈ u_ws RX10 TX10 35, w ∈ wsX11_heard := by decide +kernel
theorem iX11_heard_X11 : ∀ w ∈ u_ws RX11 TX11 2, w ∈ wsX11_heard := by decide +kernel
set_option maxHeartbeats 4000000 in
set_option maxRecDepth 100000 in
theorem c_X11_heard (l : Launch) (G : va_G) (cA : ClassId) (zq : Nat) (a : Nat → Nat) (ha : apart 19 a) (S : Mm) (L : Int64) (sz : Nat) (p1 : Int32)  : Met l yX11_heard wsX11_heard ({ frames := 1, cells := 0, slots := 0, locals := 22 } : Room) (va_Pc [.ref (a 18), .int p1] (gI G cA zq 19 a (cD a cA) S L sz)) (gQi (rX11_heard S p1) G 19 a (cD a cA) (fX11_heard S p1) L sz) 0 0 (mA 19 a sz) := by
  refine g_met (cc := cX11_heard) (maxL := 2) (ret := (some .int)) (by decide) rfl (Nat.le_of_ble_eq_true rfl) ?_
  intro p e s m below meth c ls hx hb hr hlocks hml hts hown hnm hsz hK hP hS hl
  subst hsz
  have hl : lv_has ls 2 [(0, .ref (a 18)), (1, .int p1)] := hl
  refine lv_aload_n hx hb dX11_heard_0 rfl (lv_at hl 0 rfl) ?_
  refine lv_iconst (v := 0) hx hb dX11_heard_1 (by decide) ?_
  refine g_put (ci := 11) (C := RX11) (T := TX11) (N := 2) (ty := .int) hx hb hts iX11_heard_X11 tyX11 tyX11_ok nmX11 hown hK ha mA_in hP hS (by decide) cD_Mo rfl 0 (by decide) rfl (by decide +kernel) rfl (by decide +kernel) rfl rfl (Nat.le_of_ble_eq_true rfl) (cD_Mo_set (by decide)) dX11_heard_2 (fun H locs hP hS => ?_)
  refine lv_iload_n hx hb dX11_heard_5 rfl (lv_at hl 1 rfl) ?_
  refine lv_iconst (v := 0) hx hb dX11_heard_6 (by decide) ?_
  refine lv_bipush (v := 63) hx hb dX11_heard_7 (by decide) ?_
  refine g_cSi (As := [.int p1, .int 0, .int 63]) (rest := []) ⟨hx, hb, hml, hown, hts⟩ (c_X11_isIn l G cA zq 19 (by decide) a ha (up2 S 18 0 0) L H.size p1 (0 : Int32) (63 : Int32)  ) (va_cwS 3 hts gX11_heard_X11_isIn rfl rfl rfl (by decide +kernel) ⟨Nat.le_of_ble_eq_true rfl, Nat.le_of_ble_eq_true rfl⟩) hK (mA_mono hS.1) hP hS rfl hl.1 rfl (lv_room (Nat.le_of_ble_eq_true rfl)) dX11_heard_9 ⟨Nat.le_of_ble_eq_true rfl, Nat.le_of_ble_eq_true rfl⟩ (fun H locs hP hS _ _ => ?_)
  refine lv_if_eq (tgt := 27) hx hb dX11_heard_12 (by decide) (fun c1 => ?_) (fun c1 => ?_)
  ·
    refine lv_aload_n hx hb dX11_heard_27 rfl (lv_at hl 0 rfl) ?_
    refine lv_iconst (v := 1) hx hb dX11_heard_28 (by decide) ?_
    refine g_cVi (As := [.int 1]) (rest := []) ⟨hx, hb, hml, hown, hts⟩ (c_X11_no l G cA zq a ha (up2 S 18 0 0) L H.size (1 : Int32)  ) (cwV 1 hts gX11_heard_X11_no rfl rfl rfl (by decide +kernel) ⟨Nat.le_of_ble_eq_true rfl, Nat.le_of_ble_eq_true rfl⟩) (g_recv hK hP (by decide) cD_Mo (C := RX11) (T := TX11) (N := 2) rfl) hK (mA_mono hS.1) hP hS rfl hl.1 rfl (lv_room (Nat.le_of_ble_eq_true rfl)) dX11_heard_29 ⟨Nat.le_of_ble_eq_true rfl, Nat.le_of_ble_eq_true rfl⟩ (fun H locs hP hS _ _ => ?_)
    exact g_iret hx hb hr hlocks (by unfold rX11_heard; rw [if_pos c1]) (by unfold fX11_heard; rw [if_pos c1]) rfl hP hS dX11_heard_32
  ·
    refine lv_aload_n hx hb dX11_heard_15 rfl (lv_at hl 0 rfl) ?_
    refine g_get (ci := 11) (C := RX11) (T := TX11) (N := 2) (v := .ref (a 0)) hx hb hts iX11_heard_X11 hown hK hP (by decide) cD_Mo rfl 1 (by decide) rfl (by decide +kernel) rfl dX11_heard_16 ?_
    refine g_get (ci := 10) (C := RX10) (T := TX10) (N := 35) (v := .ref (a 17)) hx hb hts iX11_heard_X10 hown hK hP (lt_hn (by decide) (by decide)) cD_D rfl 29 (by decide) rfl (by decide +kernel) rfl dX11_heard_19 ?_
    refine lv_iload_n hx hb dX11_heard_22 rfl (lv_at hl 1 rfl) ?_
    refine g_iald (N := 64) (g := (up2 S 18 0 0) 17) hx hb hK hP (lt_hn (by decide) (by decide)) rfl (isIn_vp c1 (by decide)) dX11_heard_23 ?_
    refine lv_goto (tgt := 32) hx hb dX11_heard_24 (by decide) ?_
    exact g_iret hx hb hr hlocks (by unfold rX11_heard; rw [if_neg c1]) (by unfold fX11_heard; rw [if_neg c1]) rfl hP hS dX11_heard_32

def rX11_clock (S : Mm) : Int32 := rX11_ok S (S 0 28)
def fX11_clock (S : Mm) : Mm := fX11_ok S (S 0 28)
theorem iX11_clock_X10 : ∀ w ∈ u_ws RX10 TX10 35, w ∈ wsX11_clock := by decide +kernel
theorem iX11_clock_X11 : ∀ w ∈ u_ws RX11 TX11 2, w ∈ wsX11_clock := by decide +kernel
set_option maxHeartbeats 4000000 in
set_option maxRecDepth 100000 in
theorem c_X11_clock (l : Launch) (G : va_G) (cA : ClassId) (zq : Nat) (a : Nat → Nat) (ha : apart 19 a) (S : Mm) (L : Int64) (sz : Nat)   : Met l yX11_clock wsX11_clock ({ frames := 1, cells := 0, slots := 0, locals := 21 } : Room) (va_Pc [.ref (a 18)] (gI G cA zq 19 a (cD a cA) S L sz)) (gQi (rX11_clock S) G 19 a (cD a cA) (fX11_clock S) L sz) 0 0 (mA 19 a sz) := by
  refine g_met (cc := cX11_clock) (maxL := 1) (ret := (some .int)) (by decide) rfl (Nat.le_of_ble_eq_true rfl) ?_
  intro p e s m below meth c ls hx hb hr hlocks hml hts hown hnm hsz hK hP hS hl
  subst hsz
  have hl : lv_has ls 1 [(0, .ref (a 18))] := hl
  refine lv_aload_n hx hb dX11_clock_0 rfl (lv_at hl 0 rfl) ?_
  refine lv_aload_n hx hb dX11_clock_1 rfl (lv_at hl 0 rfl) ?_
  refine g_get (ci := 11) (C := RX11) (T := TX11) (N := 2) (v := .ref (a 0)) hx hb hts iX11_clock_X11 hown hK hP (by decide) cD_Mo rfl 1 (by decide) rfl (by decide +kernel) rfl dX11_clock_2 ?_
  refine g_get (ci := 10) (C := RX10) (T := TX10) (N := 35) (v := .int (S 0 28)) hx hb hts iX11_clock_X10 hown hK hP (lt_hn (by decide) (by decide)) cD_D rfl 28 (by decide) rfl (by decide +kernel) rfl dX11_clock_5 ?_
  refine g_cVi (As := [.int (S 0 28)]) (rest := []) ⟨hx, hb, hml, hown, hts⟩ (c_X11_ok l G cA zq a ha S L s.heap.size (S 0 28)  ) (cwV 1 hts gX11_clock_X11_ok rfl rfl rfl (by decide +kernel) ⟨Nat.le_of_ble_eq_true rfl, Nat.le_of_ble_eq_true rfl⟩) (g_recv hK hP (by decide) cD_Mo (C := RX11) (T := TX11) (N := 2) rfl) hK (mA_mono hS.1) hP hS rfl hl.1 rfl (lv_room (Nat.le_of_ble_eq_true rfl)) dX11_clock_8 ⟨Nat.le_of_ble_eq_true rfl, Nat.le_of_ble_eq_true rfl⟩ (fun H locs hP hS _ _ => ?_)
  exact g_iret hx hb hr hlocks (by unfold rX11_clock; rfl) (by unfold fX11_clock; rfl) rfl hP hS dX11_clock_11

def rX11_peak (S : Mm) : Int32 := rX11_ok S (S 0 31)
def fX11_peak (S : Mm) : Mm := fX11_ok S (S 0 31)
theorem iX11_peak_X10 : ∀ w ∈ u_ws RX10 TX10 35, w ∈ wsX11_peak := by decide +kernel
theorem iX11_peak_X11 : ∀ w ∈ u_ws RX11 TX11 2, w ∈ wsX11_peak := by decide +kernel
set_option maxHeartbeats 4000000 in
set_option maxRecDepth 100000 in
theorem c_X11_peak (l : Launch) (G : va_G) (cA : ClassId) (zq : Nat) (a : Nat → Nat) (ha : apart 19 a) (S : Mm) (L : Int64) (sz : Nat)   : Met l yX11_peak wsX11_peak ({ frames := 1, cells := 0, slots := 0, locals := 21 } : Room) (va_Pc [.ref (a 18)] (gI G cA zq 19 a (cD a cA) S L sz)) (gQi (rX11_peak S) G 19 a (cD a cA) (fX11_peak S) L sz) 0 0 (mA 19 a sz) := by
  refine g_met (cc := cX11_peak) (maxL := 1) (ret := (some .int)) (by decide) rfl (Nat.le_of_ble_eq_true rfl) ?_
  intro p e s m below meth c ls hx hb hr hlocks hml hts hown hnm hsz hK hP hS hl
  subst hsz
  have hl : lv_has ls 1 [(0, .ref (a 18))] := hl
  refine lv_aload_n hx hb dX11_peak_0 rfl (lv_at hl 0 rfl) ?_
  refine lv_aload_n hx hb dX11_peak_1 rfl (lv_at hl 0 rfl) ?_
  refine g_get (ci := 11) (C := RX11) (T := TX11) (N := 2) (v := .ref (a 0)) hx hb hts iX11_peak_X11 hown hK hP (by decide) cD_Mo rfl 1 (by decide) rfl (by decide +kernel) rfl dX11_peak_2 ?_
  refine g_get (ci := 10) (C := RX10) (T := TX10) (N := 35) (v := .int (S 0 31)) hx hb hts iX11_peak_X10 hown hK hP (lt_hn (by decide) (by decide)) cD_D rfl 31 (by decide) rfl (by decide +kernel) rfl dX11_peak_5 ?_
  refine g_cVi (As := [.int (S 0 31)]) (rest := []) ⟨hx, hb, hml, hown, hts⟩ (c_X11_ok l G cA zq a ha S L s.heap.size (S 0 31)  ) (cwV 1 hts gX11_peak_X11_ok rfl rfl rfl (by decide +kernel) ⟨Nat.le_of_ble_eq_true rfl, Nat.le_of_ble_eq_true rfl⟩) (g_recv hK hP (by decide) cD_Mo (C := RX11) (T := TX11) (N := 2) rfl) hK (mA_mono hS.1) hP hS rfl hl.1 rfl (lv_room (Nat.le_of_ble_eq_true rfl)) dX11_peak_8 ⟨Nat.le_of_ble_eq_true rfl, Nat.le_of_ble_eq_true rfl⟩ (fun H locs hP hS _ _ => ?_)
  exact g_iret hx hb hr hlocks (by unfold rX11_peak; rfl) (by unfold fX11_peak; rfl) rfl hP hS dX11_peak_11

def rX11_clipped (S : Mm) : Int32 := rX11_ok S (S 0 32)
def fX11_clipped (S : Mm) : Mm := fX11_ok S (S 0 32)
theorem iX11_clipped_X10 : ∀ w ∈ u_ws RX10 TX10 35, w ∈ wsX11_clipped := by decide +kernel
theorem iX11_clipped_X11 : ∀ w ∈ u_ws RX11 TX11 2, w ∈ wsX11_clipped := by decide +kernel
set_option maxHeartbeats 4000000 in
set_option maxRecDepth 100000 in
theorem c_X11_clipped (l : Launch) (G : va_G) (cA : ClassId) (zq : Nat) (a : Nat → Nat) (ha : apart 19 a) (S : Mm) (L : Int64) (sz : Nat)   : Met l yX11_clipped wsX11_clipped ({ frames := 1, cells := 0, slots := 0, locals := 21 } : Room) (va_Pc [.ref (a 18)] (gI G cA zq 19 a (cD a cA) S L sz)) (gQi (rX11_clipped S) G 19 a (cD a cA) (fX11_clipped S) L sz) 0 0 (mA 19 a sz) := by
  refine g_met (cc := cX11_clipped) (maxL := 1) (ret := (some .int)) (by decide) rfl (Nat.le_of_ble_eq_true rfl) ?_
  intro p e s m below meth c ls hx hb hr hlocks hml hts hown hnm hsz hK hP hS hl
  subst hsz
  have hl : lv_has ls 1 [(0, .ref (a 18))] := hl
  refine lv_aload_n hx hb dX11_clipped_0 rfl (lv_at hl 0 rfl) ?_
  refine lv_aload_n hx hb dX11_clipped_1 rfl (lv_at hl 0 rfl) ?_
  refine g_get (ci := 11) (C := RX11) (T := TX11) (N := 2) (v := .ref (a 0)) hx hb hts iX11_clipped_X11 hown hK hP (by decide) cD_Mo rfl 1 (by decide) rfl (by decide +kernel) rfl dX11_clipped_2 ?_
  refine g_get (ci := 10) (C := RX10) (T := TX10) (N := 35) (v := .int (S 0 32)) hx hb hts iX11_clipped_X10 hown hK hP (lt_hn (by decide) (by decide)) cD_D rfl 32 (by decide) rfl (by decide +kernel) rfl dX11_clipped_5 ?_
  refine g_cVi (As := [.int (S 0 32)]) (rest := []) ⟨hx, hb, hml, hown, hts⟩ (c_X11_ok l G cA zq a ha S L s.heap.size (S 0 32)  ) (cwV 1 hts gX11_clipped_X11_ok rfl rfl rfl (by decide +kernel) ⟨Nat.le_of_ble_eq_true rfl, Nat.le_of_ble_eq_true rfl⟩) (g_recv hK hP (by decide) cD_Mo (C := RX11) (T := TX11) (N := 2) rfl) hK (mA_mono hS.1) hP hS rfl hl.1 rfl (lv_room (Nat.le_of_ble_eq_true rfl)) dX11_clipped_8 ⟨Nat.le_of_ble_eq_true rfl, Nat.le_of_ble_eq_true rfl⟩ (fun H locs hP hS _ _ => ?_)
  exact g_iret hx hb hr hlocks (by unfold rX11_clipped; rfl) (by unfold fX11_clipped; rfl) rfl hP hS dX11_clipped_11

def rX11_crossings (S : Mm) : Int32 := rX11_ok S (S 0 33)
def fX11_crossings (S : Mm) : Mm := fX11_ok S (S 0 33)
theorem iX11_crossings_X10 : ∀ w ∈ u_ws RX10 TX10 35, w ∈ wsX11_crossings := by decide +kernel
theorem iX11_crossings_X11 : ∀ w ∈ u_ws RX11 TX11 2, w ∈ wsX11_crossings := by decide +kernel
set_option maxHeartbeats 4000000 in
set_option maxRecDepth 100000 in
theorem c_X11_crossings (l : Launch) (G : va_G) (cA : ClassId) (zq : Nat) (a : Nat → Nat) (ha : apart 19 a) (S : Mm) (L : Int64) (sz : Nat)   : Met l yX11_crossings wsX11_crossings ({ frames := 1, cells := 0, slots := 0, locals := 21 } : Room) (va_Pc [.ref (a 18)] (gI G cA zq 19 a (cD a cA) S L sz)) (gQi (rX11_crossings S) G 19 a (cD a cA) (fX11_crossings S) L sz) 0 0 (mA 19 a sz) := by
  refine g_met (cc := cX11_crossings) (maxL := 1) (ret := (some .int)) (by decide) rfl (Nat.le_of_ble_eq_true rfl) ?_
  intro p e s m below meth c ls hx hb hr hlocks hml hts hown hnm hsz hK hP hS hl
  subst hsz
  have hl : lv_has ls 1 [(0, .ref (a 18))] := hl
  refine lv_aload_n hx hb dX11_crossings_0 rfl (lv_at hl 0 rfl) ?_
  refine lv_aload_n hx hb dX11_crossings_1 rfl (lv_at hl 0 rfl) ?_
  refine g_get (ci := 11) (C := RX11) (T := TX11) (N := 2) (v := .ref (a 0)) hx hb hts iX11_crossings_X11 hown hK hP (by decide) cD_Mo rfl 1 (by decide) rfl (by decide +kernel) rfl dX11_crossings_2 ?_
  refine g_get (ci := 10) (C := RX10) (T := TX10) (N := 35) (v := .int (S 0 33)) hx hb hts iX11_crossings_X10 hown hK hP (lt_hn (by decide) (by decide)) cD_D rfl 33 (by decide) rfl (by decide +kernel) rfl dX11_crossings_5 ?_
  refine g_cVi (As := [.int (S 0 33)]) (rest := []) ⟨hx, hb, hml, hown, hts⟩ (c_X11_ok l G cA zq a ha S L s.heap.size (S 0 33)  ) (cwV 1 hts gX11_crossings_X11_ok rfl rfl rfl (by decide +kernel) ⟨Nat.le_of_ble_eq_true rfl, Nat.le_of_ble_eq_true rfl⟩) (g_recv hK hP (by decide) cD_Mo (C := RX11) (T := TX11) (N := 2) rfl) hK (mA_mono hS.1) hP hS rfl hl.1 rfl (lv_room (Nat.le_of_ble_eq_true rfl)) dX11_crossings_8 ⟨Nat.le_of_ble_eq_true rfl, Nat.le_of_ble_eq_true rfl⟩ (fun H locs hP hS _ _ => ?_)
  exact g_iret hx hb hr hlocks (by unfold rX11_crossings; rfl) (by unfold fX11_crossings; rfl) rfl hP hS dX11_crossings_11

def rX11_reset (S : Mm) (L : Int64) : Int32 := (up2 S 18 0 0) 0 30
def fX11_reset (S : Mm) (L : Int64) : Mm := up2 (up2 (up2 (up2 (up2 S 18 0 0) 0 30 0) 0 31 0) 0 32 0) 0 33 0
def lX11_reset (S : Mm) (L : Int64) : Int64 := 0
theorem iX11_reset_X10 : ∀ w ∈ u_ws RX10 TX10 35, w ∈ wsX11_reset := by decide +kernel
theorem iX11_reset_X11 : ∀ w ∈ u_ws RX11 TX11 2, w ∈ wsX11_reset := by decide +kernel
set_option maxHeartbeats 4000000 in
set_option maxRecDepth 100000 in
theorem c_X11_reset (l : Launch) (G : va_G) (cA : ClassId) (zq : Nat) (a : Nat → Nat) (ha : apart 19 a) (S : Mm) (L : Int64) (sz : Nat)   : Met l yX11_reset wsX11_reset ({ frames := 0, cells := 0, slots := 0, locals := 0 } : Room) (va_Pc [.ref (a 18)] (gI G cA zq 19 a (cD a cA) S L sz)) (gQi (rX11_reset S L) G 19 a (cD a cA) (fX11_reset S L) (lX11_reset S L) sz) 0 0 (mA 19 a sz) := by
  refine g_met (cc := cX11_reset) (maxL := 2) (ret := (some .int)) (by decide) rfl (Nat.le_of_ble_eq_true rfl) ?_
  intro p e s m below meth c ls hx hb hr hlocks hml hts hown hnm hsz hK hP hS hl
  subst hsz
  have hl : lv_has ls 2 [(0, .ref (a 18))] := hl
  refine lv_aload_n hx hb dX11_reset_0 rfl (lv_at hl 0 rfl) ?_
  refine lv_iconst (v := 0) hx hb dX11_reset_1 (by decide) ?_
  refine g_put (ci := 11) (C := RX11) (T := TX11) (N := 2) (ty := .int) hx hb hts iX11_reset_X11 tyX11 tyX11_ok nmX11 hown hK ha mA_in hP hS (by decide) cD_Mo rfl 0 (by decide) rfl (by decide +kernel) rfl (by decide +kernel) rfl rfl (Nat.le_of_ble_eq_true rfl) (cD_Mo_set (by decide)) dX11_reset_2 (fun H locs hP hS => ?_)
  refine lv_aload_n hx hb dX11_reset_5 rfl (lv_at hl 0 rfl) ?_
  refine g_get (ci := 11) (C := RX11) (T := TX11) (N := 2) (v := .ref (a 0)) hx hb hts iX11_reset_X11 hown hK hP (by decide) cD_Mo rfl 1 (by decide) rfl (by decide +kernel) rfl dX11_reset_6 ?_
  refine g_get (ci := 10) (C := RX10) (T := TX10) (N := 35) (v := .int ((up2 S 18 0 0) 0 30)) hx hb hts iX11_reset_X10 hown hK hP (lt_hn (by decide) (by decide)) cD_D rfl 30 (by decide) rfl (by decide +kernel) rfl dX11_reset_9 ?_
  refine lv_istore_n (lv' := [(1, .int ((up2 S 18 0 0) 0 30)), (0, .ref (a 18))]) hx hb dX11_reset_12 rfl hl (by decide) rfl (fun ls hl => ?_)
  refine lv_aload_n hx hb dX11_reset_13 rfl (lv_at hl 1 rfl) ?_
  refine g_get (ci := 11) (C := RX11) (T := TX11) (N := 2) (v := .ref (a 0)) hx hb hts iX11_reset_X11 hown hK hP (by decide) cD_Mo rfl 1 (by decide) rfl (by decide +kernel) rfl dX11_reset_14 ?_
  refine lv_iconst (v := 0) hx hb dX11_reset_17 (by decide) ?_
  refine g_put (ci := 10) (C := RX10) (T := TX10) (N := 35) (ty := .int) hx hb hts iX11_reset_X10 tyX10 tyX10_ok nmX10 hown hK ha mA_in hP hS (lt_hn (by decide) (by decide)) cD_D rfl 30 (by decide) rfl (by decide +kernel) rfl (by decide +kernel) rfl rfl (Nat.le_of_ble_eq_true rfl) (cD_D_set (by decide)) dX11_reset_18 (fun H locs hP hS => ?_)
  refine lv_aload_n hx hb dX11_reset_21 rfl (lv_at hl 1 rfl) ?_
  refine g_get (ci := 11) (C := RX11) (T := TX11) (N := 2) (v := .ref (a 0)) hx hb hts iX11_reset_X11 hown hK hP (by decide) cD_Mo rfl 1 (by decide) rfl (by decide +kernel) rfl dX11_reset_22 ?_
  refine lv_iconst (v := 0) hx hb dX11_reset_25 (by decide) ?_
  refine g_put (ci := 10) (C := RX10) (T := TX10) (N := 35) (ty := .int) hx hb hts iX11_reset_X10 tyX10 tyX10_ok nmX10 hown hK ha mA_in hP hS (lt_hn (by decide) (by decide)) cD_D rfl 31 (by decide) rfl (by decide +kernel) rfl (by decide +kernel) rfl rfl (Nat.le_of_ble_eq_true rfl) (cD_D_set (by decide)) dX11_reset_26 (fun H locs hP hS => ?_)
  refine lv_aload_n hx hb dX11_reset_29 rfl (lv_at hl 1 rfl) ?_
  refine g_get (ci := 11) (C := RX11) (T := TX11) (N := 2) (v := .ref (a 0)) hx hb hts iX11_reset_X11 hown hK hP (by decide) cD_Mo rfl 1 (by decide) rfl (by decide +kernel) rfl dX11_reset_30 ?_
  refine lv_iconst (v := 0) hx hb dX11_reset_33 (by decide) ?_
  refine g_put (ci := 10) (C := RX10) (T := TX10) (N := 35) (ty := .int) hx hb hts iX11_reset_X10 tyX10 tyX10_ok nmX10 hown hK ha mA_in hP hS (lt_hn (by decide) (by decide)) cD_D rfl 32 (by decide) rfl (by decide +kernel) rfl (by decide +kernel) rfl rfl (Nat.le_of_ble_eq_true rfl) (cD_D_set (by decide)) dX11_reset_34 (fun H locs hP hS => ?_)
  refine lv_aload_n hx hb dX11_reset_37 rfl (lv_at hl 1 rfl) ?_
  refine g_get (ci := 11) (C := RX11) (T := TX11) (N := 2) (v := .ref (a 0)) hx hb hts iX11_reset_X11 hown hK hP (by decide) cD_Mo rfl 1 (by decide) rfl (by decide +kernel) rfl dX11_reset_38 ?_
  refine lv_iconst (v := 0) hx hb dX11_reset_41 (by decide) ?_
  refine g_put (ci := 10) (C := RX10) (T := TX10) (N := 35) (ty := .int) hx hb hts iX11_reset_X10 tyX10 tyX10_ok nmX10 hown hK ha mA_in hP hS (lt_hn (by decide) (by decide)) cD_D rfl 33 (by decide) rfl (by decide +kernel) rfl (by decide +kernel) rfl rfl (Nat.le_of_ble_eq_true rfl) (cD_D_set (by decide)) dX11_reset_42 (fun H locs hP hS => ?_)
  refine lv_aload_n hx hb dX11_reset_45 rfl (lv_at hl 1 rfl) ?_
  refine g_get (ci := 11) (C := RX11) (T := TX11) (N := 2) (v := .ref (a 0)) hx hb hts iX11_reset_X11 hown hK hP (by decide) cD_Mo rfl 1 (by decide) rfl (by decide +kernel) rfl dX11_reset_46 ?_
  refine lv_lconst (v := 0) hx hb dX11_reset_49 (by decide) ?_
  refine g_putL (ci := 10) (C := RX10) (T := TX10) (N := 35) hx hb hts iX11_reset_X10 tyX10 tyX10_ok nmX10 hown hK ha mA_in hP hS (lt_hn (by decide) (by decide)) cD_D rfl 34 (by decide) rfl (by decide +kernel) rfl (by decide +kernel) (Nat.le_of_ble_eq_true rfl) cD_D_L cD_oth dX11_reset_50 (fun H locs hP hS => ?_)
  refine lv_iload_n hx hb dX11_reset_53 rfl (lv_at hl 0 rfl) ?_
  exact g_iret hx hb hr hlocks (by unfold rX11_reset; rfl) (by unfold fX11_reset; rfl) (by unfold lX11_reset; rfl) hP hS dX11_reset_54

def rX11_voiceNow (S : Mm) (p1 : Int32) (p2 : Int32) : Int32 := (if p2 = 0 then S 3 p1.toNatClampNeg else (if p2 = 1 then S 4 p1.toNatClampNeg else (if p2 = 2 then S 5 p1.toNatClampNeg else (if p2 = 3 then S 6 p1.toNatClampNeg else (if p2 = 4 then S 7 p1.toNatClampNeg else (if p2 = 5 then S 8 p1.toNatClampNeg else (if p2 = 6 then S 9 p1.toNatClampNeg else (if p2 = 7 then S 10 p1.toNatClampNeg else (if p2 = 8 then S 11 p1.toNatClampNeg else S 12 p1.toNatClampNeg)))))))))
theorem iX11_voiceNow_X10 : ∀ w ∈ u_ws RX10 TX10 35, w ∈ wsX11_voiceNow := by decide +kernel
theorem iX11_voiceNow_X11 : ∀ w ∈ u_ws RX11 TX11 2, w ∈ wsX11_voiceNow := by decide +kernel
set_option maxHeartbeats 4000000 in
set_option maxRecDepth 100000 in
theorem c_X11_voiceNow (l : Launch) (G : va_G) (cA : ClassId) (zq : Nat) (a : Nat → Nat) (ha : apart 19 a) (S : Mm) (L : Int64) (sz : Nat) (p1 : Int32) (p2 : Int32)  (h1 : vp_in p1 4) : Met l yX11_voiceNow wsX11_voiceNow ({ frames := 0, cells := 0, slots := 0, locals := 0 } : Room) (va_Pc [.ref (a 18), .int p1, .int p2] (gI G cA zq 19 a (cD a cA) S L sz)) (gQi (rX11_voiceNow S p1 p2) G 19 a (cD a cA) S L sz) 0 0 (mA 19 a sz) := by
  refine g_met (cc := cX11_voiceNow) (maxL := 3) (ret := (some .int)) (by decide) rfl (Nat.le_of_ble_eq_true rfl) ?_
  intro p e s m below meth c ls hx hb hr hlocks hml hts hown hnm hsz hK hP hS hl
  subst hsz
  have hl : lv_has ls 3 [(0, .ref (a 18)), (1, .int p1), (2, .int p2)] := hl
  refine lv_iload_n hx hb dX11_voiceNow_0 rfl (lv_at hl 2 rfl) ?_
  by_cases c1 : p2 = 0
  ·
    refine lv_tableIn (off := 51) (tgt := 52) hx hb dX11_voiceNow_1 (by rw [c1]; decide) (by rw [c1]; decide) (by rw [c1]; rfl) (by decide) ?_
    refine lv_aload_n hx hb dX11_voiceNow_52 rfl (lv_at hl 0 rfl) ?_
    refine g_get (ci := 11) (C := RX11) (T := TX11) (N := 2) (v := .ref (a 0)) hx hb hts iX11_voiceNow_X11 hown hK hP (by decide) cD_Mo rfl 1 (by decide) rfl (by decide +kernel) rfl dX11_voiceNow_53 ?_
    refine g_get (ci := 10) (C := RX10) (T := TX10) (N := 35) (v := .ref (a 3)) hx hb hts iX11_voiceNow_X10 hown hK hP (lt_hn (by decide) (by decide)) cD_D rfl 2 (by decide) rfl (by decide +kernel) rfl dX11_voiceNow_56 ?_
    refine lv_iload_n hx hb dX11_voiceNow_59 rfl (lv_at hl 1 rfl) ?_
    refine g_iald (N := 4) (g := S 3) hx hb hK hP (lt_hn (by decide) (by decide)) rfl h1 dX11_voiceNow_60 ?_
    exact g_iret hx hb hr hlocks (by unfold rX11_voiceNow; rw [if_pos c1]) rfl rfl hP hS dX11_voiceNow_61
  ·
    by_cases c2 : p2 = 1
    ·
      refine lv_tableIn (off := 61) (tgt := 62) hx hb dX11_voiceNow_1 (by rw [c2]; decide) (by rw [c2]; decide) (by rw [c2]; rfl) (by decide) ?_
      refine lv_aload_n hx hb dX11_voiceNow_62 rfl (lv_at hl 0 rfl) ?_
      refine g_get (ci := 11) (C := RX11) (T := TX11) (N := 2) (v := .ref (a 0)) hx hb hts iX11_voiceNow_X11 hown hK hP (by decide) cD_Mo rfl 1 (by decide) rfl (by decide +kernel) rfl dX11_voiceNow_63 ?_
      refine g_get (ci := 10) (C := RX10) (T := TX10) (N := 35) (v := .ref (a 4)) hx hb hts iX11_voiceNow_X10 hown hK hP (lt_hn (by decide) (by decide)) cD_D rfl 3 (by decide) rfl (by decide +kernel) rfl dX11_voiceNow_66 ?_
      refine lv_iload_n hx hb dX11_voiceNow_69 rfl (lv_at hl 1 rfl) ?_
      refine g_iald (N := 4) (g := S 4) hx hb hK hP (lt_hn (by decide) (by decide)) rfl h1 dX11_voiceNow_70 ?_
      exact g_iret hx hb hr hlocks (by unfold rX11_voiceNow; rw [if_neg c1, if_pos c2]) rfl rfl hP hS dX11_voiceNow_71
    ·
      by_cases c3 : p2 = 2
      ·
        refine lv_tableIn (off := 71) (tgt := 72) hx hb dX11_voiceNow_1 (by rw [c3]; decide) (by rw [c3]; decide) (by rw [c3]; rfl) (by decide) ?_
        refine lv_aload_n hx hb dX11_voiceNow_72 rfl (lv_at hl 0 rfl) ?_
        refine g_get (ci := 11) (C := RX11) (T := TX11) (N := 2) (v := .ref (a 0)) hx hb hts iX11_voiceNow_X11 hown hK hP (by decide) cD_Mo rfl 1 (by decide) rfl (by decide +kernel) rfl dX11_voiceNow_73 ?_
        refine g_get (ci := 10) (C := RX10) (T := TX10) (N := 35) (v := .ref (a 5)) hx hb hts iX11_voiceNow_X10 hown hK hP (lt_hn (by decide) (by decide)) cD_D rfl 4 (by decide) rfl (by decide +kernel) rfl dX11_voiceNow_76 ?_
        refine lv_iload_n hx hb dX11_voiceNow_79 rfl (lv_at hl 1 rfl) ?_
        refine g_iald (N := 4) (g := S 5) hx hb hK hP (lt_hn (by decide) (by decide)) rfl h1 dX11_voiceNow_80 ?_
        exact g_iret hx hb hr hlocks (by unfold rX11_voiceNow; rw [if_neg c1, if_neg c2, if_pos c3]) rfl rfl hP hS dX11_voiceNow_81
      ·
        by_cases c4 : p2 = 3
        ·
          refine lv_tableIn (off := 81) (tgt := 82) hx hb dX11_voiceNow_1 (by rw [c4]; decide) (by rw [c4]; decide) (by rw [c4]; rfl) (by decide) ?_
          refine lv_aload_n hx hb dX11_voiceNow_82 rfl (lv_at hl 0 rfl) ?_
          refine g_get (ci := 11) (C := RX11) (T := TX11) (N := 2) (v := .ref (a 0)) hx hb hts iX11_voiceNow_X11 hown hK hP (by decide) cD_Mo rfl 1 (by decide) rfl (by decide +kernel) rfl dX11_voiceNow_83 ?_
          refine g_get (ci := 10) (C := RX10) (T := TX10) (N := 35) (v := .ref (a 6)) hx hb hts iX11_voiceNow_X10 hown hK hP (lt_hn (by decide) (by decide)) cD_D rfl 5 (by decide) rfl (by decide +kernel) rfl dX11_voiceNow_86 ?_
          refine lv_iload_n hx hb dX11_voiceNow_89 rfl (lv_at hl 1 rfl) ?_
          refine g_iald (N := 4) (g := S 6) hx hb hK hP (lt_hn (by decide) (by decide)) rfl h1 dX11_voiceNow_90 ?_
          exact g_iret hx hb hr hlocks (by unfold rX11_voiceNow; rw [if_neg c1, if_neg c2, if_neg c3, if_pos c4]) rfl rfl hP hS dX11_voiceNow_91
        ·
          by_cases c5 : p2 = 4
          ·
            refine lv_tableIn (off := 91) (tgt := 92) hx hb dX11_voiceNow_1 (by rw [c5]; decide) (by rw [c5]; decide) (by rw [c5]; rfl) (by decide) ?_
            refine lv_aload_n hx hb dX11_voiceNow_92 rfl (lv_at hl 0 rfl) ?_
            refine g_get (ci := 11) (C := RX11) (T := TX11) (N := 2) (v := .ref (a 0)) hx hb hts iX11_voiceNow_X11 hown hK hP (by decide) cD_Mo rfl 1 (by decide) rfl (by decide +kernel) rfl dX11_voiceNow_93 ?_
            refine g_get (ci := 10) (C := RX10) (T := TX10) (N := 35) (v := .ref (a 7)) hx hb hts iX11_voiceNow_X10 hown hK hP (lt_hn (by decide) (by decide)) cD_D rfl 6 (by decide) rfl (by decide +kernel) rfl dX11_voiceNow_96 ?_
            refine lv_iload_n hx hb dX11_voiceNow_99 rfl (lv_at hl 1 rfl) ?_
            refine g_iald (N := 4) (g := S 7) hx hb hK hP (lt_hn (by decide) (by decide)) rfl h1 dX11_voiceNow_100 ?_
            exact g_iret hx hb hr hlocks (by unfold rX11_voiceNow; rw [if_neg c1, if_neg c2, if_neg c3, if_neg c4, if_pos c5]) rfl rfl hP hS dX11_voiceNow_101
          ·
            by_cases c6 : p2 = 5
            ·
              refine lv_tableIn (off := 101) (tgt := 102) hx hb dX11_voiceNow_1 (by rw [c6]; decide) (by rw [c6]; decide) (by rw [c6]; rfl) (by decide) ?_
              refine lv_aload_n hx hb dX11_voiceNow_102 rfl (lv_at hl 0 rfl) ?_
              refine g_get (ci := 11) (C := RX11) (T := TX11) (N := 2) (v := .ref (a 0)) hx hb hts iX11_voiceNow_X11 hown hK hP (by decide) cD_Mo rfl 1 (by decide) rfl (by decide +kernel) rfl dX11_voiceNow_103 ?_
              refine g_get (ci := 10) (C := RX10) (T := TX10) (N := 35) (v := .ref (a 8)) hx hb hts iX11_voiceNow_X10 hown hK hP (lt_hn (by decide) (by decide)) cD_D rfl 7 (by decide) rfl (by decide +kernel) rfl dX11_voiceNow_106 ?_
              refine lv_iload_n hx hb dX11_voiceNow_109 rfl (lv_at hl 1 rfl) ?_
              refine g_iald (N := 4) (g := S 8) hx hb hK hP (lt_hn (by decide) (by decide)) rfl h1 dX11_voiceNow_110 ?_
              exact g_iret hx hb hr hlocks (by unfold rX11_voiceNow; rw [if_neg c1, if_neg c2, if_neg c3, if_neg c4, if_neg c5, if_pos c6]) rfl rfl hP hS dX11_voiceNow_111
            ·
              by_cases c7 : p2 = 6
              ·
                refine lv_tableIn (off := 111) (tgt := 112) hx hb dX11_voiceNow_1 (by rw [c7]; decide) (by rw [c7]; decide) (by rw [c7]; rfl) (by decide) ?_
                refine lv_aload_n hx hb dX11_voiceNow_112 rfl (lv_at hl 0 rfl) ?_
                refine g_get (ci := 11) (C := RX11) (T := TX11) (N := 2) (v := .ref (a 0)) hx hb hts iX11_voiceNow_X11 hown hK hP (by decide) cD_Mo rfl 1 (by decide) rfl (by decide +kernel) rfl dX11_voiceNow_113 ?_
                refine g_get (ci := 10) (C := RX10) (T := TX10) (N := 35) (v := .ref (a 9)) hx hb hts iX11_voiceNow_X10 hown hK hP (lt_hn (by decide) (by decide)) cD_D rfl 8 (by decide) rfl (by decide +kernel) rfl dX11_voiceNow_116 ?_
                refine lv_iload_n hx hb dX11_voiceNow_119 rfl (lv_at hl 1 rfl) ?_
                refine g_iald (N := 4) (g := S 9) hx hb hK hP (lt_hn (by decide) (by decide)) rfl h1 dX11_voiceNow_120 ?_
                exact g_iret hx hb hr hlocks (by unfold rX11_voiceNow; rw [if_neg c1, if_neg c2, if_neg c3, if_neg c4, if_neg c5, if_neg c6, if_pos c7]) rfl rfl hP hS dX11_voiceNow_121
              ·
                by_cases c8 : p2 = 7
                ·
                  refine lv_tableIn (off := 121) (tgt := 122) hx hb dX11_voiceNow_1 (by rw [c8]; decide) (by rw [c8]; decide) (by rw [c8]; rfl) (by decide) ?_
                  refine lv_aload_n hx hb dX11_voiceNow_122 rfl (lv_at hl 0 rfl) ?_
                  refine g_get (ci := 11) (C := RX11) (T := TX11) (N := 2) (v := .ref (a 0)) hx hb hts iX11_voiceNow_X11 hown hK hP (by decide) cD_Mo rfl 1 (by decide) rfl (by decide +kernel) rfl dX11_voiceNow_123 ?_
                  refine g_get (ci := 10) (C := RX10) (T := TX10) (N := 35) (v := .ref (a 10)) hx hb hts iX11_voiceNow_X10 hown hK hP (lt_hn (by decide) (by decide)) cD_D rfl 9 (by decide) rfl (by decide +kernel) rfl dX11_voiceNow_126 ?_
                  refine lv_iload_n hx hb dX11_voiceNow_129 rfl (lv_at hl 1 rfl) ?_
                  refine g_iald (N := 4) (g := S 10) hx hb hK hP (lt_hn (by decide) (by decide)) rfl h1 dX11_voiceNow_130 ?_
                  exact g_iret hx hb hr hlocks (by unfold rX11_voiceNow; rw [if_neg c1, if_neg c2, if_neg c3, if_neg c4, if_neg c5, if_neg c6, if_neg c7, if_pos c8]) rfl rfl hP hS dX11_voiceNow_131
                ·
                  by_cases c9 : p2 = 8
                  ·
                    refine lv_tableIn (off := 131) (tgt := 132) hx hb dX11_voiceNow_1 (by rw [c9]; decide) (by rw [c9]; decide) (by rw [c9]; rfl) (by decide) ?_
                    refine lv_aload_n hx hb dX11_voiceNow_132 rfl (lv_at hl 0 rfl) ?_
                    refine g_get (ci := 11) (C := RX11) (T := TX11) (N := 2) (v := .ref (a 0)) hx hb hts iX11_voiceNow_X11 hown hK hP (by decide) cD_Mo rfl 1 (by decide) rfl (by decide +kernel) rfl dX11_voiceNow_133 ?_
                    refine g_get (ci := 10) (C := RX10) (T := TX10) (N := 35) (v := .ref (a 11)) hx hb hts iX11_voiceNow_X10 hown hK hP (lt_hn (by decide) (by decide)) cD_D rfl 10 (by decide) rfl (by decide +kernel) rfl dX11_voiceNow_136 ?_
                    refine lv_iload_n hx hb dX11_voiceNow_139 rfl (lv_at hl 1 rfl) ?_
                    refine g_iald (N := 4) (g := S 11) hx hb hK hP (lt_hn (by decide) (by decide)) rfl h1 dX11_voiceNow_140 ?_
                    exact g_iret hx hb hr hlocks (by unfold rX11_voiceNow; rw [if_neg c1, if_neg c2, if_neg c3, if_neg c4, if_neg c5, if_neg c6, if_neg c7, if_neg c8, if_pos c9]) rfl rfl hP hS dX11_voiceNow_141
                  ·
                    refine lv_tableOut (tgt := 142) hx hb dX11_voiceNow_1 (by have := lv_neT c1 (a := 0) rfl; have := lv_neT c2 (a := 1) rfl; have := lv_neT c3 (a := 2) rfl; have := lv_neT c4 (a := 3) rfl; have := lv_neT c5 (a := 4) rfl; have := lv_neT c6 (a := 5) rfl; have := lv_neT c7 (a := 6) rfl; have := lv_neT c8 (a := 7) rfl; have := lv_neT c9 (a := 8) rfl; omega) (by decide) ?_
                    refine lv_aload_n hx hb dX11_voiceNow_142 rfl (lv_at hl 0 rfl) ?_
                    refine g_get (ci := 11) (C := RX11) (T := TX11) (N := 2) (v := .ref (a 0)) hx hb hts iX11_voiceNow_X11 hown hK hP (by decide) cD_Mo rfl 1 (by decide) rfl (by decide +kernel) rfl dX11_voiceNow_143 ?_
                    refine g_get (ci := 10) (C := RX10) (T := TX10) (N := 35) (v := .ref (a 12)) hx hb hts iX11_voiceNow_X10 hown hK hP (lt_hn (by decide) (by decide)) cD_D rfl 11 (by decide) rfl (by decide +kernel) rfl dX11_voiceNow_146 ?_
                    refine lv_iload_n hx hb dX11_voiceNow_149 rfl (lv_at hl 1 rfl) ?_
                    refine g_iald (N := 4) (g := S 12) hx hb hK hP (lt_hn (by decide) (by decide)) rfl h1 dX11_voiceNow_150 ?_
                    exact g_iret hx hb hr hlocks (by unfold rX11_voiceNow; rw [if_neg c1, if_neg c2, if_neg c3, if_neg c4, if_neg c5, if_neg c6, if_neg c7, if_neg c8, if_neg c9]) rfl rfl hP hS dX11_voiceNow_151

def rX11_ofVoice (S : Mm) (p1 : Int32) (p2 : Int32) : Int32 := (if rX11_isVoice p1 = 0 then rX11_no (up2 S 18 0 0) (1 : Int32) else (if rX11_isIn p2 (0 : Int32) (9 : Int32) = 0 then rX11_no (up2 S 18 0 0) (2 : Int32) else rX11_voiceNow (up2 S 18 0 0) p1 p2))
def fX11_ofVoice (S : Mm) (p1 : Int32) (p2 : Int32) : Mm := (if rX11_isVoice p1 = 0 then fX11_no (up2 S 18 0 0) (1 : Int32) else (if rX11_isIn p2 (0 : Int32) (9 : Int32) = 0 then fX11_no (up2 S 18 0 0) (2 : Int32) else up2 S 18 0 0))
theorem iX11_ofVoice_X11 : ∀ w ∈ u_ws RX11 TX11 2, w ∈ wsX11_ofVoice := by decide +kernel
set_option maxHeartbeats 4000000 in
set_option maxRecDepth 100000 in
theorem c_X11_ofVoice (l : Launch) (G : va_G) (cA : ClassId) (zq : Nat) (a : Nat → Nat) (ha : apart 19 a) (S : Mm) (L : Int64) (sz : Nat) (p1 : Int32) (p2 : Int32)  : Met l yX11_ofVoice wsX11_ofVoice ({ frames := 2, cells := 0, slots := 0, locals := 42 } : Room) (va_Pc [.ref (a 18), .int p1, .int p2] (gI G cA zq 19 a (cD a cA) S L sz)) (gQi (rX11_ofVoice S p1 p2) G 19 a (cD a cA) (fX11_ofVoice S p1 p2) L sz) 0 0 (mA 19 a sz) := by
  refine g_met (cc := cX11_ofVoice) (maxL := 3) (ret := (some .int)) (by decide) rfl (Nat.le_of_ble_eq_true rfl) ?_
  intro p e s m below meth c ls hx hb hr hlocks hml hts hown hnm hsz hK hP hS hl
  subst hsz
  have hl : lv_has ls 3 [(0, .ref (a 18)), (1, .int p1), (2, .int p2)] := hl
  refine lv_aload_n hx hb dX11_ofVoice_0 rfl (lv_at hl 0 rfl) ?_
  refine lv_iconst (v := 0) hx hb dX11_ofVoice_1 (by decide) ?_
  refine g_put (ci := 11) (C := RX11) (T := TX11) (N := 2) (ty := .int) hx hb hts iX11_ofVoice_X11 tyX11 tyX11_ok nmX11 hown hK ha mA_in hP hS (by decide) cD_Mo rfl 0 (by decide) rfl (by decide +kernel) rfl (by decide +kernel) rfl rfl (Nat.le_of_ble_eq_true rfl) (cD_Mo_set (by decide)) dX11_ofVoice_2 (fun H locs hP hS => ?_)
  refine lv_iload_n hx hb dX11_ofVoice_5 rfl (lv_at hl 1 rfl) ?_
  refine g_cSi (As := [.int p1]) (rest := []) ⟨hx, hb, hml, hown, hts⟩ (c_X11_isVoice l G cA zq a ha (up2 S 18 0 0) L H.size p1  ) (va_cwS 1 hts gX11_ofVoice_X11_isVoice rfl rfl rfl (by decide +kernel) ⟨Nat.le_of_ble_eq_true rfl, Nat.le_of_ble_eq_true rfl⟩) hK (mA_mono hS.1) hP hS rfl hl.1 rfl (lv_room (Nat.le_of_ble_eq_true rfl)) dX11_ofVoice_6 ⟨Nat.le_of_ble_eq_true rfl, Nat.le_of_ble_eq_true rfl⟩ (fun H locs hP hS _ _ => ?_)
  refine lv_if_ne (tgt := 18) hx hb dX11_ofVoice_9 (by decide) (fun c1 => ?_) (fun c1 => ?_)
  ·
    refine lv_iload_n hx hb dX11_ofVoice_18 rfl (lv_at hl 2 rfl) ?_
    refine lv_iconst (v := 0) hx hb dX11_ofVoice_19 (by decide) ?_
    refine lv_bipush (v := 9) hx hb dX11_ofVoice_20 (by decide) ?_
    refine g_cSi (As := [.int p2, .int 0, .int 9]) (rest := []) ⟨hx, hb, hml, hown, hts⟩ (c_X11_isIn l G cA zq 19 (by decide) a ha (up2 S 18 0 0) L H.size p2 (0 : Int32) (9 : Int32)  ) (va_cwS 3 hts gX11_ofVoice_X11_isIn rfl rfl rfl (by decide +kernel) ⟨Nat.le_of_ble_eq_true rfl, Nat.le_of_ble_eq_true rfl⟩) hK (mA_mono hS.1) hP hS rfl hl.1 rfl (lv_room (Nat.le_of_ble_eq_true rfl)) dX11_ofVoice_22 ⟨Nat.le_of_ble_eq_true rfl, Nat.le_of_ble_eq_true rfl⟩ (fun H locs hP hS _ _ => ?_)
    refine lv_if_eq (tgt := 37) hx hb dX11_ofVoice_25 (by decide) (fun c2 => ?_) (fun c2 => ?_)
    ·
      refine lv_aload_n hx hb dX11_ofVoice_37 rfl (lv_at hl 0 rfl) ?_
      refine lv_iconst (v := 2) hx hb dX11_ofVoice_38 (by decide) ?_
      refine g_cVi (As := [.int 2]) (rest := []) ⟨hx, hb, hml, hown, hts⟩ (c_X11_no l G cA zq a ha (up2 S 18 0 0) L H.size (2 : Int32)  ) (cwV 1 hts gX11_ofVoice_X11_no rfl rfl rfl (by decide +kernel) ⟨Nat.le_of_ble_eq_true rfl, Nat.le_of_ble_eq_true rfl⟩) (g_recv hK hP (by decide) cD_Mo (C := RX11) (T := TX11) (N := 2) rfl) hK (mA_mono hS.1) hP hS rfl hl.1 rfl (lv_room (Nat.le_of_ble_eq_true rfl)) dX11_ofVoice_39 ⟨Nat.le_of_ble_eq_true rfl, Nat.le_of_ble_eq_true rfl⟩ (fun H locs hP hS _ _ => ?_)
      exact g_iret hx hb hr hlocks (by unfold rX11_ofVoice; rw [if_neg c1, if_pos c2]) (by unfold fX11_ofVoice; rw [if_neg c1, if_pos c2]) rfl hP hS dX11_ofVoice_42
    ·
      refine lv_aload_n hx hb dX11_ofVoice_28 rfl (lv_at hl 0 rfl) ?_
      refine lv_iload_n hx hb dX11_ofVoice_29 rfl (lv_at hl 1 rfl) ?_
      refine lv_iload_n hx hb dX11_ofVoice_30 rfl (lv_at hl 2 rfl) ?_
      refine g_cVi (As := [.int p1, .int p2]) (rest := []) ⟨hx, hb, hml, hown, hts⟩ (c_X11_voiceNow l G cA zq a ha (up2 S 18 0 0) L H.size p1 p2  (isIn_vp (by unfold rX11_isVoice at c1; exact c1) (by decide))) (cwV 2 hts gX11_ofVoice_X11_voiceNow rfl rfl rfl (by decide +kernel) ⟨Nat.le_of_ble_eq_true rfl, Nat.le_of_ble_eq_true rfl⟩) (g_recv hK hP (by decide) cD_Mo (C := RX11) (T := TX11) (N := 2) rfl) hK (mA_mono hS.1) hP hS rfl hl.1 rfl (lv_room (Nat.le_of_ble_eq_true rfl)) dX11_ofVoice_31 ⟨Nat.le_of_ble_eq_true rfl, Nat.le_of_ble_eq_true rfl⟩ (fun H locs hP hS _ _ => ?_)
      refine lv_goto (tgt := 42) hx hb dX11_ofVoice_34 (by decide) ?_
      exact g_iret hx hb hr hlocks (by unfold rX11_ofVoice; rw [if_neg c1, if_neg c2]) (by unfold fX11_ofVoice; rw [if_neg c1, if_neg c2]) rfl hP hS dX11_ofVoice_42
  ·
    refine lv_aload_n hx hb dX11_ofVoice_12 rfl (lv_at hl 0 rfl) ?_
    refine lv_iconst (v := 1) hx hb dX11_ofVoice_13 (by decide) ?_
    refine g_cVi (As := [.int 1]) (rest := []) ⟨hx, hb, hml, hown, hts⟩ (c_X11_no l G cA zq a ha (up2 S 18 0 0) L H.size (1 : Int32)  ) (cwV 1 hts gX11_ofVoice_X11_no rfl rfl rfl (by decide +kernel) ⟨Nat.le_of_ble_eq_true rfl, Nat.le_of_ble_eq_true rfl⟩) (g_recv hK hP (by decide) cD_Mo (C := RX11) (T := TX11) (N := 2) rfl) hK (mA_mono hS.1) hP hS rfl hl.1 rfl (lv_room (Nat.le_of_ble_eq_true rfl)) dX11_ofVoice_14 ⟨Nat.le_of_ble_eq_true rfl, Nat.le_of_ble_eq_true rfl⟩ (fun H locs hP hS _ _ => ?_)
    exact g_iret hx hb hr hlocks (by unfold rX11_ofVoice; rw [if_pos c1]) (by unfold fX11_ofVoice; rw [if_pos c1]) rfl hP hS dX11_ofVoice_17

def rX11_sounding (S : Mm) : Int32 := rX11_ok S (rX10_sounding S)
def fX11_sounding (S : Mm) : Mm := fX11_ok S (rX10_sounding S)
theorem iX11_sounding_X11 : ∀ w ∈ u_ws RX11 TX11 2, w ∈ wsX11_sounding := by decide +kernel
set_option maxHeartbeats 4000000 in
set_option maxRecDepth 100000 in
theorem c_X11_sounding (l : Launch) (G : va_G) (cA : ClassId) (zq : Nat) (a : Nat → Nat) (ha : apart 19 a) (S : Mm) (L : Int64) (sz : Nat)   : Met l yX11_sounding wsX11_sounding ({ frames := 1, cells := 0, slots := 0, locals := 22 } : Room) (va_Pc [.ref (a 18)] (gI G cA zq 19 a (cD a cA) S L sz)) (gQi (rX11_sounding S) G 19 a (cD a cA) (fX11_sounding S) L sz) 0 0 (mA 19 a sz) := by
  refine g_met (cc := cX11_sounding) (maxL := 1) (ret := (some .int)) (by decide) rfl (Nat.le_of_ble_eq_true rfl) ?_
  intro p e s m below meth c ls hx hb hr hlocks hml hts hown hnm hsz hK hP hS hl
  subst hsz
  have hl : lv_has ls 1 [(0, .ref (a 18))] := hl
  refine lv_aload_n hx hb dX11_sounding_0 rfl (lv_at hl 0 rfl) ?_
  refine lv_aload_n hx hb dX11_sounding_1 rfl (lv_at hl 0 rfl) ?_
  refine g_get (ci := 11) (C := RX11) (T := TX11) (N := 2) (v := .ref (a 0)) hx hb hts iX11_sounding_X11 hown hK hP (by decide) cD_Mo rfl 1 (by decide) rfl (by decide +kernel) rfl dX11_sounding_2 ?_
  refine g_cVi (As := []) (rest := [.ref (a 18)]) ⟨hx, hb, hml, hown, hts⟩ (c_X10_sounding l G cA zq 19 (by decide) a ha S L s.heap.size   ) (cwV 0 hts gX11_sounding_X10_sounding rfl rfl rfl (by decide +kernel) ⟨Nat.le_of_ble_eq_true rfl, Nat.le_of_ble_eq_true rfl⟩) (g_recv hK hP (lt_hn (by decide) (by decide)) cD_D (C := RX10) (T := TX10) (N := 35) rfl) hK (mA_mono hS.1) hP hS rfl hl.1 rfl (lv_room (Nat.le_of_ble_eq_true rfl)) dX11_sounding_5 ⟨Nat.le_of_ble_eq_true rfl, Nat.le_of_ble_eq_true rfl⟩ (fun H locs hP hS _ _ => ?_)
  refine g_cVi (As := [.int (rX10_sounding S)]) (rest := []) ⟨hx, hb, hml, hown, hts⟩ (c_X11_ok l G cA zq a ha S L H.size (rX10_sounding S)  ) (cwV 1 hts gX11_sounding_X11_ok rfl rfl rfl (by decide +kernel) ⟨Nat.le_of_ble_eq_true rfl, Nat.le_of_ble_eq_true rfl⟩) (g_recv hK hP (by decide) cD_Mo (C := RX11) (T := TX11) (N := 2) rfl) hK (mA_mono hS.1) hP hS rfl hl.1 rfl (lv_room (Nat.le_of_ble_eq_true rfl)) dX11_sounding_8 ⟨Nat.le_of_ble_eq_true rfl, Nat.le_of_ble_eq_true rfl⟩ (fun H locs hP hS _ _ => ?_)
  exact g_iret hx hb hr hlocks (by unfold rX11_sounding; rfl) (by unfold fX11_sounding; rfl) rfl hP hS dX11_sounding_11

def rX11_taken (S : Mm) : Int32 := rX11_ok S (S 0 14)
def fX11_taken (S : Mm) : Mm := fX11_ok S (S 0 14)
theorem iX11_taken_X10 : ∀ w ∈ u_ws RX10 TX10 35, w ∈ wsX11_taken := by decide +kernel
theorem iX11_taken_X11 : ∀ w ∈ u_ws RX11 TX11 2, w ∈ wsX11_taken := by decide +kernel
set_option maxHeartbeats 4000000 in
set_option maxRecDepth 100000 in
theorem c_X11_taken (l : Launch) (G : va_G) (cA : ClassId) (zq : Nat) (a : Nat → Nat) (ha : apart 19 a) (S : Mm) (L : Int64) (sz : Nat)   : Met l yX11_taken wsX11_taken ({ frames := 1, cells := 0, slots := 0, locals := 21 } : Room) (va_Pc [.ref (a 18)] (gI G cA zq 19 a (cD a cA) S L sz)) (gQi (rX11_taken S) G 19 a (cD a cA) (fX11_taken S) L sz) 0 0 (mA 19 a sz) := by
  refine g_met (cc := cX11_taken) (maxL := 1) (ret := (some .int)) (by decide) rfl (Nat.le_of_ble_eq_true rfl) ?_
  intro p e s m below meth c ls hx hb hr hlocks hml hts hown hnm hsz hK hP hS hl
  subst hsz
  have hl : lv_has ls 1 [(0, .ref (a 18))] := hl
  refine lv_aload_n hx hb dX11_taken_0 rfl (lv_at hl 0 rfl) ?_
  refine lv_aload_n hx hb dX11_taken_1 rfl (lv_at hl 0 rfl) ?_
  refine g_get (ci := 11) (C := RX11) (T := TX11) (N := 2) (v := .ref (a 0)) hx hb hts iX11_taken_X11 hown hK hP (by decide) cD_Mo rfl 1 (by decide) rfl (by decide +kernel) rfl dX11_taken_2 ?_
  refine g_get (ci := 10) (C := RX10) (T := TX10) (N := 35) (v := .int (S 0 14)) hx hb hts iX11_taken_X10 hown hK hP (lt_hn (by decide) (by decide)) cD_D rfl 14 (by decide) rfl (by decide +kernel) rfl dX11_taken_5 ?_
  refine g_cVi (As := [.int (S 0 14)]) (rest := []) ⟨hx, hb, hml, hown, hts⟩ (c_X11_ok l G cA zq a ha S L s.heap.size (S 0 14)  ) (cwV 1 hts gX11_taken_X11_ok rfl rfl rfl (by decide +kernel) ⟨Nat.le_of_ble_eq_true rfl, Nat.le_of_ble_eq_true rfl⟩) (g_recv hK hP (by decide) cD_Mo (C := RX11) (T := TX11) (N := 2) rfl) hK (mA_mono hS.1) hP hS rfl hl.1 rfl (lv_room (Nat.le_of_ble_eq_true rfl)) dX11_taken_8 ⟨Nat.le_of_ble_eq_true rfl, Nat.le_of_ble_eq_true rfl⟩ (fun H locs hP hS _ _ => ?_)
  exact g_iret hx hb hr hlocks (by unfold rX11_taken; rfl) (by unfold fX11_taken; rfl) rfl hP hS dX11_taken_11

def rX11_isPlaying (S : Mm) : Int32 := (up2 S 18 0 0) 0 24
def fX11_isPlaying (S : Mm) : Mm := up2 S 18 0 0
theorem iX11_isPlaying_X10 : ∀ w ∈ u_ws RX10 TX10 35, w ∈ wsX11_isPlaying := by decide +kernel
theorem iX11_isPlaying_X11 : ∀ w ∈ u_ws RX11 TX11 2, w ∈ wsX11_isPlaying := by decide +kernel
set_option maxHeartbeats 4000000 in
set_option maxRecDepth 100000 in
theorem c_X11_isPlaying (l : Launch) (G : va_G) (cA : ClassId) (zq : Nat) (a : Nat → Nat) (ha : apart 19 a) (S : Mm) (L : Int64) (sz : Nat)   (hbn1 : narrow .boolean (.int ((up2 S 18 0 0) 0 24)) = .int ((up2 S 18 0 0) 0 24)) : Met l yX11_isPlaying wsX11_isPlaying ({ frames := 0, cells := 0, slots := 0, locals := 0 } : Room) (va_Pc [.ref (a 18)] (gI G cA zq 19 a (cD a cA) S L sz)) (gQi (rX11_isPlaying S) G 19 a (cD a cA) (fX11_isPlaying S) L sz) 0 0 (mA 19 a sz) := by
  refine g_met (cc := cX11_isPlaying) (maxL := 1) (ret := (some .boolean)) (by decide) rfl (Nat.le_of_ble_eq_true rfl) ?_
  intro p e s m below meth c ls hx hb hr hlocks hml hts hown hnm hsz hK hP hS hl
  subst hsz
  have hl : lv_has ls 1 [(0, .ref (a 18))] := hl
  refine lv_aload_n hx hb dX11_isPlaying_0 rfl (lv_at hl 0 rfl) ?_
  refine lv_iconst (v := 0) hx hb dX11_isPlaying_1 (by decide) ?_
  refine g_put (ci := 11) (C := RX11) (T := TX11) (N := 2) (ty := .int) hx hb hts iX11_isPlaying_X11 tyX11 tyX11_ok nmX11 hown hK ha mA_in hP hS (by decide) cD_Mo rfl 0 (by decide) rfl (by decide +kernel) rfl (by decide +kernel) rfl rfl (Nat.le_of_ble_eq_true rfl) (cD_Mo_set (by decide)) dX11_isPlaying_2 (fun H locs hP hS => ?_)
  refine lv_aload_n hx hb dX11_isPlaying_5 rfl (lv_at hl 0 rfl) ?_
  refine g_get (ci := 11) (C := RX11) (T := TX11) (N := 2) (v := .ref (a 0)) hx hb hts iX11_isPlaying_X11 hown hK hP (by decide) cD_Mo rfl 1 (by decide) rfl (by decide +kernel) rfl dX11_isPlaying_6 ?_
  refine g_get (ci := 10) (C := RX10) (T := TX10) (N := 35) (v := .int ((up2 S 18 0 0) 0 24)) hx hb hts iX11_isPlaying_X10 hown hK hP (lt_hn (by decide) (by decide)) cD_D rfl 24 (by decide) rfl (by decide +kernel) rfl dX11_isPlaying_9 ?_
  exact g_zret hx hb hr hlocks hbn1 (by unfold rX11_isPlaying; rfl) (by unfold fX11_isPlaying; rfl) rfl hP hS dX11_isPlaying_12

def rX11_step (S : Mm) : Int32 := rX11_ok S (rX11_stepNow S)
def fX11_step (S : Mm) : Mm := fX11_ok S (rX11_stepNow S)
set_option maxHeartbeats 4000000 in
set_option maxRecDepth 100000 in
theorem c_X11_step (l : Launch) (G : va_G) (cA : ClassId) (zq : Nat) (a : Nat → Nat) (ha : apart 19 a) (S : Mm) (L : Int64) (sz : Nat)   : Met l yX11_step wsX11_step ({ frames := 1, cells := 0, slots := 0, locals := 21 } : Room) (va_Pc [.ref (a 18)] (gI G cA zq 19 a (cD a cA) S L sz)) (gQi (rX11_step S) G 19 a (cD a cA) (fX11_step S) L sz) 0 0 (mA 19 a sz) := by
  refine g_met (cc := cX11_step) (maxL := 1) (ret := (some .int)) (by decide) rfl (Nat.le_of_ble_eq_true rfl) ?_
  intro p e s m below meth c ls hx hb hr hlocks hml hts hown hnm hsz hK hP hS hl
  subst hsz
  have hl : lv_has ls 1 [(0, .ref (a 18))] := hl
  refine lv_aload_n hx hb dX11_step_0 rfl (lv_at hl 0 rfl) ?_
  refine lv_aload_n hx hb dX11_step_1 rfl (lv_at hl 0 rfl) ?_
  refine g_cVi (As := []) (rest := [.ref (a 18)]) ⟨hx, hb, hml, hown, hts⟩ (c_X11_stepNow l G cA zq a ha S L s.heap.size   ) (cwV 0 hts gX11_step_X11_stepNow rfl rfl rfl (by decide +kernel) ⟨Nat.le_of_ble_eq_true rfl, Nat.le_of_ble_eq_true rfl⟩) (g_recv hK hP (by decide) cD_Mo (C := RX11) (T := TX11) (N := 2) rfl) hK (mA_mono hS.1) hP hS rfl hl.1 rfl (lv_room (Nat.le_of_ble_eq_true rfl)) dX11_step_2 ⟨Nat.le_of_ble_eq_true rfl, Nat.le_of_ble_eq_true rfl⟩ (fun H locs hP hS _ _ => ?_)
  refine g_cVi (As := [.int (rX11_stepNow S)]) (rest := []) ⟨hx, hb, hml, hown, hts⟩ (c_X11_ok l G cA zq a ha S L H.size (rX11_stepNow S)  ) (cwV 1 hts gX11_step_X11_ok rfl rfl rfl (by decide +kernel) ⟨Nat.le_of_ble_eq_true rfl, Nat.le_of_ble_eq_true rfl⟩) (g_recv hK hP (by decide) cD_Mo (C := RX11) (T := TX11) (N := 2) rfl) hK (mA_mono hS.1) hP hS rfl hl.1 rfl (lv_room (Nat.le_of_ble_eq_true rfl)) dX11_step_5 ⟨Nat.le_of_ble_eq_true rfl, Nat.le_of_ble_eq_true rfl⟩ (fun H locs hP hS _ _ => ?_)
  exact g_iret hx hb hr hlocks (by unfold rX11_step; rfl) (by unfold fX11_step; rfl) rfl hP hS dX11_step_8

def rX11_ofStep (S : Mm) (p1 : Int32) (p2 : Int32) (p3 : Int32) : Int32 := (if rX11_isIn p1 (0 : Int32) (2 : Int32) = 0 then rX11_no (up2 S 18 0 0) (1 : Int32) else (if rX11_isStep p2 = 0 then rX11_no (up2 S 18 0 0) (1 : Int32) else (if rX11_isIn p3 (0 : Int32) (2 : Int32) = 0 then rX11_no (up2 S 18 0 0) (2 : Int32) else (up2 S 18 0 0) 16 ((((p1 * 8) + p2) * 3) + p3).toNatClampNeg)))
def fX11_ofStep (S : Mm) (p1 : Int32) (p2 : Int32) (p3 : Int32) : Mm := (if rX11_isIn p1 (0 : Int32) (2 : Int32) = 0 then fX11_no (up2 S 18 0 0) (1 : Int32) else (if rX11_isStep p2 = 0 then fX11_no (up2 S 18 0 0) (1 : Int32) else (if rX11_isIn p3 (0 : Int32) (2 : Int32) = 0 then fX11_no (up2 S 18 0 0) (2 : Int32) else up2 S 18 0 0)))
theorem iX11_ofStep_X10 : ∀ w ∈ u_ws RX10 TX10 35, w ∈ wsX11_ofStep := by decide +kernel
theorem iX11_ofStep_X11 : ∀ w ∈ u_ws RX11 TX11 2, w ∈ wsX11_ofStep := by decide +kernel
set_option maxHeartbeats 4000000 in
set_option maxRecDepth 100000 in
theorem c_X11_ofStep (l : Launch) (G : va_G) (cA : ClassId) (zq : Nat) (a : Nat → Nat) (ha : apart 19 a) (S : Mm) (L : Int64) (sz : Nat) (p1 : Int32) (p2 : Int32) (p3 : Int32)  : Met l yX11_ofStep wsX11_ofStep ({ frames := 2, cells := 0, slots := 0, locals := 42 } : Room) (va_Pc [.ref (a 18), .int p1, .int p2, .int p3] (gI G cA zq 19 a (cD a cA) S L sz)) (gQi (rX11_ofStep S p1 p2 p3) G 19 a (cD a cA) (fX11_ofStep S p1 p2 p3) L sz) 0 0 (mA 19 a sz) := by
  refine g_met (cc := cX11_ofStep) (maxL := 4) (ret := (some .int)) (by decide) rfl (Nat.le_of_ble_eq_true rfl) ?_
  intro p e s m below meth c ls hx hb hr hlocks hml hts hown hnm hsz hK hP hS hl
  subst hsz
  have hl : lv_has ls 4 [(0, .ref (a 18)), (1, .int p1), (2, .int p2), (3, .int p3)] := hl
  refine lv_aload_n hx hb dX11_ofStep_0 rfl (lv_at hl 0 rfl) ?_
  refine lv_iconst (v := 0) hx hb dX11_ofStep_1 (by decide) ?_
  refine g_put (ci := 11) (C := RX11) (T := TX11) (N := 2) (ty := .int) hx hb hts iX11_ofStep_X11 tyX11 tyX11_ok nmX11 hown hK ha mA_in hP hS (by decide) cD_Mo rfl 0 (by decide) rfl (by decide +kernel) rfl (by decide +kernel) rfl rfl (Nat.le_of_ble_eq_true rfl) (cD_Mo_set (by decide)) dX11_ofStep_2 (fun H locs hP hS => ?_)
  refine lv_iload_n hx hb dX11_ofStep_5 rfl (lv_at hl 1 rfl) ?_
  refine lv_iconst (v := 0) hx hb dX11_ofStep_6 (by decide) ?_
  refine lv_iconst (v := 2) hx hb dX11_ofStep_7 (by decide) ?_
  refine g_cSi (As := [.int p1, .int 0, .int 2]) (rest := []) ⟨hx, hb, hml, hown, hts⟩ (c_X11_isIn l G cA zq 19 (by decide) a ha (up2 S 18 0 0) L H.size p1 (0 : Int32) (2 : Int32)  ) (va_cwS 3 hts gX11_ofStep_X11_isIn rfl rfl rfl (by decide +kernel) ⟨Nat.le_of_ble_eq_true rfl, Nat.le_of_ble_eq_true rfl⟩) hK (mA_mono hS.1) hP hS rfl hl.1 rfl (lv_room (Nat.le_of_ble_eq_true rfl)) dX11_ofStep_8 ⟨Nat.le_of_ble_eq_true rfl, Nat.le_of_ble_eq_true rfl⟩ (fun H locs hP hS _ _ => ?_)
  refine lv_if_eq (tgt := 21) hx hb dX11_ofStep_11 (by decide) (fun c1 => ?_) (fun c1 => ?_)
  ·
    refine lv_aload_n hx hb dX11_ofStep_21 rfl (lv_at hl 0 rfl) ?_
    refine lv_iconst (v := 1) hx hb dX11_ofStep_22 (by decide) ?_
    refine g_cVi (As := [.int 1]) (rest := []) ⟨hx, hb, hml, hown, hts⟩ (c_X11_no l G cA zq a ha (up2 S 18 0 0) L H.size (1 : Int32)  ) (cwV 1 hts gX11_ofStep_X11_no rfl rfl rfl (by decide +kernel) ⟨Nat.le_of_ble_eq_true rfl, Nat.le_of_ble_eq_true rfl⟩) (g_recv hK hP (by decide) cD_Mo (C := RX11) (T := TX11) (N := 2) rfl) hK (mA_mono hS.1) hP hS rfl hl.1 rfl (lv_room (Nat.le_of_ble_eq_true rfl)) dX11_ofStep_23 ⟨Nat.le_of_ble_eq_true rfl, Nat.le_of_ble_eq_true rfl⟩ (fun H locs hP hS _ _ => ?_)
    exact g_iret hx hb hr hlocks (by unfold rX11_ofStep; rw [if_pos c1]) (by unfold fX11_ofStep; rw [if_pos c1]) rfl hP hS dX11_ofStep_26
  ·
    refine lv_iload_n hx hb dX11_ofStep_14 rfl (lv_at hl 2 rfl) ?_
    refine g_cSi (As := [.int p2]) (rest := []) ⟨hx, hb, hml, hown, hts⟩ (c_X11_isStep l G cA zq a ha (up2 S 18 0 0) L H.size p2  ) (va_cwS 1 hts gX11_ofStep_X11_isStep rfl rfl rfl (by decide +kernel) ⟨Nat.le_of_ble_eq_true rfl, Nat.le_of_ble_eq_true rfl⟩) hK (mA_mono hS.1) hP hS rfl hl.1 rfl (lv_room (Nat.le_of_ble_eq_true rfl)) dX11_ofStep_15 ⟨Nat.le_of_ble_eq_true rfl, Nat.le_of_ble_eq_true rfl⟩ (fun H locs hP hS _ _ => ?_)
    refine lv_if_ne (tgt := 27) hx hb dX11_ofStep_18 (by decide) (fun c2 => ?_) (fun c2 => ?_)
    ·
      refine lv_iload_n hx hb dX11_ofStep_27 rfl (lv_at hl 3 rfl) ?_
      refine lv_iconst (v := 0) hx hb dX11_ofStep_28 (by decide) ?_
      refine lv_iconst (v := 2) hx hb dX11_ofStep_29 (by decide) ?_
      refine g_cSi (As := [.int p3, .int 0, .int 2]) (rest := []) ⟨hx, hb, hml, hown, hts⟩ (c_X11_isIn l G cA zq 19 (by decide) a ha (up2 S 18 0 0) L H.size p3 (0 : Int32) (2 : Int32)  ) (va_cwS 3 hts gX11_ofStep_X11_isIn rfl rfl rfl (by decide +kernel) ⟨Nat.le_of_ble_eq_true rfl, Nat.le_of_ble_eq_true rfl⟩) hK (mA_mono hS.1) hP hS rfl hl.1 rfl (lv_room (Nat.le_of_ble_eq_true rfl)) dX11_ofStep_30 ⟨Nat.le_of_ble_eq_true rfl, Nat.le_of_ble_eq_true rfl⟩ (fun H locs hP hS _ _ => ?_)
      refine lv_if_eq (tgt := 57) hx hb dX11_ofStep_33 (by decide) (fun c3 => ?_) (fun c3 => ?_)
      ·
        refine lv_aload_n hx hb dX11_ofStep_57 rfl (lv_at hl 0 rfl) ?_
        refine lv_iconst (v := 2) hx hb dX11_ofStep_58 (by decide) ?_
        refine g_cVi (As := [.int 2]) (rest := []) ⟨hx, hb, hml, hown, hts⟩ (c_X11_no l G cA zq a ha (up2 S 18 0 0) L H.size (2 : Int32)  ) (cwV 1 hts gX11_ofStep_X11_no rfl rfl rfl (by decide +kernel) ⟨Nat.le_of_ble_eq_true rfl, Nat.le_of_ble_eq_true rfl⟩) (g_recv hK hP (by decide) cD_Mo (C := RX11) (T := TX11) (N := 2) rfl) hK (mA_mono hS.1) hP hS rfl hl.1 rfl (lv_room (Nat.le_of_ble_eq_true rfl)) dX11_ofStep_59 ⟨Nat.le_of_ble_eq_true rfl, Nat.le_of_ble_eq_true rfl⟩ (fun H locs hP hS _ _ => ?_)
        exact g_iret hx hb hr hlocks (by unfold rX11_ofStep; rw [if_neg c1, if_neg c2, if_pos c3]) (by unfold fX11_ofStep; rw [if_neg c1, if_neg c2, if_pos c3]) rfl hP hS dX11_ofStep_62
      ·
        refine lv_aload_n hx hb dX11_ofStep_36 rfl (lv_at hl 0 rfl) ?_
        refine g_get (ci := 11) (C := RX11) (T := TX11) (N := 2) (v := .ref (a 0)) hx hb hts iX11_ofStep_X11 hown hK hP (by decide) cD_Mo rfl 1 (by decide) rfl (by decide +kernel) rfl dX11_ofStep_37 ?_
        refine g_get (ci := 10) (C := RX10) (T := TX10) (N := 35) (v := .ref (a 16)) hx hb hts iX11_ofStep_X10 hown hK hP (lt_hn (by decide) (by decide)) cD_D rfl 21 (by decide) rfl (by decide +kernel) rfl dX11_ofStep_40 ?_
        refine lv_iload_n hx hb dX11_ofStep_43 rfl (lv_at hl 1 rfl) ?_
        refine lv_bipush (v := 8) hx hb dX11_ofStep_44 (by decide) ?_
        refine lv_imul hx hb dX11_ofStep_46 ?_
        refine lv_iload_n hx hb dX11_ofStep_47 rfl (lv_at hl 2 rfl) ?_
        refine lv_iadd hx hb dX11_ofStep_48 ?_
        refine lv_iconst (v := 3) hx hb dX11_ofStep_49 (by decide) ?_
        refine lv_imul hx hb dX11_ofStep_50 ?_
        refine lv_iload_n hx hb dX11_ofStep_51 rfl (lv_at hl 3 rfl) ?_
        refine lv_iadd hx hb dX11_ofStep_52 ?_
        refine g_iald (N := 72) (g := (up2 S 18 0 0) 16) hx hb hK hP (lt_hn (by decide) (by decide)) rfl (in_gridS (isIn_vp c1 (by decide)) (isIn_vp (by unfold rX11_isStep at c2; exact c2) (by decide)) (isIn_vp c3 (by decide))) dX11_ofStep_53 ?_
        refine lv_goto (tgt := 62) hx hb dX11_ofStep_54 (by decide) ?_
        exact g_iret hx hb hr hlocks (by unfold rX11_ofStep; rw [if_neg c1, if_neg c2, if_neg c3]) (by unfold fX11_ofStep; rw [if_neg c1, if_neg c2, if_neg c3]) rfl hP hS dX11_ofStep_62
    ·
      refine lv_aload_n hx hb dX11_ofStep_21 rfl (lv_at hl 0 rfl) ?_
      refine lv_iconst (v := 1) hx hb dX11_ofStep_22 (by decide) ?_
      refine g_cVi (As := [.int 1]) (rest := []) ⟨hx, hb, hml, hown, hts⟩ (c_X11_no l G cA zq a ha (up2 S 18 0 0) L H.size (1 : Int32)  ) (cwV 1 hts gX11_ofStep_X11_no rfl rfl rfl (by decide +kernel) ⟨Nat.le_of_ble_eq_true rfl, Nat.le_of_ble_eq_true rfl⟩) (g_recv hK hP (by decide) cD_Mo (C := RX11) (T := TX11) (N := 2) rfl) hK (mA_mono hS.1) hP hS rfl hl.1 rfl (lv_room (Nat.le_of_ble_eq_true rfl)) dX11_ofStep_23 ⟨Nat.le_of_ble_eq_true rfl, Nat.le_of_ble_eq_true rfl⟩ (fun H locs hP hS _ _ => ?_)
      exact g_iret hx hb hr hlocks (by unfold rX11_ofStep; rw [if_neg c1, if_pos c2]) (by unfold fX11_ofStep; rw [if_neg c1, if_pos c2]) rfl hP hS dX11_ofStep_26

def rX11_inDelay (S : Mm) (p1 : Int32) : Int32 := (if rX11_isIn p1 (0 : Int32) (((up2 S 18 0 0) 0 16) - 1) = 0 then rX11_no (up2 S 18 0 0) (1 : Int32) else (up2 S 18 0 0) 14 p1.toNatClampNeg)
def fX11_inDelay (S : Mm) (p1 : Int32) : Mm := (if rX11_isIn p1 (0 : Int32) (((up2 S 18 0 0) 0 16) - 1) = 0 then fX11_no (up2 S 18 0 0) (1 : Int32) else up2 S 18 0 0)
theorem iX11_inDelay_X10 : ∀ w ∈ u_ws RX10 TX10 35, w ∈ wsX11_inDelay := by decide +kernel
theorem iX11_inDelay_X11 : ∀ w ∈ u_ws RX11 TX11 2, w ∈ wsX11_inDelay := by decide +kernel
set_option maxHeartbeats 4000000 in
set_option maxRecDepth 100000 in
theorem c_X11_inDelay (l : Launch) (G : va_G) (cA : ClassId) (zq : Nat) (a : Nat → Nat) (ha : apart 19 a) (S : Mm) (L : Int64) (sz : Nat) (p1 : Int32)  (hh1 : ¬ (rX11_isIn p1 (0 : Int32) (((up2 S 18 0 0) 0 16) - 1) = 0) → vp_in p1 200) : Met l yX11_inDelay wsX11_inDelay ({ frames := 1, cells := 0, slots := 0, locals := 22 } : Room) (va_Pc [.ref (a 18), .int p1] (gI G cA zq 19 a (cD a cA) S L sz)) (gQi (rX11_inDelay S p1) G 19 a (cD a cA) (fX11_inDelay S p1) L sz) 0 0 (mA 19 a sz) := by
  refine g_met (cc := cX11_inDelay) (maxL := 2) (ret := (some .int)) (by decide) rfl (Nat.le_of_ble_eq_true rfl) ?_
  intro p e s m below meth c ls hx hb hr hlocks hml hts hown hnm hsz hK hP hS hl
  subst hsz
  have hl : lv_has ls 2 [(0, .ref (a 18)), (1, .int p1)] := hl
  refine lv_aload_n hx hb dX11_inDelay_0 rfl (lv_at hl 0 rfl) ?_
  refine lv_iconst (v := 0) hx hb dX11_inDelay_1 (by decide) ?_
  refine g_put (ci := 11) (C := RX11) (T := TX11) (N := 2) (ty := .int) hx hb hts iX11_inDelay_X11 tyX11 tyX11_ok nmX11 hown hK ha mA_in hP hS (by decide) cD_Mo rfl 0 (by decide) rfl (by decide +kernel) rfl (by decide +kernel) rfl rfl (Nat.le_of_ble_eq_true rfl) (cD_Mo_set (by decide)) dX11_inDelay_2 (fun H locs hP hS => ?_)
  refine lv_iload_n hx hb dX11_inDelay_5 rfl (lv_at hl 1 rfl) ?_
  refine lv_iconst (v := 0) hx hb dX11_inDelay_6 (by decide) ?_
  refine lv_aload_n hx hb dX11_inDelay_7 rfl (lv_at hl 0 rfl) ?_
  refine g_get (ci := 11) (C := RX11) (T := TX11) (N := 2) (v := .ref (a 0)) hx hb hts iX11_inDelay_X11 hown hK hP (by decide) cD_Mo rfl 1 (by decide) rfl (by decide +kernel) rfl dX11_inDelay_8 ?_
  refine g_get (ci := 10) (C := RX10) (T := TX10) (N := 35) (v := .int ((up2 S 18 0 0) 0 16)) hx hb hts iX11_inDelay_X10 hown hK hP (lt_hn (by decide) (by decide)) cD_D rfl 16 (by decide) rfl (by decide +kernel) rfl dX11_inDelay_11 ?_
  refine lv_iconst (v := 1) hx hb dX11_inDelay_14 (by decide) ?_
  refine lv_isub hx hb dX11_inDelay_15 ?_
  refine g_cSi (As := [.int p1, .int 0, .int (((up2 S 18 0 0) 0 16) - 1)]) (rest := []) ⟨hx, hb, hml, hown, hts⟩ (c_X11_isIn l G cA zq 19 (by decide) a ha (up2 S 18 0 0) L H.size p1 (0 : Int32) (((up2 S 18 0 0) 0 16) - 1)  ) (va_cwS 3 hts gX11_inDelay_X11_isIn rfl rfl rfl (by decide +kernel) ⟨Nat.le_of_ble_eq_true rfl, Nat.le_of_ble_eq_true rfl⟩) hK (mA_mono hS.1) hP hS rfl hl.1 rfl (lv_room (Nat.le_of_ble_eq_true rfl)) dX11_inDelay_16 ⟨Nat.le_of_ble_eq_true rfl, Nat.le_of_ble_eq_true rfl⟩ (fun H locs hP hS _ _ => ?_)
  refine lv_if_eq (tgt := 34) hx hb dX11_inDelay_19 (by decide) (fun c1 => ?_) (fun c1 => ?_)
  ·
    refine lv_aload_n hx hb dX11_inDelay_34 rfl (lv_at hl 0 rfl) ?_
    refine lv_iconst (v := 1) hx hb dX11_inDelay_35 (by decide) ?_
    refine g_cVi (As := [.int 1]) (rest := []) ⟨hx, hb, hml, hown, hts⟩ (c_X11_no l G cA zq a ha (up2 S 18 0 0) L H.size (1 : Int32)  ) (cwV 1 hts gX11_inDelay_X11_no rfl rfl rfl (by decide +kernel) ⟨Nat.le_of_ble_eq_true rfl, Nat.le_of_ble_eq_true rfl⟩) (g_recv hK hP (by decide) cD_Mo (C := RX11) (T := TX11) (N := 2) rfl) hK (mA_mono hS.1) hP hS rfl hl.1 rfl (lv_room (Nat.le_of_ble_eq_true rfl)) dX11_inDelay_36 ⟨Nat.le_of_ble_eq_true rfl, Nat.le_of_ble_eq_true rfl⟩ (fun H locs hP hS _ _ => ?_)
    exact g_iret hx hb hr hlocks (by unfold rX11_inDelay; rw [if_pos c1]) (by unfold fX11_inDelay; rw [if_pos c1]) rfl hP hS dX11_inDelay_39
  ·
    refine lv_aload_n hx hb dX11_inDelay_22 rfl (lv_at hl 0 rfl) ?_
    refine g_get (ci := 11) (C := RX11) (T := TX11) (N := 2) (v := .ref (a 0)) hx hb hts iX11_inDelay_X11 hown hK hP (by decide) cD_Mo rfl 1 (by decide) rfl (by decide +kernel) rfl dX11_inDelay_23 ?_
    refine g_get (ci := 10) (C := RX10) (T := TX10) (N := 35) (v := .ref (a 14)) hx hb hts iX11_inDelay_X10 hown hK hP (lt_hn (by decide) (by decide)) cD_D rfl 19 (by decide) rfl (by decide +kernel) rfl dX11_inDelay_26 ?_
    refine lv_iload_n hx hb dX11_inDelay_29 rfl (lv_at hl 1 rfl) ?_
    refine g_iald (N := 200) (g := (up2 S 18 0 0) 14) hx hb hK hP (lt_hn (by decide) (by decide)) rfl (hh1 c1) dX11_inDelay_30 ?_
    refine lv_goto (tgt := 39) hx hb dX11_inDelay_31 (by decide) ?_
    exact g_iret hx hb hr hlocks (by unfold rX11_inDelay; rw [if_neg c1]) (by unfold fX11_inDelay; rw [if_neg c1]) rfl hP hS dX11_inDelay_39

def rX11_nextVoice (S : Mm) : Int32 := rX11_ok S (rX10_nextVoice S)
def fX11_nextVoice (S : Mm) : Mm := fX11_ok S (rX10_nextVoice S)
theorem iX11_nextVoice_X11 : ∀ w ∈ u_ws RX11 TX11 2, w ∈ wsX11_nextVoice := by decide +kernel
set_option maxHeartbeats 4000000 in
set_option maxRecDepth 100000 in
theorem c_X11_nextVoice (l : Launch) (G : va_G) (cA : ClassId) (zq : Nat) (a : Nat → Nat) (ha : apart 19 a) (S : Mm) (L : Int64) (sz : Nat)   : Met l yX11_nextVoice wsX11_nextVoice ({ frames := 1, cells := 0, slots := 0, locals := 22 } : Room) (va_Pc [.ref (a 18)] (gI G cA zq 19 a (cD a cA) S L sz)) (gQi (rX11_nextVoice S) G 19 a (cD a cA) (fX11_nextVoice S) L sz) 0 0 (mA 19 a sz) := by
  refine g_met (cc := cX11_nextVoice) (maxL := 1) (ret := (some .int)) (by decide) rfl (Nat.le_of_ble_eq_true rfl) ?_
  intro p e s m below meth c ls hx hb hr hlocks hml hts hown hnm hsz hK hP hS hl
  subst hsz
  have hl : lv_has ls 1 [(0, .ref (a 18))] := hl
  refine lv_aload_n hx hb dX11_nextVoice_0 rfl (lv_at hl 0 rfl) ?_
  refine lv_aload_n hx hb dX11_nextVoice_1 rfl (lv_at hl 0 rfl) ?_
  refine g_get (ci := 11) (C := RX11) (T := TX11) (N := 2) (v := .ref (a 0)) hx hb hts iX11_nextVoice_X11 hown hK hP (by decide) cD_Mo rfl 1 (by decide) rfl (by decide +kernel) rfl dX11_nextVoice_2 ?_
  refine g_cVi (As := []) (rest := [.ref (a 18)]) ⟨hx, hb, hml, hown, hts⟩ (c1_X10_nextVoice l G cA zq 19 (by decide) a ha S L s.heap.size   ) (cwV 0 hts gX11_nextVoice_X10_nextVoice rfl rfl rfl (by decide +kernel) ⟨Nat.le_of_ble_eq_true rfl, Nat.le_of_ble_eq_true rfl⟩) (g_recv hK hP (lt_hn (by decide) (by decide)) cD_D (C := RX10) (T := TX10) (N := 35) rfl) hK (mA_mono hS.1) hP hS rfl hl.1 rfl (lv_room (Nat.le_of_ble_eq_true rfl)) dX11_nextVoice_5 ⟨Nat.le_of_ble_eq_true rfl, Nat.le_of_ble_eq_true rfl⟩ (fun H locs hP hS _ _ => ?_)
  refine g_cVi (As := [.int (rX10_nextVoice S)]) (rest := []) ⟨hx, hb, hml, hown, hts⟩ (c_X11_ok l G cA zq a ha S L H.size (rX10_nextVoice S)  ) (cwV 1 hts gX11_nextVoice_X11_ok rfl rfl rfl (by decide +kernel) ⟨Nat.le_of_ble_eq_true rfl, Nat.le_of_ble_eq_true rfl⟩) (g_recv hK hP (by decide) cD_Mo (C := RX11) (T := TX11) (N := 2) rfl) hK (mA_mono hS.1) hP hS rfl hl.1 rfl (lv_room (Nat.le_of_ble_eq_true rfl)) dX11_nextVoice_8 ⟨Nat.le_of_ble_eq_true rfl, Nat.le_of_ble_eq_true rfl⟩ (fun H locs hP hS _ _ => ?_)
  exact g_iret hx hb hr hlocks (by unfold rX11_nextVoice; rfl) (by unfold fX11_nextVoice; rfl) rfl hP hS dX11_nextVoice_11
