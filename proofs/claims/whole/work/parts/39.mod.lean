def gX11_setWaves_1 (S : Mm) (p1 : Int32) (p2 : Int32) (p3 : Int32) (p4 : Int32) (p5 : Int32) : Nat → Int32 := upd (upd (upd (fun _ => 0) (0 : Int32).toNatClampNeg p2) (1 : Int32).toNatClampNeg p3) (2 : Int32).toNatClampNeg p4
def mX11_setWaves_2 (S : Mm) (p1 : Int32) (p2 : Int32) (p3 : Int32) (p4 : Int32) (p5 : Int32) : Mm := fX11_put_ (upR (up2 S 18 0 0) 19 (upd (gX11_setWaves_1 S p1 p2 p3 p4 p5) (3 : Int32).toNatClampNeg p5)) 4 p1 (0 : Int32) (3 : Int32)
def vX11_setWaves_3 (S : Mm) (p1 : Int32) (p2 : Int32) (p3 : Int32) (p4 : Int32) (p5 : Int32) : Int32 := rX11_put_ (upR (up2 S 18 0 0) 19 (upd (gX11_setWaves_1 S p1 p2 p3 p4 p5) (3 : Int32).toNatClampNeg p5)) 4 p1 (0 : Int32) (3 : Int32)
def rX11_setWaves (S : Mm) (p1 : Int32) (p2 : Int32) (p3 : Int32) (p4 : Int32) (p5 : Int32) : Int32 := (if rX11_isInstrument p1 = 0 then rX11_no (up2 S 18 0 0) (1 : Int32) else (if rX11_isWave p2 = 0 then rX11_no (up2 S 18 0 0) (1 : Int32) else (if rX11_isWave p3 = 0 then rX11_no (up2 S 18 0 0) (1 : Int32) else (if rX11_isIn p4 ((-64) : Int32) (64 : Int32) = 0 then rX11_no (up2 S 18 0 0) (2 : Int32) else (if rX11_isIn p5 (0 : Int32) (100 : Int32) = 0 then rX11_no (up2 S 18 0 0) (2 : Int32) else (vX11_setWaves_3 S p1 p2 p3 p4 p5))))))
def fX11_setWaves (S : Mm) (p1 : Int32) (p2 : Int32) (p3 : Int32) (p4 : Int32) (p5 : Int32) : Mm := (if rX11_isInstrument p1 = 0 then fX11_no (up2 S 18 0 0) (1 : Int32) else (if rX11_isWave p2 = 0 then fX11_no (up2 S 18 0 0) (1 : Int32) else (if rX11_isWave p3 = 0 then fX11_no (up2 S 18 0 0) (1 : Int32) else (if rX11_isIn p4 ((-64) : Int32) (64 : Int32) = 0 then fX11_no (up2 S 18 0 0) (2 : Int32) else (if rX11_isIn p5 (0 : Int32) (100 : Int32) = 0 then fX11_no (up2 S 18 0 0) (2 : Int32) else (mX11_setWaves_2 S p1 p2 p3 p4 p5))))))
theorem iX11_setWaves_X11 : ∀ w ∈ u_ws RX11 TX11 2, w ∈ wsX11_setWaves := by decide +kernel
set_option maxHeartbeats 4000000 in
set_option maxRecDepth 100000 in
theorem c_X11_setWaves (l : Launch) (G : va_G) (cA : ClassId) (zq : Nat) (a : Nat → Nat) (ha : apart 19 a) (S : Mm) (L : Int64) (sz : Nat) (p1 : Int32) (p2 : Int32) (p3 : Int32) (p4 : Int32) (p5 : Int32)  : Met l yX11_setWaves wsX11_setWaves ({ frames := 2, cells := 1, slots := 4, locals := 51 } : Room) (va_Pc [.ref (a 18), .int p1, .int p2, .int p3, .int p4, .int p5] (gI G cA zq 19 a (cD a cA) S L sz)) (gQi (rX11_setWaves S p1 p2 p3 p4 p5) G 19 a (cD a cA) (fX11_setWaves S p1 p2 p3 p4 p5) L sz) 1 4 (mA 19 a sz) := by
  refine g_met (cc := cX11_setWaves) (maxL := 6) (ret := (some .int)) (by decide) rfl (Nat.le_of_ble_eq_true rfl) ?_
  intro p e s m below meth c ls hx hb hr hlocks hml hts hown hnm hsz hK hP hS hl
  subst hsz
  have hl : lv_has ls 6 [(0, .ref (a 18)), (1, .int p1), (2, .int p2), (3, .int p3), (4, .int p4), (5, .int p5)] := hl
  refine lv_aload_n hx hb dX11_setWaves_0 rfl (lv_at hl 0 rfl) ?_
  refine lv_iconst (v := 0) hx hb dX11_setWaves_1 (by decide) ?_
  refine g_put (ci := 11) (C := RX11) (T := TX11) (N := 2) (ty := .int) hx hb hts iX11_setWaves_X11 tyX11 tyX11_ok nmX11 hown hK ha mA_in hP hS (by decide) cD_Mo rfl 0 (by decide) rfl (by decide +kernel) rfl (by decide +kernel) rfl rfl (Nat.le_of_ble_eq_true rfl) (cD_Mo_set (by decide)) dX11_setWaves_2 (fun H locs hP hS => ?_)
  refine lv_iload_n hx hb dX11_setWaves_5 rfl (lv_at hl 1 rfl) ?_
  refine g_cSi (As := [.int p1]) (rest := []) ⟨hx, hb, hml, hown, hts⟩ (c_X11_isInstrument l G cA zq a ha (up2 S 18 0 0) L H.size p1  ) (va_cwS 1 hts gX11_setWaves_X11_isInstrument rfl rfl rfl (by decide +kernel) ⟨Nat.le_of_ble_eq_true rfl, Nat.le_of_ble_eq_true rfl⟩) hK (mA_mono hS.1) hP hS rfl hl.1 rfl (lv_room (Nat.le_of_ble_eq_true rfl)) dX11_setWaves_6 ⟨Nat.le_of_ble_eq_true rfl, Nat.le_of_ble_eq_true rfl⟩ (fun H locs hP hS _ _ => ?_)
  refine lv_if_eq (tgt := 26) hx hb dX11_setWaves_9 (by decide) (fun c1 => ?_) (fun c1 => ?_)
  ·
    refine lv_aload_n hx hb dX11_setWaves_26 rfl (lv_at hl 0 rfl) ?_
    refine lv_iconst (v := 1) hx hb dX11_setWaves_27 (by decide) ?_
    refine g_cVi (As := [.int 1]) (rest := []) ⟨hx, hb, hml, hown, hts⟩ (c_X11_no l G cA zq a ha (up2 S 18 0 0) L H.size (1 : Int32)  ) (cwV 1 hts gX11_setWaves_X11_no rfl rfl rfl (by decide +kernel) ⟨Nat.le_of_ble_eq_true rfl, Nat.le_of_ble_eq_true rfl⟩) (g_recv hK hP (by decide) cD_Mo (C := RX11) (T := TX11) (N := 2) rfl) hK (mA_mono hS.1) hP hS rfl hl.1 rfl (lv_room (Nat.le_of_ble_eq_true rfl)) dX11_setWaves_28 ⟨Nat.le_of_ble_eq_true rfl, Nat.le_of_ble_eq_true rfl⟩ (fun H locs hP hS _ _ => ?_)
    refine W.widen (k := 1) (n := 4) (by omega) (by omega) ?_
    exact g_iret hx hb hr hlocks (by unfold rX11_setWaves; rw [if_pos c1]) (by unfold fX11_setWaves; rw [if_pos c1]) rfl hP hS dX11_setWaves_31
  ·
    refine lv_iload_n hx hb dX11_setWaves_12 rfl (lv_at hl 2 rfl) ?_
    refine g_cSi (As := [.int p2]) (rest := []) ⟨hx, hb, hml, hown, hts⟩ (c_X11_isWave l G cA zq a ha (up2 S 18 0 0) L H.size p2  ) (va_cwS 1 hts gX11_setWaves_X11_isWave rfl rfl rfl (by decide +kernel) ⟨Nat.le_of_ble_eq_true rfl, Nat.le_of_ble_eq_true rfl⟩) hK (mA_mono hS.1) hP hS rfl hl.1 rfl (lv_room (Nat.le_of_ble_eq_true rfl)) dX11_setWaves_13 ⟨Nat.le_of_ble_eq_true rfl, Nat.le_of_ble_eq_true rfl⟩ (fun H locs hP hS _ _ => ?_)
    refine lv_if_eq (tgt := 26) hx hb dX11_setWaves_16 (by decide) (fun c2 => ?_) (fun c2 => ?_)
    ·
      refine lv_aload_n hx hb dX11_setWaves_26 rfl (lv_at hl 0 rfl) ?_
      refine lv_iconst (v := 1) hx hb dX11_setWaves_27 (by decide) ?_
      refine g_cVi (As := [.int 1]) (rest := []) ⟨hx, hb, hml, hown, hts⟩ (c_X11_no l G cA zq a ha (up2 S 18 0 0) L H.size (1 : Int32)  ) (cwV 1 hts gX11_setWaves_X11_no rfl rfl rfl (by decide +kernel) ⟨Nat.le_of_ble_eq_true rfl, Nat.le_of_ble_eq_true rfl⟩) (g_recv hK hP (by decide) cD_Mo (C := RX11) (T := TX11) (N := 2) rfl) hK (mA_mono hS.1) hP hS rfl hl.1 rfl (lv_room (Nat.le_of_ble_eq_true rfl)) dX11_setWaves_28 ⟨Nat.le_of_ble_eq_true rfl, Nat.le_of_ble_eq_true rfl⟩ (fun H locs hP hS _ _ => ?_)
      refine W.widen (k := 1) (n := 4) (by omega) (by omega) ?_
      exact g_iret hx hb hr hlocks (by unfold rX11_setWaves; rw [if_neg c1, if_pos c2]) (by unfold fX11_setWaves; rw [if_neg c1, if_pos c2]) rfl hP hS dX11_setWaves_31
    ·
      refine lv_iload_n hx hb dX11_setWaves_19 rfl (lv_at hl 3 rfl) ?_
      refine g_cSi (As := [.int p3]) (rest := []) ⟨hx, hb, hml, hown, hts⟩ (c_X11_isWave l G cA zq a ha (up2 S 18 0 0) L H.size p3  ) (va_cwS 1 hts gX11_setWaves_X11_isWave rfl rfl rfl (by decide +kernel) ⟨Nat.le_of_ble_eq_true rfl, Nat.le_of_ble_eq_true rfl⟩) hK (mA_mono hS.1) hP hS rfl hl.1 rfl (lv_room (Nat.le_of_ble_eq_true rfl)) dX11_setWaves_20 ⟨Nat.le_of_ble_eq_true rfl, Nat.le_of_ble_eq_true rfl⟩ (fun H locs hP hS _ _ => ?_)
      refine lv_if_ne (tgt := 32) hx hb dX11_setWaves_23 (by decide) (fun c3 => ?_) (fun c3 => ?_)
      ·
        refine lv_iload hx hb dX11_setWaves_32 (lv_at hl 4 rfl) ?_
        refine lv_bipush (v := (-64)) hx hb dX11_setWaves_34 (by decide) ?_
        refine lv_bipush (v := 64) hx hb dX11_setWaves_36 (by decide) ?_
        refine g_cSi (As := [.int p4, .int (-64), .int 64]) (rest := []) ⟨hx, hb, hml, hown, hts⟩ (c_X11_isIn l G cA zq 19 (by decide) a ha (up2 S 18 0 0) L H.size p4 ((-64) : Int32) (64 : Int32)  ) (va_cwS 3 hts gX11_setWaves_X11_isIn rfl rfl rfl (by decide +kernel) ⟨Nat.le_of_ble_eq_true rfl, Nat.le_of_ble_eq_true rfl⟩) hK (mA_mono hS.1) hP hS rfl hl.1 rfl (lv_room (Nat.le_of_ble_eq_true rfl)) dX11_setWaves_38 ⟨Nat.le_of_ble_eq_true rfl, Nat.le_of_ble_eq_true rfl⟩ (fun H locs hP hS _ _ => ?_)
        refine lv_if_eq (tgt := 86) hx hb dX11_setWaves_41 (by decide) (fun c4 => ?_) (fun c4 => ?_)
        ·
          refine lv_aload_n hx hb dX11_setWaves_86 rfl (lv_at hl 0 rfl) ?_
          refine lv_iconst (v := 2) hx hb dX11_setWaves_87 (by decide) ?_
          refine g_cVi (As := [.int 2]) (rest := []) ⟨hx, hb, hml, hown, hts⟩ (c_X11_no l G cA zq a ha (up2 S 18 0 0) L H.size (2 : Int32)  ) (cwV 1 hts gX11_setWaves_X11_no rfl rfl rfl (by decide +kernel) ⟨Nat.le_of_ble_eq_true rfl, Nat.le_of_ble_eq_true rfl⟩) (g_recv hK hP (by decide) cD_Mo (C := RX11) (T := TX11) (N := 2) rfl) hK (mA_mono hS.1) hP hS rfl hl.1 rfl (lv_room (Nat.le_of_ble_eq_true rfl)) dX11_setWaves_88 ⟨Nat.le_of_ble_eq_true rfl, Nat.le_of_ble_eq_true rfl⟩ (fun H locs hP hS _ _ => ?_)
          refine W.widen (k := 1) (n := 4) (by omega) (by omega) ?_
          exact g_iret hx hb hr hlocks (by unfold rX11_setWaves; rw [if_neg c1, if_neg c2, if_neg c3, if_pos c4]) (by unfold fX11_setWaves; rw [if_neg c1, if_neg c2, if_neg c3, if_pos c4]) rfl hP hS dX11_setWaves_91
        ·
          refine lv_iload hx hb dX11_setWaves_44 (lv_at hl 5 rfl) ?_
          refine lv_iconst (v := 0) hx hb dX11_setWaves_46 (by decide) ?_
          refine lv_bipush (v := 100) hx hb dX11_setWaves_47 (by decide) ?_
          refine g_cSi (As := [.int p5, .int 0, .int 100]) (rest := []) ⟨hx, hb, hml, hown, hts⟩ (c_X11_isIn l G cA zq 19 (by decide) a ha (up2 S 18 0 0) L H.size p5 (0 : Int32) (100 : Int32)  ) (va_cwS 3 hts gX11_setWaves_X11_isIn rfl rfl rfl (by decide +kernel) ⟨Nat.le_of_ble_eq_true rfl, Nat.le_of_ble_eq_true rfl⟩) hK (mA_mono hS.1) hP hS rfl hl.1 rfl (lv_room (Nat.le_of_ble_eq_true rfl)) dX11_setWaves_49 ⟨Nat.le_of_ble_eq_true rfl, Nat.le_of_ble_eq_true rfl⟩ (fun H locs hP hS _ _ => ?_)
          refine lv_if_eq (tgt := 86) hx hb dX11_setWaves_52 (by decide) (fun c5 => ?_) (fun c5 => ?_)
          ·
            refine lv_aload_n hx hb dX11_setWaves_86 rfl (lv_at hl 0 rfl) ?_
            refine lv_iconst (v := 2) hx hb dX11_setWaves_87 (by decide) ?_
            refine g_cVi (As := [.int 2]) (rest := []) ⟨hx, hb, hml, hown, hts⟩ (c_X11_no l G cA zq a ha (up2 S 18 0 0) L H.size (2 : Int32)  ) (cwV 1 hts gX11_setWaves_X11_no rfl rfl rfl (by decide +kernel) ⟨Nat.le_of_ble_eq_true rfl, Nat.le_of_ble_eq_true rfl⟩) (g_recv hK hP (by decide) cD_Mo (C := RX11) (T := TX11) (N := 2) rfl) hK (mA_mono hS.1) hP hS rfl hl.1 rfl (lv_room (Nat.le_of_ble_eq_true rfl)) dX11_setWaves_88 ⟨Nat.le_of_ble_eq_true rfl, Nat.le_of_ble_eq_true rfl⟩ (fun H locs hP hS _ _ => ?_)
            refine W.widen (k := 1) (n := 4) (by omega) (by omega) ?_
            exact g_iret hx hb hr hlocks (by unfold rX11_setWaves; rw [if_neg c1, if_neg c2, if_neg c3, if_neg c4, if_pos c5]) (by unfold fX11_setWaves; rw [if_neg c1, if_neg c2, if_neg c3, if_neg c4, if_pos c5]) rfl hP hS dX11_setWaves_91
          ·
            refine lv_aload_n hx hb dX11_setWaves_55 rfl (lv_at hl 0 rfl) ?_
            refine lv_iload_n hx hb dX11_setWaves_56 rfl (lv_at hl 1 rfl) ?_
            refine lv_iconst (v := 0) hx hb dX11_setWaves_57 (by decide) ?_
            refine lv_iconst (v := 3) hx hb dX11_setWaves_58 (by decide) ?_
            refine lv_iconst (v := 4) hx hb dX11_setWaves_59 (by decide) ?_
            refine x_new hx hb (hts (.arrayClass .int) (by decide +kernel)) hK ha mA_in (fun q h => Or.inr h) hP hS (k := 4) (N := 4) (by decide) (by decide) (by decide) (Nat.le_of_ble_eq_true rfl) (Nat.le_of_ble_eq_true rfl) dX11_setWaves_60 (fun q60 cQ H hKx hP hDx hS => ?_)
            refine lv_dup hx hb dX11_setWaves_62 rfl ?_
            refine lv_iconst (v := 0) hx hb dX11_setWaves_63 (by decide) ?_
            refine lv_iload_n hx hb dX11_setWaves_64 rfl (lv_at hl 2 rfl) ?_
            refine x_iast hx hb hKx hP hDx hS (vp_in_lit (by decide)) dX11_setWaves_65 (fun H locs hP hDx hS => ?_)
            refine lv_dup hx hb dX11_setWaves_66 rfl ?_
            refine lv_iconst (v := 1) hx hb dX11_setWaves_67 (by decide) ?_
            refine lv_iload_n hx hb dX11_setWaves_68 rfl (lv_at hl 3 rfl) ?_
            refine x_iast hx hb hKx hP hDx hS (vp_in_lit (by decide)) dX11_setWaves_69 (fun H locs hP hDx hS => ?_)
            refine lv_dup hx hb dX11_setWaves_70 rfl ?_
            refine lv_iconst (v := 2) hx hb dX11_setWaves_71 (by decide) ?_
            refine lv_iload hx hb dX11_setWaves_72 (lv_at hl 4 rfl) ?_
            refine x_iast hx hb hKx hP hDx hS (vp_in_lit (by decide)) dX11_setWaves_74 (fun H locs hP hDx hS => ?_)
            have hP : va_P G vwCl (wG 19 a (cD a cA) (up2 S 18 0 0) L ++ [(q60, .inl (cQ, 4, .inl (gX11_setWaves_1 S p1 p2 p3 p4 p5)))]) H := hP
            have hDx : va_D (mA 19 a s.heap.size) (wG 19 a (cD a cA) (up2 S 18 0 0) L ++ [(q60, .inl (cQ, 4, .inl (gX11_setWaves_1 S p1 p2 p3 p4 p5)))]) := hDx
            refine lv_dup hx hb dX11_setWaves_75 rfl ?_
            refine lv_iconst (v := 3) hx hb dX11_setWaves_76 (by decide) ?_
            refine lv_iload hx hb dX11_setWaves_77 (lv_at hl 5 rfl) ?_
            refine x_iast hx hb hKx hP hDx hS (vp_in_lit (by decide)) dX11_setWaves_79 (fun H locs hP hDx hS => ?_)
            have hcq := cQ_eq hKx
            rw [hcq] at hDx
            have hap := apX hDx
            have hinx := inX hDx
            rw [hcq, wX_eq] at hP
            have hi4 : vp_in p1 4 := isIn_vp (by unfold rX11_isInstrument at c1; exact c1) (by decide)
            refine g_cVi (As := [.int p1, .int 0, .int 3, .ref q60]) (rest := []) ⟨hx, hb, hml, hown, hts⟩ (c_X11_put_ l G cA zq (aX a q60) hap (upR (up2 S 18 0 0) 19 (upd (gX11_setWaves_1 S p1 p2 p3 p4 p5) (3 : Int32).toNatClampNeg p5)) L H.size 4 p1 (0 : Int32) (3 : Int32) (by decide) (in12 hi4 3 (by decide)) (p12_nn hi4 0 (by decide)) (by decide) (by decide) (p12_le hi4 0 4 (by decide))) (cwV 4 hts gX11_setWaves_X11_put_ rfl rfl rfl (by decide +kernel) ⟨Nat.le_of_ble_eq_true rfl, Nat.le_of_ble_eq_true rfl⟩) (g_recv hK hP (by decide) cX_Mo (C := RX11) (T := TX11) (N := 2) rfl) hK (fun k h => h.elim (fun ⟨j, hj, e⟩ => e ▸ hinx j hj) (fun h => Or.inr (Nat.le_trans hS.1 h))) hP hS rfl hl.1 rfl (lv_room (Nat.le_of_ble_eq_true rfl)) dX11_setWaves_80 ⟨Nat.le_of_ble_eq_true rfl, Nat.le_of_ble_eq_true rfl⟩ (fun H locs hP hS _ _ => ?_)
            have hP := wX_back hP
            have hP : va_P G vwCl (wG 19 a (cD a cA) (mX11_setWaves_2 S p1 p2 p3 p4 p5) L) H := hP
            refine W.eq (g2 := F0 m 83 ls [.int (vX11_setWaves_3 S p1 p2 p3 p4 p5)]) rfl ?_
            refine lv_goto (tgt := 91) hx hb dX11_setWaves_83 (by decide) ?_
            exact g_iret hx hb hr hlocks (by unfold rX11_setWaves; rw [if_neg c1, if_neg c2, if_neg c3, if_neg c4, if_neg c5]) (by unfold fX11_setWaves; rw [if_neg c1, if_neg c2, if_neg c3, if_neg c4, if_neg c5]) rfl hP hS dX11_setWaves_91
      ·
        refine lv_aload_n hx hb dX11_setWaves_26 rfl (lv_at hl 0 rfl) ?_
        refine lv_iconst (v := 1) hx hb dX11_setWaves_27 (by decide) ?_
        refine g_cVi (As := [.int 1]) (rest := []) ⟨hx, hb, hml, hown, hts⟩ (c_X11_no l G cA zq a ha (up2 S 18 0 0) L H.size (1 : Int32)  ) (cwV 1 hts gX11_setWaves_X11_no rfl rfl rfl (by decide +kernel) ⟨Nat.le_of_ble_eq_true rfl, Nat.le_of_ble_eq_true rfl⟩) (g_recv hK hP (by decide) cD_Mo (C := RX11) (T := TX11) (N := 2) rfl) hK (mA_mono hS.1) hP hS rfl hl.1 rfl (lv_room (Nat.le_of_ble_eq_true rfl)) dX11_setWaves_28 ⟨Nat.le_of_ble_eq_true rfl, Nat.le_of_ble_eq_true rfl⟩ (fun H locs hP hS _ _ => ?_)
        refine W.widen (k := 1) (n := 4) (by omega) (by omega) ?_
        exact g_iret hx hb hr hlocks (by unfold rX11_setWaves; rw [if_neg c1, if_neg c2, if_pos c3]) (by unfold fX11_setWaves; rw [if_neg c1, if_neg c2, if_pos c3]) rfl hP hS dX11_setWaves_31

def gX11_setEnvelope_1 (S : Mm) (p1 : Int32) (p2 : Int32) (p3 : Int32) (p4 : Int32) (p5 : Int32) : Nat → Int32 := upd (upd (upd (fun _ => 0) (0 : Int32).toNatClampNeg p2) (1 : Int32).toNatClampNeg p3) (2 : Int32).toNatClampNeg p4
def mX11_setEnvelope_2 (S : Mm) (p1 : Int32) (p2 : Int32) (p3 : Int32) (p4 : Int32) (p5 : Int32) : Mm := fX11_put_ (upR (up2 S 18 0 0) 19 (upd (gX11_setEnvelope_1 S p1 p2 p3 p4 p5) (3 : Int32).toNatClampNeg p5)) 4 p1 (4 : Int32) (6 : Int32)
def vX11_setEnvelope_3 (S : Mm) (p1 : Int32) (p2 : Int32) (p3 : Int32) (p4 : Int32) (p5 : Int32) : Int32 := rX11_put_ (upR (up2 S 18 0 0) 19 (upd (gX11_setEnvelope_1 S p1 p2 p3 p4 p5) (3 : Int32).toNatClampNeg p5)) 4 p1 (4 : Int32) (6 : Int32)
def rX11_setEnvelope (S : Mm) (p1 : Int32) (p2 : Int32) (p3 : Int32) (p4 : Int32) (p5 : Int32) : Int32 := (if rX11_isInstrument p1 = 0 then rX11_no (up2 S 18 0 0) (1 : Int32) else (if rX11_isIn p2 (1 : Int32) (400 : Int32) = 0 then rX11_no (up2 S 18 0 0) (2 : Int32) else (if rX11_isIn p3 (1 : Int32) (400 : Int32) = 0 then rX11_no (up2 S 18 0 0) (2 : Int32) else (if rX11_isIn p4 (0 : Int32) (1000 : Int32) = 0 then rX11_no (up2 S 18 0 0) (2 : Int32) else (if rX11_isIn p5 (1 : Int32) (400 : Int32) = 0 then rX11_no (up2 S 18 0 0) (2 : Int32) else (vX11_setEnvelope_3 S p1 p2 p3 p4 p5))))))
def fX11_setEnvelope (S : Mm) (p1 : Int32) (p2 : Int32) (p3 : Int32) (p4 : Int32) (p5 : Int32) : Mm := (if rX11_isInstrument p1 = 0 then fX11_no (up2 S 18 0 0) (1 : Int32) else (if rX11_isIn p2 (1 : Int32) (400 : Int32) = 0 then fX11_no (up2 S 18 0 0) (2 : Int32) else (if rX11_isIn p3 (1 : Int32) (400 : Int32) = 0 then fX11_no (up2 S 18 0 0) (2 : Int32) else (if rX11_isIn p4 (0 : Int32) (1000 : Int32) = 0 then fX11_no (up2 S 18 0 0) (2 : Int32) else (if rX11_isIn p5 (1 : Int32) (400 : Int32) = 0 then fX11_no (up2 S 18 0 0) (2 : Int32) else (mX11_setEnvelope_2 S p1 p2 p3 p4 p5))))))
theorem iX11_setEnvelope_X11 : ∀ w ∈ u_ws RX11 TX11 2, w ∈ wsX11_setEnvelope := by decide +kernel
set_option maxHeartbeats 4000000 in
set_option maxRecDepth 100000 in
theorem c_X11_setEnvelope (l : Launch) (G : va_G) (cA : ClassId) (zq : Nat) (a : Nat → Nat) (ha : apart 19 a) (S : Mm) (L : Int64) (sz : Nat) (p1 : Int32) (p2 : Int32) (p3 : Int32) (p4 : Int32) (p5 : Int32)  : Met l yX11_setEnvelope wsX11_setEnvelope ({ frames := 2, cells := 1, slots := 4, locals := 51 } : Room) (va_Pc [.ref (a 18), .int p1, .int p2, .int p3, .int p4, .int p5] (gI G cA zq 19 a (cD a cA) S L sz)) (gQi (rX11_setEnvelope S p1 p2 p3 p4 p5) G 19 a (cD a cA) (fX11_setEnvelope S p1 p2 p3 p4 p5) L sz) 1 4 (mA 19 a sz) := by
  refine g_met (cc := cX11_setEnvelope) (maxL := 6) (ret := (some .int)) (by decide) rfl (Nat.le_of_ble_eq_true rfl) ?_
  intro p e s m below meth c ls hx hb hr hlocks hml hts hown hnm hsz hK hP hS hl
  subst hsz
  have hl : lv_has ls 6 [(0, .ref (a 18)), (1, .int p1), (2, .int p2), (3, .int p3), (4, .int p4), (5, .int p5)] := hl
  refine lv_aload_n hx hb dX11_setEnvelope_0 rfl (lv_at hl 0 rfl) ?_
  refine lv_iconst (v := 0) hx hb dX11_setEnvelope_1 (by decide) ?_
  refine g_put (ci := 11) (C := RX11) (T := TX11) (N := 2) (ty := .int) hx hb hts iX11_setEnvelope_X11 tyX11 tyX11_ok nmX11 hown hK ha mA_in hP hS (by decide) cD_Mo rfl 0 (by decide) rfl (by decide +kernel) rfl (by decide +kernel) rfl rfl (Nat.le_of_ble_eq_true rfl) (cD_Mo_set (by decide)) dX11_setEnvelope_2 (fun H locs hP hS => ?_)
  refine lv_iload_n hx hb dX11_setEnvelope_5 rfl (lv_at hl 1 rfl) ?_
  refine g_cSi (As := [.int p1]) (rest := []) ⟨hx, hb, hml, hown, hts⟩ (c_X11_isInstrument l G cA zq a ha (up2 S 18 0 0) L H.size p1  ) (va_cwS 1 hts gX11_setEnvelope_X11_isInstrument rfl rfl rfl (by decide +kernel) ⟨Nat.le_of_ble_eq_true rfl, Nat.le_of_ble_eq_true rfl⟩) hK (mA_mono hS.1) hP hS rfl hl.1 rfl (lv_room (Nat.le_of_ble_eq_true rfl)) dX11_setEnvelope_6 ⟨Nat.le_of_ble_eq_true rfl, Nat.le_of_ble_eq_true rfl⟩ (fun H locs hP hS _ _ => ?_)
  refine lv_if_ne (tgt := 18) hx hb dX11_setEnvelope_9 (by decide) (fun c1 => ?_) (fun c1 => ?_)
  ·
    refine lv_iload_n hx hb dX11_setEnvelope_18 rfl (lv_at hl 2 rfl) ?_
    refine lv_iconst (v := 1) hx hb dX11_setEnvelope_19 (by decide) ?_
    refine lv_sipush (v := 400) hx hb dX11_setEnvelope_20 (by decide) ?_
    refine g_cSi (As := [.int p2, .int 1, .int 400]) (rest := []) ⟨hx, hb, hml, hown, hts⟩ (c_X11_isIn l G cA zq 19 (by decide) a ha (up2 S 18 0 0) L H.size p2 (1 : Int32) (400 : Int32)  ) (va_cwS 3 hts gX11_setEnvelope_X11_isIn rfl rfl rfl (by decide +kernel) ⟨Nat.le_of_ble_eq_true rfl, Nat.le_of_ble_eq_true rfl⟩) hK (mA_mono hS.1) hP hS rfl hl.1 rfl (lv_room (Nat.le_of_ble_eq_true rfl)) dX11_setEnvelope_23 ⟨Nat.le_of_ble_eq_true rfl, Nat.le_of_ble_eq_true rfl⟩ (fun H locs hP hS _ _ => ?_)
    refine lv_if_eq (tgt := 96) hx hb dX11_setEnvelope_26 (by decide) (fun c2 => ?_) (fun c2 => ?_)
    ·
      refine lv_aload_n hx hb dX11_setEnvelope_96 rfl (lv_at hl 0 rfl) ?_
      refine lv_iconst (v := 2) hx hb dX11_setEnvelope_97 (by decide) ?_
      refine g_cVi (As := [.int 2]) (rest := []) ⟨hx, hb, hml, hown, hts⟩ (c_X11_no l G cA zq a ha (up2 S 18 0 0) L H.size (2 : Int32)  ) (cwV 1 hts gX11_setEnvelope_X11_no rfl rfl rfl (by decide +kernel) ⟨Nat.le_of_ble_eq_true rfl, Nat.le_of_ble_eq_true rfl⟩) (g_recv hK hP (by decide) cD_Mo (C := RX11) (T := TX11) (N := 2) rfl) hK (mA_mono hS.1) hP hS rfl hl.1 rfl (lv_room (Nat.le_of_ble_eq_true rfl)) dX11_setEnvelope_98 ⟨Nat.le_of_ble_eq_true rfl, Nat.le_of_ble_eq_true rfl⟩ (fun H locs hP hS _ _ => ?_)
      refine W.widen (k := 1) (n := 4) (by omega) (by omega) ?_
      exact g_iret hx hb hr hlocks (by unfold rX11_setEnvelope; rw [if_neg c1, if_pos c2]) (by unfold fX11_setEnvelope; rw [if_neg c1, if_pos c2]) rfl hP hS dX11_setEnvelope_101
    ·
      refine lv_iload_n hx hb dX11_setEnvelope_29 rfl (lv_at hl 3 rfl) ?_
      refine lv_iconst (v := 1) hx hb dX11_setEnvelope_30 (by decide) ?_
      refine lv_sipush (v := 400) hx hb dX11_setEnvelope_31 (by decide) ?_
      refine g_cSi (As := [.int p3, .int 1, .int 400]) (rest := []) ⟨hx, hb, hml, hown, hts⟩ (c_X11_isIn l G cA zq 19 (by decide) a ha (up2 S 18 0 0) L H.size p3 (1 : Int32) (400 : Int32)  ) (va_cwS 3 hts gX11_setEnvelope_X11_isIn rfl rfl rfl (by decide +kernel) ⟨Nat.le_of_ble_eq_true rfl, Nat.le_of_ble_eq_true rfl⟩) hK (mA_mono hS.1) hP hS rfl hl.1 rfl (lv_room (Nat.le_of_ble_eq_true rfl)) dX11_setEnvelope_34 ⟨Nat.le_of_ble_eq_true rfl, Nat.le_of_ble_eq_true rfl⟩ (fun H locs hP hS _ _ => ?_)
      refine lv_if_eq (tgt := 96) hx hb dX11_setEnvelope_37 (by decide) (fun c3 => ?_) (fun c3 => ?_)
      ·
        refine lv_aload_n hx hb dX11_setEnvelope_96 rfl (lv_at hl 0 rfl) ?_
        refine lv_iconst (v := 2) hx hb dX11_setEnvelope_97 (by decide) ?_
        refine g_cVi (As := [.int 2]) (rest := []) ⟨hx, hb, hml, hown, hts⟩ (c_X11_no l G cA zq a ha (up2 S 18 0 0) L H.size (2 : Int32)  ) (cwV 1 hts gX11_setEnvelope_X11_no rfl rfl rfl (by decide +kernel) ⟨Nat.le_of_ble_eq_true rfl, Nat.le_of_ble_eq_true rfl⟩) (g_recv hK hP (by decide) cD_Mo (C := RX11) (T := TX11) (N := 2) rfl) hK (mA_mono hS.1) hP hS rfl hl.1 rfl (lv_room (Nat.le_of_ble_eq_true rfl)) dX11_setEnvelope_98 ⟨Nat.le_of_ble_eq_true rfl, Nat.le_of_ble_eq_true rfl⟩ (fun H locs hP hS _ _ => ?_)
        refine W.widen (k := 1) (n := 4) (by omega) (by omega) ?_
        exact g_iret hx hb hr hlocks (by unfold rX11_setEnvelope; rw [if_neg c1, if_neg c2, if_pos c3]) (by unfold fX11_setEnvelope; rw [if_neg c1, if_neg c2, if_pos c3]) rfl hP hS dX11_setEnvelope_101
      ·
        refine lv_iload hx hb dX11_setEnvelope_40 (lv_at hl 4 rfl) ?_
        refine lv_iconst (v := 0) hx hb dX11_setEnvelope_42 (by decide) ?_
        refine lv_sipush (v := 1000) hx hb dX11_setEnvelope_43 (by decide) ?_
        refine g_cSi (As := [.int p4, .int 0, .int 1000]) (rest := []) ⟨hx, hb, hml, hown, hts⟩ (c_X11_isIn l G cA zq 19 (by decide) a ha (up2 S 18 0 0) L H.size p4 (0 : Int32) (1000 : Int32)  ) (va_cwS 3 hts gX11_setEnvelope_X11_isIn rfl rfl rfl (by decide +kernel) ⟨Nat.le_of_ble_eq_true rfl, Nat.le_of_ble_eq_true rfl⟩) hK (mA_mono hS.1) hP hS rfl hl.1 rfl (lv_room (Nat.le_of_ble_eq_true rfl)) dX11_setEnvelope_46 ⟨Nat.le_of_ble_eq_true rfl, Nat.le_of_ble_eq_true rfl⟩ (fun H locs hP hS _ _ => ?_)
        refine lv_if_eq (tgt := 96) hx hb dX11_setEnvelope_49 (by decide) (fun c4 => ?_) (fun c4 => ?_)
        ·
          refine lv_aload_n hx hb dX11_setEnvelope_96 rfl (lv_at hl 0 rfl) ?_
          refine lv_iconst (v := 2) hx hb dX11_setEnvelope_97 (by decide) ?_
          refine g_cVi (As := [.int 2]) (rest := []) ⟨hx, hb, hml, hown, hts⟩ (c_X11_no l G cA zq a ha (up2 S 18 0 0) L H.size (2 : Int32)  ) (cwV 1 hts gX11_setEnvelope_X11_no rfl rfl rfl (by decide +kernel) ⟨Nat.le_of_ble_eq_true rfl, Nat.le_of_ble_eq_true rfl⟩) (g_recv hK hP (by decide) cD_Mo (C := RX11) (T := TX11) (N := 2) rfl) hK (mA_mono hS.1) hP hS rfl hl.1 rfl (lv_room (Nat.le_of_ble_eq_true rfl)) dX11_setEnvelope_98 ⟨Nat.le_of_ble_eq_true rfl, Nat.le_of_ble_eq_true rfl⟩ (fun H locs hP hS _ _ => ?_)
          refine W.widen (k := 1) (n := 4) (by omega) (by omega) ?_
          exact g_iret hx hb hr hlocks (by unfold rX11_setEnvelope; rw [if_neg c1, if_neg c2, if_neg c3, if_pos c4]) (by unfold fX11_setEnvelope; rw [if_neg c1, if_neg c2, if_neg c3, if_pos c4]) rfl hP hS dX11_setEnvelope_101
        ·
          refine lv_iload hx hb dX11_setEnvelope_52 (lv_at hl 5 rfl) ?_
          refine lv_iconst (v := 1) hx hb dX11_setEnvelope_54 (by decide) ?_
          refine lv_sipush (v := 400) hx hb dX11_setEnvelope_55 (by decide) ?_
          refine g_cSi (As := [.int p5, .int 1, .int 400]) (rest := []) ⟨hx, hb, hml, hown, hts⟩ (c_X11_isIn l G cA zq 19 (by decide) a ha (up2 S 18 0 0) L H.size p5 (1 : Int32) (400 : Int32)  ) (va_cwS 3 hts gX11_setEnvelope_X11_isIn rfl rfl rfl (by decide +kernel) ⟨Nat.le_of_ble_eq_true rfl, Nat.le_of_ble_eq_true rfl⟩) hK (mA_mono hS.1) hP hS rfl hl.1 rfl (lv_room (Nat.le_of_ble_eq_true rfl)) dX11_setEnvelope_58 ⟨Nat.le_of_ble_eq_true rfl, Nat.le_of_ble_eq_true rfl⟩ (fun H locs hP hS _ _ => ?_)
          refine lv_if_eq (tgt := 96) hx hb dX11_setEnvelope_61 (by decide) (fun c5 => ?_) (fun c5 => ?_)
          ·
            refine lv_aload_n hx hb dX11_setEnvelope_96 rfl (lv_at hl 0 rfl) ?_
            refine lv_iconst (v := 2) hx hb dX11_setEnvelope_97 (by decide) ?_
            refine g_cVi (As := [.int 2]) (rest := []) ⟨hx, hb, hml, hown, hts⟩ (c_X11_no l G cA zq a ha (up2 S 18 0 0) L H.size (2 : Int32)  ) (cwV 1 hts gX11_setEnvelope_X11_no rfl rfl rfl (by decide +kernel) ⟨Nat.le_of_ble_eq_true rfl, Nat.le_of_ble_eq_true rfl⟩) (g_recv hK hP (by decide) cD_Mo (C := RX11) (T := TX11) (N := 2) rfl) hK (mA_mono hS.1) hP hS rfl hl.1 rfl (lv_room (Nat.le_of_ble_eq_true rfl)) dX11_setEnvelope_98 ⟨Nat.le_of_ble_eq_true rfl, Nat.le_of_ble_eq_true rfl⟩ (fun H locs hP hS _ _ => ?_)
            refine W.widen (k := 1) (n := 4) (by omega) (by omega) ?_
            exact g_iret hx hb hr hlocks (by unfold rX11_setEnvelope; rw [if_neg c1, if_neg c2, if_neg c3, if_neg c4, if_pos c5]) (by unfold fX11_setEnvelope; rw [if_neg c1, if_neg c2, if_neg c3, if_neg c4, if_pos c5]) rfl hP hS dX11_setEnvelope_101
          ·
            refine lv_aload_n hx hb dX11_setEnvelope_64 rfl (lv_at hl 0 rfl) ?_
            refine lv_iload_n hx hb dX11_setEnvelope_65 rfl (lv_at hl 1 rfl) ?_
            refine lv_iconst (v := 4) hx hb dX11_setEnvelope_66 (by decide) ?_
            refine lv_bipush (v := 6) hx hb dX11_setEnvelope_67 (by decide) ?_
            refine lv_iconst (v := 4) hx hb dX11_setEnvelope_69 (by decide) ?_
            refine x_new hx hb (hts (.arrayClass .int) (by decide +kernel)) hK ha mA_in (fun q h => Or.inr h) hP hS (k := 4) (N := 4) (by decide) (by decide) (by decide) (Nat.le_of_ble_eq_true rfl) (Nat.le_of_ble_eq_true rfl) dX11_setEnvelope_70 (fun q70 cQ H hKx hP hDx hS => ?_)
            refine lv_dup hx hb dX11_setEnvelope_72 rfl ?_
            refine lv_iconst (v := 0) hx hb dX11_setEnvelope_73 (by decide) ?_
            refine lv_iload_n hx hb dX11_setEnvelope_74 rfl (lv_at hl 2 rfl) ?_
            refine x_iast hx hb hKx hP hDx hS (vp_in_lit (by decide)) dX11_setEnvelope_75 (fun H locs hP hDx hS => ?_)
            refine lv_dup hx hb dX11_setEnvelope_76 rfl ?_
            refine lv_iconst (v := 1) hx hb dX11_setEnvelope_77 (by decide) ?_
            refine lv_iload_n hx hb dX11_setEnvelope_78 rfl (lv_at hl 3 rfl) ?_
            refine x_iast hx hb hKx hP hDx hS (vp_in_lit (by decide)) dX11_setEnvelope_79 (fun H locs hP hDx hS => ?_)
            refine lv_dup hx hb dX11_setEnvelope_80 rfl ?_
            refine lv_iconst (v := 2) hx hb dX11_setEnvelope_81 (by decide) ?_
            refine lv_iload hx hb dX11_setEnvelope_82 (lv_at hl 4 rfl) ?_
            refine x_iast hx hb hKx hP hDx hS (vp_in_lit (by decide)) dX11_setEnvelope_84 (fun H locs hP hDx hS => ?_)
            have hP : va_P G vwCl (wG 19 a (cD a cA) (up2 S 18 0 0) L ++ [(q70, .inl (cQ, 4, .inl (gX11_setEnvelope_1 S p1 p2 p3 p4 p5)))]) H := hP
            have hDx : va_D (mA 19 a s.heap.size) (wG 19 a (cD a cA) (up2 S 18 0 0) L ++ [(q70, .inl (cQ, 4, .inl (gX11_setEnvelope_1 S p1 p2 p3 p4 p5)))]) := hDx
            refine lv_dup hx hb dX11_setEnvelope_85 rfl ?_
            refine lv_iconst (v := 3) hx hb dX11_setEnvelope_86 (by decide) ?_
            refine lv_iload hx hb dX11_setEnvelope_87 (lv_at hl 5 rfl) ?_
            refine x_iast hx hb hKx hP hDx hS (vp_in_lit (by decide)) dX11_setEnvelope_89 (fun H locs hP hDx hS => ?_)
            have hcq := cQ_eq hKx
            rw [hcq] at hDx
            have hap := apX hDx
            have hinx := inX hDx
            rw [hcq, wX_eq] at hP
            have hi4 : vp_in p1 4 := isIn_vp (by unfold rX11_isInstrument at c1; exact c1) (by decide)
            refine g_cVi (As := [.int p1, .int 4, .int 6, .ref q70]) (rest := []) ⟨hx, hb, hml, hown, hts⟩ (c_X11_put_ l G cA zq (aX a q70) hap (upR (up2 S 18 0 0) 19 (upd (gX11_setEnvelope_1 S p1 p2 p3 p4 p5) (3 : Int32).toNatClampNeg p5)) L H.size 4 p1 (4 : Int32) (6 : Int32) (by decide) (in12 hi4 6 (by decide)) (p12_nn hi4 4 (by decide)) (by decide) (by decide) (p12_le hi4 4 4 (by decide))) (cwV 4 hts gX11_setEnvelope_X11_put_ rfl rfl rfl (by decide +kernel) ⟨Nat.le_of_ble_eq_true rfl, Nat.le_of_ble_eq_true rfl⟩) (g_recv hK hP (by decide) cX_Mo (C := RX11) (T := TX11) (N := 2) rfl) hK (fun k h => h.elim (fun ⟨j, hj, e⟩ => e ▸ hinx j hj) (fun h => Or.inr (Nat.le_trans hS.1 h))) hP hS rfl hl.1 rfl (lv_room (Nat.le_of_ble_eq_true rfl)) dX11_setEnvelope_90 ⟨Nat.le_of_ble_eq_true rfl, Nat.le_of_ble_eq_true rfl⟩ (fun H locs hP hS _ _ => ?_)
            have hP := wX_back hP
            have hP : va_P G vwCl (wG 19 a (cD a cA) (mX11_setEnvelope_2 S p1 p2 p3 p4 p5) L) H := hP
            refine W.eq (g2 := F0 m 93 ls [.int (vX11_setEnvelope_3 S p1 p2 p3 p4 p5)]) rfl ?_
            refine lv_goto (tgt := 101) hx hb dX11_setEnvelope_93 (by decide) ?_
            exact g_iret hx hb hr hlocks (by unfold rX11_setEnvelope; rw [if_neg c1, if_neg c2, if_neg c3, if_neg c4, if_neg c5]) (by unfold fX11_setEnvelope; rw [if_neg c1, if_neg c2, if_neg c3, if_neg c4, if_neg c5]) rfl hP hS dX11_setEnvelope_101
  ·
    refine lv_aload_n hx hb dX11_setEnvelope_12 rfl (lv_at hl 0 rfl) ?_
    refine lv_iconst (v := 1) hx hb dX11_setEnvelope_13 (by decide) ?_
    refine g_cVi (As := [.int 1]) (rest := []) ⟨hx, hb, hml, hown, hts⟩ (c_X11_no l G cA zq a ha (up2 S 18 0 0) L H.size (1 : Int32)  ) (cwV 1 hts gX11_setEnvelope_X11_no rfl rfl rfl (by decide +kernel) ⟨Nat.le_of_ble_eq_true rfl, Nat.le_of_ble_eq_true rfl⟩) (g_recv hK hP (by decide) cD_Mo (C := RX11) (T := TX11) (N := 2) rfl) hK (mA_mono hS.1) hP hS rfl hl.1 rfl (lv_room (Nat.le_of_ble_eq_true rfl)) dX11_setEnvelope_14 ⟨Nat.le_of_ble_eq_true rfl, Nat.le_of_ble_eq_true rfl⟩ (fun H locs hP hS _ _ => ?_)
    refine W.widen (k := 1) (n := 4) (by omega) (by omega) ?_
    exact g_iret hx hb hr hlocks (by unfold rX11_setEnvelope; rw [if_pos c1]) (by unfold fX11_setEnvelope; rw [if_pos c1]) rfl hP hS dX11_setEnvelope_17

def mX11_setFilter_1 (S : Mm) (p1 : Int32) (p2 : Int32) (p3 : Int32) : Mm := fX11_put_ (upR (up2 S 18 0 0) 19 (upd (upd (fun _ => 0) (0 : Int32).toNatClampNeg p2) (1 : Int32).toNatClampNeg p3)) 2 p1 (8 : Int32) (8 : Int32)
def vX11_setFilter_2 (S : Mm) (p1 : Int32) (p2 : Int32) (p3 : Int32) : Int32 := rX11_put_ (upR (up2 S 18 0 0) 19 (upd (upd (fun _ => 0) (0 : Int32).toNatClampNeg p2) (1 : Int32).toNatClampNeg p3)) 2 p1 (8 : Int32) (8 : Int32)
def rX11_setFilter (S : Mm) (p1 : Int32) (p2 : Int32) (p3 : Int32) : Int32 := (if rX11_isInstrument p1 = 0 then rX11_no (up2 S 18 0 0) (1 : Int32) else (if rX11_isIn p2 (1 : Int32) (128 : Int32) = 0 then rX11_no (up2 S 18 0 0) (2 : Int32) else (if rX11_isIn p3 (16 : Int32) (256 : Int32) = 0 then rX11_no (up2 S 18 0 0) (2 : Int32) else (vX11_setFilter_2 S p1 p2 p3))))
def fX11_setFilter (S : Mm) (p1 : Int32) (p2 : Int32) (p3 : Int32) : Mm := (if rX11_isInstrument p1 = 0 then fX11_no (up2 S 18 0 0) (1 : Int32) else (if rX11_isIn p2 (1 : Int32) (128 : Int32) = 0 then fX11_no (up2 S 18 0 0) (2 : Int32) else (if rX11_isIn p3 (16 : Int32) (256 : Int32) = 0 then fX11_no (up2 S 18 0 0) (2 : Int32) else (mX11_setFilter_1 S p1 p2 p3))))
theorem iX11_setFilter_X11 : ∀ w ∈ u_ws RX11 TX11 2, w ∈ wsX11_setFilter := by decide +kernel
set_option maxHeartbeats 4000000 in
set_option maxRecDepth 100000 in
theorem c_X11_setFilter (l : Launch) (G : va_G) (cA : ClassId) (zq : Nat) (a : Nat → Nat) (ha : apart 19 a) (S : Mm) (L : Int64) (sz : Nat) (p1 : Int32) (p2 : Int32) (p3 : Int32)  : Met l yX11_setFilter wsX11_setFilter ({ frames := 2, cells := 1, slots := 2, locals := 51 } : Room) (va_Pc [.ref (a 18), .int p1, .int p2, .int p3] (gI G cA zq 19 a (cD a cA) S L sz)) (gQi (rX11_setFilter S p1 p2 p3) G 19 a (cD a cA) (fX11_setFilter S p1 p2 p3) L sz) 1 2 (mA 19 a sz) := by
  refine g_met (cc := cX11_setFilter) (maxL := 4) (ret := (some .int)) (by decide) rfl (Nat.le_of_ble_eq_true rfl) ?_
  intro p e s m below meth c ls hx hb hr hlocks hml hts hown hnm hsz hK hP hS hl
  subst hsz
  have hl : lv_has ls 4 [(0, .ref (a 18)), (1, .int p1), (2, .int p2), (3, .int p3)] := hl
  refine lv_aload_n hx hb dX11_setFilter_0 rfl (lv_at hl 0 rfl) ?_
  refine lv_iconst (v := 0) hx hb dX11_setFilter_1 (by decide) ?_
  refine g_put (ci := 11) (C := RX11) (T := TX11) (N := 2) (ty := .int) hx hb hts iX11_setFilter_X11 tyX11 tyX11_ok nmX11 hown hK ha mA_in hP hS (by decide) cD_Mo rfl 0 (by decide) rfl (by decide +kernel) rfl (by decide +kernel) rfl rfl (Nat.le_of_ble_eq_true rfl) (cD_Mo_set (by decide)) dX11_setFilter_2 (fun H locs hP hS => ?_)
  refine lv_iload_n hx hb dX11_setFilter_5 rfl (lv_at hl 1 rfl) ?_
  refine g_cSi (As := [.int p1]) (rest := []) ⟨hx, hb, hml, hown, hts⟩ (c_X11_isInstrument l G cA zq a ha (up2 S 18 0 0) L H.size p1  ) (va_cwS 1 hts gX11_setFilter_X11_isInstrument rfl rfl rfl (by decide +kernel) ⟨Nat.le_of_ble_eq_true rfl, Nat.le_of_ble_eq_true rfl⟩) hK (mA_mono hS.1) hP hS rfl hl.1 rfl (lv_room (Nat.le_of_ble_eq_true rfl)) dX11_setFilter_6 ⟨Nat.le_of_ble_eq_true rfl, Nat.le_of_ble_eq_true rfl⟩ (fun H locs hP hS _ _ => ?_)
  refine lv_if_ne (tgt := 18) hx hb dX11_setFilter_9 (by decide) (fun c1 => ?_) (fun c1 => ?_)
  ·
    refine lv_iload_n hx hb dX11_setFilter_18 rfl (lv_at hl 2 rfl) ?_
    refine lv_iconst (v := 1) hx hb dX11_setFilter_19 (by decide) ?_
    refine lv_sipush (v := 128) hx hb dX11_setFilter_20 (by decide) ?_
    refine g_cSi (As := [.int p2, .int 1, .int 128]) (rest := []) ⟨hx, hb, hml, hown, hts⟩ (c_X11_isIn l G cA zq 19 (by decide) a ha (up2 S 18 0 0) L H.size p2 (1 : Int32) (128 : Int32)  ) (va_cwS 3 hts gX11_setFilter_X11_isIn rfl rfl rfl (by decide +kernel) ⟨Nat.le_of_ble_eq_true rfl, Nat.le_of_ble_eq_true rfl⟩) hK (mA_mono hS.1) hP hS rfl hl.1 rfl (lv_room (Nat.le_of_ble_eq_true rfl)) dX11_setFilter_23 ⟨Nat.le_of_ble_eq_true rfl, Nat.le_of_ble_eq_true rfl⟩ (fun H locs hP hS _ _ => ?_)
    refine lv_if_eq (tgt := 64) hx hb dX11_setFilter_26 (by decide) (fun c2 => ?_) (fun c2 => ?_)
    ·
      refine lv_aload_n hx hb dX11_setFilter_64 rfl (lv_at hl 0 rfl) ?_
      refine lv_iconst (v := 2) hx hb dX11_setFilter_65 (by decide) ?_
      refine g_cVi (As := [.int 2]) (rest := []) ⟨hx, hb, hml, hown, hts⟩ (c_X11_no l G cA zq a ha (up2 S 18 0 0) L H.size (2 : Int32)  ) (cwV 1 hts gX11_setFilter_X11_no rfl rfl rfl (by decide +kernel) ⟨Nat.le_of_ble_eq_true rfl, Nat.le_of_ble_eq_true rfl⟩) (g_recv hK hP (by decide) cD_Mo (C := RX11) (T := TX11) (N := 2) rfl) hK (mA_mono hS.1) hP hS rfl hl.1 rfl (lv_room (Nat.le_of_ble_eq_true rfl)) dX11_setFilter_66 ⟨Nat.le_of_ble_eq_true rfl, Nat.le_of_ble_eq_true rfl⟩ (fun H locs hP hS _ _ => ?_)
      refine W.widen (k := 1) (n := 2) (by omega) (by omega) ?_
      exact g_iret hx hb hr hlocks (by unfold rX11_setFilter; rw [if_neg c1, if_pos c2]) (by unfold fX11_setFilter; rw [if_neg c1, if_pos c2]) rfl hP hS dX11_setFilter_69
    ·
      refine lv_iload_n hx hb dX11_setFilter_29 rfl (lv_at hl 3 rfl) ?_
      refine lv_bipush (v := 16) hx hb dX11_setFilter_30 (by decide) ?_
      refine lv_sipush (v := 256) hx hb dX11_setFilter_32 (by decide) ?_
      refine g_cSi (As := [.int p3, .int 16, .int 256]) (rest := []) ⟨hx, hb, hml, hown, hts⟩ (c_X11_isIn l G cA zq 19 (by decide) a ha (up2 S 18 0 0) L H.size p3 (16 : Int32) (256 : Int32)  ) (va_cwS 3 hts gX11_setFilter_X11_isIn rfl rfl rfl (by decide +kernel) ⟨Nat.le_of_ble_eq_true rfl, Nat.le_of_ble_eq_true rfl⟩) hK (mA_mono hS.1) hP hS rfl hl.1 rfl (lv_room (Nat.le_of_ble_eq_true rfl)) dX11_setFilter_35 ⟨Nat.le_of_ble_eq_true rfl, Nat.le_of_ble_eq_true rfl⟩ (fun H locs hP hS _ _ => ?_)
      refine lv_if_eq (tgt := 64) hx hb dX11_setFilter_38 (by decide) (fun c3 => ?_) (fun c3 => ?_)
      ·
        refine lv_aload_n hx hb dX11_setFilter_64 rfl (lv_at hl 0 rfl) ?_
        refine lv_iconst (v := 2) hx hb dX11_setFilter_65 (by decide) ?_
        refine g_cVi (As := [.int 2]) (rest := []) ⟨hx, hb, hml, hown, hts⟩ (c_X11_no l G cA zq a ha (up2 S 18 0 0) L H.size (2 : Int32)  ) (cwV 1 hts gX11_setFilter_X11_no rfl rfl rfl (by decide +kernel) ⟨Nat.le_of_ble_eq_true rfl, Nat.le_of_ble_eq_true rfl⟩) (g_recv hK hP (by decide) cD_Mo (C := RX11) (T := TX11) (N := 2) rfl) hK (mA_mono hS.1) hP hS rfl hl.1 rfl (lv_room (Nat.le_of_ble_eq_true rfl)) dX11_setFilter_66 ⟨Nat.le_of_ble_eq_true rfl, Nat.le_of_ble_eq_true rfl⟩ (fun H locs hP hS _ _ => ?_)
        refine W.widen (k := 1) (n := 2) (by omega) (by omega) ?_
        exact g_iret hx hb hr hlocks (by unfold rX11_setFilter; rw [if_neg c1, if_neg c2, if_pos c3]) (by unfold fX11_setFilter; rw [if_neg c1, if_neg c2, if_pos c3]) rfl hP hS dX11_setFilter_69
      ·
        refine lv_aload_n hx hb dX11_setFilter_41 rfl (lv_at hl 0 rfl) ?_
        refine lv_iload_n hx hb dX11_setFilter_42 rfl (lv_at hl 1 rfl) ?_
        refine lv_bipush (v := 8) hx hb dX11_setFilter_43 (by decide) ?_
        refine lv_bipush (v := 8) hx hb dX11_setFilter_45 (by decide) ?_
        refine lv_iconst (v := 2) hx hb dX11_setFilter_47 (by decide) ?_
        refine x_new hx hb (hts (.arrayClass .int) (by decide +kernel)) hK ha mA_in (fun q h => Or.inr h) hP hS (k := 2) (N := 2) (by decide) (by decide) (by decide) (Nat.le_of_ble_eq_true rfl) (Nat.le_of_ble_eq_true rfl) dX11_setFilter_48 (fun q48 cQ H hKx hP hDx hS => ?_)
        refine lv_dup hx hb dX11_setFilter_50 rfl ?_
        refine lv_iconst (v := 0) hx hb dX11_setFilter_51 (by decide) ?_
        refine lv_iload_n hx hb dX11_setFilter_52 rfl (lv_at hl 2 rfl) ?_
        refine x_iast hx hb hKx hP hDx hS (vp_in_lit (by decide)) dX11_setFilter_53 (fun H locs hP hDx hS => ?_)
        refine lv_dup hx hb dX11_setFilter_54 rfl ?_
        refine lv_iconst (v := 1) hx hb dX11_setFilter_55 (by decide) ?_
        refine lv_iload_n hx hb dX11_setFilter_56 rfl (lv_at hl 3 rfl) ?_
        refine x_iast hx hb hKx hP hDx hS (vp_in_lit (by decide)) dX11_setFilter_57 (fun H locs hP hDx hS => ?_)
        have hcq := cQ_eq hKx
        rw [hcq] at hDx
        have hap := apX hDx
        have hinx := inX hDx
        rw [hcq, wX_eq] at hP
        have hi4 : vp_in p1 4 := isIn_vp (by unfold rX11_isInstrument at c1; exact c1) (by decide)
        refine g_cVi (As := [.int p1, .int 8, .int 8, .ref q48]) (rest := []) ⟨hx, hb, hml, hown, hts⟩ (c_X11_put_ l G cA zq (aX a q48) hap (upR (up2 S 18 0 0) 19 (upd (upd (fun _ => 0) (0 : Int32).toNatClampNeg p2) (1 : Int32).toNatClampNeg p3)) L H.size 2 p1 (8 : Int32) (8 : Int32) (by decide) (in12 hi4 8 (by decide)) (p12_nn hi4 8 (by decide)) (by decide) (by decide) (p12_le hi4 8 2 (by decide))) (cwV 4 hts gX11_setFilter_X11_put_ rfl rfl rfl (by decide +kernel) ⟨Nat.le_of_ble_eq_true rfl, Nat.le_of_ble_eq_true rfl⟩) (g_recv hK hP (by decide) cX_Mo (C := RX11) (T := TX11) (N := 2) rfl) hK (fun k h => h.elim (fun ⟨j, hj, e⟩ => e ▸ hinx j hj) (fun h => Or.inr (Nat.le_trans hS.1 h))) hP hS rfl hl.1 rfl (lv_room (Nat.le_of_ble_eq_true rfl)) dX11_setFilter_58 ⟨Nat.le_of_ble_eq_true rfl, Nat.le_of_ble_eq_true rfl⟩ (fun H locs hP hS _ _ => ?_)
        have hP := wX_back hP
        have hP : va_P G vwCl (wG 19 a (cD a cA) (mX11_setFilter_1 S p1 p2 p3) L) H := hP
        refine W.eq (g2 := F0 m 61 ls [.int (vX11_setFilter_2 S p1 p2 p3)]) rfl ?_
        refine lv_goto (tgt := 69) hx hb dX11_setFilter_61 (by decide) ?_
        exact g_iret hx hb hr hlocks (by unfold rX11_setFilter; rw [if_neg c1, if_neg c2, if_neg c3]) (by unfold fX11_setFilter; rw [if_neg c1, if_neg c2, if_neg c3]) rfl hP hS dX11_setFilter_69
  ·
    refine lv_aload_n hx hb dX11_setFilter_12 rfl (lv_at hl 0 rfl) ?_
    refine lv_iconst (v := 1) hx hb dX11_setFilter_13 (by decide) ?_
    refine g_cVi (As := [.int 1]) (rest := []) ⟨hx, hb, hml, hown, hts⟩ (c_X11_no l G cA zq a ha (up2 S 18 0 0) L H.size (1 : Int32)  ) (cwV 1 hts gX11_setFilter_X11_no rfl rfl rfl (by decide +kernel) ⟨Nat.le_of_ble_eq_true rfl, Nat.le_of_ble_eq_true rfl⟩) (g_recv hK hP (by decide) cD_Mo (C := RX11) (T := TX11) (N := 2) rfl) hK (mA_mono hS.1) hP hS rfl hl.1 rfl (lv_room (Nat.le_of_ble_eq_true rfl)) dX11_setFilter_14 ⟨Nat.le_of_ble_eq_true rfl, Nat.le_of_ble_eq_true rfl⟩ (fun H locs hP hS _ _ => ?_)
    refine W.widen (k := 1) (n := 2) (by omega) (by omega) ?_
    exact g_iret hx hb hr hlocks (by unfold rX11_setFilter; rw [if_pos c1]) (by unfold fX11_setFilter; rw [if_pos c1]) rfl hP hS dX11_setFilter_17

def mX11_setVibrato_1 (S : Mm) (p1 : Int32) (p2 : Int32) (p3 : Int32) : Mm := fX11_put_ (upR (up2 S 18 0 0) 19 (upd (upd (fun _ => 0) (0 : Int32).toNatClampNeg p2) (1 : Int32).toNatClampNeg p3)) 2 p1 (10 : Int32) (10 : Int32)
def vX11_setVibrato_2 (S : Mm) (p1 : Int32) (p2 : Int32) (p3 : Int32) : Int32 := rX11_put_ (upR (up2 S 18 0 0) 19 (upd (upd (fun _ => 0) (0 : Int32).toNatClampNeg p2) (1 : Int32).toNatClampNeg p3)) 2 p1 (10 : Int32) (10 : Int32)
def rX11_setVibrato (S : Mm) (p1 : Int32) (p2 : Int32) (p3 : Int32) : Int32 := (if rX11_isInstrument p1 = 0 then rX11_no (up2 S 18 0 0) (1 : Int32) else (if rX11_isIn p2 (0 : Int32) (64 : Int32) = 0 then rX11_no (up2 S 18 0 0) (2 : Int32) else (if rX11_isIn p3 (8 : Int32) (255 : Int32) = 0 then rX11_no (up2 S 18 0 0) (2 : Int32) else (vX11_setVibrato_2 S p1 p2 p3))))
def fX11_setVibrato (S : Mm) (p1 : Int32) (p2 : Int32) (p3 : Int32) : Mm := (if rX11_isInstrument p1 = 0 then fX11_no (up2 S 18 0 0) (1 : Int32) else (if rX11_isIn p2 (0 : Int32) (64 : Int32) = 0 then fX11_no (up2 S 18 0 0) (2 : Int32) else (if rX11_isIn p3 (8 : Int32) (255 : Int32) = 0 then fX11_no (up2 S 18 0 0) (2 : Int32) else (mX11_setVibrato_1 S p1 p2 p3))))
theorem iX11_setVibrato_X11 : ∀ w ∈ u_ws RX11 TX11 2, w ∈ wsX11_setVibrato := by decide +kernel
set_option maxHeartbeats 4000000 in
set_option maxRecDepth 100000 in
theorem c_X11_setVibrato (l : Launch) (G : va_G) (cA : ClassId) (zq : Nat) (a : Nat → Nat) (ha : apart 19 a) (S : Mm) (L : Int64) (sz : Nat) (p1 : Int32) (p2 : Int32) (p3 : Int32)  : Met l yX11_setVibrato wsX11_setVibrato ({ frames := 2, cells := 1, slots := 2, locals := 51 } : Room) (va_Pc [.ref (a 18), .int p1, .int p2, .int p3] (gI G cA zq 19 a (cD a cA) S L sz)) (gQi (rX11_setVibrato S p1 p2 p3) G 19 a (cD a cA) (fX11_setVibrato S p1 p2 p3) L sz) 1 2 (mA 19 a sz) := by
  refine g_met (cc := cX11_setVibrato) (maxL := 4) (ret := (some .int)) (by decide) rfl (Nat.le_of_ble_eq_true rfl) ?_
  intro p e s m below meth c ls hx hb hr hlocks hml hts hown hnm hsz hK hP hS hl
  subst hsz
  have hl : lv_has ls 4 [(0, .ref (a 18)), (1, .int p1), (2, .int p2), (3, .int p3)] := hl
  refine lv_aload_n hx hb dX11_setVibrato_0 rfl (lv_at hl 0 rfl) ?_
  refine lv_iconst (v := 0) hx hb dX11_setVibrato_1 (by decide) ?_
  refine g_put (ci := 11) (C := RX11) (T := TX11) (N := 2) (ty := .int) hx hb hts iX11_setVibrato_X11 tyX11 tyX11_ok nmX11 hown hK ha mA_in hP hS (by decide) cD_Mo rfl 0 (by decide) rfl (by decide +kernel) rfl (by decide +kernel) rfl rfl (Nat.le_of_ble_eq_true rfl) (cD_Mo_set (by decide)) dX11_setVibrato_2 (fun H locs hP hS => ?_)
  refine lv_iload_n hx hb dX11_setVibrato_5 rfl (lv_at hl 1 rfl) ?_
  refine g_cSi (As := [.int p1]) (rest := []) ⟨hx, hb, hml, hown, hts⟩ (c_X11_isInstrument l G cA zq a ha (up2 S 18 0 0) L H.size p1  ) (va_cwS 1 hts gX11_setVibrato_X11_isInstrument rfl rfl rfl (by decide +kernel) ⟨Nat.le_of_ble_eq_true rfl, Nat.le_of_ble_eq_true rfl⟩) hK (mA_mono hS.1) hP hS rfl hl.1 rfl (lv_room (Nat.le_of_ble_eq_true rfl)) dX11_setVibrato_6 ⟨Nat.le_of_ble_eq_true rfl, Nat.le_of_ble_eq_true rfl⟩ (fun H locs hP hS _ _ => ?_)
  refine lv_if_ne (tgt := 18) hx hb dX11_setVibrato_9 (by decide) (fun c1 => ?_) (fun c1 => ?_)
  ·
    refine lv_iload_n hx hb dX11_setVibrato_18 rfl (lv_at hl 2 rfl) ?_
    refine lv_iconst (v := 0) hx hb dX11_setVibrato_19 (by decide) ?_
    refine lv_bipush (v := 64) hx hb dX11_setVibrato_20 (by decide) ?_
    refine g_cSi (As := [.int p2, .int 0, .int 64]) (rest := []) ⟨hx, hb, hml, hown, hts⟩ (c_X11_isIn l G cA zq 19 (by decide) a ha (up2 S 18 0 0) L H.size p2 (0 : Int32) (64 : Int32)  ) (va_cwS 3 hts gX11_setVibrato_X11_isIn rfl rfl rfl (by decide +kernel) ⟨Nat.le_of_ble_eq_true rfl, Nat.le_of_ble_eq_true rfl⟩) hK (mA_mono hS.1) hP hS rfl hl.1 rfl (lv_room (Nat.le_of_ble_eq_true rfl)) dX11_setVibrato_22 ⟨Nat.le_of_ble_eq_true rfl, Nat.le_of_ble_eq_true rfl⟩ (fun H locs hP hS _ _ => ?_)
    refine lv_if_eq (tgt := 63) hx hb dX11_setVibrato_25 (by decide) (fun c2 => ?_) (fun c2 => ?_)
    ·
      refine lv_aload_n hx hb dX11_setVibrato_63 rfl (lv_at hl 0 rfl) ?_
      refine lv_iconst (v := 2) hx hb dX11_setVibrato_64 (by decide) ?_
      refine g_cVi (As := [.int 2]) (rest := []) ⟨hx, hb, hml, hown, hts⟩ (c_X11_no l G cA zq a ha (up2 S 18 0 0) L H.size (2 : Int32)  ) (cwV 1 hts gX11_setVibrato_X11_no rfl rfl rfl (by decide +kernel) ⟨Nat.le_of_ble_eq_true rfl, Nat.le_of_ble_eq_true rfl⟩) (g_recv hK hP (by decide) cD_Mo (C := RX11) (T := TX11) (N := 2) rfl) hK (mA_mono hS.1) hP hS rfl hl.1 rfl (lv_room (Nat.le_of_ble_eq_true rfl)) dX11_setVibrato_65 ⟨Nat.le_of_ble_eq_true rfl, Nat.le_of_ble_eq_true rfl⟩ (fun H locs hP hS _ _ => ?_)
      refine W.widen (k := 1) (n := 2) (by omega) (by omega) ?_
      exact g_iret hx hb hr hlocks (by unfold rX11_setVibrato; rw [if_neg c1, if_pos c2]) (by unfold fX11_setVibrato; rw [if_neg c1, if_pos c2]) rfl hP hS dX11_setVibrato_68
    ·
      refine lv_iload_n hx hb dX11_setVibrato_28 rfl (lv_at hl 3 rfl) ?_
      refine lv_bipush (v := 8) hx hb dX11_setVibrato_29 (by decide) ?_
      refine lv_sipush (v := 255) hx hb dX11_setVibrato_31 (by decide) ?_
      refine g_cSi (As := [.int p3, .int 8, .int 255]) (rest := []) ⟨hx, hb, hml, hown, hts⟩ (c_X11_isIn l G cA zq 19 (by decide) a ha (up2 S 18 0 0) L H.size p3 (8 : Int32) (255 : Int32)  ) (va_cwS 3 hts gX11_setVibrato_X11_isIn rfl rfl rfl (by decide +kernel) ⟨Nat.le_of_ble_eq_true rfl, Nat.le_of_ble_eq_true rfl⟩) hK (mA_mono hS.1) hP hS rfl hl.1 rfl (lv_room (Nat.le_of_ble_eq_true rfl)) dX11_setVibrato_34 ⟨Nat.le_of_ble_eq_true rfl, Nat.le_of_ble_eq_true rfl⟩ (fun H locs hP hS _ _ => ?_)
      refine lv_if_eq (tgt := 63) hx hb dX11_setVibrato_37 (by decide) (fun c3 => ?_) (fun c3 => ?_)
      ·
        refine lv_aload_n hx hb dX11_setVibrato_63 rfl (lv_at hl 0 rfl) ?_
        refine lv_iconst (v := 2) hx hb dX11_setVibrato_64 (by decide) ?_
        refine g_cVi (As := [.int 2]) (rest := []) ⟨hx, hb, hml, hown, hts⟩ (c_X11_no l G cA zq a ha (up2 S 18 0 0) L H.size (2 : Int32)  ) (cwV 1 hts gX11_setVibrato_X11_no rfl rfl rfl (by decide +kernel) ⟨Nat.le_of_ble_eq_true rfl, Nat.le_of_ble_eq_true rfl⟩) (g_recv hK hP (by decide) cD_Mo (C := RX11) (T := TX11) (N := 2) rfl) hK (mA_mono hS.1) hP hS rfl hl.1 rfl (lv_room (Nat.le_of_ble_eq_true rfl)) dX11_setVibrato_65 ⟨Nat.le_of_ble_eq_true rfl, Nat.le_of_ble_eq_true rfl⟩ (fun H locs hP hS _ _ => ?_)
        refine W.widen (k := 1) (n := 2) (by omega) (by omega) ?_
        exact g_iret hx hb hr hlocks (by unfold rX11_setVibrato; rw [if_neg c1, if_neg c2, if_pos c3]) (by unfold fX11_setVibrato; rw [if_neg c1, if_neg c2, if_pos c3]) rfl hP hS dX11_setVibrato_68
      ·
        refine lv_aload_n hx hb dX11_setVibrato_40 rfl (lv_at hl 0 rfl) ?_
        refine lv_iload_n hx hb dX11_setVibrato_41 rfl (lv_at hl 1 rfl) ?_
        refine lv_bipush (v := 10) hx hb dX11_setVibrato_42 (by decide) ?_
        refine lv_bipush (v := 10) hx hb dX11_setVibrato_44 (by decide) ?_
        refine lv_iconst (v := 2) hx hb dX11_setVibrato_46 (by decide) ?_
        refine x_new hx hb (hts (.arrayClass .int) (by decide +kernel)) hK ha mA_in (fun q h => Or.inr h) hP hS (k := 2) (N := 2) (by decide) (by decide) (by decide) (Nat.le_of_ble_eq_true rfl) (Nat.le_of_ble_eq_true rfl) dX11_setVibrato_47 (fun q47 cQ H hKx hP hDx hS => ?_)
        refine lv_dup hx hb dX11_setVibrato_49 rfl ?_
        refine lv_iconst (v := 0) hx hb dX11_setVibrato_50 (by decide) ?_
        refine lv_iload_n hx hb dX11_setVibrato_51 rfl (lv_at hl 2 rfl) ?_
        refine x_iast hx hb hKx hP hDx hS (vp_in_lit (by decide)) dX11_setVibrato_52 (fun H locs hP hDx hS => ?_)
        refine lv_dup hx hb dX11_setVibrato_53 rfl ?_
        refine lv_iconst (v := 1) hx hb dX11_setVibrato_54 (by decide) ?_
        refine lv_iload_n hx hb dX11_setVibrato_55 rfl (lv_at hl 3 rfl) ?_
        refine x_iast hx hb hKx hP hDx hS (vp_in_lit (by decide)) dX11_setVibrato_56 (fun H locs hP hDx hS => ?_)
        have hcq := cQ_eq hKx
        rw [hcq] at hDx
        have hap := apX hDx
        have hinx := inX hDx
        rw [hcq, wX_eq] at hP
        have hi4 : vp_in p1 4 := isIn_vp (by unfold rX11_isInstrument at c1; exact c1) (by decide)
        refine g_cVi (As := [.int p1, .int 10, .int 10, .ref q47]) (rest := []) ⟨hx, hb, hml, hown, hts⟩ (c_X11_put_ l G cA zq (aX a q47) hap (upR (up2 S 18 0 0) 19 (upd (upd (fun _ => 0) (0 : Int32).toNatClampNeg p2) (1 : Int32).toNatClampNeg p3)) L H.size 2 p1 (10 : Int32) (10 : Int32) (by decide) (in12 hi4 10 (by decide)) (p12_nn hi4 10 (by decide)) (by decide) (by decide) (p12_le hi4 10 2 (by decide))) (cwV 4 hts gX11_setVibrato_X11_put_ rfl rfl rfl (by decide +kernel) ⟨Nat.le_of_ble_eq_true rfl, Nat.le_of_ble_eq_true rfl⟩) (g_recv hK hP (by decide) cX_Mo (C := RX11) (T := TX11) (N := 2) rfl) hK (fun k h => h.elim (fun ⟨j, hj, e⟩ => e ▸ hinx j hj) (fun h => Or.inr (Nat.le_trans hS.1 h))) hP hS rfl hl.1 rfl (lv_room (Nat.le_of_ble_eq_true rfl)) dX11_setVibrato_57 ⟨Nat.le_of_ble_eq_true rfl, Nat.le_of_ble_eq_true rfl⟩ (fun H locs hP hS _ _ => ?_)
        have hP := wX_back hP
        have hP : va_P G vwCl (wG 19 a (cD a cA) (mX11_setVibrato_1 S p1 p2 p3) L) H := hP
        refine W.eq (g2 := F0 m 60 ls [.int (vX11_setVibrato_2 S p1 p2 p3)]) rfl ?_
        refine lv_goto (tgt := 68) hx hb dX11_setVibrato_60 (by decide) ?_
        exact g_iret hx hb hr hlocks (by unfold rX11_setVibrato; rw [if_neg c1, if_neg c2, if_neg c3]) (by unfold fX11_setVibrato; rw [if_neg c1, if_neg c2, if_neg c3]) rfl hP hS dX11_setVibrato_68
  ·
    refine lv_aload_n hx hb dX11_setVibrato_12 rfl (lv_at hl 0 rfl) ?_
    refine lv_iconst (v := 1) hx hb dX11_setVibrato_13 (by decide) ?_
    refine g_cVi (As := [.int 1]) (rest := []) ⟨hx, hb, hml, hown, hts⟩ (c_X11_no l G cA zq a ha (up2 S 18 0 0) L H.size (1 : Int32)  ) (cwV 1 hts gX11_setVibrato_X11_no rfl rfl rfl (by decide +kernel) ⟨Nat.le_of_ble_eq_true rfl, Nat.le_of_ble_eq_true rfl⟩) (g_recv hK hP (by decide) cD_Mo (C := RX11) (T := TX11) (N := 2) rfl) hK (mA_mono hS.1) hP hS rfl hl.1 rfl (lv_room (Nat.le_of_ble_eq_true rfl)) dX11_setVibrato_14 ⟨Nat.le_of_ble_eq_true rfl, Nat.le_of_ble_eq_true rfl⟩ (fun H locs hP hS _ _ => ?_)
    refine W.widen (k := 1) (n := 2) (by omega) (by omega) ?_
    exact g_iret hx hb hr hlocks (by unfold rX11_setVibrato; rw [if_pos c1]) (by unfold fX11_setVibrato; rw [if_pos c1]) rfl hP hS dX11_setVibrato_17
