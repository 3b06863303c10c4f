def rX11_isIn (p1 : Int32) (p2 : Int32) (p3 : Int32) : Int32 := (if p1 < p2 then 0 else (if p3 < p1 then 0 else 1))
set_option maxHeartbeats 4000000 in
set_option maxRecDepth 100000 in
theorem c_X11_isIn (l : Launch) (G : va_G) (cA : ClassId) (zq n : Nat) (hn : 18 ≤ n) (a : Nat → Nat) (ha : apart n a) (S : Mm) (L : Int64) (sz : Nat) (p1 : Int32) (p2 : Int32) (p3 : Int32)  : Met l yX11_isIn wsX11_isIn ({ frames := 0, cells := 0, slots := 0, locals := 0 } : Room) (va_Pc [.int p1, .int p2, .int p3] (gI G cA zq n a (cD a cA) S L sz)) (gQi (rX11_isIn p1 p2 p3) G n a (cD a cA) S L sz) 0 0 (mA n a sz) := by
  refine g_met (cc := cX11_isIn) (maxL := 3) (ret := (some .boolean)) (by decide) rfl (Nat.le_of_ble_eq_true rfl) ?_
  intro p e s m below meth c ls hx hb hr hlocks hml hts hown hnm hsz hK hP hS hl
  subst hsz
  have hl : lv_has ls 3 [(0, .int p1), (1, .int p2), (2, .int p3)] := hl
  refine lv_iload_n hx hb dX11_isIn_0 rfl (lv_at hl 0 rfl) ?_
  refine lv_iload_n hx hb dX11_isIn_1 rfl (lv_at hl 1 rfl) ?_
  refine lv_icmp_lt (tgt := 14) hx hb dX11_isIn_2 (by decide) (fun c1 => ?_) (fun c1 => ?_)
  ·
    refine lv_iconst (v := 0) hx hb dX11_isIn_14 (by decide) ?_
    exact g_zret hx hb hr hlocks rfl (by unfold rX11_isIn; rw [if_pos c1]) rfl rfl hP hS dX11_isIn_15
  ·
    refine lv_iload_n hx hb dX11_isIn_5 rfl (lv_at hl 0 rfl) ?_
    refine lv_iload_n hx hb dX11_isIn_6 rfl (lv_at hl 2 rfl) ?_
    refine lv_icmp_gt (tgt := 14) hx hb dX11_isIn_7 (by decide) (fun c2 => ?_) (fun c2 => ?_)
    ·
      refine lv_iconst (v := 0) hx hb dX11_isIn_14 (by decide) ?_
      exact g_zret hx hb hr hlocks rfl (by unfold rX11_isIn; rw [if_neg c1, if_pos c2]) rfl rfl hP hS dX11_isIn_15
    ·
      refine lv_iconst (v := 1) hx hb dX11_isIn_10 (by decide) ?_
      refine lv_goto (tgt := 15) hx hb dX11_isIn_11 (by decide) ?_
      exact g_zret hx hb hr hlocks rfl (by unfold rX11_isIn; rw [if_neg c1, if_neg c2]) rfl rfl hP hS dX11_isIn_15

def rX11_keep (p1 : Int32) (p2 : Int32) : Int32 := (if -p2 < (if p1 < p2 then p1 else p2) then (if p1 < p2 then p1 else p2) else -p2)
set_option maxHeartbeats 4000000 in
set_option maxRecDepth 100000 in
theorem c_X11_keep (l : Launch) (G : va_G) (cA : ClassId) (zq n : Nat) (hn : 18 ≤ n) (a : Nat → Nat) (ha : apart n a) (S : Mm) (L : Int64) (sz : Nat) (p1 : Int32) (p2 : Int32)  : Met l yX11_keep wsX11_keep ({ frames := 1, cells := 0, slots := 0, locals := 21 } : Room) (va_Pc [.int p1, .int p2] (gI G cA zq n a (cD a cA) S L sz)) (gQi (rX11_keep p1 p2) G n a (cD a cA) S L sz) 0 0 (mA n a sz) := by
  refine g_met (cc := cX11_keep) (maxL := 2) (ret := (some .int)) (by decide) rfl (Nat.le_of_ble_eq_true rfl) ?_
  intro p e s m below meth c ls hx hb hr hlocks hml hts hown hnm hsz hK hP hS hl
  subst hsz
  have hl : lv_has ls 2 [(0, .int p1), (1, .int p2)] := hl
  refine lv_iload_n hx hb dX11_keep_0 rfl (lv_at hl 1 rfl) ?_
  refine lv_ineg hx hb dX11_keep_1 ?_
  refine lv_iload_n hx hb dX11_keep_2 rfl (lv_at hl 1 rfl) ?_
  refine lv_iload_n hx hb dX11_keep_3 rfl (lv_at hl 0 rfl) ?_
  refine va_mmin hx hb (hml.trans hl.1.symm) hown (hts (.methodLink RX11 1 Lib.Math.min.name) (by decide +kernel)) (hts (.static Lib.Math.min.name) (by decide +kernel)) (hts (.initialized "java/lang/Math") (by decide +kernel)) (hts (.code Lib.Math.min.name Lib.Math.min.code 2 (some .int)) (by decide +kernel)) (Nat.le_of_ble_eq_true rfl) (Nat.le_of_ble_eq_true rfl) (Nat.le_of_ble_eq_true rfl) (Nat.le_of_ble_eq_true rfl) dX11_keep_4 ?_
  refine va_mmax hx hb (hml.trans hl.1.symm) hown (hts (.methodLink RX11 7 Lib.Math.max.name) (by decide +kernel)) (hts (.static Lib.Math.max.name) (by decide +kernel)) (hts (.initialized "java/lang/Math") (by decide +kernel)) (hts (.code Lib.Math.max.name Lib.Math.max.code 2 (some .int)) (by decide +kernel)) (Nat.le_of_ble_eq_true rfl) (Nat.le_of_ble_eq_true rfl) (Nat.le_of_ble_eq_true rfl) (Nat.le_of_ble_eq_true rfl) dX11_keep_7 ?_
  exact g_iret hx hb hr hlocks (by unfold rX11_keep; rfl) rfl rfl hP hS dX11_keep_10

def rX10_value (S : Mm) (p1 : Int32) (p2 : Int32) : Int32 := (if p1 = 0 then (-992) + (64 * p2) else (if p1 = 1 then (if 16 ≤ p2 then (-1000) else 1000) else (if p1 = 2 then (if 16 ≤ p2 then 1000 - (125 * (p2 - 16)) else (-1000) + (125 * p2)) else S 1 p2.toNatClampNeg)))
theorem iX10_value_X10 : ∀ w ∈ u_ws RX10 TX10 35, w ∈ wsX10_value := by decide +kernel
set_option maxHeartbeats 4000000 in
set_option maxRecDepth 100000 in
theorem c_X10_value (l : Launch) (G : va_G) (cA : ClassId) (zq n : Nat) (hn : 18 ≤ n) (a : Nat → Nat) (ha : apart n a) (S : Mm) (L : Int64) (sz : Nat) (p1 : Int32) (p2 : Int32)  (hh1 : ¬ (p1 = 0) → ¬ (p1 = 1) → ¬ (p1 = 2) → vp_in p2 32) : Met l yX10_value wsX10_value ({ frames := 0, cells := 0, slots := 0, locals := 0 } : Room) (va_Pc [.ref (a 0), .int p1, .int p2] (gI G cA zq n a (cD a cA) S L sz)) (gQi (rX10_value S p1 p2) G n a (cD a cA) S L sz) 0 0 (mA n a sz) := by
  refine g_met (cc := cX10_value) (maxL := 3) (ret := (some .int)) (by decide) rfl (Nat.le_of_ble_eq_true rfl) ?_
  intro p e s m below meth c ls hx hb hr hlocks hml hts hown hnm hsz hK hP hS hl
  subst hsz
  have hl : lv_has ls 3 [(0, .ref (a 0)), (1, .int p1), (2, .int p2)] := hl
  refine lv_iload_n hx hb dX10_value_0 rfl (lv_at hl 1 rfl) ?_
  by_cases c1 : p1 = 0
  ·
    refine lv_tableIn (off := 27) (tgt := 28) hx hb dX10_value_1 (by rw [c1]; decide) (by rw [c1]; decide) (by rw [c1]; rfl) (by decide) ?_
    refine lv_sipush (v := (-992)) hx hb dX10_value_28 (by decide) ?_
    refine lv_bipush (v := 64) hx hb dX10_value_31 (by decide) ?_
    refine lv_iload_n hx hb dX10_value_33 rfl (lv_at hl 2 rfl) ?_
    refine lv_imul hx hb dX10_value_34 ?_
    refine lv_iadd hx hb dX10_value_35 ?_
    exact g_iret hx hb hr hlocks (by unfold rX10_value; rw [if_pos c1]) rfl rfl hP hS dX10_value_36
  ·
    by_cases c2 : p1 = 1
    ·
      refine lv_tableIn (off := 36) (tgt := 37) hx hb dX10_value_1 (by rw [c2]; decide) (by rw [c2]; decide) (by rw [c2]; rfl) (by decide) ?_
      refine lv_iload_n hx hb dX10_value_37 rfl (lv_at hl 2 rfl) ?_
      refine lv_bipush (v := 16) hx hb dX10_value_38 (by decide) ?_
      refine lv_icmp_ge (tgt := 49) hx hb dX10_value_40 (by decide) (fun c3 => ?_) (fun c3 => ?_)
      ·
        refine lv_sipush (v := (-1000)) hx hb dX10_value_49 (by decide) ?_
        exact g_iret hx hb hr hlocks (by unfold rX10_value; rw [if_neg c1, if_pos c2, if_pos c3]) rfl rfl hP hS dX10_value_52
      ·
        refine lv_sipush (v := 1000) hx hb dX10_value_43 (by decide) ?_
        refine lv_goto (tgt := 52) hx hb dX10_value_46 (by decide) ?_
        exact g_iret hx hb hr hlocks (by unfold rX10_value; rw [if_neg c1, if_pos c2, if_neg c3]) rfl rfl hP hS dX10_value_52
    ·
      by_cases c4 : p1 = 2
      ·
        refine lv_tableIn (off := 52) (tgt := 53) hx hb dX10_value_1 (by rw [c4]; decide) (by rw [c4]; decide) (by rw [c4]; rfl) (by decide) ?_
        refine lv_iload_n hx hb dX10_value_53 rfl (lv_at hl 2 rfl) ?_
        refine lv_bipush (v := 16) hx hb dX10_value_54 (by decide) ?_
        refine lv_icmp_ge (tgt := 70) hx hb dX10_value_56 (by decide) (fun c5 => ?_) (fun c5 => ?_)
        ·
          refine lv_sipush (v := 1000) hx hb dX10_value_70 (by decide) ?_
          refine lv_bipush (v := 125) hx hb dX10_value_73 (by decide) ?_
          refine lv_iload_n hx hb dX10_value_75 rfl (lv_at hl 2 rfl) ?_
          refine lv_bipush (v := 16) hx hb dX10_value_76 (by decide) ?_
          refine lv_isub hx hb dX10_value_78 ?_
          refine lv_imul hx hb dX10_value_79 ?_
          refine lv_isub hx hb dX10_value_80 ?_
          exact g_iret hx hb hr hlocks (by unfold rX10_value; rw [if_neg c1, if_neg c2, if_pos c4, if_pos c5]) rfl rfl hP hS dX10_value_81
        ·
          refine lv_sipush (v := (-1000)) hx hb dX10_value_59 (by decide) ?_
          refine lv_bipush (v := 125) hx hb dX10_value_62 (by decide) ?_
          refine lv_iload_n hx hb dX10_value_64 rfl (lv_at hl 2 rfl) ?_
          refine lv_imul hx hb dX10_value_65 ?_
          refine lv_iadd hx hb dX10_value_66 ?_
          refine lv_goto (tgt := 81) hx hb dX10_value_67 (by decide) ?_
          exact g_iret hx hb hr hlocks (by unfold rX10_value; rw [if_neg c1, if_neg c2, if_pos c4, if_neg c5]) rfl rfl hP hS dX10_value_81
      ·
        refine lv_tableOut (tgt := 82) hx hb dX10_value_1 (by have := lv_neT c1 (a := 0) rfl; have := lv_neT c2 (a := 1) rfl; have := lv_neT c4 (a := 2) rfl; omega) (by decide) ?_
        refine lv_aload_n hx hb dX10_value_82 rfl (lv_at hl 0 rfl) ?_
        refine g_get (ci := 10) (C := RX10) (T := TX10) (N := 35) (v := .ref (a 1)) hx hb hts iX10_value_X10 hown hK hP (lt_hn hn (by decide)) cD_D rfl 0 (by decide) rfl (by decide +kernel) rfl dX10_value_83 ?_
        refine lv_iload_n hx hb dX10_value_86 rfl (lv_at hl 2 rfl) ?_
        refine g_iald (N := 32) (g := S 1) hx hb hK hP (lt_hn hn (by decide)) rfl (hh1 c1 c2 c4) dX10_value_87 ?_
        exact g_iret hx hb hr hlocks (by unfold rX10_value; rw [if_neg c1, if_neg c2, if_neg c4]) rfl rfl hP hS dX10_value_88

def vX10_wave_1 (S : Mm) (p1 : Int32) (p2 : Int32) : Int32 := ((rX10_value S p1 (((p2 / 2048) + 1) - ((p2 / 2048) + 1) / 32 * 32)) - (rX10_value S p1 (p2 / 2048))) * (p2 - p2 / 2048 * 2048)
def rX10_wave (S : Mm) (p1 : Int32) (p2 : Int32) : Int32 := (rX10_value S p1 (p2 / 2048)) + ((vX10_wave_1 S p1 p2) / 2048)
set_option maxHeartbeats 4000000 in
set_option maxRecDepth 100000 in
theorem c_X10_wave (l : Launch) (G : va_G) (cA : ClassId) (zq n : Nat) (hn : 18 ≤ n) (a : Nat → Nat) (ha : apart n a) (S : Mm) (L : Int64) (sz : Nat) (p1 : Int32) (p2 : Int32)  (hh1 : ¬ (p1 = 0) → ¬ (p1 = 1) → ¬ (p1 = 2) → vp_in (p2 / 2048) 32) (hh2 : ¬ (p1 = 0) → ¬ (p1 = 1) → ¬ (p1 = 2) → vp_in (((p2 / 2048) + 1) - ((p2 / 2048) + 1) / 32 * 32) 32) : Met l yX10_wave wsX10_wave ({ frames := 1, cells := 0, slots := 0, locals := 22 } : Room) (va_Pc [.ref (a 0), .int p1, .int p2] (gI G cA zq n a (cD a cA) S L sz)) (gQi (rX10_wave S p1 p2) G n a (cD a cA) S L sz) 0 0 (mA n a sz) := by
  refine g_met (cc := cX10_wave) (maxL := 6) (ret := (some .int)) (by decide) rfl (Nat.le_of_ble_eq_true rfl) ?_
  intro p e s m below meth c ls hx hb hr hlocks hml hts hown hnm hsz hK hP hS hl
  subst hsz
  have hl : lv_has ls 6 [(0, .ref (a 0)), (1, .int p1), (2, .int p2)] := hl
  refine lv_iload_n hx hb dX10_wave_0 rfl (lv_at hl 2 rfl) ?_
  refine lv_sipush (v := 2048) hx hb dX10_wave_1 (by decide) ?_
  refine lv_idiv hx hb dX10_wave_4 (by decide) ?_
  refine lv_istore_n (lv' := [(3, .int (p2 / 2048)), (0, .ref (a 0)), (1, .int p1), (2, .int p2)]) hx hb dX10_wave_5 rfl hl (by decide) rfl (fun ls hl => ?_)
  refine lv_aload_n hx hb dX10_wave_6 rfl (lv_at hl 1 rfl) ?_
  refine lv_iload_n hx hb dX10_wave_7 rfl (lv_at hl 2 rfl) ?_
  refine lv_iload_n hx hb dX10_wave_8 rfl (lv_at hl 0 rfl) ?_
  refine g_cVi (As := [.int p1, .int (p2 / 2048)]) (rest := []) ⟨hx, hb, hml, hown, hts⟩ (c_X10_value l G cA zq n hn a ha S L s.heap.size p1 (p2 / 2048)  hh1) (cwV 2 hts gX10_wave_X10_value rfl rfl rfl (by decide +kernel) ⟨Nat.le_of_ble_eq_true rfl, Nat.le_of_ble_eq_true rfl⟩) (g_recv hK hP (lt_hn hn (by decide)) cD_D (C := RX10) (T := TX10) (N := 35) rfl) hK (mA_mono hS.1) hP hS rfl hl.1 rfl (lv_room (Nat.le_of_ble_eq_true rfl)) dX10_wave_9 ⟨Nat.le_of_ble_eq_true rfl, Nat.le_of_ble_eq_true rfl⟩ (fun H locs hP hS _ _ => ?_)
  refine lv_istore (lv' := [(4, .int (rX10_value S p1 (p2 / 2048))), (3, .int (p2 / 2048)), (0, .ref (a 0)), (1, .int p1), (2, .int p2)]) hx hb dX10_wave_12 hl (by decide) rfl (fun ls hl => ?_)
  refine lv_aload_n hx hb dX10_wave_14 rfl (lv_at hl 2 rfl) ?_
  refine lv_iload_n hx hb dX10_wave_15 rfl (lv_at hl 3 rfl) ?_
  refine lv_iload_n hx hb dX10_wave_16 rfl (lv_at hl 1 rfl) ?_
  refine lv_iconst (v := 1) hx hb dX10_wave_17 (by decide) ?_
  refine lv_iadd hx hb dX10_wave_18 ?_
  refine lv_bipush (v := 32) hx hb dX10_wave_19 (by decide) ?_
  refine lv_irem hx hb dX10_wave_21 (by decide) ?_
  refine g_cVi (As := [.int p1, .int (((p2 / 2048) + 1) - ((p2 / 2048) + 1) / 32 * 32)]) (rest := []) ⟨hx, hb, hml, hown, hts⟩ (c_X10_value l G cA zq n hn a ha S L H.size p1 (((p2 / 2048) + 1) - ((p2 / 2048) + 1) / 32 * 32)  hh2) (cwV 2 hts gX10_wave_X10_value rfl rfl rfl (by decide +kernel) ⟨Nat.le_of_ble_eq_true rfl, Nat.le_of_ble_eq_true rfl⟩) (g_recv hK hP (lt_hn hn (by decide)) cD_D (C := RX10) (T := TX10) (N := 35) rfl) hK (mA_mono hS.1) hP hS rfl hl.1 rfl (lv_room (Nat.le_of_ble_eq_true rfl)) dX10_wave_22 ⟨Nat.le_of_ble_eq_true rfl, Nat.le_of_ble_eq_true rfl⟩ (fun H locs hP hS _ _ => ?_)
  refine lv_istore (lv' := [(5, .int (rX10_value S p1 (((p2 / 2048) + 1) - ((p2 / 2048) + 1) / 32 * 32))), (4, .int (rX10_value S p1 (p2 / 2048))), (3, .int (p2 / 2048)), (0, .ref (a 0)), (1, .int p1), (2, .int p2)]) hx hb dX10_wave_25 hl (by decide) rfl (fun ls hl => ?_)
  refine lv_iload hx hb dX10_wave_27 (lv_at hl 1 rfl) ?_
  refine lv_iload hx hb dX10_wave_29 (lv_at hl 0 rfl) ?_
  refine lv_iload hx hb dX10_wave_31 (lv_at hl 1 rfl) ?_
  refine lv_isub hx hb dX10_wave_33 ?_
  refine lv_iload_n hx hb dX10_wave_34 rfl (lv_at hl 5 rfl) ?_
  refine lv_sipush (v := 2048) hx hb dX10_wave_35 (by decide) ?_
  refine lv_irem hx hb dX10_wave_38 (by decide) ?_
  refine lv_imul hx hb dX10_wave_39 ?_
  refine W.eq (g2 := F0 m 40 ls [.int (vX10_wave_1 S p1 p2), .int (rX10_value S p1 (p2 / 2048))]) rfl ?_
  refine lv_sipush (v := 2048) hx hb dX10_wave_40 (by decide) ?_
  refine lv_idiv hx hb dX10_wave_43 (by decide) ?_
  refine lv_iadd hx hb dX10_wave_44 ?_
  exact g_iret hx hb hr hlocks (by unfold rX10_wave; rfl) rfl rfl hP hS dX10_wave_45

def rX10_told (S : Mm) (p1 : Int32) (p2 : Int32) : Int32 := S 2 (((S 5 p1.toNatClampNeg) * 12) + p2).toNatClampNeg
theorem iX10_told_X10 : ∀ w ∈ u_ws RX10 TX10 35, w ∈ wsX10_told := by decide +kernel
set_option maxHeartbeats 4000000 in
set_option maxRecDepth 100000 in
theorem c_X10_told (l : Launch) (G : va_G) (cA : ClassId) (zq n : Nat) (hn : 18 ≤ n) (a : Nat → Nat) (ha : apart n a) (S : Mm) (L : Int64) (sz : Nat) (p1 : Int32) (p2 : Int32)  (hh1 : vp_in p1 4) (hh2 : vp_in (((S 5 p1.toNatClampNeg) * 12) + p2) 48) : Met l yX10_told wsX10_told ({ frames := 0, cells := 0, slots := 0, locals := 0 } : Room) (va_Pc [.ref (a 0), .int p1, .int p2] (gI G cA zq n a (cD a cA) S L sz)) (gQi (rX10_told S p1 p2) G n a (cD a cA) S L sz) 0 0 (mA n a sz) := by
  refine g_met (cc := cX10_told) (maxL := 3) (ret := (some .int)) (by decide) rfl (Nat.le_of_ble_eq_true rfl) ?_
  intro p e s m below meth c ls hx hb hr hlocks hml hts hown hnm hsz hK hP hS hl
  subst hsz
  have hl : lv_has ls 3 [(0, .ref (a 0)), (1, .int p1), (2, .int p2)] := hl
  refine lv_aload_n hx hb dX10_told_0 rfl (lv_at hl 0 rfl) ?_
  refine g_get (ci := 10) (C := RX10) (T := TX10) (N := 35) (v := .ref (a 2)) hx hb hts iX10_told_X10 hown hK hP (lt_hn hn (by decide)) cD_D rfl 1 (by decide) rfl (by decide +kernel) rfl dX10_told_1 ?_
  refine lv_aload_n hx hb dX10_told_4 rfl (lv_at hl 0 rfl) ?_
  refine g_get (ci := 10) (C := RX10) (T := TX10) (N := 35) (v := .ref (a 5)) hx hb hts iX10_told_X10 hown hK hP (lt_hn hn (by decide)) cD_D rfl 4 (by decide) rfl (by decide +kernel) rfl dX10_told_5 ?_
  refine lv_iload_n hx hb dX10_told_8 rfl (lv_at hl 1 rfl) ?_
  refine g_iald (N := 4) (g := S 5) hx hb hK hP (lt_hn hn (by decide)) rfl hh1 dX10_told_9 ?_
  refine lv_bipush (v := 12) hx hb dX10_told_10 (by decide) ?_
  refine lv_imul hx hb dX10_told_12 ?_
  refine lv_iload_n hx hb dX10_told_13 rfl (lv_at hl 2 rfl) ?_
  refine lv_iadd hx hb dX10_told_14 ?_
  refine g_iald (N := 48) (g := S 2) hx hb hK hP (lt_hn hn (by decide)) rfl hh2 dX10_told_15 ?_
  exact g_iret hx hb hr hlocks (by unfold rX10_told; rfl) rfl rfl hP hS dX10_told_16

def fX10_end (S : Mm) (p1 : Int32) : Mm := (if rX11_isIn (S 3 p1.toNatClampNeg) (1 : Int32) (3 : Int32) = 0 then S else up2 S 3 p1.toNatClampNeg 4)
theorem iX10_end_X10 : ∀ w ∈ u_ws RX10 TX10 35, w ∈ wsX10_end := by decide +kernel
set_option maxHeartbeats 4000000 in
set_option maxRecDepth 100000 in
theorem c_X10_end (l : Launch) (G : va_G) (cA : ClassId) (zq n : Nat) (hn : 18 ≤ n) (a : Nat → Nat) (ha : apart n a) (S : Mm) (L : Int64) (sz : Nat) (p1 : Int32)  (hh1 : vp_in p1 4) : Met l yX10_end wsX10_end ({ frames := 1, cells := 0, slots := 0, locals := 22 } : Room) (va_Pc [.ref (a 0), .int p1] (gI G cA zq n a (cD a cA) S L sz)) (gQv G n a (cD a cA) (fX10_end S p1) L sz) 0 0 (mA n a sz) := by
  refine g_met (cc := cX10_end) (maxL := 2) (ret := none) (by decide) rfl (Nat.le_of_ble_eq_true rfl) ?_
  intro p e s m below meth c ls hx hb hr hlocks hml hts hown hnm hsz hK hP hS hl
  subst hsz
  have hl : lv_has ls 2 [(0, .ref (a 0)), (1, .int p1)] := hl
  refine lv_aload_n hx hb dX10_end_0 rfl (lv_at hl 0 rfl) ?_
  refine g_get (ci := 10) (C := RX10) (T := TX10) (N := 35) (v := .ref (a 3)) hx hb hts iX10_end_X10 hown hK hP (lt_hn hn (by decide)) cD_D rfl 2 (by decide) rfl (by decide +kernel) rfl dX10_end_1 ?_
  refine lv_iload_n hx hb dX10_end_4 rfl (lv_at hl 1 rfl) ?_
  refine g_iald (N := 4) (g := S 3) hx hb hK hP (lt_hn hn (by decide)) rfl hh1 dX10_end_5 ?_
  refine lv_iconst (v := 1) hx hb dX10_end_6 (by decide) ?_
  refine lv_iconst (v := 3) hx hb dX10_end_7 (by decide) ?_
  refine g_cNi (As := [.int (S 3 p1.toNatClampNeg), .int 1, .int 3]) (rest := []) ⟨hx, hb, hml, hown, hts⟩ (c_X11_isIn l G cA zq n hn a ha S L s.heap.size (S 3 p1.toNatClampNeg) (1 : Int32) (3 : Int32)  ) (va_cnB 3 hts gX10_end_X11_isIn_n117 rfl rfl rfl (hK.2.1.at (q := ("MelodeonModel$Desk", 117, yX11_isIn, "MelodeonModel")) (by decide +kernel)) (hts (.initialized RX11) (by decide +kernel)) (by decide +kernel) ⟨Nat.le_of_ble_eq_true rfl, Nat.le_of_ble_eq_true rfl⟩) (hts (.static yX11_isIn) (by decide +kernel)) hK (mA_mono hS.1) hP hS rfl hl.1 rfl (lv_room (Nat.le_of_ble_eq_true rfl)) dX10_end_8 ⟨Nat.le_of_ble_eq_true rfl, Nat.le_of_ble_eq_true rfl⟩ (fun H locs hP hS _ _ => ?_)
  refine lv_if_eq (tgt := 21) hx hb dX10_end_11 (by decide) (fun c1 => ?_) (fun c1 => ?_)
  ·
    exact g_vret hx hb hr hlocks (by unfold fX10_end; rw [if_pos c1]) rfl hP hS dX10_end_21
  ·
    refine lv_aload_n hx hb dX10_end_14 rfl (lv_at hl 0 rfl) ?_
    refine g_get (ci := 10) (C := RX10) (T := TX10) (N := 35) (v := .ref (a 3)) hx hb hts iX10_end_X10 hown hK hP (lt_hn hn (by decide)) cD_D rfl 2 (by decide) rfl (by decide +kernel) rfl dX10_end_15 ?_
    refine lv_iload_n hx hb dX10_end_18 rfl (lv_at hl 1 rfl) ?_
    refine lv_iconst (v := 4) hx hb dX10_end_19 (by decide) ?_
    refine g_iast (N := 4) (g := S 3) hx hb hK ha mA_in hP hS (lt_hn hn (by decide)) rfl hh1 rfl dX10_end_20 (fun H locs hP hS => ?_)
    exact g_vret hx hb hr hlocks (by unfold fX10_end; rw [if_neg c1]) rfl hP hS dX10_end_21

def jX10_nextVoice_1 (S : Mm) : Int32 := (if S 3 (0 : Int32).toNatClampNeg = 4 then 0 else (-1))
def jX10_nextVoice_2 (S : Mm) : Int32 := (if S 3 (1 : Int32).toNatClampNeg = 4 then (if (jX10_nextVoice_1 S) = (-1) then 1 else (if S 4 (jX10_nextVoice_1 S).toNatClampNeg ≤ S 4 (1 : Int32).toNatClampNeg then (jX10_nextVoice_1 S) else 1)) else (jX10_nextVoice_1 S))
def jX10_nextVoice_3 (S : Mm) : Int32 := (if S 3 (2 : Int32).toNatClampNeg = 4 then (if (jX10_nextVoice_2 S) = (-1) then 2 else (if S 4 (jX10_nextVoice_2 S).toNatClampNeg ≤ S 4 (2 : Int32).toNatClampNeg then (jX10_nextVoice_2 S) else 2)) else (jX10_nextVoice_2 S))
def jX10_nextVoice_4 (S : Mm) : Int32 := (if S 3 (3 : Int32).toNatClampNeg = 4 then (if (jX10_nextVoice_3 S) = (-1) then 3 else (if S 4 (jX10_nextVoice_3 S).toNatClampNeg ≤ S 4 (3 : Int32).toNatClampNeg then (jX10_nextVoice_3 S) else 3)) else (jX10_nextVoice_3 S))
def jX10_nextVoice_5 (S : Mm) : Int32 := (if S 13 (0 : Int32).toNatClampNeg ≤ S 13 (1 : Int32).toNatClampNeg then 0 else 1)
def jX10_nextVoice_6 (S : Mm) : Int32 := (if S 13 (jX10_nextVoice_5 S).toNatClampNeg ≤ S 13 (2 : Int32).toNatClampNeg then (jX10_nextVoice_5 S) else 2)
def jX10_nextVoice_7 (S : Mm) : Int32 := (if S 13 (jX10_nextVoice_6 S).toNatClampNeg ≤ S 13 (3 : Int32).toNatClampNeg then (jX10_nextVoice_6 S) else 3)
def rX10_nextVoice (S : Mm) : Int32 := (if S 3 (0 : Int32).toNatClampNeg = 0 then 0 else (if S 3 (1 : Int32).toNatClampNeg = 0 then 1 else (if S 3 (2 : Int32).toNatClampNeg = 0 then 2 else (if S 3 (3 : Int32).toNatClampNeg = 0 then 3 else (if (jX10_nextVoice_4 S) = (-1) then (jX10_nextVoice_7 S) else (jX10_nextVoice_4 S))))))
theorem iX10_nextVoice_X10 : ∀ w ∈ u_ws RX10 TX10 35, w ∈ wsX10_nextVoice := by decide +kernel
set_option maxHeartbeats 4000000 in
set_option maxRecDepth 100000 in
theorem c_X10_nextVoice (l : Launch) (G : va_G) (cA : ClassId) (zq n : Nat) (hn : 18 ≤ n) (a : Nat → Nat) (ha : apart n a) (S : Mm) (L : Int64) (sz : Nat)   (hh1 : ¬ (S 3 (0 : Int32).toNatClampNeg = 0) → ¬ (S 3 (1 : Int32).toNatClampNeg = 0) → ¬ (S 3 (2 : Int32).toNatClampNeg = 0) → ¬ (S 3 (3 : Int32).toNatClampNeg = 0) → S 3 (1 : Int32).toNatClampNeg = 4 → ¬ ((jX10_nextVoice_1 S) = (-1)) → vp_in (jX10_nextVoice_1 S) 4) (hh2 : ¬ (S 3 (0 : Int32).toNatClampNeg = 0) → ¬ (S 3 (1 : Int32).toNatClampNeg = 0) → ¬ (S 3 (2 : Int32).toNatClampNeg = 0) → ¬ (S 3 (3 : Int32).toNatClampNeg = 0) → S 3 (2 : Int32).toNatClampNeg = 4 → ¬ ((jX10_nextVoice_2 S) = (-1)) → vp_in (jX10_nextVoice_2 S) 4) (hh3 : ¬ (S 3 (0 : Int32).toNatClampNeg = 0) → ¬ (S 3 (1 : Int32).toNatClampNeg = 0) → ¬ (S 3 (2 : Int32).toNatClampNeg = 0) → ¬ (S 3 (3 : Int32).toNatClampNeg = 0) → S 3 (3 : Int32).toNatClampNeg = 4 → ¬ ((jX10_nextVoice_3 S) = (-1)) → vp_in (jX10_nextVoice_3 S) 4) (hh4 : ¬ (S 3 (0 : Int32).toNatClampNeg = 0) → ¬ (S 3 (1 : Int32).toNatClampNeg = 0) → ¬ (S 3 (2 : Int32).toNatClampNeg = 0) → ¬ (S 3 (3 : Int32).toNatClampNeg = 0) → (jX10_nextVoice_4 S) = (-1) → vp_in (jX10_nextVoice_5 S) 4) (hh5 : ¬ (S 3 (0 : Int32).toNatClampNeg = 0) → ¬ (S 3 (1 : Int32).toNatClampNeg = 0) → ¬ (S 3 (2 : Int32).toNatClampNeg = 0) → ¬ (S 3 (3 : Int32).toNatClampNeg = 0) → (jX10_nextVoice_4 S) = (-1) → vp_in (jX10_nextVoice_6 S) 4) : Met l yX10_nextVoice wsX10_nextVoice ({ frames := 0, cells := 0, slots := 0, locals := 0 } : Room) (va_Pc [.ref (a 0)] (gI G cA zq n a (cD a cA) S L sz)) (gQi (rX10_nextVoice S) G n a (cD a cA) S L sz) 0 0 (mA n a sz) := by
  refine g_met (cc := cX10_nextVoice) (maxL := 3) (ret := (some .int)) (by decide) rfl (Nat.le_of_ble_eq_true rfl) ?_
  intro p e s m below meth c ls hx hb hr hlocks hml hts hown hnm hsz hK hP hS hl
  subst hsz
  have hl : lv_has ls 3 [(0, .ref (a 0))] := hl
  refine lv_iconst (v := 0) hx hb dX10_nextVoice_0 (by decide) ?_
  refine lv_istore_n (lv' := [(1, .int 0), (0, .ref (a 0))]) hx hb dX10_nextVoice_1 rfl hl (by decide) rfl (fun ls hl => ?_)
  refine lv_iload_n hx hb dX10_nextVoice_2 rfl (lv_at hl 0 rfl) ?_
  refine lv_iconst (v := 4) hx hb dX10_nextVoice_3 (by decide) ?_
  refine lv_icmp_ge (tgt := 24) hx hb dX10_nextVoice_4 (by decide) (fun c => absurd c (by decide)) (fun _ => ?_)
  refine lv_aload_n hx hb dX10_nextVoice_7 rfl (lv_at hl 1 rfl) ?_
  refine g_get (ci := 10) (C := RX10) (T := TX10) (N := 35) (v := .ref (a 3)) hx hb hts iX10_nextVoice_X10 hown hK hP (lt_hn hn (by decide)) cD_D rfl 2 (by decide) rfl (by decide +kernel) rfl dX10_nextVoice_8 ?_
  refine lv_iload_n hx hb dX10_nextVoice_11 rfl (lv_at hl 0 rfl) ?_
  refine g_iald (N := 4) (g := S 3) hx hb hK hP (lt_hn hn (by decide)) rfl (vp_in_lit (by decide)) dX10_nextVoice_12 ?_
  refine lv_if_ne (tgt := 18) hx hb dX10_nextVoice_13 (by decide) (fun c1 => ?_) (fun c1 => ?_)
  ·
    refine lv_iinc (v := 1) (lv' := [(1, .int 1), (0, .ref (a 0))]) hx hb dX10_nextVoice_18 hl (k := 0) rfl (by decide) (by decide) rfl (fun ls hl => ?_)
    refine lv_goto (tgt := 2) hx hb dX10_nextVoice_21 (by decide) ?_
    refine lv_iload_n hx hb dX10_nextVoice_2 rfl (lv_at hl 0 rfl) ?_
    refine lv_iconst (v := 4) hx hb dX10_nextVoice_3 (by decide) ?_
    refine lv_icmp_ge (tgt := 24) hx hb dX10_nextVoice_4 (by decide) (fun c => absurd c (by decide)) (fun _ => ?_)
    refine lv_aload_n hx hb dX10_nextVoice_7 rfl (lv_at hl 1 rfl) ?_
    refine g_get (ci := 10) (C := RX10) (T := TX10) (N := 35) (v := .ref (a 3)) hx hb hts iX10_nextVoice_X10 hown hK hP (lt_hn hn (by decide)) cD_D rfl 2 (by decide) rfl (by decide +kernel) rfl dX10_nextVoice_8 ?_
    refine lv_iload_n hx hb dX10_nextVoice_11 rfl (lv_at hl 0 rfl) ?_
    refine g_iald (N := 4) (g := S 3) hx hb hK hP (lt_hn hn (by decide)) rfl (vp_in_lit (by decide)) dX10_nextVoice_12 ?_
    refine lv_if_ne (tgt := 18) hx hb dX10_nextVoice_13 (by decide) (fun c2 => ?_) (fun c2 => ?_)
    ·
      refine lv_iinc (v := 2) (lv' := [(1, .int 2), (0, .ref (a 0))]) hx hb dX10_nextVoice_18 hl (k := 0) rfl (by decide) (by decide) rfl (fun ls hl => ?_)
      refine lv_goto (tgt := 2) hx hb dX10_nextVoice_21 (by decide) ?_
      refine lv_iload_n hx hb dX10_nextVoice_2 rfl (lv_at hl 0 rfl) ?_
      refine lv_iconst (v := 4) hx hb dX10_nextVoice_3 (by decide) ?_
      refine lv_icmp_ge (tgt := 24) hx hb dX10_nextVoice_4 (by decide) (fun c => absurd c (by decide)) (fun _ => ?_)
      refine lv_aload_n hx hb dX10_nextVoice_7 rfl (lv_at hl 1 rfl) ?_
      refine g_get (ci := 10) (C := RX10) (T := TX10) (N := 35) (v := .ref (a 3)) hx hb hts iX10_nextVoice_X10 hown hK hP (lt_hn hn (by decide)) cD_D rfl 2 (by decide) rfl (by decide +kernel) rfl dX10_nextVoice_8 ?_
      refine lv_iload_n hx hb dX10_nextVoice_11 rfl (lv_at hl 0 rfl) ?_
      refine g_iald (N := 4) (g := S 3) hx hb hK hP (lt_hn hn (by decide)) rfl (vp_in_lit (by decide)) dX10_nextVoice_12 ?_
      refine lv_if_ne (tgt := 18) hx hb dX10_nextVoice_13 (by decide) (fun c3 => ?_) (fun c3 => ?_)
      ·
        refine lv_iinc (v := 3) (lv' := [(1, .int 3), (0, .ref (a 0))]) hx hb dX10_nextVoice_18 hl (k := 0) rfl (by decide) (by decide) rfl (fun ls hl => ?_)
        refine lv_goto (tgt := 2) hx hb dX10_nextVoice_21 (by decide) ?_
        refine lv_iload_n hx hb dX10_nextVoice_2 rfl (lv_at hl 0 rfl) ?_
        refine lv_iconst (v := 4) hx hb dX10_nextVoice_3 (by decide) ?_
        refine lv_icmp_ge (tgt := 24) hx hb dX10_nextVoice_4 (by decide) (fun c => absurd c (by decide)) (fun _ => ?_)
        refine lv_aload_n hx hb dX10_nextVoice_7 rfl (lv_at hl 1 rfl) ?_
        refine g_get (ci := 10) (C := RX10) (T := TX10) (N := 35) (v := .ref (a 3)) hx hb hts iX10_nextVoice_X10 hown hK hP (lt_hn hn (by decide)) cD_D rfl 2 (by decide) rfl (by decide +kernel) rfl dX10_nextVoice_8 ?_
        refine lv_iload_n hx hb dX10_nextVoice_11 rfl (lv_at hl 0 rfl) ?_
        refine g_iald (N := 4) (g := S 3) hx hb hK hP (lt_hn hn (by decide)) rfl (vp_in_lit (by decide)) dX10_nextVoice_12 ?_
        refine lv_if_ne (tgt := 18) hx hb dX10_nextVoice_13 (by decide) (fun c4 => ?_) (fun c4 => ?_)
        ·
          refine lv_iinc (v := 4) (lv' := [(1, .int 4), (0, .ref (a 0))]) hx hb dX10_nextVoice_18 hl (k := 0) rfl (by decide) (by decide) rfl (fun ls hl => ?_)
          refine lv_goto (tgt := 2) hx hb dX10_nextVoice_21 (by decide) ?_
          refine lv_iload_n hx hb dX10_nextVoice_2 rfl (lv_at hl 0 rfl) ?_
          refine lv_iconst (v := 4) hx hb dX10_nextVoice_3 (by decide) ?_
          refine lv_icmp_ge (tgt := 24) hx hb dX10_nextVoice_4 (by decide) (fun _ => ?_) (fun c => absurd c (by decide))
          refine lv_iconst (v := (-1)) hx hb dX10_nextVoice_24 (by decide) ?_
          refine lv_istore_n (lv' := [(1, .int (-1)), (0, .ref (a 0))]) hx hb dX10_nextVoice_25 rfl hl (by decide) rfl (fun ls hl => ?_)
          refine lv_iconst (v := 0) hx hb dX10_nextVoice_26 (by decide) ?_
          refine lv_istore_n (lv' := [(2, .int 0), (1, .int (-1)), (0, .ref (a 0))]) hx hb dX10_nextVoice_27 rfl hl (by decide) rfl (fun ls hl => ?_)
          refine lv_iload_n hx hb dX10_nextVoice_28 rfl (lv_at hl 0 rfl) ?_
          refine lv_iconst (v := 4) hx hb dX10_nextVoice_29 (by decide) ?_
          refine lv_icmp_ge (tgt := 71) hx hb dX10_nextVoice_30 (by decide) (fun c => absurd c (by decide)) (fun _ => ?_)
          refine lv_aload_n hx hb dX10_nextVoice_33 rfl (lv_at hl 2 rfl) ?_
          refine g_get (ci := 10) (C := RX10) (T := TX10) (N := 35) (v := .ref (a 3)) hx hb hts iX10_nextVoice_X10 hown hK hP (lt_hn hn (by decide)) cD_D rfl 2 (by decide) rfl (by decide +kernel) rfl dX10_nextVoice_34 ?_
          refine lv_iload_n hx hb dX10_nextVoice_37 rfl (lv_at hl 0 rfl) ?_
          refine g_iald (N := 4) (g := S 3) hx hb hK hP (lt_hn hn (by decide)) rfl (vp_in_lit (by decide)) dX10_nextVoice_38 ?_
          refine lv_iconst (v := 4) hx hb dX10_nextVoice_39 (by decide) ?_
          have hj6 : ∀ (zx1_hj6 : Int32) (H : Heap) (locs : List Loc) (ls : Array Slot), zx1_hj6 = (jX10_nextVoice_1 S) → va_P G vwCl (wG n a (cD a cA) S L) H → va_S (mA n a s.heap.size) s.heap H locs → lv_has ls 3 [(1, .int zx1_hj6), (2, .int 0), (0, .ref (a 0))] → W p l e ({ frames := 0, cells := 0, slots := 0, locals := 0 } : Room) s m ([.ref (a 0)] : List Value).toArray below meth c H locs 0 0 (MQ below (gQi (rX10_nextVoice S) G n a (cD a cA) S L s.heap.size) ([.ref (a 0)] : List Value).toArray s 0 0 (mA n a s.heap.size)) (F0 m 65 ls []) := by
            intro zx1_hj6 H locs ls ezx1_hj6 hP hS hl
            rw [ezx1_hj6] at hl
            refine lv_iinc (v := 1) (lv' := [(2, .int 1), (1, .int (jX10_nextVoice_1 S)), (0, .ref (a 0))]) hx hb dX10_nextVoice_65 hl (k := 1) rfl (by decide) (by decide) rfl (fun ls hl => ?_)
            refine lv_goto (tgt := 28) hx hb dX10_nextVoice_68 (by decide) ?_
            refine lv_iload_n hx hb dX10_nextVoice_28 rfl (lv_at hl 0 rfl) ?_
            refine lv_iconst (v := 4) hx hb dX10_nextVoice_29 (by decide) ?_
            refine lv_icmp_ge (tgt := 71) hx hb dX10_nextVoice_30 (by decide) (fun c => absurd c (by decide)) (fun _ => ?_)
            refine lv_aload_n hx hb dX10_nextVoice_33 rfl (lv_at hl 2 rfl) ?_
            refine g_get (ci := 10) (C := RX10) (T := TX10) (N := 35) (v := .ref (a 3)) hx hb hts iX10_nextVoice_X10 hown hK hP (lt_hn hn (by decide)) cD_D rfl 2 (by decide) rfl (by decide +kernel) rfl dX10_nextVoice_34 ?_
            refine lv_iload_n hx hb dX10_nextVoice_37 rfl (lv_at hl 0 rfl) ?_
            refine g_iald (N := 4) (g := S 3) hx hb hK hP (lt_hn hn (by decide)) rfl (vp_in_lit (by decide)) dX10_nextVoice_38 ?_
            refine lv_iconst (v := 4) hx hb dX10_nextVoice_39 (by decide) ?_
            have hj8 : ∀ (zx1_hj8 : Int32) (H : Heap) (locs : List Loc) (ls : Array Slot), zx1_hj8 = (jX10_nextVoice_2 S) → va_P G vwCl (wG n a (cD a cA) S L) H → va_S (mA n a s.heap.size) s.heap H locs → lv_has ls 3 [(1, .int zx1_hj8), (2, .int 1), (0, .ref (a 0))] → W p l e ({ frames := 0, cells := 0, slots := 0, locals := 0 } : Room) s m ([.ref (a 0)] : List Value).toArray below meth c H locs 0 0 (MQ below (gQi (rX10_nextVoice S) G n a (cD a cA) S L s.heap.size) ([.ref (a 0)] : List Value).toArray s 0 0 (mA n a s.heap.size)) (F0 m 65 ls []) := by
              intro zx1_hj8 H locs ls ezx1_hj8 hP hS hl
              rw [ezx1_hj8] at hl
              refine lv_iinc (v := 2) (lv' := [(2, .int 2), (1, .int (jX10_nextVoice_2 S)), (0, .ref (a 0))]) hx hb dX10_nextVoice_65 hl (k := 1) rfl (by decide) (by decide) rfl (fun ls hl => ?_)
              refine lv_goto (tgt := 28) hx hb dX10_nextVoice_68 (by decide) ?_
              refine lv_iload_n hx hb dX10_nextVoice_28 rfl (lv_at hl 0 rfl) ?_
              refine lv_iconst (v := 4) hx hb dX10_nextVoice_29 (by decide) ?_
              refine lv_icmp_ge (tgt := 71) hx hb dX10_nextVoice_30 (by decide) (fun c => absurd c (by decide)) (fun _ => ?_)
              refine lv_aload_n hx hb dX10_nextVoice_33 rfl (lv_at hl 2 rfl) ?_
              refine g_get (ci := 10) (C := RX10) (T := TX10) (N := 35) (v := .ref (a 3)) hx hb hts iX10_nextVoice_X10 hown hK hP (lt_hn hn (by decide)) cD_D rfl 2 (by decide) rfl (by decide +kernel) rfl dX10_nextVoice_34 ?_
              refine lv_iload_n hx hb dX10_nextVoice_37 rfl (lv_at hl 0 rfl) ?_
              refine g_iald (N := 4) (g := S 3) hx hb hK hP (lt_hn hn (by decide)) rfl (vp_in_lit (by decide)) dX10_nextVoice_38 ?_
              refine lv_iconst (v := 4) hx hb dX10_nextVoice_39 (by decide) ?_
              have hj10 : ∀ (zx1_hj10 : Int32) (H : Heap) (locs : List Loc) (ls : Array Slot), zx1_hj10 = (jX10_nextVoice_3 S) → va_P G vwCl (wG n a (cD a cA) S L) H → va_S (mA n a s.heap.size) s.heap H locs → lv_has ls 3 [(1, .int zx1_hj10), (2, .int 2), (0, .ref (a 0))] → W p l e ({ frames := 0, cells := 0, slots := 0, locals := 0 } : Room) s m ([.ref (a 0)] : List Value).toArray below meth c H locs 0 0 (MQ below (gQi (rX10_nextVoice S) G n a (cD a cA) S L s.heap.size) ([.ref (a 0)] : List Value).toArray s 0 0 (mA n a s.heap.size)) (F0 m 65 ls []) := by
                intro zx1_hj10 H locs ls ezx1_hj10 hP hS hl
                rw [ezx1_hj10] at hl
                refine lv_iinc (v := 3) (lv' := [(2, .int 3), (1, .int (jX10_nextVoice_3 S)), (0, .ref (a 0))]) hx hb dX10_nextVoice_65 hl (k := 1) rfl (by decide) (by decide) rfl (fun ls hl => ?_)
                refine lv_goto (tgt := 28) hx hb dX10_nextVoice_68 (by decide) ?_
                refine lv_iload_n hx hb dX10_nextVoice_28 rfl (lv_at hl 0 rfl) ?_
                refine lv_iconst (v := 4) hx hb dX10_nextVoice_29 (by decide) ?_
                refine lv_icmp_ge (tgt := 71) hx hb dX10_nextVoice_30 (by decide) (fun c => absurd c (by decide)) (fun _ => ?_)
                refine lv_aload_n hx hb dX10_nextVoice_33 rfl (lv_at hl 2 rfl) ?_
                refine g_get (ci := 10) (C := RX10) (T := TX10) (N := 35) (v := .ref (a 3)) hx hb hts iX10_nextVoice_X10 hown hK hP (lt_hn hn (by decide)) cD_D rfl 2 (by decide) rfl (by decide +kernel) rfl dX10_nextVoice_34 ?_
                refine lv_iload_n hx hb dX10_nextVoice_37 rfl (lv_at hl 0 rfl) ?_
                refine g_iald (N := 4) (g := S 3) hx hb hK hP (lt_hn hn (by decide)) rfl (vp_in_lit (by decide)) dX10_nextVoice_38 ?_
                refine lv_iconst (v := 4) hx hb dX10_nextVoice_39 (by decide) ?_
                have hj12 : ∀ (zx1_hj12 : Int32) (H : Heap) (locs : List Loc) (ls : Array Slot), zx1_hj12 = (jX10_nextVoice_4 S) → va_P G vwCl (wG n a (cD a cA) S L) H → va_S (mA n a s.heap.size) s.heap H locs → lv_has ls 3 [(1, .int zx1_hj12), (2, .int 3), (0, .ref (a 0))] → W p l e ({ frames := 0, cells := 0, slots := 0, locals := 0 } : Room) s m ([.ref (a 0)] : List Value).toArray below meth c H locs 0 0 (MQ below (gQi (rX10_nextVoice S) G n a (cD a cA) S L s.heap.size) ([.ref (a 0)] : List Value).toArray s 0 0 (mA n a s.heap.size)) (F0 m 65 ls []) := by
                  intro zx1_hj12 H locs ls ezx1_hj12 hP hS hl
                  rw [ezx1_hj12] at hl
                  refine lv_iinc (v := 4) (lv' := [(2, .int 4), (1, .int (jX10_nextVoice_4 S)), (0, .ref (a 0))]) hx hb dX10_nextVoice_65 hl (k := 1) rfl (by decide) (by decide) rfl (fun ls hl => ?_)
                  refine lv_goto (tgt := 28) hx hb dX10_nextVoice_68 (by decide) ?_
                  refine lv_iload_n hx hb dX10_nextVoice_28 rfl (lv_at hl 0 rfl) ?_
                  refine lv_iconst (v := 4) hx hb dX10_nextVoice_29 (by decide) ?_
                  refine lv_icmp_ge (tgt := 71) hx hb dX10_nextVoice_30 (by decide) (fun _ => ?_) (fun c => absurd c (by decide))
                  refine lv_iload_n hx hb dX10_nextVoice_71 rfl (lv_at hl 1 rfl) ?_
                  refine lv_iconst (v := (-1)) hx hb dX10_nextVoice_72 (by decide) ?_
                  refine lv_icmp_eq (tgt := 78) hx hb dX10_nextVoice_73 (by decide) (fun c13 => ?_) (fun c13 => ?_)
                  ·
                    refine lv_iconst (v := 0) hx hb dX10_nextVoice_78 (by decide) ?_
                    refine lv_istore_n (lv' := [(1, .int 0), (2, .int 4), (0, .ref (a 0))]) hx hb dX10_nextVoice_79 rfl hl (by decide) rfl (fun ls hl => ?_)
                    refine lv_iconst (v := 1) hx hb dX10_nextVoice_80 (by decide) ?_
                    refine lv_istore_n (lv' := [(2, .int 1), (1, .int 0), (0, .ref (a 0))]) hx hb dX10_nextVoice_81 rfl hl (by decide) rfl (fun ls hl => ?_)
                    refine lv_iload_n hx hb dX10_nextVoice_82 rfl (lv_at hl 0 rfl) ?_
                    refine lv_iconst (v := 4) hx hb dX10_nextVoice_83 (by decide) ?_
                    refine lv_icmp_ge (tgt := 110) hx hb dX10_nextVoice_84 (by decide) (fun c => absurd c (by decide)) (fun _ => ?_)
                    refine lv_aload_n hx hb dX10_nextVoice_87 rfl (lv_at hl 2 rfl) ?_
                    refine g_get (ci := 10) (C := RX10) (T := TX10) (N := 35) (v := .ref (a 13)) hx hb hts iX10_nextVoice_X10 hown hK hP (lt_hn hn (by decide)) cD_D rfl 12 (by decide) rfl (by decide +kernel) rfl dX10_nextVoice_88 ?_
                    refine lv_iload_n hx hb dX10_nextVoice_91 rfl (lv_at hl 0 rfl) ?_
                    refine g_iald (N := 4) (g := S 13) hx hb hK hP (lt_hn hn (by decide)) rfl (vp_in_lit (by decide)) dX10_nextVoice_92 ?_
                    refine lv_aload_n hx hb dX10_nextVoice_93 rfl (lv_at hl 2 rfl) ?_
                    refine g_get (ci := 10) (C := RX10) (T := TX10) (N := 35) (v := .ref (a 13)) hx hb hts iX10_nextVoice_X10 hown hK hP (lt_hn hn (by decide)) cD_D rfl 12 (by decide) rfl (by decide +kernel) rfl dX10_nextVoice_94 ?_
                    refine lv_iload_n hx hb dX10_nextVoice_97 rfl (lv_at hl 1 rfl) ?_
                    refine g_iald (N := 4) (g := S 13) hx hb hK hP (lt_hn hn (by decide)) rfl (vp_in_lit (by decide)) dX10_nextVoice_98 ?_
                    have hj15 : ∀ (zx1_hj15 : Int32) (H : Heap) (locs : List Loc) (ls : Array Slot), zx1_hj15 = (jX10_nextVoice_5 S) → va_P G vwCl (wG n a (cD a cA) S L) H → va_S (mA n a s.heap.size) s.heap H locs → lv_has ls 3 [(2, .int 1), (1, .int zx1_hj15), (0, .ref (a 0))] → W p l e ({ frames := 0, cells := 0, slots := 0, locals := 0 } : Room) s m ([.ref (a 0)] : List Value).toArray below meth c H locs 0 0 (MQ below (gQi (rX10_nextVoice S) G n a (cD a cA) S L s.heap.size) ([.ref (a 0)] : List Value).toArray s 0 0 (mA n a s.heap.size)) (F0 m 104 ls []) := by
                      intro zx1_hj15 H locs ls ezx1_hj15 hP hS hl
                      rw [ezx1_hj15] at hl
                      refine lv_iinc (v := 2) (lv' := [(2, .int 2), (1, .int (jX10_nextVoice_5 S)), (0, .ref (a 0))]) hx hb dX10_nextVoice_104 hl (k := 0) rfl (by decide) (by decide) rfl (fun ls hl => ?_)
                      refine lv_goto (tgt := 82) hx hb dX10_nextVoice_107 (by decide) ?_
                      refine lv_iload_n hx hb dX10_nextVoice_82 rfl (lv_at hl 0 rfl) ?_
                      refine lv_iconst (v := 4) hx hb dX10_nextVoice_83 (by decide) ?_
                      refine lv_icmp_ge (tgt := 110) hx hb dX10_nextVoice_84 (by decide) (fun c => absurd c (by decide)) (fun _ => ?_)
                      refine lv_aload_n hx hb dX10_nextVoice_87 rfl (lv_at hl 2 rfl) ?_
                      refine g_get (ci := 10) (C := RX10) (T := TX10) (N := 35) (v := .ref (a 13)) hx hb hts iX10_nextVoice_X10 hown hK hP (lt_hn hn (by decide)) cD_D rfl 12 (by decide) rfl (by decide +kernel) rfl dX10_nextVoice_88 ?_
                      refine lv_iload_n hx hb dX10_nextVoice_91 rfl (lv_at hl 0 rfl) ?_
                      refine g_iald (N := 4) (g := S 13) hx hb hK hP (lt_hn hn (by decide)) rfl (vp_in_lit (by decide)) dX10_nextVoice_92 ?_
                      refine lv_aload_n hx hb dX10_nextVoice_93 rfl (lv_at hl 2 rfl) ?_
                      refine g_get (ci := 10) (C := RX10) (T := TX10) (N := 35) (v := .ref (a 13)) hx hb hts iX10_nextVoice_X10 hown hK hP (lt_hn hn (by decide)) cD_D rfl 12 (by decide) rfl (by decide +kernel) rfl dX10_nextVoice_94 ?_
                      refine lv_iload_n hx hb dX10_nextVoice_97 rfl (lv_at hl 1 rfl) ?_
                      refine g_iald (N := 4) (g := S 13) hx hb hK hP (lt_hn hn (by decide)) rfl (hh4 c1 c2 c3 c4 c13) dX10_nextVoice_98 ?_
                      have hj17 : ∀ (zx1_hj17 : Int32) (H : Heap) (locs : List Loc) (ls : Array Slot), zx1_hj17 = (jX10_nextVoice_6 S) → va_P G vwCl (wG n a (cD a cA) S L) H → va_S (mA n a s.heap.size) s.heap H locs → lv_has ls 3 [(2, .int 2), (1, .int zx1_hj17), (0, .ref (a 0))] → W p l e ({ frames := 0, cells := 0, slots := 0, locals := 0 } : Room) s m ([.ref (a 0)] : List Value).toArray below meth c H locs 0 0 (MQ below (gQi (rX10_nextVoice S) G n a (cD a cA) S L s.heap.size) ([.ref (a 0)] : List Value).toArray s 0 0 (mA n a s.heap.size)) (F0 m 104 ls []) := by
                        intro zx1_hj17 H locs ls ezx1_hj17 hP hS hl
                        rw [ezx1_hj17] at hl
                        refine lv_iinc (v := 3) (lv' := [(2, .int 3), (1, .int (jX10_nextVoice_6 S)), (0, .ref (a 0))]) hx hb dX10_nextVoice_104 hl (k := 0) rfl (by decide) (by decide) rfl (fun ls hl => ?_)
                        refine lv_goto (tgt := 82) hx hb dX10_nextVoice_107 (by decide) ?_
                        refine lv_iload_n hx hb dX10_nextVoice_82 rfl (lv_at hl 0 rfl) ?_
                        refine lv_iconst (v := 4) hx hb dX10_nextVoice_83 (by decide) ?_
                        refine lv_icmp_ge (tgt := 110) hx hb dX10_nextVoice_84 (by decide) (fun c => absurd c (by decide)) (fun _ => ?_)
                        refine lv_aload_n hx hb dX10_nextVoice_87 rfl (lv_at hl 2 rfl) ?_
                        refine g_get (ci := 10) (C := RX10) (T := TX10) (N := 35) (v := .ref (a 13)) hx hb hts iX10_nextVoice_X10 hown hK hP (lt_hn hn (by decide)) cD_D rfl 12 (by decide) rfl (by decide +kernel) rfl dX10_nextVoice_88 ?_
                        refine lv_iload_n hx hb dX10_nextVoice_91 rfl (lv_at hl 0 rfl) ?_
                        refine g_iald (N := 4) (g := S 13) hx hb hK hP (lt_hn hn (by decide)) rfl (vp_in_lit (by decide)) dX10_nextVoice_92 ?_
                        refine lv_aload_n hx hb dX10_nextVoice_93 rfl (lv_at hl 2 rfl) ?_
                        refine g_get (ci := 10) (C := RX10) (T := TX10) (N := 35) (v := .ref (a 13)) hx hb hts iX10_nextVoice_X10 hown hK hP (lt_hn hn (by decide)) cD_D rfl 12 (by decide) rfl (by decide +kernel) rfl dX10_nextVoice_94 ?_
                        refine lv_iload_n hx hb dX10_nextVoice_97 rfl (lv_at hl 1 rfl) ?_
                        refine g_iald (N := 4) (g := S 13) hx hb hK hP (lt_hn hn (by decide)) rfl (hh5 c1 c2 c3 c4 c13) dX10_nextVoice_98 ?_
                        have hj19 : ∀ (zx1_hj19 : Int32) (H : Heap) (locs : List Loc) (ls : Array Slot), zx1_hj19 = (jX10_nextVoice_7 S) → va_P G vwCl (wG n a (cD a cA) S L) H → va_S (mA n a s.heap.size) s.heap H locs → lv_has ls 3 [(2, .int 3), (1, .int zx1_hj19), (0, .ref (a 0))] → W p l e ({ frames := 0, cells := 0, slots := 0, locals := 0 } : Room) s m ([.ref (a 0)] : List Value).toArray below meth c H locs 0 0 (MQ below (gQi (rX10_nextVoice S) G n a (cD a cA) S L s.heap.size) ([.ref (a 0)] : List Value).toArray s 0 0 (mA n a s.heap.size)) (F0 m 104 ls []) := by
                          intro zx1_hj19 H locs ls ezx1_hj19 hP hS hl
                          rw [ezx1_hj19] at hl
                          refine lv_iinc (v := 4) (lv' := [(2, .int 4), (1, .int (jX10_nextVoice_7 S)), (0, .ref (a 0))]) hx hb dX10_nextVoice_104 hl (k := 0) rfl (by decide) (by decide) rfl (fun ls hl => ?_)
                          refine lv_goto (tgt := 82) hx hb dX10_nextVoice_107 (by decide) ?_
                          refine lv_iload_n hx hb dX10_nextVoice_82 rfl (lv_at hl 0 rfl) ?_
                          refine lv_iconst (v := 4) hx hb dX10_nextVoice_83 (by decide) ?_
                          refine lv_icmp_ge (tgt := 110) hx hb dX10_nextVoice_84 (by decide) (fun _ => ?_) (fun c => absurd c (by decide))
                          refine lv_iload_n hx hb dX10_nextVoice_110 rfl (lv_at hl 1 rfl) ?_
                          exact g_iret hx hb hr hlocks (by unfold rX10_nextVoice; rw [if_neg c1, if_neg c2, if_neg c3, if_neg c4, if_pos c13]) rfl rfl hP hS dX10_nextVoice_111
                        refine lv_icmp_ge (tgt := 104) hx hb dX10_nextVoice_99 (by decide) (fun c18 => ?_) (fun c18 => ?_)
                        ·
                          exact hj19 _ _ _ _ (by unfold jX10_nextVoice_7; rw [if_pos c18]) hP hS (lv_sub hl [0, 1, 2] rfl)
                        ·
                          refine lv_iload_n hx hb dX10_nextVoice_102 rfl (lv_at hl 0 rfl) ?_
                          refine lv_istore_n (lv' := [(1, .int 3), (2, .int 3), (0, .ref (a 0))]) hx hb dX10_nextVoice_103 rfl hl (by decide) rfl (fun ls hl => ?_)
                          exact hj19 _ _ _ _ (by unfold jX10_nextVoice_7; rw [if_neg c18]) hP hS (lv_sub hl [1, 0, 2] rfl)
                      refine lv_icmp_ge (tgt := 104) hx hb dX10_nextVoice_99 (by decide) (fun c16 => ?_) (fun c16 => ?_)
                      ·
                        exact hj17 _ _ _ _ (by unfold jX10_nextVoice_6; rw [if_pos c16]) hP hS (lv_sub hl [0, 1, 2] rfl)
                      ·
                        refine lv_iload_n hx hb dX10_nextVoice_102 rfl (lv_at hl 0 rfl) ?_
                        refine lv_istore_n (lv' := [(1, .int 2), (2, .int 2), (0, .ref (a 0))]) hx hb dX10_nextVoice_103 rfl hl (by decide) rfl (fun ls hl => ?_)
                        exact hj17 _ _ _ _ (by unfold jX10_nextVoice_6; rw [if_neg c16]) hP hS (lv_sub hl [1, 0, 2] rfl)
                    refine lv_icmp_ge (tgt := 104) hx hb dX10_nextVoice_99 (by decide) (fun c14 => ?_) (fun c14 => ?_)
                    ·
                      exact hj15 _ _ _ _ (by unfold jX10_nextVoice_5; rw [if_pos c14]) hP hS (lv_sub hl [0, 1, 2] rfl)
                    ·
                      refine lv_iload_n hx hb dX10_nextVoice_102 rfl (lv_at hl 0 rfl) ?_
                      refine lv_istore_n (lv' := [(1, .int 1), (2, .int 1), (0, .ref (a 0))]) hx hb dX10_nextVoice_103 rfl hl (by decide) rfl (fun ls hl => ?_)
                      exact hj15 _ _ _ _ (by unfold jX10_nextVoice_5; rw [if_neg c14]) hP hS (lv_sub hl [1, 0, 2] rfl)
                  ·
                    refine lv_iload_n hx hb dX10_nextVoice_76 rfl (lv_at hl 1 rfl) ?_
                    exact g_iret hx hb hr hlocks (by unfold rX10_nextVoice; rw [if_neg c1, if_neg c2, if_neg c3, if_neg c4, if_neg c13]) rfl rfl hP hS dX10_nextVoice_77
                refine lv_icmp_ne (tgt := 65) hx hb dX10_nextVoice_40 (by decide) (fun c11 => ?_) (fun c11 => ?_)
                ·
                  exact hj12 _ _ _ _ (by unfold jX10_nextVoice_4; rw [if_neg c11]) hP hS (lv_sub hl [1, 0, 2] rfl)
                ·
                  refine lv_iload_n hx hb dX10_nextVoice_43 rfl (lv_at hl 1 rfl) ?_
                  refine lv_iconst (v := (-1)) hx hb dX10_nextVoice_44 (by decide) ?_
                  refine lv_icmp_eq (tgt := 63) hx hb dX10_nextVoice_45 (by decide) (fun c20 => ?_) (fun c20 => ?_)
                  ·
                    refine lv_iload_n hx hb dX10_nextVoice_63 rfl (lv_at hl 0 rfl) ?_
                    refine lv_istore_n (lv' := [(1, .int 3), (2, .int 3), (0, .ref (a 0))]) hx hb dX10_nextVoice_64 rfl hl (by decide) rfl (fun ls hl => ?_)
                    exact hj12 _ _ _ _ (by unfold jX10_nextVoice_4; rw [if_pos c11, if_pos c20]) hP hS (lv_sub hl [0, 1, 2] rfl)
                  ·
                    refine lv_aload_n hx hb dX10_nextVoice_48 rfl (lv_at hl 2 rfl) ?_
                    refine g_get (ci := 10) (C := RX10) (T := TX10) (N := 35) (v := .ref (a 4)) hx hb hts iX10_nextVoice_X10 hown hK hP (lt_hn hn (by decide)) cD_D rfl 3 (by decide) rfl (by decide +kernel) rfl dX10_nextVoice_49 ?_
                    refine lv_iload_n hx hb dX10_nextVoice_52 rfl (lv_at hl 0 rfl) ?_
                    refine g_iald (N := 4) (g := S 4) hx hb hK hP (lt_hn hn (by decide)) rfl (vp_in_lit (by decide)) dX10_nextVoice_53 ?_
                    refine lv_aload_n hx hb dX10_nextVoice_54 rfl (lv_at hl 2 rfl) ?_
                    refine g_get (ci := 10) (C := RX10) (T := TX10) (N := 35) (v := .ref (a 4)) hx hb hts iX10_nextVoice_X10 hown hK hP (lt_hn hn (by decide)) cD_D rfl 3 (by decide) rfl (by decide +kernel) rfl dX10_nextVoice_55 ?_
                    refine lv_iload_n hx hb dX10_nextVoice_58 rfl (lv_at hl 1 rfl) ?_
                    refine g_iald (N := 4) (g := S 4) hx hb hK hP (lt_hn hn (by decide)) rfl (hh3 c1 c2 c3 c4 c11 c20) dX10_nextVoice_59 ?_
                    refine lv_icmp_ge (tgt := 65) hx hb dX10_nextVoice_60 (by decide) (fun c21 => ?_) (fun c21 => ?_)
                    ·
                      exact hj12 _ _ _ _ (by unfold jX10_nextVoice_4; rw [if_pos c11, if_neg c20, if_pos c21]) hP hS (lv_sub hl [1, 0, 2] rfl)
                    ·
                      refine lv_iload_n hx hb dX10_nextVoice_63 rfl (lv_at hl 0 rfl) ?_
                      refine lv_istore_n (lv' := [(1, .int 3), (2, .int 3), (0, .ref (a 0))]) hx hb dX10_nextVoice_64 rfl hl (by decide) rfl (fun ls hl => ?_)
                      exact hj12 _ _ _ _ (by unfold jX10_nextVoice_4; rw [if_pos c11, if_neg c20, if_neg c21]) hP hS (lv_sub hl [0, 1, 2] rfl)
              refine lv_icmp_ne (tgt := 65) hx hb dX10_nextVoice_40 (by decide) (fun c9 => ?_) (fun c9 => ?_)
              ·
                exact hj10 _ _ _ _ (by unfold jX10_nextVoice_3; rw [if_neg c9]) hP hS (lv_sub hl [1, 0, 2] rfl)
              ·
                refine lv_iload_n hx hb dX10_nextVoice_43 rfl (lv_at hl 1 rfl) ?_
                refine lv_iconst (v := (-1)) hx hb dX10_nextVoice_44 (by decide) ?_
                refine lv_icmp_eq (tgt := 63) hx hb dX10_nextVoice_45 (by decide) (fun c22 => ?_) (fun c22 => ?_)
                ·
                  refine lv_iload_n hx hb dX10_nextVoice_63 rfl (lv_at hl 0 rfl) ?_
                  refine lv_istore_n (lv' := [(1, .int 2), (2, .int 2), (0, .ref (a 0))]) hx hb dX10_nextVoice_64 rfl hl (by decide) rfl (fun ls hl => ?_)
                  exact hj10 _ _ _ _ (by unfold jX10_nextVoice_3; rw [if_pos c9, if_pos c22]) hP hS (lv_sub hl [0, 1, 2] rfl)
                ·
                  refine lv_aload_n hx hb dX10_nextVoice_48 rfl (lv_at hl 2 rfl) ?_
                  refine g_get (ci := 10) (C := RX10) (T := TX10) (N := 35) (v := .ref (a 4)) hx hb hts iX10_nextVoice_X10 hown hK hP (lt_hn hn (by decide)) cD_D rfl 3 (by decide) rfl (by decide +kernel) rfl dX10_nextVoice_49 ?_
                  refine lv_iload_n hx hb dX10_nextVoice_52 rfl (lv_at hl 0 rfl) ?_
                  refine g_iald (N := 4) (g := S 4) hx hb hK hP (lt_hn hn (by decide)) rfl (vp_in_lit (by decide)) dX10_nextVoice_53 ?_
                  refine lv_aload_n hx hb dX10_nextVoice_54 rfl (lv_at hl 2 rfl) ?_
                  refine g_get (ci := 10) (C := RX10) (T := TX10) (N := 35) (v := .ref (a 4)) hx hb hts iX10_nextVoice_X10 hown hK hP (lt_hn hn (by decide)) cD_D rfl 3 (by decide) rfl (by decide +kernel) rfl dX10_nextVoice_55 ?_
                  refine lv_iload_n hx hb dX10_nextVoice_58 rfl (lv_at hl 1 rfl) ?_
                  refine g_iald (N := 4) (g := S 4) hx hb hK hP (lt_hn hn (by decide)) rfl (hh2 c1 c2 c3 c4 c9 c22) dX10_nextVoice_59 ?_
                  refine lv_icmp_ge (tgt := 65) hx hb dX10_nextVoice_60 (by decide) (fun c23 => ?_) (fun c23 => ?_)
                  ·
                    exact hj10 _ _ _ _ (by unfold jX10_nextVoice_3; rw [if_pos c9, if_neg c22, if_pos c23]) hP hS (lv_sub hl [1, 0, 2] rfl)
                  ·
                    refine lv_iload_n hx hb dX10_nextVoice_63 rfl (lv_at hl 0 rfl) ?_
                    refine lv_istore_n (lv' := [(1, .int 2), (2, .int 2), (0, .ref (a 0))]) hx hb dX10_nextVoice_64 rfl hl (by decide) rfl (fun ls hl => ?_)
                    exact hj10 _ _ _ _ (by unfold jX10_nextVoice_3; rw [if_pos c9, if_neg c22, if_neg c23]) hP hS (lv_sub hl [0, 1, 2] rfl)
            refine lv_icmp_ne (tgt := 65) hx hb dX10_nextVoice_40 (by decide) (fun c7 => ?_) (fun c7 => ?_)
            ·
              exact hj8 _ _ _ _ (by unfold jX10_nextVoice_2; rw [if_neg c7]) hP hS (lv_sub hl [1, 0, 2] rfl)
            ·
              refine lv_iload_n hx hb dX10_nextVoice_43 rfl (lv_at hl 1 rfl) ?_
              refine lv_iconst (v := (-1)) hx hb dX10_nextVoice_44 (by decide) ?_
              refine lv_icmp_eq (tgt := 63) hx hb dX10_nextVoice_45 (by decide) (fun c24 => ?_) (fun c24 => ?_)
              ·
                refine lv_iload_n hx hb dX10_nextVoice_63 rfl (lv_at hl 0 rfl) ?_
                refine lv_istore_n (lv' := [(1, .int 1), (2, .int 1), (0, .ref (a 0))]) hx hb dX10_nextVoice_64 rfl hl (by decide) rfl (fun ls hl => ?_)
                exact hj8 _ _ _ _ (by unfold jX10_nextVoice_2; rw [if_pos c7, if_pos c24]) hP hS (lv_sub hl [0, 1, 2] rfl)
              ·
                refine lv_aload_n hx hb dX10_nextVoice_48 rfl (lv_at hl 2 rfl) ?_
                refine g_get (ci := 10) (C := RX10) (T := TX10) (N := 35) (v := .ref (a 4)) hx hb hts iX10_nextVoice_X10 hown hK hP (lt_hn hn (by decide)) cD_D rfl 3 (by decide) rfl (by decide +kernel) rfl dX10_nextVoice_49 ?_
                refine lv_iload_n hx hb dX10_nextVoice_52 rfl (lv_at hl 0 rfl) ?_
                refine g_iald (N := 4) (g := S 4) hx hb hK hP (lt_hn hn (by decide)) rfl (vp_in_lit (by decide)) dX10_nextVoice_53 ?_
                refine lv_aload_n hx hb dX10_nextVoice_54 rfl (lv_at hl 2 rfl) ?_
                refine g_get (ci := 10) (C := RX10) (T := TX10) (N := 35) (v := .ref (a 4)) hx hb hts iX10_nextVoice_X10 hown hK hP (lt_hn hn (by decide)) cD_D rfl 3 (by decide) rfl (by decide +kernel) rfl dX10_nextVoice_55 ?_
                refine lv_iload_n hx hb dX10_nextVoice_58 rfl (lv_at hl 1 rfl) ?_
                refine g_iald (N := 4) (g := S 4) hx hb hK hP (lt_hn hn (by decide)) rfl (hh1 c1 c2 c3 c4 c7 c24) dX10_nextVoice_59 ?_
                refine lv_icmp_ge (tgt := 65) hx hb dX10_nextVoice_60 (by decide) (fun c25 => ?_) (fun c25 => ?_)
                ·
                  exact hj8 _ _ _ _ (by unfold jX10_nextVoice_2; rw [if_pos c7, if_neg c24, if_pos c25]) hP hS (lv_sub hl [1, 0, 2] rfl)
                ·
                  refine lv_iload_n hx hb dX10_nextVoice_63 rfl (lv_at hl 0 rfl) ?_
                  refine lv_istore_n (lv' := [(1, .int 1), (2, .int 1), (0, .ref (a 0))]) hx hb dX10_nextVoice_64 rfl hl (by decide) rfl (fun ls hl => ?_)
                  exact hj8 _ _ _ _ (by unfold jX10_nextVoice_2; rw [if_pos c7, if_neg c24, if_neg c25]) hP hS (lv_sub hl [0, 1, 2] rfl)
          refine lv_icmp_ne (tgt := 65) hx hb dX10_nextVoice_40 (by decide) (fun c5 => ?_) (fun c5 => ?_)
          ·
            exact hj6 _ _ _ _ (by unfold jX10_nextVoice_1; rw [if_neg c5]) hP hS (lv_sub hl [1, 0, 2] rfl)
          ·
            refine lv_iload_n hx hb dX10_nextVoice_43 rfl (lv_at hl 1 rfl) ?_
            refine lv_iconst (v := (-1)) hx hb dX10_nextVoice_44 (by decide) ?_
            refine lv_icmp_eq (tgt := 63) hx hb dX10_nextVoice_45 (by decide) (fun _ => ?_) (fun c => absurd c (by decide))
            refine lv_iload_n hx hb dX10_nextVoice_63 rfl (lv_at hl 0 rfl) ?_
            refine lv_istore_n (lv' := [(1, .int 0), (2, .int 0), (0, .ref (a 0))]) hx hb dX10_nextVoice_64 rfl hl (by decide) rfl (fun ls hl => ?_)
            exact hj6 _ _ _ _ (by unfold jX10_nextVoice_1; rw [if_pos c5]) hP hS (lv_sub hl [0, 1, 2] rfl)
        ·
          refine lv_iload_n hx hb dX10_nextVoice_16 rfl (lv_at hl 0 rfl) ?_
          exact g_iret hx hb hr hlocks (by unfold rX10_nextVoice; rw [if_neg c1, if_neg c2, if_neg c3, if_pos c4]) rfl rfl hP hS dX10_nextVoice_17
      ·
        refine lv_iload_n hx hb dX10_nextVoice_16 rfl (lv_at hl 0 rfl) ?_
        exact g_iret hx hb hr hlocks (by unfold rX10_nextVoice; rw [if_neg c1, if_neg c2, if_pos c3]) rfl rfl hP hS dX10_nextVoice_17
    ·
      refine lv_iload_n hx hb dX10_nextVoice_16 rfl (lv_at hl 0 rfl) ?_
      exact g_iret hx hb hr hlocks (by unfold rX10_nextVoice; rw [if_neg c1, if_pos c2]) rfl rfl hP hS dX10_nextVoice_17
  ·
    refine lv_iload_n hx hb dX10_nextVoice_16 rfl (lv_at hl 0 rfl) ?_
    exact g_iret hx hb hr hlocks (by unfold rX10_nextVoice; rw [if_pos c1]) rfl rfl hP hS dX10_nextVoice_17
set_option maxRecDepth 100000 in
theorem d_X10_nextVoice_hh1 (S : Mm)  : ¬ (S 3 (0 : Int32).toNatClampNeg = 0) → ¬ (S 3 (1 : Int32).toNatClampNeg = 0) → ¬ (S 3 (2 : Int32).toNatClampNeg = 0) → ¬ (S 3 (3 : Int32).toNatClampNeg = 0) → S 3 (1 : Int32).toNatClampNeg = 4 → ¬ ((jX10_nextVoice_1 S) = (-1)) → vp_in (jX10_nextVoice_1 S) 4 := by
  intro _ _ _ _ _ h
  revert h
  simp only [jX10_nextVoice_1]
  (repeat' split) <;> intro h <;> first | exact vp_in_lit (by decide) | exact absurd rfl h
set_option maxRecDepth 100000 in
theorem d_X10_nextVoice_hh2 (S : Mm)  : ¬ (S 3 (0 : Int32).toNatClampNeg = 0) → ¬ (S 3 (1 : Int32).toNatClampNeg = 0) → ¬ (S 3 (2 : Int32).toNatClampNeg = 0) → ¬ (S 3 (3 : Int32).toNatClampNeg = 0) → S 3 (2 : Int32).toNatClampNeg = 4 → ¬ ((jX10_nextVoice_2 S) = (-1)) → vp_in (jX10_nextVoice_2 S) 4 := by
  intro _ _ _ _ _ h
  revert h
  simp only [jX10_nextVoice_2, jX10_nextVoice_1]
  (repeat' split) <;> intro h <;> first | exact vp_in_lit (by decide) | exact absurd rfl h
set_option maxRecDepth 100000 in
theorem d_X10_nextVoice_hh3 (S : Mm)  : ¬ (S 3 (0 : Int32).toNatClampNeg = 0) → ¬ (S 3 (1 : Int32).toNatClampNeg = 0) → ¬ (S 3 (2 : Int32).toNatClampNeg = 0) → ¬ (S 3 (3 : Int32).toNatClampNeg = 0) → S 3 (3 : Int32).toNatClampNeg = 4 → ¬ ((jX10_nextVoice_3 S) = (-1)) → vp_in (jX10_nextVoice_3 S) 4 := by
  intro _ _ _ _ _ h
  revert h
  simp only [jX10_nextVoice_3, jX10_nextVoice_2, jX10_nextVoice_1]
  (repeat' split) <;> intro h <;> first | exact vp_in_lit (by decide) | exact absurd rfl h
set_option maxRecDepth 100000 in
theorem d_X10_nextVoice_hh4 (S : Mm)  : ¬ (S 3 (0 : Int32).toNatClampNeg = 0) → ¬ (S 3 (1 : Int32).toNatClampNeg = 0) → ¬ (S 3 (2 : Int32).toNatClampNeg = 0) → ¬ (S 3 (3 : Int32).toNatClampNeg = 0) → (jX10_nextVoice_4 S) = (-1) → vp_in (jX10_nextVoice_5 S) 4 := by
  intros
  simp only [jX10_nextVoice_5]
  (repeat' split) <;> exact vp_in_lit (by decide)
set_option maxRecDepth 100000 in
theorem d_X10_nextVoice_hh5 (S : Mm)  : ¬ (S 3 (0 : Int32).toNatClampNeg = 0) → ¬ (S 3 (1 : Int32).toNatClampNeg = 0) → ¬ (S 3 (2 : Int32).toNatClampNeg = 0) → ¬ (S 3 (3 : Int32).toNatClampNeg = 0) → (jX10_nextVoice_4 S) = (-1) → vp_in (jX10_nextVoice_6 S) 4 := by
  intros
  simp only [jX10_nextVoice_6, jX10_nextVoice_5]
  (repeat' split) <;> exact vp_in_lit (by decide)
theorem c1_X10_nextVoice (l : Launch) (G : va_G) (cA : ClassId) (zq n : Nat) (hn : 18 ≤ n) (a : Nat → Nat) (ha : apart n a) (S : Mm) (L : Int64) (sz : Nat)   : Met l yX10_nextVoice wsX10_nextVoice ({ frames := 0, cells := 0, slots := 0, locals := 0 } : Room) (va_Pc [.ref (a 0)] (gI G cA zq n a (cD a cA) S L sz)) (gQi (rX10_nextVoice S) G n a (cD a cA) S L sz) 0 0 (mA n a sz) :=
  c_X10_nextVoice l G cA zq n hn a ha S L sz   (d_X10_nextVoice_hh1 S  ) (d_X10_nextVoice_hh2 S  ) (d_X10_nextVoice_hh3 S  ) (d_X10_nextVoice_hh4 S  ) (d_X10_nextVoice_hh5 S  )

def jX10_sounding_1 (S : Mm) : Int32 := (if S 3 (0 : Int32).toNatClampNeg = 0 then 0 else 1)
def jX10_sounding_2 (S : Mm) : Int32 := (if S 3 (1 : Int32).toNatClampNeg = 0 then 0 else 1)
def jX10_sounding_3 (S : Mm) : Int32 := (if S 3 (2 : Int32).toNatClampNeg = 0 then 0 else 1)
def jX10_sounding_4 (S : Mm) : Int32 := (if S 3 (3 : Int32).toNatClampNeg = 0 then 0 else 1)
def rX10_sounding (S : Mm) : Int32 := (((0 + (jX10_sounding_1 S)) + (jX10_sounding_2 S)) + (jX10_sounding_3 S)) + (jX10_sounding_4 S)
theorem iX10_sounding_X10 : ∀ w ∈ u_ws RX10 TX10 35, w ∈ wsX10_sounding := by decide +kernel
set_option maxHeartbeats 4000000 in
set_option maxRecDepth 100000 in
theorem c_X10_sounding (l : Launch) (G : va_G) (cA : ClassId) (zq n : Nat) (hn : 18 ≤ n) (a : Nat → Nat) (ha : apart n a) (S : Mm) (L : Int64) (sz : Nat)   : Met l yX10_sounding wsX10_sounding ({ frames := 0, cells := 0, slots := 0, locals := 0 } : Room) (va_Pc [.ref (a 0)] (gI G cA zq n a (cD a cA) S L sz)) (gQi (rX10_sounding S) G n a (cD a cA) S L sz) 0 0 (mA n a sz) := by
  refine g_met (cc := cX10_sounding) (maxL := 3) (ret := (some .int)) (by decide) rfl (Nat.le_of_ble_eq_true rfl) ?_
  intro p e s m below meth c ls hx hb hr hlocks hml hts hown hnm hsz hK hP hS hl
  subst hsz
  have hl : lv_has ls 3 [(0, .ref (a 0))] := hl
  refine lv_iconst (v := 0) hx hb dX10_sounding_0 (by decide) ?_
  refine lv_istore_n (lv' := [(1, .int 0), (0, .ref (a 0))]) hx hb dX10_sounding_1 rfl hl (by decide) rfl (fun ls hl => ?_)
  refine lv_iconst (v := 0) hx hb dX10_sounding_2 (by decide) ?_
  refine lv_istore_n (lv' := [(2, .int 0), (1, .int 0), (0, .ref (a 0))]) hx hb dX10_sounding_3 rfl hl (by decide) rfl (fun ls hl => ?_)
  refine lv_iload_n hx hb dX10_sounding_4 rfl (lv_at hl 0 rfl) ?_
  refine lv_iconst (v := 4) hx hb dX10_sounding_5 (by decide) ?_
  refine lv_icmp_ge (tgt := 32) hx hb dX10_sounding_6 (by decide) (fun c => absurd c (by decide)) (fun _ => ?_)
  refine lv_iload_n hx hb dX10_sounding_9 rfl (lv_at hl 1 rfl) ?_
  refine lv_aload_n hx hb dX10_sounding_10 rfl (lv_at hl 2 rfl) ?_
  refine g_get (ci := 10) (C := RX10) (T := TX10) (N := 35) (v := .ref (a 3)) hx hb hts iX10_sounding_X10 hown hK hP (lt_hn hn (by decide)) cD_D rfl 2 (by decide) rfl (by decide +kernel) rfl dX10_sounding_11 ?_
  refine lv_iload_n hx hb dX10_sounding_14 rfl (lv_at hl 0 rfl) ?_
  refine g_iald (N := 4) (g := S 3) hx hb hK hP (lt_hn hn (by decide)) rfl (vp_in_lit (by decide)) dX10_sounding_15 ?_
  have hj2 : ∀ (zy0_hj2 : Int32) (H : Heap) (locs : List Loc) (ls : Array Slot), zy0_hj2 = (jX10_sounding_1 S) → va_P G vwCl (wG n a (cD a cA) S L) H → va_S (mA n a s.heap.size) s.heap H locs → lv_has ls 3 [(2, .int 0), (1, .int 0), (0, .ref (a 0))] → W p l e ({ frames := 0, cells := 0, slots := 0, locals := 0 } : Room) s m ([.ref (a 0)] : List Value).toArray below meth c H locs 0 0 (MQ below (gQi (rX10_sounding S) G n a (cD a cA) S L s.heap.size) ([.ref (a 0)] : List Value).toArray s 0 0 (mA n a s.heap.size)) (F0 m 24 ls [.int zy0_hj2, .int 0]) := by
    intro zy0_hj2 H locs ls ezy0_hj2 hP hS hl
    rw [ezy0_hj2]
    refine lv_iadd hx hb dX10_sounding_24 ?_
    refine lv_istore_n (lv' := [(1, .int (0 + (jX10_sounding_1 S))), (2, .int 0), (0, .ref (a 0))]) hx hb dX10_sounding_25 rfl hl (by decide) rfl (fun ls hl => ?_)
    refine lv_iinc (v := 1) (lv' := [(2, .int 1), (1, .int (0 + (jX10_sounding_1 S))), (0, .ref (a 0))]) hx hb dX10_sounding_26 hl (k := 1) rfl (by decide) (by decide) rfl (fun ls hl => ?_)
    refine lv_goto (tgt := 4) hx hb dX10_sounding_29 (by decide) ?_
    refine lv_iload_n hx hb dX10_sounding_4 rfl (lv_at hl 0 rfl) ?_
    refine lv_iconst (v := 4) hx hb dX10_sounding_5 (by decide) ?_
    refine lv_icmp_ge (tgt := 32) hx hb dX10_sounding_6 (by decide) (fun c => absurd c (by decide)) (fun _ => ?_)
    refine lv_iload_n hx hb dX10_sounding_9 rfl (lv_at hl 1 rfl) ?_
    refine lv_aload_n hx hb dX10_sounding_10 rfl (lv_at hl 2 rfl) ?_
    refine g_get (ci := 10) (C := RX10) (T := TX10) (N := 35) (v := .ref (a 3)) hx hb hts iX10_sounding_X10 hown hK hP (lt_hn hn (by decide)) cD_D rfl 2 (by decide) rfl (by decide +kernel) rfl dX10_sounding_11 ?_
    refine lv_iload_n hx hb dX10_sounding_14 rfl (lv_at hl 0 rfl) ?_
    refine g_iald (N := 4) (g := S 3) hx hb hK hP (lt_hn hn (by decide)) rfl (vp_in_lit (by decide)) dX10_sounding_15 ?_
    have hj4 : ∀ (zy0_hj4 : Int32) (H : Heap) (locs : List Loc) (ls : Array Slot), zy0_hj4 = (jX10_sounding_2 S) → va_P G vwCl (wG n a (cD a cA) S L) H → va_S (mA n a s.heap.size) s.heap H locs → lv_has ls 3 [(2, .int 1), (1, .int (0 + (jX10_sounding_1 S))), (0, .ref (a 0))] → W p l e ({ frames := 0, cells := 0, slots := 0, locals := 0 } : Room) s m ([.ref (a 0)] : List Value).toArray below meth c H locs 0 0 (MQ below (gQi (rX10_sounding S) G n a (cD a cA) S L s.heap.size) ([.ref (a 0)] : List Value).toArray s 0 0 (mA n a s.heap.size)) (F0 m 24 ls [.int zy0_hj4, .int (0 + (jX10_sounding_1 S))]) := by
      intro zy0_hj4 H locs ls ezy0_hj4 hP hS hl
      rw [ezy0_hj4]
      refine lv_iadd hx hb dX10_sounding_24 ?_
      refine lv_istore_n (lv' := [(1, .int ((0 + (jX10_sounding_1 S)) + (jX10_sounding_2 S))), (2, .int 1), (0, .ref (a 0))]) hx hb dX10_sounding_25 rfl hl (by decide) rfl (fun ls hl => ?_)
      refine lv_iinc (v := 2) (lv' := [(2, .int 2), (1, .int ((0 + (jX10_sounding_1 S)) + (jX10_sounding_2 S))), (0, .ref (a 0))]) hx hb dX10_sounding_26 hl (k := 1) rfl (by decide) (by decide) rfl (fun ls hl => ?_)
      refine lv_goto (tgt := 4) hx hb dX10_sounding_29 (by decide) ?_
      refine lv_iload_n hx hb dX10_sounding_4 rfl (lv_at hl 0 rfl) ?_
      refine lv_iconst (v := 4) hx hb dX10_sounding_5 (by decide) ?_
      refine lv_icmp_ge (tgt := 32) hx hb dX10_sounding_6 (by decide) (fun c => absurd c (by decide)) (fun _ => ?_)
      refine lv_iload_n hx hb dX10_sounding_9 rfl (lv_at hl 1 rfl) ?_
      refine lv_aload_n hx hb dX10_sounding_10 rfl (lv_at hl 2 rfl) ?_
      refine g_get (ci := 10) (C := RX10) (T := TX10) (N := 35) (v := .ref (a 3)) hx hb hts iX10_sounding_X10 hown hK hP (lt_hn hn (by decide)) cD_D rfl 2 (by decide) rfl (by decide +kernel) rfl dX10_sounding_11 ?_
      refine lv_iload_n hx hb dX10_sounding_14 rfl (lv_at hl 0 rfl) ?_
      refine g_iald (N := 4) (g := S 3) hx hb hK hP (lt_hn hn (by decide)) rfl (vp_in_lit (by decide)) dX10_sounding_15 ?_
      have hj6 : ∀ (zy0_hj6 : Int32) (H : Heap) (locs : List Loc) (ls : Array Slot), zy0_hj6 = (jX10_sounding_3 S) → va_P G vwCl (wG n a (cD a cA) S L) H → va_S (mA n a s.heap.size) s.heap H locs → lv_has ls 3 [(2, .int 2), (1, .int ((0 + (jX10_sounding_1 S)) + (jX10_sounding_2 S))), (0, .ref (a 0))] → W p l e ({ frames := 0, cells := 0, slots := 0, locals := 0 } : Room) s m ([.ref (a 0)] : List Value).toArray below meth c H locs 0 0 (MQ below (gQi (rX10_sounding S) G n a (cD a cA) S L s.heap.size) ([.ref (a 0)] : List Value).toArray s 0 0 (mA n a s.heap.size)) (F0 m 24 ls [.int zy0_hj6, .int ((0 + (jX10_sounding_1 S)) + (jX10_sounding_2 S))]) := by
        intro zy0_hj6 H locs ls ezy0_hj6 hP hS hl
        rw [ezy0_hj6]
        refine lv_iadd hx hb dX10_sounding_24 ?_
        refine lv_istore_n (lv' := [(1, .int (((0 + (jX10_sounding_1 S)) + (jX10_sounding_2 S)) + (jX10_sounding_3 S))), (2, .int 2), (0, .ref (a 0))]) hx hb dX10_sounding_25 rfl hl (by decide) rfl (fun ls hl => ?_)
        refine lv_iinc (v := 3) (lv' := [(2, .int 3), (1, .int (((0 + (jX10_sounding_1 S)) + (jX10_sounding_2 S)) + (jX10_sounding_3 S))), (0, .ref (a 0))]) hx hb dX10_sounding_26 hl (k := 1) rfl (by decide) (by decide) rfl (fun ls hl => ?_)
        refine lv_goto (tgt := 4) hx hb dX10_sounding_29 (by decide) ?_
        refine lv_iload_n hx hb dX10_sounding_4 rfl (lv_at hl 0 rfl) ?_
        refine lv_iconst (v := 4) hx hb dX10_sounding_5 (by decide) ?_
        refine lv_icmp_ge (tgt := 32) hx hb dX10_sounding_6 (by decide) (fun c => absurd c (by decide)) (fun _ => ?_)
        refine lv_iload_n hx hb dX10_sounding_9 rfl (lv_at hl 1 rfl) ?_
        refine lv_aload_n hx hb dX10_sounding_10 rfl (lv_at hl 2 rfl) ?_
        refine g_get (ci := 10) (C := RX10) (T := TX10) (N := 35) (v := .ref (a 3)) hx hb hts iX10_sounding_X10 hown hK hP (lt_hn hn (by decide)) cD_D rfl 2 (by decide) rfl (by decide +kernel) rfl dX10_sounding_11 ?_
        refine lv_iload_n hx hb dX10_sounding_14 rfl (lv_at hl 0 rfl) ?_
        refine g_iald (N := 4) (g := S 3) hx hb hK hP (lt_hn hn (by decide)) rfl (vp_in_lit (by decide)) dX10_sounding_15 ?_
        have hj8 : ∀ (zy0_hj8 : Int32) (H : Heap) (locs : List Loc) (ls : Array Slot), zy0_hj8 = (jX10_sounding_4 S) → va_P G vwCl (wG n a (cD a cA) S L) H → va_S (mA n a s.heap.size) s.heap H locs → lv_has ls 3 [(2, .int 3), (1, .int (((0 + (jX10_sounding_1 S)) + (jX10_sounding_2 S)) + (jX10_sounding_3 S))), (0, .ref (a 0))] → W p l e ({ frames := 0, cells := 0, slots := 0, locals := 0 } : Room) s m ([.ref (a 0)] : List Value).toArray below meth c H locs 0 0 (MQ below (gQi (rX10_sounding S) G n a (cD a cA) S L s.heap.size) ([.ref (a 0)] : List Value).toArray s 0 0 (mA n a s.heap.size)) (F0 m 24 ls [.int zy0_hj8, .int (((0 + (jX10_sounding_1 S)) + (jX10_sounding_2 S)) + (jX10_sounding_3 S))]) := by
          intro zy0_hj8 H locs ls ezy0_hj8 hP hS hl
          rw [ezy0_hj8]
          refine lv_iadd hx hb dX10_sounding_24 ?_
          refine lv_istore_n (lv' := [(1, .int ((((0 + (jX10_sounding_1 S)) + (jX10_sounding_2 S)) + (jX10_sounding_3 S)) + (jX10_sounding_4 S))), (2, .int 3), (0, .ref (a 0))]) hx hb dX10_sounding_25 rfl hl (by decide) rfl (fun ls hl => ?_)
          refine lv_iinc (v := 4) (lv' := [(2, .int 4), (1, .int ((((0 + (jX10_sounding_1 S)) + (jX10_sounding_2 S)) + (jX10_sounding_3 S)) + (jX10_sounding_4 S))), (0, .ref (a 0))]) hx hb dX10_sounding_26 hl (k := 1) rfl (by decide) (by decide) rfl (fun ls hl => ?_)
          refine lv_goto (tgt := 4) hx hb dX10_sounding_29 (by decide) ?_
          refine lv_iload_n hx hb dX10_sounding_4 rfl (lv_at hl 0 rfl) ?_
          refine lv_iconst (v := 4) hx hb dX10_sounding_5 (by decide) ?_
          refine lv_icmp_ge (tgt := 32) hx hb dX10_sounding_6 (by decide) (fun _ => ?_) (fun c => absurd c (by decide))
          refine lv_iload_n hx hb dX10_sounding_32 rfl (lv_at hl 1 rfl) ?_
          exact g_iret hx hb hr hlocks (by unfold rX10_sounding; rfl) rfl rfl hP hS dX10_sounding_33
        refine lv_if_ne (tgt := 23) hx hb dX10_sounding_16 (by decide) (fun c7 => ?_) (fun c7 => ?_)
        ·
          refine lv_iconst (v := 1) hx hb dX10_sounding_23 (by decide) ?_
          exact hj8 _ _ _ _ (by unfold jX10_sounding_4; rw [if_neg c7]) hP hS (lv_sub hl [0, 1, 2] rfl)
        ·
          refine lv_iconst (v := 0) hx hb dX10_sounding_19 (by decide) ?_
          refine lv_goto (tgt := 24) hx hb dX10_sounding_20 (by decide) ?_
          exact hj8 _ _ _ _ (by unfold jX10_sounding_4; rw [if_pos c7]) hP hS (lv_sub hl [0, 1, 2] rfl)
      refine lv_if_ne (tgt := 23) hx hb dX10_sounding_16 (by decide) (fun c5 => ?_) (fun c5 => ?_)
      ·
        refine lv_iconst (v := 1) hx hb dX10_sounding_23 (by decide) ?_
        exact hj6 _ _ _ _ (by unfold jX10_sounding_3; rw [if_neg c5]) hP hS (lv_sub hl [0, 1, 2] rfl)
      ·
        refine lv_iconst (v := 0) hx hb dX10_sounding_19 (by decide) ?_
        refine lv_goto (tgt := 24) hx hb dX10_sounding_20 (by decide) ?_
        exact hj6 _ _ _ _ (by unfold jX10_sounding_3; rw [if_pos c5]) hP hS (lv_sub hl [0, 1, 2] rfl)
    refine lv_if_ne (tgt := 23) hx hb dX10_sounding_16 (by decide) (fun c3 => ?_) (fun c3 => ?_)
    ·
      refine lv_iconst (v := 1) hx hb dX10_sounding_23 (by decide) ?_
      exact hj4 _ _ _ _ (by unfold jX10_sounding_2; rw [if_neg c3]) hP hS (lv_sub hl [0, 1, 2] rfl)
    ·
      refine lv_iconst (v := 0) hx hb dX10_sounding_19 (by decide) ?_
      refine lv_goto (tgt := 24) hx hb dX10_sounding_20 (by decide) ?_
      exact hj4 _ _ _ _ (by unfold jX10_sounding_2; rw [if_pos c3]) hP hS (lv_sub hl [0, 1, 2] rfl)
  refine lv_if_ne (tgt := 23) hx hb dX10_sounding_16 (by decide) (fun c1 => ?_) (fun c1 => ?_)
  ·
    refine lv_iconst (v := 1) hx hb dX10_sounding_23 (by decide) ?_
    exact hj2 _ _ _ _ (by unfold jX10_sounding_1; rw [if_neg c1]) hP hS (lv_sub hl [0, 1, 2] rfl)
  ·
    refine lv_iconst (v := 0) hx hb dX10_sounding_19 (by decide) ?_
    refine lv_goto (tgt := 24) hx hb dX10_sounding_20 (by decide) ?_
    exact hj2 _ _ _ _ (by unfold jX10_sounding_1; rw [if_pos c1]) hP hS (lv_sub hl [0, 1, 2] rfl)

def vX10_goOnLevel_1 (S : Mm) (p1 : Int32) : Int32 := (if (S 4 p1.toNatClampNeg) + (1000000 / (rX10_told S p1 (4 : Int32))) < 1000000 then (S 4 p1.toNatClampNeg) + (1000000 / (rX10_told S p1 (4 : Int32))) else 1000000)
def mX10_goOnLevel_2 (S : Mm) (p1 : Int32) : Mm := up2 (up2 S 4 p1.toNatClampNeg (vX10_goOnLevel_1 S p1)) 3 p1.toNatClampNeg 2
def vX10_goOnLevel_3 (S : Mm) (p1 : Int32) : Int32 := (S 4 p1.toNatClampNeg) - ((1000000 - (1000 * (rX10_told S p1 (6 : Int32)))) / (rX10_told S p1 (5 : Int32)))
def vX10_goOnLevel_4 (S : Mm) (p1 : Int32) : Int32 := (if 1000 * (rX10_told S p1 (6 : Int32)) < (vX10_goOnLevel_3 S p1) - 1 then (vX10_goOnLevel_3 S p1) - 1 else 1000 * (rX10_told S p1 (6 : Int32)))
def mX10_goOnLevel_5 (S : Mm) (p1 : Int32) : Mm := up2 (up2 S 4 p1.toNatClampNeg (vX10_goOnLevel_4 S p1)) 3 p1.toNatClampNeg 3
def vX10_goOnLevel_6 (S : Mm) (p1 : Int32) : Int32 := (if 0 < (S 4 p1.toNatClampNeg) - (1000000 / (rX10_told S p1 (7 : Int32))) then (S 4 p1.toNatClampNeg) - (1000000 / (rX10_told S p1 (7 : Int32))) else 0)
def mX10_goOnLevel_7 (S : Mm) (p1 : Int32) : Mm := up2 (up2 S 4 p1.toNatClampNeg (vX10_goOnLevel_6 S p1)) 3 p1.toNatClampNeg 0
def fX10_goOnLevel (S : Mm) (p1 : Int32) : Mm := (if S 3 p1.toNatClampNeg = 1 then (if (up2 S 4 p1.toNatClampNeg (vX10_goOnLevel_1 S p1)) 4 p1.toNatClampNeg = 1000000 then (mX10_goOnLevel_2 S p1) else up2 S 4 p1.toNatClampNeg (vX10_goOnLevel_1 S p1)) else (if S 3 p1.toNatClampNeg = 2 then (if (up2 S 4 p1.toNatClampNeg (vX10_goOnLevel_4 S p1)) 4 p1.toNatClampNeg = 1000 * (rX10_told S p1 (6 : Int32)) then (mX10_goOnLevel_5 S p1) else up2 S 4 p1.toNatClampNeg (vX10_goOnLevel_4 S p1)) else (if S 3 p1.toNatClampNeg = 3 then up2 S 4 p1.toNatClampNeg (1000 * (rX10_told S p1 (6 : Int32))) else (if (up2 S 4 p1.toNatClampNeg (vX10_goOnLevel_6 S p1)) 4 p1.toNatClampNeg = 0 then (mX10_goOnLevel_7 S p1) else up2 S 4 p1.toNatClampNeg (vX10_goOnLevel_6 S p1)))))
theorem iX10_goOnLevel_X10 : ∀ w ∈ u_ws RX10 TX10 35, w ∈ wsX10_goOnLevel := by decide +kernel
set_option maxHeartbeats 4000000 in
set_option maxRecDepth 100000 in
theorem c_X10_goOnLevel (l : Launch) (G : va_G) (cA : ClassId) (zq n : Nat) (hn : 18 ≤ n) (a : Nat → Nat) (ha : apart n a) (S : Mm) (L : Int64) (sz : Nat) (p1 : Int32)  (hh1 : vp_in p1 4) (hh2 : vp_in (((S 5 p1.toNatClampNeg) * 12) + (6 : Int32)) 48) (hh3 : S 3 p1.toNatClampNeg = 1 → vp_in (((S 5 p1.toNatClampNeg) * 12) + (4 : Int32)) 48) (hh4 : S 3 p1.toNatClampNeg = 1 → ¬ rX10_told S p1 (4 : Int32) = 0) (hh5 : ¬ (S 3 p1.toNatClampNeg = 1) → S 3 p1.toNatClampNeg = 2 → vp_in (((S 5 p1.toNatClampNeg) * 12) + (5 : Int32)) 48) (hh6 : ¬ (S 3 p1.toNatClampNeg = 1) → S 3 p1.toNatClampNeg = 2 → ¬ rX10_told S p1 (5 : Int32) = 0) (hh7 : ¬ (S 3 p1.toNatClampNeg = 1) → ¬ (S 3 p1.toNatClampNeg = 2) → ¬ (S 3 p1.toNatClampNeg = 3) → vp_in (((S 5 p1.toNatClampNeg) * 12) + (7 : Int32)) 48) (hh8 : ¬ (S 3 p1.toNatClampNeg = 1) → ¬ (S 3 p1.toNatClampNeg = 2) → ¬ (S 3 p1.toNatClampNeg = 3) → ¬ rX10_told S p1 (7 : Int32) = 0) : Met l yX10_goOnLevel wsX10_goOnLevel ({ frames := 1, cells := 0, slots := 0, locals := 22 } : Room) (va_Pc [.ref (a 0), .int p1] (gI G cA zq n a (cD a cA) S L sz)) (gQv G n a (cD a cA) (fX10_goOnLevel S p1) L sz) 0 0 (mA n a sz) := by
  refine g_met (cc := cX10_goOnLevel) (maxL := 3) (ret := none) (by decide) rfl (Nat.le_of_ble_eq_true rfl) ?_
  intro p e s m below meth c ls hx hb hr hlocks hml hts hown hnm hsz hK hP hS hl
  subst hsz
  have hl : lv_has ls 3 [(0, .ref (a 0)), (1, .int p1)] := hl
  refine lv_sipush (v := 1000) hx hb dX10_goOnLevel_0 (by decide) ?_
  refine lv_aload_n hx hb dX10_goOnLevel_3 rfl (lv_at hl 0 rfl) ?_
  refine lv_iload_n hx hb dX10_goOnLevel_4 rfl (lv_at hl 1 rfl) ?_
  refine lv_bipush (v := 6) hx hb dX10_goOnLevel_5 (by decide) ?_
  refine g_cVi (As := [.int p1, .int 6]) (rest := [.int 1000]) ⟨hx, hb, hml, hown, hts⟩ (c_X10_told l G cA zq n hn a ha S L s.heap.size p1 (6 : Int32)  hh1 hh2) (cwV 2 hts gX10_goOnLevel_X10_told rfl rfl rfl (by decide +kernel) ⟨Nat.le_of_ble_eq_true rfl, Nat.le_of_ble_eq_true rfl⟩) (g_recv hK hP (lt_hn hn (by decide)) cD_D (C := RX10) (T := TX10) (N := 35) rfl) hK (mA_mono hS.1) hP hS rfl hl.1 rfl (lv_room (Nat.le_of_ble_eq_true rfl)) dX10_goOnLevel_7 ⟨Nat.le_of_ble_eq_true rfl, Nat.le_of_ble_eq_true rfl⟩ (fun H locs hP hS _ _ => ?_)
  refine lv_imul hx hb dX10_goOnLevel_10 ?_
  refine lv_istore_n (lv' := [(2, .int (1000 * (rX10_told S p1 (6 : Int32)))), (0, .ref (a 0)), (1, .int p1)]) hx hb dX10_goOnLevel_11 rfl hl (by decide) rfl (fun ls hl => ?_)
  refine lv_aload_n hx hb dX10_goOnLevel_12 rfl (lv_at hl 1 rfl) ?_
  refine g_get (ci := 10) (C := RX10) (T := TX10) (N := 35) (v := .ref (a 3)) hx hb hts iX10_goOnLevel_X10 hown hK hP (lt_hn hn (by decide)) cD_D rfl 2 (by decide) rfl (by decide +kernel) rfl dX10_goOnLevel_13 ?_
  refine lv_iload_n hx hb dX10_goOnLevel_16 rfl (lv_at hl 2 rfl) ?_
  refine g_iald (N := 4) (g := S 3) hx hb hK hP (lt_hn hn (by decide)) rfl hh1 dX10_goOnLevel_17 ?_
  by_cases c1 : S 3 p1.toNatClampNeg = 1
  ·
    refine lv_tableIn (off := 26) (tgt := 44) hx hb dX10_goOnLevel_18 (by rw [c1]; decide) (by rw [c1]; decide) (by rw [c1]; rfl) (by decide) ?_
    refine lv_aload_n hx hb dX10_goOnLevel_44 rfl (lv_at hl 1 rfl) ?_
    refine g_get (ci := 10) (C := RX10) (T := TX10) (N := 35) (v := .ref (a 4)) hx hb hts iX10_goOnLevel_X10 hown hK hP (lt_hn hn (by decide)) cD_D rfl 3 (by decide) rfl (by decide +kernel) rfl dX10_goOnLevel_45 ?_
    refine lv_iload_n hx hb dX10_goOnLevel_48 rfl (lv_at hl 2 rfl) ?_
    refine lv_ldc (v := 1000000) hx hb hown (hts (.constant RX10 132 1000000) (by decide +kernel)) dX10_goOnLevel_49 ?_
    refine lv_aload_n hx hb dX10_goOnLevel_51 rfl (lv_at hl 1 rfl) ?_
    refine g_get (ci := 10) (C := RX10) (T := TX10) (N := 35) (v := .ref (a 4)) hx hb hts iX10_goOnLevel_X10 hown hK hP (lt_hn hn (by decide)) cD_D rfl 3 (by decide) rfl (by decide +kernel) rfl dX10_goOnLevel_52 ?_
    refine lv_iload_n hx hb dX10_goOnLevel_55 rfl (lv_at hl 2 rfl) ?_
    refine g_iald (N := 4) (g := S 4) hx hb hK hP (lt_hn hn (by decide)) rfl hh1 dX10_goOnLevel_56 ?_
    refine lv_ldc (v := 1000000) hx hb hown (hts (.constant RX10 132 1000000) (by decide +kernel)) dX10_goOnLevel_57 ?_
    refine lv_aload_n hx hb dX10_goOnLevel_59 rfl (lv_at hl 1 rfl) ?_
    refine lv_iload_n hx hb dX10_goOnLevel_60 rfl (lv_at hl 2 rfl) ?_
    refine lv_iconst (v := 4) hx hb dX10_goOnLevel_61 (by decide) ?_
    refine g_cVi (As := [.int p1, .int 4]) (rest := [.int 1000000, .int (S 4 p1.toNatClampNeg), .int 1000000, .int p1, .ref (a 4)]) ⟨hx, hb, hml, hown, hts⟩ (c_X10_told l G cA zq n hn a ha S L H.size p1 (4 : Int32)  hh1 (hh3 c1)) (cwV 2 hts gX10_goOnLevel_X10_told rfl rfl rfl (by decide +kernel) ⟨Nat.le_of_ble_eq_true rfl, Nat.le_of_ble_eq_true rfl⟩) (g_recv hK hP (lt_hn hn (by decide)) cD_D (C := RX10) (T := TX10) (N := 35) rfl) hK (mA_mono hS.1) hP hS rfl hl.1 rfl (lv_room (Nat.le_of_ble_eq_true rfl)) dX10_goOnLevel_62 ⟨Nat.le_of_ble_eq_true rfl, Nat.le_of_ble_eq_true rfl⟩ (fun H locs hP hS _ _ => ?_)
    refine lv_idiv hx hb dX10_goOnLevel_65 (hh4 c1) ?_
    refine lv_iadd hx hb dX10_goOnLevel_66 ?_
    refine va_mmin hx hb (hml.trans hl.1.symm) hown (hts (.methodLink RX10 133 Lib.Math.min.name) (by decide +kernel)) (hts (.static Lib.Math.min.name) (by decide +kernel)) (hts (.initialized "java/lang/Math") (by decide +kernel)) (hts (.code Lib.Math.min.name Lib.Math.min.code 2 (some .int)) (by decide +kernel)) (Nat.le_of_ble_eq_true rfl) (Nat.le_of_ble_eq_true rfl) (Nat.le_of_ble_eq_true rfl) (Nat.le_of_ble_eq_true rfl) dX10_goOnLevel_67 ?_
    refine W.eq (g2 := F0 m 70 ls [.int (vX10_goOnLevel_1 S p1), .int p1, .ref (a 4)]) rfl ?_
    refine g_iast (N := 4) (g := S 4) hx hb hK ha mA_in hP hS (lt_hn hn (by decide)) rfl hh1 rfl dX10_goOnLevel_70 (fun H locs hP hS => ?_)
    refine lv_aload_n hx hb dX10_goOnLevel_71 rfl (lv_at hl 1 rfl) ?_
    refine g_get (ci := 10) (C := RX10) (T := TX10) (N := 35) (v := .ref (a 4)) hx hb hts iX10_goOnLevel_X10 hown hK hP (lt_hn hn (by decide)) cD_D rfl 3 (by decide) rfl (by decide +kernel) rfl dX10_goOnLevel_72 ?_
    refine lv_iload_n hx hb dX10_goOnLevel_75 rfl (lv_at hl 2 rfl) ?_
    refine g_iald (N := 4) (g := (up2 S 4 p1.toNatClampNeg (vX10_goOnLevel_1 S p1)) 4) hx hb hK hP (lt_hn hn (by decide)) rfl hh1 dX10_goOnLevel_76 ?_
    refine lv_ldc (v := 1000000) hx hb hown (hts (.constant RX10 132 1000000) (by decide +kernel)) dX10_goOnLevel_77 ?_
    refine lv_icmp_ne (tgt := 195) hx hb dX10_goOnLevel_79 (by decide) (fun c2 => ?_) (fun c2 => ?_)
    ·
      exact g_vret hx hb hr hlocks (by unfold fX10_goOnLevel; rw [if_pos c1, if_neg c2]) rfl hP hS dX10_goOnLevel_195
    ·
      refine lv_aload_n hx hb dX10_goOnLevel_82 rfl (lv_at hl 1 rfl) ?_
      refine g_get (ci := 10) (C := RX10) (T := TX10) (N := 35) (v := .ref (a 3)) hx hb hts iX10_goOnLevel_X10 hown hK hP (lt_hn hn (by decide)) cD_D rfl 2 (by decide) rfl (by decide +kernel) rfl dX10_goOnLevel_83 ?_
      refine lv_iload_n hx hb dX10_goOnLevel_86 rfl (lv_at hl 2 rfl) ?_
      refine lv_iconst (v := 2) hx hb dX10_goOnLevel_87 (by decide) ?_
      refine g_iast (N := 4) (g := (up2 S 4 p1.toNatClampNeg (vX10_goOnLevel_1 S p1)) 3) hx hb hK ha mA_in hP hS (lt_hn hn (by decide)) rfl hh1 rfl dX10_goOnLevel_88 (fun H locs hP hS => ?_)
      have hP : va_P G vwCl (wG n a (cD a cA) (mX10_goOnLevel_2 S p1) L) H := hP
      refine lv_goto (tgt := 195) hx hb dX10_goOnLevel_89 (by decide) ?_
      exact g_vret hx hb hr hlocks (by unfold fX10_goOnLevel; rw [if_pos c1, if_pos c2]) rfl hP hS dX10_goOnLevel_195
  ·
    by_cases c3 : S 3 p1.toNatClampNeg = 2
    ·
      refine lv_tableIn (off := 74) (tgt := 92) hx hb dX10_goOnLevel_18 (by rw [c3]; decide) (by rw [c3]; decide) (by rw [c3]; rfl) (by decide) ?_
      refine lv_aload_n hx hb dX10_goOnLevel_92 rfl (lv_at hl 1 rfl) ?_
      refine g_get (ci := 10) (C := RX10) (T := TX10) (N := 35) (v := .ref (a 4)) hx hb hts iX10_goOnLevel_X10 hown hK hP (lt_hn hn (by decide)) cD_D rfl 3 (by decide) rfl (by decide +kernel) rfl dX10_goOnLevel_93 ?_
      refine lv_iload_n hx hb dX10_goOnLevel_96 rfl (lv_at hl 2 rfl) ?_
      refine lv_iload_n hx hb dX10_goOnLevel_97 rfl (lv_at hl 0 rfl) ?_
      refine lv_aload_n hx hb dX10_goOnLevel_98 rfl (lv_at hl 1 rfl) ?_
      refine g_get (ci := 10) (C := RX10) (T := TX10) (N := 35) (v := .ref (a 4)) hx hb hts iX10_goOnLevel_X10 hown hK hP (lt_hn hn (by decide)) cD_D rfl 3 (by decide) rfl (by decide +kernel) rfl dX10_goOnLevel_99 ?_
      refine lv_iload_n hx hb dX10_goOnLevel_102 rfl (lv_at hl 2 rfl) ?_
      refine g_iald (N := 4) (g := S 4) hx hb hK hP (lt_hn hn (by decide)) rfl hh1 dX10_goOnLevel_103 ?_
      refine lv_ldc (v := 1000000) hx hb hown (hts (.constant RX10 132 1000000) (by decide +kernel)) dX10_goOnLevel_104 ?_
      refine lv_iload_n hx hb dX10_goOnLevel_106 rfl (lv_at hl 0 rfl) ?_
      refine lv_isub hx hb dX10_goOnLevel_107 ?_
      refine lv_aload_n hx hb dX10_goOnLevel_108 rfl (lv_at hl 1 rfl) ?_
      refine lv_iload_n hx hb dX10_goOnLevel_109 rfl (lv_at hl 2 rfl) ?_
      refine lv_iconst (v := 5) hx hb dX10_goOnLevel_110 (by decide) ?_
      refine g_cVi (As := [.int p1, .int 5]) (rest := [.int (1000000 - (1000 * (rX10_told S p1 (6 : Int32)))), .int (S 4 p1.toNatClampNeg), .int (1000 * (rX10_told S p1 (6 : Int32))), .int p1, .ref (a 4)]) ⟨hx, hb, hml, hown, hts⟩ (c_X10_told l G cA zq n hn a ha S L H.size p1 (5 : Int32)  hh1 (hh5 c1 c3)) (cwV 2 hts gX10_goOnLevel_X10_told rfl rfl rfl (by decide +kernel) ⟨Nat.le_of_ble_eq_true rfl, Nat.le_of_ble_eq_true rfl⟩) (g_recv hK hP (lt_hn hn (by decide)) cD_D (C := RX10) (T := TX10) (N := 35) rfl) hK (mA_mono hS.1) hP hS rfl hl.1 rfl (lv_room (Nat.le_of_ble_eq_true rfl)) dX10_goOnLevel_111 ⟨Nat.le_of_ble_eq_true rfl, Nat.le_of_ble_eq_true rfl⟩ (fun H locs hP hS _ _ => ?_)
      refine lv_idiv hx hb dX10_goOnLevel_114 (hh6 c1 c3) ?_
      refine lv_isub hx hb dX10_goOnLevel_115 ?_
      refine W.eq (g2 := F0 m 116 ls [.int (vX10_goOnLevel_3 S p1), .int (1000 * (rX10_told S p1 (6 : Int32))), .int p1, .ref (a 4)]) rfl ?_
      refine lv_iconst (v := 1) hx hb dX10_goOnLevel_116 (by decide) ?_
      refine lv_isub hx hb dX10_goOnLevel_117 ?_
      refine va_mmax hx hb (hml.trans hl.1.symm) hown (hts (.methodLink RX10 138 Lib.Math.max.name) (by decide +kernel)) (hts (.static Lib.Math.max.name) (by decide +kernel)) (hts (.initialized "java/lang/Math") (by decide +kernel)) (hts (.code Lib.Math.max.name Lib.Math.max.code 2 (some .int)) (by decide +kernel)) (Nat.le_of_ble_eq_true rfl) (Nat.le_of_ble_eq_true rfl) (Nat.le_of_ble_eq_true rfl) (Nat.le_of_ble_eq_true rfl) dX10_goOnLevel_118 ?_
      refine W.eq (g2 := F0 m 121 ls [.int (vX10_goOnLevel_4 S p1), .int p1, .ref (a 4)]) rfl ?_
      refine g_iast (N := 4) (g := S 4) hx hb hK ha mA_in hP hS (lt_hn hn (by decide)) rfl hh1 rfl dX10_goOnLevel_121 (fun H locs hP hS => ?_)
      refine lv_aload_n hx hb dX10_goOnLevel_122 rfl (lv_at hl 1 rfl) ?_
      refine g_get (ci := 10) (C := RX10) (T := TX10) (N := 35) (v := .ref (a 4)) hx hb hts iX10_goOnLevel_X10 hown hK hP (lt_hn hn (by decide)) cD_D rfl 3 (by decide) rfl (by decide +kernel) rfl dX10_goOnLevel_123 ?_
      refine lv_iload_n hx hb dX10_goOnLevel_126 rfl (lv_at hl 2 rfl) ?_
      refine g_iald (N := 4) (g := (up2 S 4 p1.toNatClampNeg (vX10_goOnLevel_4 S p1)) 4) hx hb hK hP (lt_hn hn (by decide)) rfl hh1 dX10_goOnLevel_127 ?_
      refine lv_iload_n hx hb dX10_goOnLevel_128 rfl (lv_at hl 0 rfl) ?_
      refine lv_icmp_ne (tgt := 195) hx hb dX10_goOnLevel_129 (by decide) (fun c4 => ?_) (fun c4 => ?_)
      ·
        exact g_vret hx hb hr hlocks (by unfold fX10_goOnLevel; rw [if_neg c1, if_pos c3, if_neg c4]) rfl hP hS dX10_goOnLevel_195
      ·
        refine lv_aload_n hx hb dX10_goOnLevel_132 rfl (lv_at hl 1 rfl) ?_
        refine g_get (ci := 10) (C := RX10) (T := TX10) (N := 35) (v := .ref (a 3)) hx hb hts iX10_goOnLevel_X10 hown hK hP (lt_hn hn (by decide)) cD_D rfl 2 (by decide) rfl (by decide +kernel) rfl dX10_goOnLevel_133 ?_
        refine lv_iload_n hx hb dX10_goOnLevel_136 rfl (lv_at hl 2 rfl) ?_
        refine lv_iconst (v := 3) hx hb dX10_goOnLevel_137 (by decide) ?_
        refine g_iast (N := 4) (g := (up2 S 4 p1.toNatClampNeg (vX10_goOnLevel_4 S p1)) 3) hx hb hK ha mA_in hP hS (lt_hn hn (by decide)) rfl hh1 rfl dX10_goOnLevel_138 (fun H locs hP hS => ?_)
        have hP : va_P G vwCl (wG n a (cD a cA) (mX10_goOnLevel_5 S p1) L) H := hP
        refine lv_goto (tgt := 195) hx hb dX10_goOnLevel_139 (by decide) ?_
        exact g_vret hx hb hr hlocks (by unfold fX10_goOnLevel; rw [if_neg c1, if_pos c3, if_pos c4]) rfl hP hS dX10_goOnLevel_195
    ·
      by_cases c5 : S 3 p1.toNatClampNeg = 3
      ·
        refine lv_tableIn (off := 124) (tgt := 142) hx hb dX10_goOnLevel_18 (by rw [c5]; decide) (by rw [c5]; decide) (by rw [c5]; rfl) (by decide) ?_
        refine lv_aload_n hx hb dX10_goOnLevel_142 rfl (lv_at hl 1 rfl) ?_
        refine g_get (ci := 10) (C := RX10) (T := TX10) (N := 35) (v := .ref (a 4)) hx hb hts iX10_goOnLevel_X10 hown hK hP (lt_hn hn (by decide)) cD_D rfl 3 (by decide) rfl (by decide +kernel) rfl dX10_goOnLevel_143 ?_
        refine lv_iload_n hx hb dX10_goOnLevel_146 rfl (lv_at hl 2 rfl) ?_
        refine lv_iload_n hx hb dX10_goOnLevel_147 rfl (lv_at hl 0 rfl) ?_
        refine g_iast (N := 4) (g := S 4) hx hb hK ha mA_in hP hS (lt_hn hn (by decide)) rfl hh1 rfl dX10_goOnLevel_148 (fun H locs hP hS => ?_)
        refine lv_goto (tgt := 195) hx hb dX10_goOnLevel_149 (by decide) ?_
        exact g_vret hx hb hr hlocks (by unfold fX10_goOnLevel; rw [if_neg c1, if_neg c3, if_pos c5]) rfl hP hS dX10_goOnLevel_195
      ·
        refine lv_tableOut (tgt := 152) hx hb dX10_goOnLevel_18 (by have := lv_neT c1 (a := 1) rfl; have := lv_neT c3 (a := 2) rfl; have := lv_neT c5 (a := 3) rfl; omega) (by decide) ?_
        refine lv_aload_n hx hb dX10_goOnLevel_152 rfl (lv_at hl 1 rfl) ?_
        refine g_get (ci := 10) (C := RX10) (T := TX10) (N := 35) (v := .ref (a 4)) hx hb hts iX10_goOnLevel_X10 hown hK hP (lt_hn hn (by decide)) cD_D rfl 3 (by decide) rfl (by decide +kernel) rfl dX10_goOnLevel_153 ?_
        refine lv_iload_n hx hb dX10_goOnLevel_156 rfl (lv_at hl 2 rfl) ?_
        refine lv_iconst (v := 0) hx hb dX10_goOnLevel_157 (by decide) ?_
        refine lv_aload_n hx hb dX10_goOnLevel_158 rfl (lv_at hl 1 rfl) ?_
        refine g_get (ci := 10) (C := RX10) (T := TX10) (N := 35) (v := .ref (a 4)) hx hb hts iX10_goOnLevel_X10 hown hK hP (lt_hn hn (by decide)) cD_D rfl 3 (by decide) rfl (by decide +kernel) rfl dX10_goOnLevel_159 ?_
        refine lv_iload_n hx hb dX10_goOnLevel_162 rfl (lv_at hl 2 rfl) ?_
        refine g_iald (N := 4) (g := S 4) hx hb hK hP (lt_hn hn (by decide)) rfl hh1 dX10_goOnLevel_163 ?_
        refine lv_ldc (v := 1000000) hx hb hown (hts (.constant RX10 132 1000000) (by decide +kernel)) dX10_goOnLevel_164 ?_
        refine lv_aload_n hx hb dX10_goOnLevel_166 rfl (lv_at hl 1 rfl) ?_
        refine lv_iload_n hx hb dX10_goOnLevel_167 rfl (lv_at hl 2 rfl) ?_
        refine lv_bipush (v := 7) hx hb dX10_goOnLevel_168 (by decide) ?_
        refine g_cVi (As := [.int p1, .int 7]) (rest := [.int 1000000, .int (S 4 p1.toNatClampNeg), .int 0, .int p1, .ref (a 4)]) ⟨hx, hb, hml, hown, hts⟩ (c_X10_told l G cA zq n hn a ha S L H.size p1 (7 : Int32)  hh1 (hh7 c1 c3 c5)) (cwV 2 hts gX10_goOnLevel_X10_told rfl rfl rfl (by decide +kernel) ⟨Nat.le_of_ble_eq_true rfl, Nat.le_of_ble_eq_true rfl⟩) (g_recv hK hP (lt_hn hn (by decide)) cD_D (C := RX10) (T := TX10) (N := 35) rfl) hK (mA_mono hS.1) hP hS rfl hl.1 rfl (lv_room (Nat.le_of_ble_eq_true rfl)) dX10_goOnLevel_170 ⟨Nat.le_of_ble_eq_true rfl, Nat.le_of_ble_eq_true rfl⟩ (fun H locs hP hS _ _ => ?_)
        refine lv_idiv hx hb dX10_goOnLevel_173 (hh8 c1 c3 c5) ?_
        refine lv_isub hx hb dX10_goOnLevel_174 ?_
        refine va_mmax hx hb (hml.trans hl.1.symm) hown (hts (.methodLink RX10 138 Lib.Math.max.name) (by decide +kernel)) (hts (.static Lib.Math.max.name) (by decide +kernel)) (hts (.initialized "java/lang/Math") (by decide +kernel)) (hts (.code Lib.Math.max.name Lib.Math.max.code 2 (some .int)) (by decide +kernel)) (Nat.le_of_ble_eq_true rfl) (Nat.le_of_ble_eq_true rfl) (Nat.le_of_ble_eq_true rfl) (Nat.le_of_ble_eq_true rfl) dX10_goOnLevel_175 ?_
        refine W.eq (g2 := F0 m 178 ls [.int (vX10_goOnLevel_6 S p1), .int p1, .ref (a 4)]) rfl ?_
        refine g_iast (N := 4) (g := S 4) hx hb hK ha mA_in hP hS (lt_hn hn (by decide)) rfl hh1 rfl dX10_goOnLevel_178 (fun H locs hP hS => ?_)
        refine lv_aload_n hx hb dX10_goOnLevel_179 rfl (lv_at hl 1 rfl) ?_
        refine g_get (ci := 10) (C := RX10) (T := TX10) (N := 35) (v := .ref (a 4)) hx hb hts iX10_goOnLevel_X10 hown hK hP (lt_hn hn (by decide)) cD_D rfl 3 (by decide) rfl (by decide +kernel) rfl dX10_goOnLevel_180 ?_
        refine lv_iload_n hx hb dX10_goOnLevel_183 rfl (lv_at hl 2 rfl) ?_
        refine g_iald (N := 4) (g := (up2 S 4 p1.toNatClampNeg (vX10_goOnLevel_6 S p1)) 4) hx hb hK hP (lt_hn hn (by decide)) rfl hh1 dX10_goOnLevel_184 ?_
        refine lv_if_ne (tgt := 195) hx hb dX10_goOnLevel_185 (by decide) (fun c6 => ?_) (fun c6 => ?_)
        ·
          exact g_vret hx hb hr hlocks (by unfold fX10_goOnLevel; rw [if_neg c1, if_neg c3, if_neg c5, if_neg c6]) rfl hP hS dX10_goOnLevel_195
        ·
          refine lv_aload_n hx hb dX10_goOnLevel_188 rfl (lv_at hl 1 rfl) ?_
          refine g_get (ci := 10) (C := RX10) (T := TX10) (N := 35) (v := .ref (a 3)) hx hb hts iX10_goOnLevel_X10 hown hK hP (lt_hn hn (by decide)) cD_D rfl 2 (by decide) rfl (by decide +kernel) rfl dX10_goOnLevel_189 ?_
          refine lv_iload_n hx hb dX10_goOnLevel_192 rfl (lv_at hl 2 rfl) ?_
          refine lv_iconst (v := 0) hx hb dX10_goOnLevel_193 (by decide) ?_
          refine g_iast (N := 4) (g := (up2 S 4 p1.toNatClampNeg (vX10_goOnLevel_6 S p1)) 3) hx hb hK ha mA_in hP hS (lt_hn hn (by decide)) rfl hh1 rfl dX10_goOnLevel_194 (fun H locs hP hS => ?_)
          have hP : va_P G vwCl (wG n a (cD a cA) (mX10_goOnLevel_7 S p1) L) H := hP
          exact g_vret hx hb hr hlocks (by unfold fX10_goOnLevel; rw [if_neg c1, if_neg c3, if_neg c5, if_pos c6]) rfl hP hS dX10_goOnLevel_195
