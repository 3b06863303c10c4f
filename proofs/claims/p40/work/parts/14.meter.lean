def jX2_count_1 (S : Mm) (L : Int64) (p1 : Int32) : Mm := (if rX9_kept p1 (32767 : Int32) = p1 then S else up2 S 34 6 ((S 34 6) + 1))
def jX2_count_2 (S : Mm) (L : Int64) (p1 : Int32) : Mm := (if rX9_kept p1 (32767 : Int32) ≤ 0 then (jX2_count_1 S L p1) else (if 0 < (jX2_count_1 S L p1) 34 2 then (jX2_count_1 S L p1) else up2 (jX2_count_1 S L p1) 34 7 (((jX2_count_1 S L p1) 34 7) + 1)))
def vX2_count_3 (S : Mm) (L : Int64) (p1 : Int32) : Int32 := (if 0 ≤ rX9_kept p1 (32767 : Int32) then rX9_kept p1 (32767 : Int32) else 0 - (rX9_kept p1 (32767 : Int32)))
def vX2_count_4 (S : Mm) (L : Int64) (p1 : Int32) : Int32 := (if (up2 (jX2_count_2 S L p1) 34 3 (((jX2_count_2 S L p1) 34 3) + 1)) 34 4 < (vX2_count_3 S L p1) then (vX2_count_3 S L p1) else (up2 (jX2_count_2 S L p1) 34 3 (((jX2_count_2 S L p1) 34 3) + 1)) 34 4)
def mX2_count_5 (S : Mm) (L : Int64) (p1 : Int32) : Mm := up2 (up2 (jX2_count_2 S L p1) 34 3 (((jX2_count_2 S L p1) 34 3) + 1)) 34 4 (vX2_count_4 S L p1)
def mX2_count_6 (S : Mm) (L : Int64) (p1 : Int32) : Mm := fX3_put (up2 (mX2_count_5 S L p1) 34 2 (rX9_kept p1 (32767 : Int32))) 35 ((up2 (mX2_count_5 S L p1) 34 2 (rX9_kept p1 (32767 : Int32))) 34 1) (rX9_kept p1 (32767 : Int32))
def mX2_count_7 (S : Mm) (L : Int64) (p1 : Int32) : Mm := up2 (mX2_count_6 S L p1) 34 1 ((((mX2_count_6 S L p1) 34 1) + 1) - (((mX2_count_6 S L p1) 34 1) + 1) / 64 * 64)
def rX2_count (S : Mm) (L : Int64) (p1 : Int32) : Int32 := rX9_kept p1 (32767 : Int32)
def fX2_count (S : Mm) (L : Int64) (p1 : Int32) : Mm := (mX2_count_7 S L p1)
def lX2_count (S : Mm) (L : Int64) (p1 : Int32) : Int64 := L + ((vX2_count_3 S L p1).toInt64)
theorem iX2_count_X2 : ∀ w ∈ u_ws RX2 TX2 8, w ∈ wsX2_count := by decide +kernel
set_option maxHeartbeats 4000000 in
set_option maxRecDepth 100000 in
theorem c_X2_count (l : Launch) (G : va_G) (cA : ClassId) (a : Nat → Nat) (ha : apart 37 a) (S : Mm) (L : Int64) (sz : Nat) (p1 : Int32)  : Met l yX2_count wsX2_count ({ frames := 2, cells := 0, slots := 0, locals := 42 } : Room) (va_Pc [.ref (a 34), .int p1] (gI G cA (a 37) 37 a (cM a cA) S L sz)) (gQi (rX2_count S L p1) G 37 a (cM a cA) (fX2_count S L p1) (lX2_count S L p1) sz) 0 0 (mA 37 a sz) := by
  refine g_met (cc := cX2_count) (maxL := 3) (ret := (some .int)) (by decide) rfl (Nat.le_of_ble_eq_true rfl) ?_
  intro p e s m below meth c ls hx hb hr hlocks hml hts hown hnm hsz hK hP hS hl
  subst hsz
  have hl : lv_has ls 3 [(0, .ref (a 34)), (1, .int p1)] := hl
  refine lv_iload_n hx hb dX2_count_0 rfl (lv_at hl 1 rfl) ?_
  refine lv_sipush (v := 32767) hx hb dX2_count_1 (by decide) ?_
  refine g_cNi (As := [.int p1, .int 32767]) (rest := []) ⟨hx, hb, hml, hown, hts⟩ (c_X9_kept l G cA a ha S L s.heap.size p1 (32767 : Int32)  ) (va_cnB 2 hts gX2_count_X9_kept_n20 rfl rfl rfl (hK.2.1.at (q := ("Melodeon$Meter", 20, yX9_kept, "Melodeon")) (by decide +kernel)) (hts (.initialized RX9) (by decide +kernel)) (by decide +kernel) ⟨Nat.le_of_ble_eq_true rfl, Nat.le_of_ble_eq_true rfl⟩) (hts (.static yX9_kept) (by decide +kernel)) hK (mA_mono hS.1) hP hS rfl hl.1 rfl (lv_room (Nat.le_of_ble_eq_true rfl)) dX2_count_4 ⟨Nat.le_of_ble_eq_true rfl, Nat.le_of_ble_eq_true rfl⟩ (fun H locs hP hS _ _ => ?_)
  refine lv_istore_n (lv' := [(2, .int (rX9_kept p1 (32767 : Int32))), (0, .ref (a 34)), (1, .int p1)]) hx hb dX2_count_7 rfl hl (by decide) rfl (fun ls hl => ?_)
  refine lv_iload_n hx hb dX2_count_8 rfl (lv_at hl 0 rfl) ?_
  refine lv_iload_n hx hb dX2_count_9 rfl (lv_at hl 2 rfl) ?_
  have hj2 : ∀ (zS_hj2 : Mm) (H : Heap) (locs : List Loc) (ls : Array Slot), zS_hj2 = (jX2_count_1 S L p1) → va_P G vwCl (wG 37 a (cM a cA) zS_hj2 L) H → va_S (mA 37 a s.heap.size) s.heap H locs → lv_has ls 3 [(2, .int (rX9_kept p1 (32767 : Int32))), (0, .ref (a 34)), (1, .int p1)] → W p l e ({ frames := 2, cells := 0, slots := 0, locals := 42 } : Room) s m ([.ref (a 34), .int p1] : List Value).toArray below meth c H locs 0 0 (MQ below (gQi (rX2_count S L p1) G 37 a (cM a cA) (fX2_count S L p1) (lX2_count S L p1) s.heap.size) ([.ref (a 34), .int p1] : List Value).toArray s 0 0 (mA 37 a s.heap.size)) (F0 m 23 ls []) := by
    intro zS_hj2 H locs ls ezS_hj2 hP hS hl
    rw [ezS_hj2] at hP
    refine lv_iload_n hx hb dX2_count_23 rfl (lv_at hl 0 rfl) ?_
    have hj4 : ∀ (zS_hj4 : Mm) (H : Heap) (locs : List Loc) (ls : Array Slot), zS_hj4 = (jX2_count_2 S L p1) → va_P G vwCl (wG 37 a (cM a cA) zS_hj4 L) H → va_S (mA 37 a s.heap.size) s.heap H locs → lv_has ls 3 [(2, .int (rX9_kept p1 (32767 : Int32))), (0, .ref (a 34)), (1, .int p1)] → W p l e ({ frames := 2, cells := 0, slots := 0, locals := 42 } : Room) s m ([.ref (a 34), .int p1] : List Value).toArray below meth c H locs 0 0 (MQ below (gQi (rX2_count S L p1) G 37 a (cM a cA) (fX2_count S L p1) (lX2_count S L p1) s.heap.size) ([.ref (a 34), .int p1] : List Value).toArray s 0 0 (mA 37 a s.heap.size)) (F0 m 44 ls []) := by
      intro zS_hj4 H locs ls ezS_hj4 hP hS hl
      rw [ezS_hj4] at hP
      refine lv_aload_n hx hb dX2_count_44 rfl (lv_at hl 1 rfl) ?_
      refine lv_dup hx hb dX2_count_45 rfl ?_
      refine g_get (ci := 2) (C := RX2) (T := TX2) (N := 8) (v := .int ((jX2_count_2 S L p1) 34 3)) hx hb hts iX2_count_X2 hown hK hP (by decide) cM_T rfl 3 (by decide) rfl (by decide +kernel) rfl dX2_count_46 ?_
      refine lv_iconst (v := 1) hx hb dX2_count_49 (by decide) ?_
      refine lv_iadd hx hb dX2_count_50 ?_
      refine g_put (ci := 2) (C := RX2) (T := TX2) (N := 8) (ty := .int) hx hb hts iX2_count_X2 tyX2 tyX2_ok nmX2 hown hK ha mA_in hP hS (by decide) cM_T rfl 3 (by decide) rfl (by decide +kernel) rfl (by decide +kernel) rfl rfl (Nat.le_of_ble_eq_true rfl) (cM_T_set (by decide)) dX2_count_51 (fun H locs hP hS => ?_)
      refine lv_aload_n hx hb dX2_count_54 rfl (lv_at hl 1 rfl) ?_
      refine lv_dup hx hb dX2_count_55 rfl ?_
      refine g_get (ci := 2) (C := RX2) (T := TX2) (N := 8) (v := .long L) hx hb hts iX2_count_X2 hown hK hP (by decide) cM_T rfl 5 (by decide) rfl (by decide +kernel) rfl dX2_count_56 ?_
      refine lv_iload_n hx hb dX2_count_59 rfl (lv_at hl 0 rfl) ?_
      refine va_mabs hx hb (hml.trans hl.1.symm) hown (hts (.methodLink RX2 41 Lib.Math.abs.name) (by decide +kernel)) (hts (.static Lib.Math.abs.name) (by decide +kernel)) (hts (.initialized "java/lang/Math") (by decide +kernel)) (hts (.code Lib.Math.abs.name Lib.Math.abs.code 1 (some .int)) (by decide +kernel)) (Nat.le_of_ble_eq_true rfl) (Nat.le_of_ble_eq_true rfl) (Nat.le_of_ble_eq_true rfl) (Nat.le_of_ble_eq_true rfl) dX2_count_60 ?_
      refine W.eq (g2 := F0 m 63 ls [.int (vX2_count_3 S L p1), .long L, .ref (a 34)]) rfl ?_
      refine lv_i2l hx hb dX2_count_63 rfl ?_
      refine lv_ladd hx hb dX2_count_64 ?_
      refine g_putL (ci := 2) (C := RX2) (T := TX2) (N := 8) hx hb hts iX2_count_X2 tyX2 tyX2_ok nmX2 hown hK ha mA_in hP hS (by decide) cM_T rfl 5 (by decide) rfl (by decide +kernel) rfl (by decide +kernel) (Nat.le_of_ble_eq_true rfl) cM_T_L cM_othL dX2_count_65 (fun H locs hP hS => ?_)
      refine lv_aload_n hx hb dX2_count_68 rfl (lv_at hl 1 rfl) ?_
      refine lv_aload_n hx hb dX2_count_69 rfl (lv_at hl 1 rfl) ?_
      refine g_get (ci := 2) (C := RX2) (T := TX2) (N := 8) (v := .int ((up2 (jX2_count_2 S L p1) 34 3 (((jX2_count_2 S L p1) 34 3) + 1)) 34 4)) hx hb hts iX2_count_X2 hown hK hP (by decide) cM_T rfl 4 (by decide) rfl (by decide +kernel) rfl dX2_count_70 ?_
      refine lv_iload_n hx hb dX2_count_73 rfl (lv_at hl 0 rfl) ?_
      refine va_mabs hx hb (hml.trans hl.1.symm) hown (hts (.methodLink RX2 41 Lib.Math.abs.name) (by decide +kernel)) (hts (.static Lib.Math.abs.name) (by decide +kernel)) (hts (.initialized "java/lang/Math") (by decide +kernel)) (hts (.code Lib.Math.abs.name Lib.Math.abs.code 1 (some .int)) (by decide +kernel)) (Nat.le_of_ble_eq_true rfl) (Nat.le_of_ble_eq_true rfl) (Nat.le_of_ble_eq_true rfl) (Nat.le_of_ble_eq_true rfl) dX2_count_74 ?_
      refine W.eq (g2 := F0 m 77 ls [.int (vX2_count_3 S L p1), .int ((up2 (jX2_count_2 S L p1) 34 3 (((jX2_count_2 S L p1) 34 3) + 1)) 34 4), .ref (a 34)]) rfl ?_
      refine va_mmax hx hb (hml.trans hl.1.symm) hown (hts (.methodLink RX2 50 Lib.Math.max.name) (by decide +kernel)) (hts (.static Lib.Math.max.name) (by decide +kernel)) (hts (.initialized "java/lang/Math") (by decide +kernel)) (hts (.code Lib.Math.max.name Lib.Math.max.code 2 (some .int)) (by decide +kernel)) (Nat.le_of_ble_eq_true rfl) (Nat.le_of_ble_eq_true rfl) (Nat.le_of_ble_eq_true rfl) (Nat.le_of_ble_eq_true rfl) dX2_count_77 ?_
      refine W.eq (g2 := F0 m 80 ls [.int (vX2_count_4 S L p1), .ref (a 34)]) rfl ?_
      refine g_put (ci := 2) (C := RX2) (T := TX2) (N := 8) (ty := .int) hx hb hts iX2_count_X2 tyX2 tyX2_ok nmX2 hown hK ha mA_in hP hS (by decide) cM_T rfl 4 (by decide) rfl (by decide +kernel) rfl (by decide +kernel) rfl rfl (Nat.le_of_ble_eq_true rfl) (cM_T_set (by decide)) dX2_count_80 (fun H locs hP hS => ?_)
      have hP : va_P G vwCl (wG 37 a (cM a cA) (mX2_count_5 S L p1) (L + ((vX2_count_3 S L p1).toInt64))) H := hP
      refine lv_aload_n hx hb dX2_count_83 rfl (lv_at hl 1 rfl) ?_
      refine lv_iload_n hx hb dX2_count_84 rfl (lv_at hl 0 rfl) ?_
      refine g_put (ci := 2) (C := RX2) (T := TX2) (N := 8) (ty := .int) hx hb hts iX2_count_X2 tyX2 tyX2_ok nmX2 hown hK ha mA_in hP hS (by decide) cM_T rfl 2 (by decide) rfl (by decide +kernel) rfl (by decide +kernel) rfl rfl (Nat.le_of_ble_eq_true rfl) (cM_T_set (by decide)) dX2_count_85 (fun H locs hP hS => ?_)
      refine lv_aload_n hx hb dX2_count_88 rfl (lv_at hl 1 rfl) ?_
      refine g_get (ci := 2) (C := RX2) (T := TX2) (N := 8) (v := .ref (a 35)) hx hb hts iX2_count_X2 hown hK hP (by decide) cM_T rfl 0 (by decide) rfl (by decide +kernel) rfl dX2_count_89 ?_
      refine lv_aload_n hx hb dX2_count_92 rfl (lv_at hl 1 rfl) ?_
      refine g_get (ci := 2) (C := RX2) (T := TX2) (N := 8) (v := .int ((up2 (mX2_count_5 S L p1) 34 2 (rX9_kept p1 (32767 : Int32))) 34 1)) hx hb hts iX2_count_X2 hown hK hP (by decide) cM_T rfl 1 (by decide) rfl (by decide +kernel) rfl dX2_count_93 ?_
      refine lv_iload_n hx hb dX2_count_96 rfl (lv_at hl 0 rfl) ?_
      refine g_cVv (As := [.int ((up2 (mX2_count_5 S L p1) 34 2 (rX9_kept p1 (32767 : Int32))) 34 1), .int (rX9_kept p1 (32767 : Int32))]) (rest := []) ⟨hx, hb, hml, hown, hts⟩ (c_X3_put l G cA a ha (up2 (mX2_count_5 S L p1) 34 2 (rX9_kept p1 (32767 : Int32))) (L + ((vX2_count_3 S L p1).toInt64)) H.size 35 ((up2 (mX2_count_5 S L p1) 34 2 (rX9_kept p1 (32767 : Int32))) 34 1) (rX9_kept p1 (32767 : Int32)) (by decide) ) (cwV 2 hts gX2_count_X3_put rfl rfl rfl (by decide +kernel) ⟨Nat.le_of_ble_eq_true rfl, Nat.le_of_ble_eq_true rfl⟩) (g_recv hK hP (lt_R (by decide)) (cM_R (by decide)) (C := RX3) (T := TX3) (N := 1) rfl) hK (mA_mono hS.1) hP hS rfl hl.1 rfl (lv_room (Nat.le_of_ble_eq_true rfl)) dX2_count_97 ⟨Nat.le_of_ble_eq_true rfl, Nat.le_of_ble_eq_true rfl⟩ (fun H locs hP hS _ _ => ?_)
      have hP : va_P G vwCl (wG 37 a (cM a cA) (mX2_count_6 S L p1) (L + ((vX2_count_3 S L p1).toInt64))) H := hP
      refine lv_aload_n hx hb dX2_count_100 rfl (lv_at hl 1 rfl) ?_
      refine lv_aload_n hx hb dX2_count_101 rfl (lv_at hl 1 rfl) ?_
      refine g_get (ci := 2) (C := RX2) (T := TX2) (N := 8) (v := .int ((mX2_count_6 S L p1) 34 1)) hx hb hts iX2_count_X2 hown hK hP (by decide) cM_T rfl 1 (by decide) rfl (by decide +kernel) rfl dX2_count_102 ?_
      refine lv_iconst (v := 1) hx hb dX2_count_105 (by decide) ?_
      refine lv_iadd hx hb dX2_count_106 ?_
      refine lv_bipush (v := 64) hx hb dX2_count_107 (by decide) ?_
      refine lv_irem hx hb dX2_count_109 (by decide) ?_
      refine g_put (ci := 2) (C := RX2) (T := TX2) (N := 8) (ty := .int) hx hb hts iX2_count_X2 tyX2 tyX2_ok nmX2 hown hK ha mA_in hP hS (by decide) cM_T rfl 1 (by decide) rfl (by decide +kernel) rfl (by decide +kernel) rfl rfl (Nat.le_of_ble_eq_true rfl) (cM_T_set (by decide)) dX2_count_110 (fun H locs hP hS => ?_)
      have hP : va_P G vwCl (wG 37 a (cM a cA) (mX2_count_7 S L p1) (L + ((vX2_count_3 S L p1).toInt64))) H := hP
      refine lv_iload_n hx hb dX2_count_113 rfl (lv_at hl 0 rfl) ?_
      exact g_iret hx hb hr hlocks (by unfold rX2_count; rfl) (by unfold fX2_count; rfl) (by unfold lX2_count; rfl) hP hS dX2_count_114
    refine lv_if_le (tgt := 44) hx hb dX2_count_24 (by decide) (fun c3 => ?_) (fun c3 => ?_)
    ·
      exact hj4 _ _ _ _ (by unfold jX2_count_2; rw [if_pos c3]) hP hS (lv_sub hl [0, 1, 2] rfl)
    ·
      refine lv_aload_n hx hb dX2_count_27 rfl (lv_at hl 1 rfl) ?_
      refine g_get (ci := 2) (C := RX2) (T := TX2) (N := 8) (v := .int ((jX2_count_1 S L p1) 34 2)) hx hb hts iX2_count_X2 hown hK hP (by decide) cM_T rfl 2 (by decide) rfl (by decide +kernel) rfl dX2_count_28 ?_
      refine lv_if_gt (tgt := 44) hx hb dX2_count_31 (by decide) (fun c5 => ?_) (fun c5 => ?_)
      ·
        exact hj4 _ _ _ _ (by unfold jX2_count_2; rw [if_neg c3, if_pos c5]) hP hS (lv_sub hl [0, 1, 2] rfl)
      ·
        refine lv_aload_n hx hb dX2_count_34 rfl (lv_at hl 1 rfl) ?_
        refine lv_dup hx hb dX2_count_35 rfl ?_
        refine g_get (ci := 2) (C := RX2) (T := TX2) (N := 8) (v := .int ((jX2_count_1 S L p1) 34 7)) hx hb hts iX2_count_X2 hown hK hP (by decide) cM_T rfl 7 (by decide) rfl (by decide +kernel) rfl dX2_count_36 ?_
        refine lv_iconst (v := 1) hx hb dX2_count_39 (by decide) ?_
        refine lv_iadd hx hb dX2_count_40 ?_
        refine g_put (ci := 2) (C := RX2) (T := TX2) (N := 8) (ty := .int) hx hb hts iX2_count_X2 tyX2 tyX2_ok nmX2 hown hK ha mA_in hP hS (by decide) cM_T rfl 7 (by decide) rfl (by decide +kernel) rfl (by decide +kernel) rfl rfl (Nat.le_of_ble_eq_true rfl) (cM_T_set (by decide)) dX2_count_41 (fun H locs hP hS => ?_)
        exact hj4 _ _ _ _ (by unfold jX2_count_2; rw [if_neg c3, if_neg c5]) hP hS (lv_sub hl [0, 1, 2] rfl)
  refine lv_icmp_eq (tgt := 23) hx hb dX2_count_10 (by decide) (fun c1 => ?_) (fun c1 => ?_)
  ·
    exact hj2 _ _ _ _ (by unfold jX2_count_1; rw [if_pos c1]) hP hS (lv_sub hl [0, 1, 2] rfl)
  ·
    refine lv_aload_n hx hb dX2_count_13 rfl (lv_at hl 1 rfl) ?_
    refine lv_dup hx hb dX2_count_14 rfl ?_
    refine g_get (ci := 2) (C := RX2) (T := TX2) (N := 8) (v := .int (S 34 6)) hx hb hts iX2_count_X2 hown hK hP (by decide) cM_T rfl 6 (by decide) rfl (by decide +kernel) rfl dX2_count_15 ?_
    refine lv_iconst (v := 1) hx hb dX2_count_18 (by decide) ?_
    refine lv_iadd hx hb dX2_count_19 ?_
    refine g_put (ci := 2) (C := RX2) (T := TX2) (N := 8) (ty := .int) hx hb hts iX2_count_X2 tyX2 tyX2_ok nmX2 hown hK ha mA_in hP hS (by decide) cM_T rfl 6 (by decide) rfl (by decide +kernel) rfl (by decide +kernel) rfl rfl (Nat.le_of_ble_eq_true rfl) (cM_T_set (by decide)) dX2_count_20 (fun H locs hP hS => ?_)
    exact hj2 _ _ _ _ (by unfold jX2_count_1; rw [if_neg c1]) hP hS (lv_sub hl [0, 1, 2] rfl)

def rX2_latest (S : Mm) (p1 : Int32) : Int32 := rX3_get S 35 (rJ9_floorMod_7cf53 (((S 34 1) - 1) - p1) (64 : Int32))
theorem iX2_latest_X2 : ∀ w ∈ u_ws RX2 TX2 8, w ∈ wsX2_latest := by decide +kernel
set_option maxHeartbeats 4000000 in
set_option maxRecDepth 100000 in
theorem c_X2_latest (l : Launch) (G : va_G) (cA : ClassId) (a : Nat → Nat) (ha : apart 37 a) (S : Mm) (L : Int64) (sz : Nat) (p1 : Int32)  : Met l yX2_latest wsX2_latest ({ frames := 1, cells := 0, slots := 0, locals := 22 } : Room) (va_Pc [.ref (a 34), .int p1] (gI G cA (a 37) 37 a (cM a cA) S L sz)) (gQi (rX2_latest S p1) G 37 a (cM a cA) S L sz) 0 0 (mA 37 a sz) := by
  refine g_met (cc := cX2_latest) (maxL := 2) (ret := (some .int)) (by decide) rfl (Nat.le_of_ble_eq_true rfl) ?_
  intro p e s m below meth c ls hx hb hr hlocks hml hts hown hnm hsz hK hP hS hl
  subst hsz
  have hl : lv_has ls 2 [(0, .ref (a 34)), (1, .int p1)] := hl
  refine lv_aload_n hx hb dX2_latest_0 rfl (lv_at hl 0 rfl) ?_
  refine g_get (ci := 2) (C := RX2) (T := TX2) (N := 8) (v := .ref (a 35)) hx hb hts iX2_latest_X2 hown hK hP (by decide) cM_T rfl 0 (by decide) rfl (by decide +kernel) rfl dX2_latest_1 ?_
  refine lv_aload_n hx hb dX2_latest_4 rfl (lv_at hl 0 rfl) ?_
  refine g_get (ci := 2) (C := RX2) (T := TX2) (N := 8) (v := .int (S 34 1)) hx hb hts iX2_latest_X2 hown hK hP (by decide) cM_T rfl 1 (by decide) rfl (by decide +kernel) rfl dX2_latest_5 ?_
  refine lv_iconst (v := 1) hx hb dX2_latest_8 (by decide) ?_
  refine lv_isub hx hb dX2_latest_9 ?_
  refine lv_iload_n hx hb dX2_latest_10 rfl (lv_at hl 1 rfl) ?_
  refine lv_isub hx hb dX2_latest_11 ?_
  refine lv_bipush (v := 64) hx hb dX2_latest_12 (by decide) ?_
  refine g_cSi (As := [.int (((S 34 1) - 1) - p1), .int 64]) (rest := [.ref (a 35)]) ⟨hx, hb, hml, hown, hts⟩ (c_J9_floorMod_7cf53 l G cA a ha S L s.heap.size (((S 34 1) - 1) - p1) (64 : Int32)  (by decide)) (va_cwS 2 hts gX2_latest_J9_floorMod_7cf53 rfl rfl rfl (by decide +kernel) ⟨Nat.le_of_ble_eq_true rfl, Nat.le_of_ble_eq_true rfl⟩) hK (mA_mono hS.1) hP hS rfl hl.1 rfl (lv_room (Nat.le_of_ble_eq_true rfl)) dX2_latest_14 ⟨Nat.le_of_ble_eq_true rfl, Nat.le_of_ble_eq_true rfl⟩ (fun H locs hP hS _ _ => ?_)
  refine g_cVi (As := [.int (rJ9_floorMod_7cf53 (((S 34 1) - 1) - p1) (64 : Int32))]) (rest := []) ⟨hx, hb, hml, hown, hts⟩ (c_X3_get l G cA a ha S L H.size 35 (rJ9_floorMod_7cf53 (((S 34 1) - 1) - p1) (64 : Int32)) (by decide) ) (cwV 1 hts gX2_latest_X3_get rfl rfl rfl (by decide +kernel) ⟨Nat.le_of_ble_eq_true rfl, Nat.le_of_ble_eq_true rfl⟩) (g_recv hK hP (lt_R (by decide)) (cM_R (by decide)) (C := RX3) (T := TX3) (N := 1) rfl) hK (mA_mono hS.1) hP hS rfl hl.1 rfl (lv_room (Nat.le_of_ble_eq_true rfl)) dX2_latest_17 ⟨Nat.le_of_ble_eq_true rfl, Nat.le_of_ble_eq_true rfl⟩ (fun H locs hP hS _ _ => ?_)
  exact g_iret hx hb hr hlocks (by unfold rX2_latest; rfl) rfl rfl hP hS dX2_latest_20

