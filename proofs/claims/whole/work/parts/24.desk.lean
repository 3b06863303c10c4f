def gX10_stride_1 (p1 : Int32) : Nat → Int32 := upd (upd (upd (fun _ => 0) (0 : Int32).toNatClampNeg 256) (1 : Int32).toNatClampNeg 271) (2 : Int32).toNatClampNeg 287
def gX10_stride_2 (p1 : Int32) : Nat → Int32 := upd (upd (upd (gX10_stride_1 p1) (3 : Int32).toNatClampNeg 304) (4 : Int32).toNatClampNeg 323) (5 : Int32).toNatClampNeg 342
def gX10_stride_3 (p1 : Int32) : Nat → Int32 := upd (upd (upd (gX10_stride_2 p1) (6 : Int32).toNatClampNeg 362) (7 : Int32).toNatClampNeg 384) (8 : Int32).toNatClampNeg 406
def gX10_stride_4 (p1 : Int32) : Nat → Int32 := upd (upd (upd (gX10_stride_3 p1) (9 : Int32).toNatClampNeg 431) (10 : Int32).toNatClampNeg 456) (11 : Int32).toNatClampNeg 483
def rX10_stride (p1 : Int32) : Int32 := ((gX10_stride_4 p1) (p1 - p1 / 12 * 12).toNatClampNeg) <<< ((p1 / 12) &&& 31)
set_option maxHeartbeats 4000000 in
set_option maxRecDepth 100000 in
theorem c_X10_stride (l : Launch) (G : va_G) (cA : ClassId) (zq n : Nat) (hn : 18 ≤ n) (a : Nat → Nat) (ha : apart n a) (S : Mm) (L : Int64) (sz : Nat) (p1 : Int32)  (hh1 : vp_in (p1 - p1 / 12 * 12) 12) : Met l yX10_stride wsX10_stride ({ frames := 0, cells := 1, slots := 12, locals := 0 } : Room) (va_Pc [.int p1] (gI G cA zq n a (cD a cA) S L sz)) (gQi (rX10_stride p1) G n a (cD a cA) S L sz) 1 12 (mA n a sz) := by
  refine g_met (cc := cX10_stride) (maxL := 2) (ret := (some .int)) (by decide) rfl (Nat.le_of_ble_eq_true rfl) ?_
  intro p e s m below meth c ls hx hb hr hlocks hml hts hown hnm hsz hK hP hS hl
  subst hsz
  have hl : lv_has ls 2 [(0, .int p1)] := hl
  refine lv_bipush (v := 12) hx hb dX10_stride_0 (by decide) ?_
  refine x_new hx hb (hts (.arrayClass .int) (by decide +kernel)) hK ha mA_in (fun q h => Or.inr h) hP hS (k := 12) (N := 12) (by decide) (by decide) (by decide) (Nat.le_of_ble_eq_true rfl) (Nat.le_of_ble_eq_true rfl) dX10_stride_2 (fun q2 cQ H hKx hP hDx hS => ?_)
  refine lv_dup hx hb dX10_stride_4 rfl ?_
  refine lv_iconst (v := 0) hx hb dX10_stride_5 (by decide) ?_
  refine lv_sipush (v := 256) hx hb dX10_stride_6 (by decide) ?_
  refine x_iast hx hb hKx hP hDx hS (vp_in_lit (by decide)) dX10_stride_9 (fun H locs hP hDx hS => ?_)
  refine lv_dup hx hb dX10_stride_10 rfl ?_
  refine lv_iconst (v := 1) hx hb dX10_stride_11 (by decide) ?_
  refine lv_sipush (v := 271) hx hb dX10_stride_12 (by decide) ?_
  refine x_iast hx hb hKx hP hDx hS (vp_in_lit (by decide)) dX10_stride_15 (fun H locs hP hDx hS => ?_)
  refine lv_dup hx hb dX10_stride_16 rfl ?_
  refine lv_iconst (v := 2) hx hb dX10_stride_17 (by decide) ?_
  refine lv_sipush (v := 287) hx hb dX10_stride_18 (by decide) ?_
  refine x_iast hx hb hKx hP hDx hS (vp_in_lit (by decide)) dX10_stride_21 (fun H locs hP hDx hS => ?_)
  have hP : va_P G vwCl (wG n a (cD a cA) S L ++ [(q2, .inl (cQ, 12, .inl (gX10_stride_1 p1)))]) H := hP
  have hDx : va_D (mA n a s.heap.size) (wG n a (cD a cA) S L ++ [(q2, .inl (cQ, 12, .inl (gX10_stride_1 p1)))]) := hDx
  refine lv_dup hx hb dX10_stride_22 rfl ?_
  refine lv_iconst (v := 3) hx hb dX10_stride_23 (by decide) ?_
  refine lv_sipush (v := 304) hx hb dX10_stride_24 (by decide) ?_
  refine x_iast hx hb hKx hP hDx hS (vp_in_lit (by decide)) dX10_stride_27 (fun H locs hP hDx hS => ?_)
  refine lv_dup hx hb dX10_stride_28 rfl ?_
  refine lv_iconst (v := 4) hx hb dX10_stride_29 (by decide) ?_
  refine lv_sipush (v := 323) hx hb dX10_stride_30 (by decide) ?_
  refine x_iast hx hb hKx hP hDx hS (vp_in_lit (by decide)) dX10_stride_33 (fun H locs hP hDx hS => ?_)
  refine lv_dup hx hb dX10_stride_34 rfl ?_
  refine lv_iconst (v := 5) hx hb dX10_stride_35 (by decide) ?_
  refine lv_sipush (v := 342) hx hb dX10_stride_36 (by decide) ?_
  refine x_iast hx hb hKx hP hDx hS (vp_in_lit (by decide)) dX10_stride_39 (fun H locs hP hDx hS => ?_)
  have hP : va_P G vwCl (wG n a (cD a cA) S L ++ [(q2, .inl (cQ, 12, .inl (gX10_stride_2 p1)))]) H := hP
  have hDx : va_D (mA n a s.heap.size) (wG n a (cD a cA) S L ++ [(q2, .inl (cQ, 12, .inl (gX10_stride_2 p1)))]) := hDx
  refine lv_dup hx hb dX10_stride_40 rfl ?_
  refine lv_bipush (v := 6) hx hb dX10_stride_41 (by decide) ?_
  refine lv_sipush (v := 362) hx hb dX10_stride_43 (by decide) ?_
  refine x_iast hx hb hKx hP hDx hS (vp_in_lit (by decide)) dX10_stride_46 (fun H locs hP hDx hS => ?_)
  refine lv_dup hx hb dX10_stride_47 rfl ?_
  refine lv_bipush (v := 7) hx hb dX10_stride_48 (by decide) ?_
  refine lv_sipush (v := 384) hx hb dX10_stride_50 (by decide) ?_
  refine x_iast hx hb hKx hP hDx hS (vp_in_lit (by decide)) dX10_stride_53 (fun H locs hP hDx hS => ?_)
  refine lv_dup hx hb dX10_stride_54 rfl ?_
  refine lv_bipush (v := 8) hx hb dX10_stride_55 (by decide) ?_
  refine lv_sipush (v := 406) hx hb dX10_stride_57 (by decide) ?_
  refine x_iast hx hb hKx hP hDx hS (vp_in_lit (by decide)) dX10_stride_60 (fun H locs hP hDx hS => ?_)
  have hP : va_P G vwCl (wG n a (cD a cA) S L ++ [(q2, .inl (cQ, 12, .inl (gX10_stride_3 p1)))]) H := hP
  have hDx : va_D (mA n a s.heap.size) (wG n a (cD a cA) S L ++ [(q2, .inl (cQ, 12, .inl (gX10_stride_3 p1)))]) := hDx
  refine lv_dup hx hb dX10_stride_61 rfl ?_
  refine lv_bipush (v := 9) hx hb dX10_stride_62 (by decide) ?_
  refine lv_sipush (v := 431) hx hb dX10_stride_64 (by decide) ?_
  refine x_iast hx hb hKx hP hDx hS (vp_in_lit (by decide)) dX10_stride_67 (fun H locs hP hDx hS => ?_)
  refine lv_dup hx hb dX10_stride_68 rfl ?_
  refine lv_bipush (v := 10) hx hb dX10_stride_69 (by decide) ?_
  refine lv_sipush (v := 456) hx hb dX10_stride_71 (by decide) ?_
  refine x_iast hx hb hKx hP hDx hS (vp_in_lit (by decide)) dX10_stride_74 (fun H locs hP hDx hS => ?_)
  refine lv_dup hx hb dX10_stride_75 rfl ?_
  refine lv_bipush (v := 11) hx hb dX10_stride_76 (by decide) ?_
  refine lv_sipush (v := 483) hx hb dX10_stride_78 (by decide) ?_
  refine x_iast hx hb hKx hP hDx hS (vp_in_lit (by decide)) dX10_stride_81 (fun H locs hP hDx hS => ?_)
  have hP : va_P G vwCl (wG n a (cD a cA) S L ++ [(q2, .inl (cQ, 12, .inl (gX10_stride_4 p1)))]) H := hP
  have hDx : va_D (mA n a s.heap.size) (wG n a (cD a cA) S L ++ [(q2, .inl (cQ, 12, .inl (gX10_stride_4 p1)))]) := hDx
  refine lv_astore_n (lv' := [(1, .ref q2), (0, .int p1)]) hx hb dX10_stride_82 rfl hl (by decide) rfl (fun ls hl => ?_)
  refine lv_aload_n hx hb dX10_stride_83 rfl (lv_at hl 0 rfl) ?_
  refine lv_iload_n hx hb dX10_stride_84 rfl (lv_at hl 1 rfl) ?_
  refine lv_bipush (v := 12) hx hb dX10_stride_85 (by decide) ?_
  refine lv_irem hx hb dX10_stride_87 (by decide) ?_
  refine x_iald hx hb hKx hP hh1 dX10_stride_88 ?_
  refine lv_iload_n hx hb dX10_stride_89 rfl (lv_at hl 1 rfl) ?_
  refine lv_bipush (v := 12) hx hb dX10_stride_90 (by decide) ?_
  refine lv_idiv hx hb dX10_stride_92 (by decide) ?_
  refine lv_ishl hx hb dX10_stride_93 ?_
  have hP := wx_of hP
  exact g_iret hx hb hr hlocks (by unfold rX10_stride; rfl) rfl rfl hP hS dX10_stride_94

def jX10_begin_1 (S : Mm) (p1 : Int32) (p2 : Int32) (p3 : Int32) (p4 : Int32) : Int32 := (if S 3 (rX10_nextVoice S).toNatClampNeg = 0 then 0 else 1)
def mX10_begin_2 (S : Mm) (p1 : Int32) (p2 : Int32) (p3 : Int32) (p4 : Int32) : Mm := up2 (up2 S 0 14 ((S 0 14) + (jX10_begin_1 S p1 p2 p3 p4))) 3 (rX10_nextVoice S).toNatClampNeg 1
def mX10_begin_3 (S : Mm) (p1 : Int32) (p2 : Int32) (p3 : Int32) (p4 : Int32) : Mm := up2 (up2 (mX10_begin_2 S p1 p2 p3 p4) 5 (rX10_nextVoice S).toNatClampNeg p1) 6 (rX10_nextVoice S).toNatClampNeg p2
def mX10_begin_4 (S : Mm) (p1 : Int32) (p2 : Int32) (p3 : Int32) (p4 : Int32) : Mm := up2 (up2 (mX10_begin_3 S p1 p2 p3 p4) 7 (rX10_nextVoice S).toNatClampNeg p3) 8 (rX10_nextVoice S).toNatClampNeg 0
def mX10_begin_5 (S : Mm) (p1 : Int32) (p2 : Int32) (p3 : Int32) (p4 : Int32) : Mm := up2 (up2 (mX10_begin_4 S p1 p2 p3 p4) 9 (rX10_nextVoice S).toNatClampNeg 0) 10 (rX10_nextVoice S).toNatClampNeg 0
def mX10_begin_6 (S : Mm) (p1 : Int32) (p2 : Int32) (p3 : Int32) (p4 : Int32) : Mm := up2 (up2 (mX10_begin_5 S p1 p2 p3 p4) 11 (rX10_nextVoice S).toNatClampNeg 0) 12 (rX10_nextVoice S).toNatClampNeg p4
def mX10_begin_7 (S : Mm) (p1 : Int32) (p2 : Int32) (p3 : Int32) (p4 : Int32) : Mm := up2 (mX10_begin_6 S p1 p2 p3 p4) 0 13 (((mX10_begin_6 S p1 p2 p3 p4) 0 13) + 1)
def mX10_begin_8 (S : Mm) (p1 : Int32) (p2 : Int32) (p3 : Int32) (p4 : Int32) : Mm := up2 (mX10_begin_7 S p1 p2 p3 p4) 13 (rX10_nextVoice S).toNatClampNeg ((mX10_begin_6 S p1 p2 p3 p4) 0 13)
def rX10_begin (S : Mm) (p1 : Int32) (p2 : Int32) (p3 : Int32) (p4 : Int32) : Int32 := rX10_nextVoice S
def fX10_begin (S : Mm) (p1 : Int32) (p2 : Int32) (p3 : Int32) (p4 : Int32) : Mm := (mX10_begin_8 S p1 p2 p3 p4)
theorem iX10_begin_X10 : ∀ w ∈ u_ws RX10 TX10 35, w ∈ wsX10_begin := by decide +kernel
set_option maxHeartbeats 4000000 in
set_option maxRecDepth 100000 in
theorem c_X10_begin (l : Launch) (G : va_G) (cA : ClassId) (zq n : Nat) (hn : 18 ≤ n) (a : Nat → Nat) (ha : apart n a) (S : Mm) (L : Int64) (sz : Nat) (p1 : Int32) (p2 : Int32) (p3 : Int32) (p4 : Int32)  (hh1 : vp_in (rX10_nextVoice S) 4) : Met l yX10_begin wsX10_begin ({ frames := 1, cells := 0, slots := 0, locals := 22 } : Room) (va_Pc [.ref (a 0), .int p1, .int p2, .int p3, .int p4] (gI G cA zq n a (cD a cA) S L sz)) (gQi (rX10_begin S p1 p2 p3 p4) G n a (cD a cA) (fX10_begin S p1 p2 p3 p4) L sz) 0 0 (mA n a sz) := by
  refine g_met (cc := cX10_begin) (maxL := 6) (ret := (some .int)) (by decide) rfl (Nat.le_of_ble_eq_true rfl) ?_
  intro p e s m below meth c ls hx hb hr hlocks hml hts hown hnm hsz hK hP hS hl
  subst hsz
  have hl : lv_has ls 6 [(0, .ref (a 0)), (1, .int p1), (2, .int p2), (3, .int p3), (4, .int p4)] := hl
  refine lv_aload_n hx hb dX10_begin_0 rfl (lv_at hl 0 rfl) ?_
  refine g_cVi (As := []) (rest := []) ⟨hx, hb, hml, hown, hts⟩ (c1_X10_nextVoice l G cA zq n hn a ha S L s.heap.size   ) (cwV 0 hts gX10_begin_X10_nextVoice rfl rfl rfl (by decide +kernel) ⟨Nat.le_of_ble_eq_true rfl, Nat.le_of_ble_eq_true rfl⟩) (g_recv hK hP (lt_hn hn (by decide)) cD_D (C := RX10) (T := TX10) (N := 35) rfl) hK (mA_mono hS.1) hP hS rfl hl.1 rfl (lv_room (Nat.le_of_ble_eq_true rfl)) dX10_begin_1 ⟨Nat.le_of_ble_eq_true rfl, Nat.le_of_ble_eq_true rfl⟩ (fun H locs hP hS _ _ => ?_)
  refine lv_istore (lv' := [(5, .int (rX10_nextVoice S)), (0, .ref (a 0)), (1, .int p1), (2, .int p2), (3, .int p3), (4, .int p4)]) hx hb dX10_begin_4 hl (by decide) rfl (fun ls hl => ?_)
  refine lv_aload_n hx hb dX10_begin_6 rfl (lv_at hl 1 rfl) ?_
  refine lv_dup hx hb dX10_begin_7 rfl ?_
  refine g_get (ci := 10) (C := RX10) (T := TX10) (N := 35) (v := .int (S 0 14)) hx hb hts iX10_begin_X10 hown hK hP (lt_hn hn (by decide)) cD_D rfl 14 (by decide) rfl (by decide +kernel) rfl dX10_begin_8 ?_
  refine lv_aload_n hx hb dX10_begin_11 rfl (lv_at hl 1 rfl) ?_
  refine g_get (ci := 10) (C := RX10) (T := TX10) (N := 35) (v := .ref (a 3)) hx hb hts iX10_begin_X10 hown hK hP (lt_hn hn (by decide)) cD_D rfl 2 (by decide) rfl (by decide +kernel) rfl dX10_begin_12 ?_
  refine lv_iload hx hb dX10_begin_15 (lv_at hl 0 rfl) ?_
  refine g_iald (N := 4) (g := S 3) hx hb hK hP (lt_hn hn (by decide)) rfl hh1 dX10_begin_17 ?_
  have hj2 : ∀ (zy0_hj2 : Int32) (H : Heap) (locs : List Loc) (ls : Array Slot), zy0_hj2 = (jX10_begin_1 S p1 p2 p3 p4) → va_P G vwCl (wG n a (cD a cA) S L) H → va_S (mA n a s.heap.size) s.heap H locs → lv_has ls 6 [(5, .int (rX10_nextVoice S)), (0, .ref (a 0)), (1, .int p1), (2, .int p2), (3, .int p3), (4, .int p4)] → W p l e ({ frames := 1, cells := 0, slots := 0, locals := 22 } : Room) s m ([.ref (a 0), .int p1, .int p2, .int p3, .int p4] : List Value).toArray below meth c H locs 0 0 (MQ below (gQi (rX10_begin S p1 p2 p3 p4) G n a (cD a cA) (fX10_begin S p1 p2 p3 p4) L s.heap.size) ([.ref (a 0), .int p1, .int p2, .int p3, .int p4] : List Value).toArray s 0 0 (mA n a s.heap.size)) (F0 m 26 ls [.int zy0_hj2, .int (S 0 14), .ref (a 0)]) := by
    intro zy0_hj2 H locs ls ezy0_hj2 hP hS hl
    rw [ezy0_hj2]
    refine lv_iadd hx hb dX10_begin_26 ?_
    refine g_put (ci := 10) (C := RX10) (T := TX10) (N := 35) (ty := .int) hx hb hts iX10_begin_X10 tyX10 tyX10_ok nmX10 hown hK ha mA_in hP hS (lt_hn hn (by decide)) cD_D rfl 14 (by decide) rfl (by decide +kernel) rfl (by decide +kernel) rfl rfl (Nat.le_of_ble_eq_true rfl) (cD_D_set (by decide)) dX10_begin_27 (fun H locs hP hS => ?_)
    refine lv_aload_n hx hb dX10_begin_30 rfl (lv_at hl 1 rfl) ?_
    refine g_get (ci := 10) (C := RX10) (T := TX10) (N := 35) (v := .ref (a 3)) hx hb hts iX10_begin_X10 hown hK hP (lt_hn hn (by decide)) cD_D rfl 2 (by decide) rfl (by decide +kernel) rfl dX10_begin_31 ?_
    refine lv_iload hx hb dX10_begin_34 (lv_at hl 0 rfl) ?_
    refine lv_iconst (v := 1) hx hb dX10_begin_36 (by decide) ?_
    refine g_iast (N := 4) (g := (up2 S 0 14 ((S 0 14) + (jX10_begin_1 S p1 p2 p3 p4))) 3) hx hb hK ha mA_in hP hS (lt_hn hn (by decide)) rfl hh1 rfl dX10_begin_37 (fun H locs hP hS => ?_)
    have hP : va_P G vwCl (wG n a (cD a cA) (mX10_begin_2 S p1 p2 p3 p4) L) H := hP
    refine lv_aload_n hx hb dX10_begin_38 rfl (lv_at hl 1 rfl) ?_
    refine g_get (ci := 10) (C := RX10) (T := TX10) (N := 35) (v := .ref (a 5)) hx hb hts iX10_begin_X10 hown hK hP (lt_hn hn (by decide)) cD_D rfl 4 (by decide) rfl (by decide +kernel) rfl dX10_begin_39 ?_
    refine lv_iload hx hb dX10_begin_42 (lv_at hl 0 rfl) ?_
    refine lv_iload_n hx hb dX10_begin_44 rfl (lv_at hl 2 rfl) ?_
    refine g_iast (N := 4) (g := (mX10_begin_2 S p1 p2 p3 p4) 5) hx hb hK ha mA_in hP hS (lt_hn hn (by decide)) rfl hh1 rfl dX10_begin_45 (fun H locs hP hS => ?_)
    refine lv_aload_n hx hb dX10_begin_46 rfl (lv_at hl 1 rfl) ?_
    refine g_get (ci := 10) (C := RX10) (T := TX10) (N := 35) (v := .ref (a 6)) hx hb hts iX10_begin_X10 hown hK hP (lt_hn hn (by decide)) cD_D rfl 5 (by decide) rfl (by decide +kernel) rfl dX10_begin_47 ?_
    refine lv_iload hx hb dX10_begin_50 (lv_at hl 0 rfl) ?_
    refine lv_iload_n hx hb dX10_begin_52 rfl (lv_at hl 3 rfl) ?_
    refine g_iast (N := 4) (g := (up2 (mX10_begin_2 S p1 p2 p3 p4) 5 (rX10_nextVoice S).toNatClampNeg p1) 6) hx hb hK ha mA_in hP hS (lt_hn hn (by decide)) rfl hh1 rfl dX10_begin_53 (fun H locs hP hS => ?_)
    have hP : va_P G vwCl (wG n a (cD a cA) (mX10_begin_3 S p1 p2 p3 p4) L) H := hP
    refine lv_aload_n hx hb dX10_begin_54 rfl (lv_at hl 1 rfl) ?_
    refine g_get (ci := 10) (C := RX10) (T := TX10) (N := 35) (v := .ref (a 7)) hx hb hts iX10_begin_X10 hown hK hP (lt_hn hn (by decide)) cD_D rfl 6 (by decide) rfl (by decide +kernel) rfl dX10_begin_55 ?_
    refine lv_iload hx hb dX10_begin_58 (lv_at hl 0 rfl) ?_
    refine lv_iload_n hx hb dX10_begin_60 rfl (lv_at hl 4 rfl) ?_
    refine g_iast (N := 4) (g := (mX10_begin_3 S p1 p2 p3 p4) 7) hx hb hK ha mA_in hP hS (lt_hn hn (by decide)) rfl hh1 rfl dX10_begin_61 (fun H locs hP hS => ?_)
    refine lv_aload_n hx hb dX10_begin_62 rfl (lv_at hl 1 rfl) ?_
    refine g_get (ci := 10) (C := RX10) (T := TX10) (N := 35) (v := .ref (a 8)) hx hb hts iX10_begin_X10 hown hK hP (lt_hn hn (by decide)) cD_D rfl 7 (by decide) rfl (by decide +kernel) rfl dX10_begin_63 ?_
    refine lv_iload hx hb dX10_begin_66 (lv_at hl 0 rfl) ?_
    refine lv_iconst (v := 0) hx hb dX10_begin_68 (by decide) ?_
    refine g_iast (N := 4) (g := (up2 (mX10_begin_3 S p1 p2 p3 p4) 7 (rX10_nextVoice S).toNatClampNeg p3) 8) hx hb hK ha mA_in hP hS (lt_hn hn (by decide)) rfl hh1 rfl dX10_begin_69 (fun H locs hP hS => ?_)
    have hP : va_P G vwCl (wG n a (cD a cA) (mX10_begin_4 S p1 p2 p3 p4) L) H := hP
    refine lv_aload_n hx hb dX10_begin_70 rfl (lv_at hl 1 rfl) ?_
    refine g_get (ci := 10) (C := RX10) (T := TX10) (N := 35) (v := .ref (a 9)) hx hb hts iX10_begin_X10 hown hK hP (lt_hn hn (by decide)) cD_D rfl 8 (by decide) rfl (by decide +kernel) rfl dX10_begin_71 ?_
    refine lv_iload hx hb dX10_begin_74 (lv_at hl 0 rfl) ?_
    refine lv_iconst (v := 0) hx hb dX10_begin_76 (by decide) ?_
    refine g_iast (N := 4) (g := (mX10_begin_4 S p1 p2 p3 p4) 9) hx hb hK ha mA_in hP hS (lt_hn hn (by decide)) rfl hh1 rfl dX10_begin_77 (fun H locs hP hS => ?_)
    refine lv_aload_n hx hb dX10_begin_78 rfl (lv_at hl 1 rfl) ?_
    refine g_get (ci := 10) (C := RX10) (T := TX10) (N := 35) (v := .ref (a 10)) hx hb hts iX10_begin_X10 hown hK hP (lt_hn hn (by decide)) cD_D rfl 9 (by decide) rfl (by decide +kernel) rfl dX10_begin_79 ?_
    refine lv_iload hx hb dX10_begin_82 (lv_at hl 0 rfl) ?_
    refine lv_iconst (v := 0) hx hb dX10_begin_84 (by decide) ?_
    refine g_iast (N := 4) (g := (up2 (mX10_begin_4 S p1 p2 p3 p4) 9 (rX10_nextVoice S).toNatClampNeg 0) 10) hx hb hK ha mA_in hP hS (lt_hn hn (by decide)) rfl hh1 rfl dX10_begin_85 (fun H locs hP hS => ?_)
    have hP : va_P G vwCl (wG n a (cD a cA) (mX10_begin_5 S p1 p2 p3 p4) L) H := hP
    refine lv_aload_n hx hb dX10_begin_86 rfl (lv_at hl 1 rfl) ?_
    refine g_get (ci := 10) (C := RX10) (T := TX10) (N := 35) (v := .ref (a 11)) hx hb hts iX10_begin_X10 hown hK hP (lt_hn hn (by decide)) cD_D rfl 10 (by decide) rfl (by decide +kernel) rfl dX10_begin_87 ?_
    refine lv_iload hx hb dX10_begin_90 (lv_at hl 0 rfl) ?_
    refine lv_iconst (v := 0) hx hb dX10_begin_92 (by decide) ?_
    refine g_iast (N := 4) (g := (mX10_begin_5 S p1 p2 p3 p4) 11) hx hb hK ha mA_in hP hS (lt_hn hn (by decide)) rfl hh1 rfl dX10_begin_93 (fun H locs hP hS => ?_)
    refine lv_aload_n hx hb dX10_begin_94 rfl (lv_at hl 1 rfl) ?_
    refine g_get (ci := 10) (C := RX10) (T := TX10) (N := 35) (v := .ref (a 12)) hx hb hts iX10_begin_X10 hown hK hP (lt_hn hn (by decide)) cD_D rfl 11 (by decide) rfl (by decide +kernel) rfl dX10_begin_95 ?_
    refine lv_iload hx hb dX10_begin_98 (lv_at hl 0 rfl) ?_
    refine lv_iload hx hb dX10_begin_100 (lv_at hl 5 rfl) ?_
    refine g_iast (N := 4) (g := (up2 (mX10_begin_5 S p1 p2 p3 p4) 11 (rX10_nextVoice S).toNatClampNeg 0) 12) hx hb hK ha mA_in hP hS (lt_hn hn (by decide)) rfl hh1 rfl dX10_begin_102 (fun H locs hP hS => ?_)
    have hP : va_P G vwCl (wG n a (cD a cA) (mX10_begin_6 S p1 p2 p3 p4) L) H := hP
    refine lv_aload_n hx hb dX10_begin_103 rfl (lv_at hl 1 rfl) ?_
    refine g_get (ci := 10) (C := RX10) (T := TX10) (N := 35) (v := .ref (a 13)) hx hb hts iX10_begin_X10 hown hK hP (lt_hn hn (by decide)) cD_D rfl 12 (by decide) rfl (by decide +kernel) rfl dX10_begin_104 ?_
    refine lv_iload hx hb dX10_begin_107 (lv_at hl 0 rfl) ?_
    refine lv_aload_n hx hb dX10_begin_109 rfl (lv_at hl 1 rfl) ?_
    refine lv_dup hx hb dX10_begin_110 rfl ?_
    refine g_get (ci := 10) (C := RX10) (T := TX10) (N := 35) (v := .int ((mX10_begin_6 S p1 p2 p3 p4) 0 13)) hx hb hts iX10_begin_X10 hown hK hP (lt_hn hn (by decide)) cD_D rfl 13 (by decide) rfl (by decide +kernel) rfl dX10_begin_111 ?_
    refine lv_dup_x1 hx hb dX10_begin_114 rfl rfl ?_
    refine lv_iconst (v := 1) hx hb dX10_begin_115 (by decide) ?_
    refine lv_iadd hx hb dX10_begin_116 ?_
    refine g_put (ci := 10) (C := RX10) (T := TX10) (N := 35) (ty := .int) hx hb hts iX10_begin_X10 tyX10 tyX10_ok nmX10 hown hK ha mA_in hP hS (lt_hn hn (by decide)) cD_D rfl 13 (by decide) rfl (by decide +kernel) rfl (by decide +kernel) rfl rfl (Nat.le_of_ble_eq_true rfl) (cD_D_set (by decide)) dX10_begin_117 (fun H locs hP hS => ?_)
    have hP : va_P G vwCl (wG n a (cD a cA) (mX10_begin_7 S p1 p2 p3 p4) L) H := hP
    refine g_iast (N := 4) (g := (mX10_begin_7 S p1 p2 p3 p4) 13) hx hb hK ha mA_in hP hS (lt_hn hn (by decide)) rfl hh1 rfl dX10_begin_120 (fun H locs hP hS => ?_)
    have hP : va_P G vwCl (wG n a (cD a cA) (mX10_begin_8 S p1 p2 p3 p4) L) H := hP
    refine lv_iload hx hb dX10_begin_121 (lv_at hl 0 rfl) ?_
    exact g_iret hx hb hr hlocks (by unfold rX10_begin; rfl) (by unfold fX10_begin; rfl) rfl hP hS dX10_begin_123
  refine lv_if_ne (tgt := 25) hx hb dX10_begin_18 (by decide) (fun c1 => ?_) (fun c1 => ?_)
  ·
    refine lv_iconst (v := 1) hx hb dX10_begin_25 (by decide) ?_
    exact hj2 _ _ _ _ (by unfold jX10_begin_1; rw [if_neg c1]) hP hS (lv_sub hl [0, 1, 2, 3, 4, 5] rfl)
  ·
    refine lv_iconst (v := 0) hx hb dX10_begin_21 (by decide) ?_
    refine lv_goto (tgt := 26) hx hb dX10_begin_22 (by decide) ?_
    exact hj2 _ _ _ _ (by unfold jX10_begin_1; rw [if_pos c1]) hP hS (lv_sub hl [0, 1, 2, 3, 4, 5] rfl)
set_option maxRecDepth 100000 in
theorem d_X10_begin_hh1 (S : Mm) (p1 : Int32) (p2 : Int32) (p3 : Int32) (p4 : Int32)  : vp_in (rX10_nextVoice S) 4 := by
  exact nv_in S
theorem c1_X10_begin (l : Launch) (G : va_G) (cA : ClassId) (zq n : Nat) (hn : 18 ≤ n) (a : Nat → Nat) (ha : apart n a) (S : Mm) (L : Int64) (sz : Nat) (p1 : Int32) (p2 : Int32) (p3 : Int32) (p4 : Int32)  : Met l yX10_begin wsX10_begin ({ frames := 1, cells := 0, slots := 0, locals := 22 } : Room) (va_Pc [.ref (a 0), .int p1, .int p2, .int p3, .int p4] (gI G cA zq n a (cD a cA) S L sz)) (gQi (rX10_begin S p1 p2 p3 p4) G n a (cD a cA) (fX10_begin S p1 p2 p3 p4) L sz) 0 0 (mA n a sz) :=
  c_X10_begin l G cA zq n hn a ha S L sz p1 p2 p3 p4  (d_X10_begin_hh1 S p1 p2 p3 p4  )
