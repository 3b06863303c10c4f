def rX3_get (S : Mm) (o : Nat) (p1 : Int32) : Int32 := (if p1 < 0 then 0 else (if Int32.ofNat (rowN o) ≤ p1 then 0 else S (o + 1) p1.toNatClampNeg))
theorem iX3_get_X3 : ∀ w ∈ u_ws RX3 TX3 1, w ∈ wsX3_get := by decide +kernel
set_option maxHeartbeats 4000000 in
set_option maxRecDepth 100000 in
theorem c_X3_get (l : Launch) (G : va_G) (cA : ClassId) (a : Nat → Nat) (ha : apart 37 a) (S : Mm) (L : Int64) (sz : Nat) (o : Nat) (p1 : Int32) (ho : isR o) : Met l yX3_get wsX3_get ({ frames := 0, cells := 0, slots := 0, locals := 0 } : Room) (va_Pc [.ref (a o), .int p1] (gI G cA (a 37) 37 a (cM a cA) S L sz)) (gQi (rX3_get S o p1) G 37 a (cM a cA) S L sz) 0 0 (mA 37 a sz) := by
  refine g_met (cc := cX3_get) (maxL := 2) (ret := (some .int)) (by decide) rfl (Nat.le_of_ble_eq_true rfl) ?_
  intro p e s m below meth c ls hx hb hr hlocks hml hts hown hnm hsz hK hP hS hl
  subst hsz
  have hl : lv_has ls 2 [(0, .ref (a o)), (1, .int p1)] := hl
  refine lv_iload_n hx hb dX3_get_0 rfl (lv_at hl 1 rfl) ?_
  refine lv_if_lt (tgt := 22) hx hb dX3_get_1 (by decide) (fun c1 => ?_) (fun c1 => ?_)
  ·
    refine lv_iconst (v := 0) hx hb dX3_get_22 (by decide) ?_
    exact g_iret hx hb hr hlocks (by unfold rX3_get; rw [if_pos c1]) rfl rfl hP hS dX3_get_23
  ·
    refine lv_iload_n hx hb dX3_get_4 rfl (lv_at hl 1 rfl) ?_
    refine lv_aload_n hx hb dX3_get_5 rfl (lv_at hl 0 rfl) ?_
    refine g_get (ci := 3) (C := RX3) (T := TX3) (N := 1) (v := .ref (a (o + 1))) hx hb hts iX3_get_X3 hown hK hP (lt_R ho) (cM_R ho) rfl 0 (by decide) rfl (by decide +kernel) rfl dX3_get_6 ?_
    refine g_alen (N := (rowN o)) hx hb hK hP (lt_RA ho) (cM_RA ho) dX3_get_9 ?_
    refine lv_icmp_ge (tgt := 22) hx hb dX3_get_10 (by decide) (fun c2 => ?_) (fun c2 => ?_)
    ·
      refine lv_iconst (v := 0) hx hb dX3_get_22 (by decide) ?_
      exact g_iret hx hb hr hlocks (by unfold rX3_get; rw [if_neg c1, if_pos c2]) rfl rfl hP hS dX3_get_23
    ·
      refine lv_aload_n hx hb dX3_get_13 rfl (lv_at hl 0 rfl) ?_
      refine g_get (ci := 3) (C := RX3) (T := TX3) (N := 1) (v := .ref (a (o + 1))) hx hb hts iX3_get_X3 hown hK hP (lt_R ho) (cM_R ho) rfl 0 (by decide) rfl (by decide +kernel) rfl dX3_get_14 ?_
      refine lv_iload_n hx hb dX3_get_17 rfl (lv_at hl 1 rfl) ?_
      refine g_iald (N := (rowN o)) (g := S (o + 1)) hx hb hK hP (lt_RA ho) (cM_RA ho) (in_ge c1 c2 rowN_lt) dX3_get_18 ?_
      refine lv_goto (tgt := 23) hx hb dX3_get_19 (by decide) ?_
      exact g_iret hx hb hr hlocks (by unfold rX3_get; rw [if_neg c1, if_neg c2]) rfl rfl hP hS dX3_get_23

def fX3_put (S : Mm) (o : Nat) (p1 : Int32) (p2 : Int32) : Mm := (if p1 < 0 then S else (if Int32.ofNat (rowN o) ≤ p1 then S else up2 S (o + 1) p1.toNatClampNeg p2))
theorem iX3_put_X3 : ∀ w ∈ u_ws RX3 TX3 1, w ∈ wsX3_put := by decide +kernel
set_option maxHeartbeats 4000000 in
set_option maxRecDepth 100000 in
theorem c_X3_put (l : Launch) (G : va_G) (cA : ClassId) (a : Nat → Nat) (ha : apart 37 a) (S : Mm) (L : Int64) (sz : Nat) (o : Nat) (p1 : Int32) (p2 : Int32) (ho : isR o) : Met l yX3_put wsX3_put ({ frames := 0, cells := 0, slots := 0, locals := 0 } : Room) (va_Pc [.ref (a o), .int p1, .int p2] (gI G cA (a 37) 37 a (cM a cA) S L sz)) (gQv G 37 a (cM a cA) (fX3_put S o p1 p2) L sz) 0 0 (mA 37 a sz) := by
  refine g_met (cc := cX3_put) (maxL := 3) (ret := none) (by decide) rfl (Nat.le_of_ble_eq_true rfl) ?_
  intro p e s m below meth c ls hx hb hr hlocks hml hts hown hnm hsz hK hP hS hl
  subst hsz
  have hl : lv_has ls 3 [(0, .ref (a o)), (1, .int p1), (2, .int p2)] := hl
  refine lv_iload_n hx hb dX3_put_0 rfl (lv_at hl 1 rfl) ?_
  refine lv_if_lt (tgt := 20) hx hb dX3_put_1 (by decide) (fun c1 => ?_) (fun c1 => ?_)
  ·
    exact g_vret hx hb hr hlocks (by unfold fX3_put; rw [if_pos c1]) rfl hP hS dX3_put_20
  ·
    refine lv_iload_n hx hb dX3_put_4 rfl (lv_at hl 1 rfl) ?_
    refine lv_aload_n hx hb dX3_put_5 rfl (lv_at hl 0 rfl) ?_
    refine g_get (ci := 3) (C := RX3) (T := TX3) (N := 1) (v := .ref (a (o + 1))) hx hb hts iX3_put_X3 hown hK hP (lt_R ho) (cM_R ho) rfl 0 (by decide) rfl (by decide +kernel) rfl dX3_put_6 ?_
    refine g_alen (N := (rowN o)) hx hb hK hP (lt_RA ho) (cM_RA ho) dX3_put_9 ?_
    refine lv_icmp_ge (tgt := 20) hx hb dX3_put_10 (by decide) (fun c2 => ?_) (fun c2 => ?_)
    ·
      exact g_vret hx hb hr hlocks (by unfold fX3_put; rw [if_neg c1, if_pos c2]) rfl hP hS dX3_put_20
    ·
      refine lv_aload_n hx hb dX3_put_13 rfl (lv_at hl 0 rfl) ?_
      refine g_get (ci := 3) (C := RX3) (T := TX3) (N := 1) (v := .ref (a (o + 1))) hx hb hts iX3_put_X3 hown hK hP (lt_R ho) (cM_R ho) rfl 0 (by decide) rfl (by decide +kernel) rfl dX3_put_14 ?_
      refine lv_iload_n hx hb dX3_put_17 rfl (lv_at hl 1 rfl) ?_
      refine lv_iload_n hx hb dX3_put_18 rfl (lv_at hl 2 rfl) ?_
      refine g_iast (N := (rowN o)) (g := S (o + 1)) hx hb hK ha mA_in hP hS (lt_RA ho) (cM_RA ho) (in_ge c1 c2 rowN_lt) (cM_RA ho) dX3_put_19 (fun H locs hP hS => ?_)
      exact g_vret hx hb hr hlocks (by unfold fX3_put; rw [if_neg c1, if_neg c2]) rfl hP hS dX3_put_20

def rJ9_floorMod_7cf53 (p1 : Int32) (p2 : Int32) : Int32 := (if 0 ≤ p1 ^^^ p2 then p1 - p1 / p2 * p2 else (if p1 - p1 / p2 * p2 = 0 then p1 - p1 / p2 * p2 else (p1 - p1 / p2 * p2) + p2))
set_option maxHeartbeats 4000000 in
set_option maxRecDepth 100000 in
theorem c_J9_floorMod_7cf53 (l : Launch) (G : va_G) (cA : ClassId) (a : Nat → Nat) (ha : apart 37 a) (S : Mm) (L : Int64) (sz : Nat) (p1 : Int32) (p2 : Int32)  (hp2 : ¬ p2 = 0) : Met l yJ9_floorMod_7cf53 wsJ9_floorMod_7cf53 ({ frames := 0, cells := 0, slots := 0, locals := 0 } : Room) (va_Pc [.int p1, .int p2] (gI G cA (a 37) 37 a (cM a cA) S L sz)) (gQi (rJ9_floorMod_7cf53 p1 p2) G 37 a (cM a cA) S L sz) 0 0 (mA 37 a sz) := by
  refine g_metF (cc := cJ9_floorMod_7cf53) (maxL := 3) (ret := (some .int)) (by decide +kernel) rfl (Nat.le_of_ble_eq_true rfl) ?_
  intro p e s m below meth c ls hx hb hr hlocks hml hts hown hnm hsz hK hP hS hl
  subst hsz
  have hl : lv_has ls 3 [(0, .int p1), (1, .int p2)] := hl
  refine lv_iload_n hx hb dJ9_floorMod_7cf53_0 rfl (lv_at hl 0 rfl) ?_
  refine lv_iload_n hx hb dJ9_floorMod_7cf53_1 rfl (lv_at hl 1 rfl) ?_
  refine lv_irem hx hb dJ9_floorMod_7cf53_2 hp2 ?_
  refine lv_istore_n (lv' := [(2, .int (p1 - p1 / p2 * p2)), (0, .int p1), (1, .int p2)]) hx hb dJ9_floorMod_7cf53_3 rfl hl (by decide) rfl (fun ls hl => ?_)
  refine lv_iload_n hx hb dJ9_floorMod_7cf53_4 rfl (lv_at hl 1 rfl) ?_
  refine lv_iload_n hx hb dJ9_floorMod_7cf53_5 rfl (lv_at hl 2 rfl) ?_
  refine lv_ixor hx hb dJ9_floorMod_7cf53_6 ?_
  refine lv_if_ge (tgt := 18) hx hb dJ9_floorMod_7cf53_7 (by decide) (fun c1 => ?_) (fun c1 => ?_)
  ·
    refine lv_iload_n hx hb dJ9_floorMod_7cf53_18 rfl (lv_at hl 0 rfl) ?_
    exact g_iret hx hb hr hlocks (by unfold rJ9_floorMod_7cf53; rw [if_pos c1]) rfl rfl hP hS dJ9_floorMod_7cf53_19
  ·
    refine lv_iload_n hx hb dJ9_floorMod_7cf53_10 rfl (lv_at hl 0 rfl) ?_
    refine lv_if_eq (tgt := 18) hx hb dJ9_floorMod_7cf53_11 (by decide) (fun c2 => ?_) (fun c2 => ?_)
    ·
      refine lv_iload_n hx hb dJ9_floorMod_7cf53_18 rfl (lv_at hl 0 rfl) ?_
      exact g_iret hx hb hr hlocks (by unfold rJ9_floorMod_7cf53; rw [if_neg c1, if_pos c2]) rfl rfl hP hS dJ9_floorMod_7cf53_19
    ·
      refine lv_iload_n hx hb dJ9_floorMod_7cf53_14 rfl (lv_at hl 0 rfl) ?_
      refine lv_iload_n hx hb dJ9_floorMod_7cf53_15 rfl (lv_at hl 2 rfl) ?_
      refine lv_iadd hx hb dJ9_floorMod_7cf53_16 ?_
      exact g_iret hx hb hr hlocks (by unfold rJ9_floorMod_7cf53; rw [if_neg c1, if_neg c2]) rfl rfl hP hS dJ9_floorMod_7cf53_17

def rX9_kept (p1 : Int32) (p2 : Int32) : Int32 := (if -p2 < (if p1 < p2 then p1 else p2) then (if p1 < p2 then p1 else p2) else -p2)
set_option maxHeartbeats 4000000 in
set_option maxRecDepth 100000 in
theorem c_X9_kept (l : Launch) (G : va_G) (cA : ClassId) (a : Nat → Nat) (ha : apart 37 a) (S : Mm) (L : Int64) (sz : Nat) (p1 : Int32) (p2 : Int32)  : Met l yX9_kept wsX9_kept ({ frames := 1, cells := 0, slots := 0, locals := 21 } : Room) (va_Pc [.int p1, .int p2] (gI G cA (a 37) 37 a (cM a cA) S L sz)) (gQi (rX9_kept p1 p2) G 37 a (cM a cA) S L sz) 0 0 (mA 37 a sz) := by
  refine g_met (cc := cX9_kept) (maxL := 2) (ret := (some .int)) (by decide) rfl (Nat.le_of_ble_eq_true rfl) ?_
  intro p e s m below meth c ls hx hb hr hlocks hml hts hown hnm hsz hK hP hS hl
  subst hsz
  have hl : lv_has ls 2 [(0, .int p1), (1, .int p2)] := hl
  refine lv_iload_n hx hb dX9_kept_0 rfl (lv_at hl 1 rfl) ?_
  refine lv_ineg hx hb dX9_kept_1 ?_
  refine lv_iload_n hx hb dX9_kept_2 rfl (lv_at hl 1 rfl) ?_
  refine lv_iload_n hx hb dX9_kept_3 rfl (lv_at hl 0 rfl) ?_
  refine va_mmin hx hb (hml.trans hl.1.symm) hown (hts (.methodLink RX9 309 Lib.Math.min.name) (by decide +kernel)) (hts (.static Lib.Math.min.name) (by decide +kernel)) (hts (.initialized "java/lang/Math") (by decide +kernel)) (hts (.code Lib.Math.min.name Lib.Math.min.code 2 (some .int)) (by decide +kernel)) (Nat.le_of_ble_eq_true rfl) (Nat.le_of_ble_eq_true rfl) (Nat.le_of_ble_eq_true rfl) (Nat.le_of_ble_eq_true rfl) dX9_kept_4 ?_
  refine va_mmax hx hb (hml.trans hl.1.symm) hown (hts (.methodLink RX9 239 Lib.Math.max.name) (by decide +kernel)) (hts (.static Lib.Math.max.name) (by decide +kernel)) (hts (.initialized "java/lang/Math") (by decide +kernel)) (hts (.code Lib.Math.max.name Lib.Math.max.code 2 (some .int)) (by decide +kernel)) (Nat.le_of_ble_eq_true rfl) (Nat.le_of_ble_eq_true rfl) (Nat.le_of_ble_eq_true rfl) (Nat.le_of_ble_eq_true rfl) dX9_kept_7 ?_
  exact g_iret hx hb hr hlocks (by unfold rX9_kept; rfl) rfl rfl hP hS dX9_kept_10

def rX9_quotient (p1 : Int32) (p2 : Int32) : Int32 := (if p2 = 0 then 0 else p1 / p2)
set_option maxHeartbeats 4000000 in
set_option maxRecDepth 100000 in
theorem c_X9_quotient (l : Launch) (G : va_G) (cA : ClassId) (a : Nat → Nat) (ha : apart 37 a) (S : Mm) (L : Int64) (sz : Nat) (p1 : Int32) (p2 : Int32)  : Met l yX9_quotient wsX9_quotient ({ frames := 0, cells := 0, slots := 0, locals := 0 } : Room) (va_Pc [.int p1, .int p2] (gI G cA (a 37) 37 a (cM a cA) S L sz)) (gQi (rX9_quotient p1 p2) G 37 a (cM a cA) S L sz) 0 0 (mA 37 a sz) := by
  refine g_met (cc := cX9_quotient) (maxL := 2) (ret := (some .int)) (by decide) rfl (Nat.le_of_ble_eq_true rfl) ?_
  intro p e s m below meth c ls hx hb hr hlocks hml hts hown hnm hsz hK hP hS hl
  subst hsz
  have hl : lv_has ls 2 [(0, .int p1), (1, .int p2)] := hl
  refine lv_iload_n hx hb dX9_quotient_0 rfl (lv_at hl 1 rfl) ?_
  refine lv_if_ne (tgt := 8) hx hb dX9_quotient_1 (by decide) (fun c1 => ?_) (fun c1 => ?_)
  ·
    refine lv_iload_n hx hb dX9_quotient_8 rfl (lv_at hl 0 rfl) ?_
    refine lv_iload_n hx hb dX9_quotient_9 rfl (lv_at hl 1 rfl) ?_
    refine lv_idiv hx hb dX9_quotient_10 c1 ?_
    exact g_iret hx hb hr hlocks (by unfold rX9_quotient; rw [if_neg c1]) rfl rfl hP hS dX9_quotient_11
  ·
    refine lv_iconst (v := 0) hx hb dX9_quotient_4 (by decide) ?_
    refine lv_goto (tgt := 11) hx hb dX9_quotient_5 (by decide) ?_
    exact g_iret hx hb hr hlocks (by unfold rX9_quotient; rw [if_pos c1]) rfl rfl hP hS dX9_quotient_11

def rX9_strideOf (S : Mm) (p1 : Int32) : Int32 := (if p1 - p1 / 12 * 12 < 0 then 0 else (if Int32.ofNat 12 ≤ p1 - p1 / 12 * 12 then 0 else (zr (p1 - p1 / 12 * 12).toNatClampNeg) <<< ((p1 / 12) &&& 31)))
set_option maxHeartbeats 4000000 in
set_option maxRecDepth 100000 in
theorem c_X9_strideOf (l : Launch) (G : va_G) (cA : ClassId) (a : Nat → Nat) (ha : apart 37 a) (S : Mm) (L : Int64) (sz : Nat) (p1 : Int32)  : Met l yX9_strideOf wsX9_strideOf ({ frames := 0, cells := 0, slots := 0, locals := 0 } : Room) (va_Pc [.int p1] (gI G cA (a 37) 37 a (cM a cA) S L sz)) (gQi (rX9_strideOf S p1) G 37 a (cM a cA) S L sz) 0 0 (mA 37 a sz) := by
  refine g_met (cc := cX9_strideOf) (maxL := 2) (ret := (some .int)) (by decide) rfl (Nat.le_of_ble_eq_true rfl) ?_
  intro p e s m below meth c ls hx hb hr hlocks hml hts hown hnm hsz hK hP hS hl
  subst hsz
  have hl : lv_has ls 2 [(0, .int p1)] := hl
  refine lv_iload_n hx hb dX9_strideOf_0 rfl (lv_at hl 0 rfl) ?_
  refine lv_bipush (v := 12) hx hb dX9_strideOf_1 (by decide) ?_
  refine lv_irem hx hb dX9_strideOf_3 (by decide) ?_
  refine lv_istore_n (lv' := [(1, .int (p1 - p1 / 12 * 12)), (0, .int p1)]) hx hb dX9_strideOf_4 rfl hl (by decide) rfl (fun ls hl => ?_)
  refine lv_iload_n hx hb dX9_strideOf_5 rfl (lv_at hl 0 rfl) ?_
  refine lv_if_lt (tgt := 30) hx hb dX9_strideOf_6 (by decide) (fun c1 => ?_) (fun c1 => ?_)
  ·
    refine lv_iconst (v := 0) hx hb dX9_strideOf_30 (by decide) ?_
    exact g_iret hx hb hr hlocks (by unfold rX9_strideOf; rw [if_pos c1]) rfl rfl hP hS dX9_strideOf_31
  ·
    refine lv_iload_n hx hb dX9_strideOf_9 rfl (lv_at hl 0 rfl) ?_
    refine va_gets hx hb (C := "Melodeon") (n := "STRIDES") (d := "[I") (ref := "Melodeon") hK.2.2.1 hS hown (hts (.fieldLink RX9 312 "Melodeon" "STRIDES" "[I") (by decide +kernel)) (fun _ h9 => h9) dX9_strideOf_10 ?_
    refine va_tlen hx hb hK.2.2.2 hS (v := Int32.ofNat 12) rfl dX9_strideOf_13 ?_
    refine lv_icmp_ge (tgt := 30) hx hb dX9_strideOf_14 (by decide) (fun c2 => ?_) (fun c2 => ?_)
    ·
      refine lv_iconst (v := 0) hx hb dX9_strideOf_30 (by decide) ?_
      exact g_iret hx hb hr hlocks (by unfold rX9_strideOf; rw [if_neg c1, if_pos c2]) rfl rfl hP hS dX9_strideOf_31
    ·
      refine va_gets hx hb (C := "Melodeon") (n := "STRIDES") (d := "[I") (ref := "Melodeon") hK.2.2.1 hS hown (hts (.fieldLink RX9 312 "Melodeon" "STRIDES" "[I") (by decide +kernel)) (fun _ h9 => h9) dX9_strideOf_17 ?_
      refine lv_iload_n hx hb dX9_strideOf_20 rfl (lv_at hl 0 rfl) ?_
      refine va_ti hx hb hK.2.2.2 hS (in_ge c1 c2 (by decide)) (v := .int (zr (p1 - p1 / 12 * 12).toNatClampNeg)) rfl dX9_strideOf_21 ?_
      refine lv_iload_n hx hb dX9_strideOf_22 rfl (lv_at hl 1 rfl) ?_
      refine lv_bipush (v := 12) hx hb dX9_strideOf_23 (by decide) ?_
      refine lv_idiv hx hb dX9_strideOf_25 (by decide) ?_
      refine lv_ishl hx hb dX9_strideOf_26 ?_
      refine lv_goto (tgt := 31) hx hb dX9_strideOf_27 (by decide) ?_
      exact g_iret hx hb hr hlocks (by unfold rX9_strideOf; rw [if_neg c1, if_neg c2]) rfl rfl hP hS dX9_strideOf_31

def rX9_fold (p1 : Int64) (p2 : Int64) : Int64 := (p1 * 31) + p2
set_option maxHeartbeats 4000000 in
set_option maxRecDepth 100000 in
theorem c_X9_fold (l : Launch) (G : va_G) (cA : ClassId) (a : Nat → Nat) (ha : apart 37 a) (S : Mm) (L : Int64) (sz : Nat) (p1 : Int64) (p2 : Int64)  : Met l yX9_fold wsX9_fold ({ frames := 0, cells := 0, slots := 0, locals := 0 } : Room) (va_Pc [.long p1, .long p2] (gI G cA (a 37) 37 a (cM a cA) S L sz)) (gQl (rX9_fold p1 p2) G 37 a (cM a cA) S L sz) 0 0 (mA 37 a sz) := by
  refine g_met (cc := cX9_fold) (maxL := 4) (ret := (some .long)) (by decide) rfl (Nat.le_of_ble_eq_true rfl) ?_
  intro p e s m below meth c ls hx hb hr hlocks hml hts hown hnm hsz hK hP hS hl
  subst hsz
  have hl : lv_has ls 4 [(0, .long p1), (2, .long p2)] := hl
  refine lv_lload_n hx hb dX9_fold_0 rfl (lv_at hl 0 rfl) ?_
  refine lv_ldc2 (v := 31) hx hb hown (hts (.constantLong RX9 295 31) (by decide +kernel)) dX9_fold_1 ?_
  refine lv_lmul hx hb dX9_fold_4 ?_
  refine lv_lload_n hx hb dX9_fold_5 rfl (lv_at hl 1 rfl) ?_
  refine lv_ladd hx hb dX9_fold_6 ?_
  exact g_lret hx hb hr hlocks (by unfold rX9_fold; rfl) rfl rfl hP hS dX9_fold_7

def bX3_fill_2_zS (S : Mm) (o : Nat) (p1 : Int32) (zS : Mm) (i : Nat) : Mm := up2 zS (o + 1) (nI i).toNatClampNeg p1
def lpX3_fill_2 (S : Mm) (o : Nat) (p1 : Int32) : Nat → Mm
  | 0 => S
  | i + 1 => bX3_fill_2_zS S o p1 (lpX3_fill_2 S o p1 i) i
theorem lpX3_fill_2_0 (S : Mm) (o : Nat) (p1 : Int32) : lpX3_fill_2 S o p1 0 = S := by rw [lpX3_fill_2]
theorem lpX3_fill_2_s (S : Mm) (o : Nat) (p1 : Int32) (i : Nat) : lpX3_fill_2 S o p1 (i + 1) = bX3_fill_2_zS S o p1 (lpX3_fill_2 S o p1 i) i := by rw [lpX3_fill_2]
def fX3_fill (S : Mm) (o : Nat) (p1 : Int32) : Mm := (lpX3_fill_2 S o p1 ((Int32.ofNat (rowN o)).toNatClampNeg))
theorem iX3_fill_X3 : ∀ w ∈ u_ws RX3 TX3 1, w ∈ wsX3_fill := by decide +kernel
set_option maxHeartbeats 4000000 in
set_option maxRecDepth 100000 in
theorem c_X3_fill (l : Launch) (G : va_G) (cA : ClassId) (a : Nat → Nat) (ha : apart 37 a) (S : Mm) (L : Int64) (sz : Nat) (o : Nat) (p1 : Int32) (ho : isR o) : Met l yX3_fill wsX3_fill ({ frames := 0, cells := 0, slots := 0, locals := 0 } : Room) (va_Pc [.ref (a o), .int p1] (gI G cA (a 37) 37 a (cM a cA) S L sz)) (gQv G 37 a (cM a cA) (fX3_fill S o p1) L sz) 0 0 (mA 37 a sz) := by
  refine g_met (cc := cX3_fill) (maxL := 3) (ret := none) (by decide) rfl (Nat.le_of_ble_eq_true rfl) ?_
  intro p e s m below meth c ls hx hb hr hlocks hml hts hown hnm hsz hK hP hS hl
  subst hsz
  have hl : lv_has ls 3 [(0, .ref (a o)), (1, .int p1)] := hl
  refine lv_iconst (v := 0) hx hb dX3_fill_0 (by decide) ?_
  refine lv_istore_n (lv' := [(2, .int 0), (0, .ref (a o)), (1, .int p1)]) hx hb dX3_fill_1 rfl hl (by decide) rfl (fun ls hl => ?_)
  have loop : ∀ (k i : Nat), i ≤ (Int32.ofNat (rowN o)).toNatClampNeg → (Int32.ofNat (rowN o)).toNatClampNeg < i + k → ∀ (zS : Mm) (H : Heap) (locs : List Loc) (ls : Array Slot), zS = (lpX3_fill_2 S o p1 i) → va_P G vwCl (wG 37 a (cM a cA) zS L) H → va_S (mA 37 a s.heap.size) s.heap H locs → lv_has ls 3 [(2, .int (nI i)), (0, .ref (a o)), (1, .int p1)] → W p l e ({ frames := 0, cells := 0, slots := 0, locals := 0 } : Room) s m ([.ref (a o), .int p1] : List Value).toArray below meth c H locs 0 0 (MQ below (gQv G 37 a (cM a cA) (fX3_fill S o p1) L s.heap.size) ([.ref (a o), .int p1] : List Value).toArray s 0 0 (mA 37 a s.heap.size)) (F0 m 2 ls []) := by
    intro k
    induction k with
    | zero => intro i h1 h2; omega
    | succ k ih =>
      intro i hi hk zS H locs ls ezS hP hS hl
      refine lv_iload_n hx hb dX3_fill_2 rfl (lv_at hl 0 rfl) ?_
      refine lv_aload_n hx hb dX3_fill_3 rfl (lv_at hl 1 rfl) ?_
      refine g_get (ci := 3) (C := RX3) (T := TX3) (N := 1) (v := .ref (a (o + 1))) hx hb hts iX3_fill_X3 hown hK hP (lt_R ho) (cM_R ho) rfl 0 (by decide) rfl (by decide +kernel) rfl dX3_fill_4 ?_
      refine g_alen (N := (rowN o)) hx hb hK hP (lt_RA ho) (cM_RA ho) dX3_fill_7 ?_
      refine lv_icmp_ge (tgt := 24) hx hb dX3_fill_8 (by decide) (fun cx => ?_) (fun cx => ?_)
      ·
        have hN := lx_exit hi cx
        subst hN
        rw [ezS] at hP
        exact g_vret hx hb hr hlocks (by unfold fX3_fill; rfl) rfl hP hS dX3_fill_24
      ·
        have hlt := lx_body cx hi
        refine lv_aload_n hx hb dX3_fill_11 rfl (lv_at hl 1 rfl) ?_
        refine g_get (ci := 3) (C := RX3) (T := TX3) (N := 1) (v := .ref (a (o + 1))) hx hb hts iX3_fill_X3 hown hK hP (lt_R ho) (cM_R ho) rfl 0 (by decide) rfl (by decide +kernel) rfl dX3_fill_12 ?_
        refine lv_iload_n hx hb dX3_fill_15 rfl (lv_at hl 0 rfl) ?_
        refine lv_iload_n hx hb dX3_fill_16 rfl (lv_at hl 2 rfl) ?_
        refine g_iast (N := (rowN o)) (g := zS (o + 1)) hx hb hK ha mA_in hP hS (lt_RA ho) (cM_RA ho) (in_loop hlt rowN_lt) (cM_RA ho) dX3_fill_17 (fun H locs hP hS => ?_)
        refine lv_iinc (v := nI (i + 1)) (lv' := [(2, .int (nI (i + 1))), (0, .ref (a o)), (1, .int p1)]) hx hb dX3_fill_18 hl (k := 0) rfl (nI_1 i) (by decide) rfl (fun ls hl => ?_)
        refine lv_goto (tgt := 2) hx hb dX3_fill_21 (by decide) ?_
        exact ih (i + 1) (by omega) (by omega) (up2 zS (o + 1) (nI i).toNatClampNeg p1) _ _ _ (by rw [lpX3_fill_2_s]; (try rw [← ezS]); unfold bX3_fill_2_zS; rfl) hP hS (lv_sub hl [0, 1, 2] rfl)
  exact loop ((Int32.ofNat (rowN o)).toNatClampNeg + 1) 0 (Nat.zero_le _) (by omega) S _ _ _ (by rw [lpX3_fill_2_0]) hP hS (lv_sub hl [0, 1, 2] rfl)

def bX3_copy_2_zS (S : Mm) (o : Nat) (o1 : Nat) (zS : Mm) (i : Nat) : Mm := up2 zS (o + 1) (nI i).toNatClampNeg (rX3_get zS o1 (nI i))
def lpX3_copy_2 (S : Mm) (o : Nat) (o1 : Nat) : Nat → Mm
  | 0 => S
  | i + 1 => bX3_copy_2_zS S o o1 (lpX3_copy_2 S o o1 i) i
theorem lpX3_copy_2_0 (S : Mm) (o : Nat) (o1 : Nat) : lpX3_copy_2 S o o1 0 = S := by rw [lpX3_copy_2]
theorem lpX3_copy_2_s (S : Mm) (o : Nat) (o1 : Nat) (i : Nat) : lpX3_copy_2 S o o1 (i + 1) = bX3_copy_2_zS S o o1 (lpX3_copy_2 S o o1 i) i := by rw [lpX3_copy_2]
def fX3_copy (S : Mm) (o : Nat) (o1 : Nat) : Mm := (lpX3_copy_2 S o o1 ((Int32.ofNat (rowN o)).toNatClampNeg))
theorem iX3_copy_X3 : ∀ w ∈ u_ws RX3 TX3 1, w ∈ wsX3_copy := by decide +kernel
set_option maxHeartbeats 4000000 in
set_option maxRecDepth 100000 in
theorem c_X3_copy (l : Launch) (G : va_G) (cA : ClassId) (a : Nat → Nat) (ha : apart 37 a) (S : Mm) (L : Int64) (sz : Nat) (o : Nat) (o1 : Nat) (ho : isR o) (ho1 : isR o1) : Met l yX3_copy wsX3_copy ({ frames := 1, cells := 0, slots := 0, locals := 21 } : Room) (va_Pc [.ref (a o), .ref (a o1)] (gI G cA (a 37) 37 a (cM a cA) S L sz)) (gQv G 37 a (cM a cA) (fX3_copy S o o1) L sz) 0 0 (mA 37 a sz) := by
  refine g_met (cc := cX3_copy) (maxL := 3) (ret := none) (by decide) rfl (Nat.le_of_ble_eq_true rfl) ?_
  intro p e s m below meth c ls hx hb hr hlocks hml hts hown hnm hsz hK hP hS hl
  subst hsz
  have hl : lv_has ls 3 [(0, .ref (a o)), (1, .ref (a o1))] := hl
  refine lv_iconst (v := 0) hx hb dX3_copy_0 (by decide) ?_
  refine lv_istore_n (lv' := [(2, .int 0), (0, .ref (a o)), (1, .ref (a o1))]) hx hb dX3_copy_1 rfl hl (by decide) rfl (fun ls hl => ?_)
  have loop : ∀ (k i : Nat), i ≤ (Int32.ofNat (rowN o)).toNatClampNeg → (Int32.ofNat (rowN o)).toNatClampNeg < i + k → ∀ (zS : Mm) (H : Heap) (locs : List Loc) (ls : Array Slot), zS = (lpX3_copy_2 S o o1 i) → va_P G vwCl (wG 37 a (cM a cA) zS L) H → va_S (mA 37 a s.heap.size) s.heap H locs → lv_has ls 3 [(2, .int (nI i)), (0, .ref (a o)), (1, .ref (a o1))] → W p l e ({ frames := 1, cells := 0, slots := 0, locals := 21 } : Room) s m ([.ref (a o), .ref (a o1)] : List Value).toArray below meth c H locs 0 0 (MQ below (gQv G 37 a (cM a cA) (fX3_copy S o o1) L s.heap.size) ([.ref (a o), .ref (a o1)] : List Value).toArray s 0 0 (mA 37 a s.heap.size)) (F0 m 2 ls []) := by
    intro k
    induction k with
    | zero => intro i h1 h2; omega
    | succ k ih =>
      intro i hi hk zS H locs ls ezS hP hS hl
      refine lv_iload_n hx hb dX3_copy_2 rfl (lv_at hl 0 rfl) ?_
      refine lv_aload_n hx hb dX3_copy_3 rfl (lv_at hl 1 rfl) ?_
      refine g_get (ci := 3) (C := RX3) (T := TX3) (N := 1) (v := .ref (a (o + 1))) hx hb hts iX3_copy_X3 hown hK hP (lt_R ho) (cM_R ho) rfl 0 (by decide) rfl (by decide +kernel) rfl dX3_copy_4 ?_
      refine g_alen (N := (rowN o)) hx hb hK hP (lt_RA ho) (cM_RA ho) dX3_copy_7 ?_
      refine lv_icmp_ge (tgt := 28) hx hb dX3_copy_8 (by decide) (fun cx => ?_) (fun cx => ?_)
      ·
        have hN := lx_exit hi cx
        subst hN
        rw [ezS] at hP
        exact g_vret hx hb hr hlocks (by unfold fX3_copy; rfl) rfl hP hS dX3_copy_28
      ·
        have hlt := lx_body cx hi
        refine lv_aload_n hx hb dX3_copy_11 rfl (lv_at hl 1 rfl) ?_
        refine g_get (ci := 3) (C := RX3) (T := TX3) (N := 1) (v := .ref (a (o + 1))) hx hb hts iX3_copy_X3 hown hK hP (lt_R ho) (cM_R ho) rfl 0 (by decide) rfl (by decide +kernel) rfl dX3_copy_12 ?_
        refine lv_iload_n hx hb dX3_copy_15 rfl (lv_at hl 0 rfl) ?_
        refine lv_aload_n hx hb dX3_copy_16 rfl (lv_at hl 2 rfl) ?_
        refine lv_iload_n hx hb dX3_copy_17 rfl (lv_at hl 0 rfl) ?_
        refine g_cVi (As := [.int (nI i)]) (rest := [.int (nI i), .ref (a (o + 1))]) ⟨hx, hb, hml, hown, hts⟩ (c_X3_get l G cA a ha zS L H.size o1 (nI i) ho1 ) (cwV 1 hts gX3_copy_X3_get rfl rfl rfl (by decide +kernel) ⟨Nat.le_of_ble_eq_true rfl, Nat.le_of_ble_eq_true rfl⟩) (g_recv hK hP (lt_R ho1) (cM_R ho1) (C := RX3) (T := TX3) (N := 1) rfl) hK (mA_mono hS.1) hP hS rfl hl.1 rfl (lv_room (Nat.le_of_ble_eq_true rfl)) dX3_copy_18 ⟨Nat.le_of_ble_eq_true rfl, Nat.le_of_ble_eq_true rfl⟩ (fun H locs hP hS _ _ => ?_)
        refine g_iast (N := (rowN o)) (g := zS (o + 1)) hx hb hK ha mA_in hP hS (lt_RA ho) (cM_RA ho) (in_loop hlt rowN_lt) (cM_RA ho) dX3_copy_21 (fun H locs hP hS => ?_)
        refine lv_iinc (v := nI (i + 1)) (lv' := [(2, .int (nI (i + 1))), (0, .ref (a o)), (1, .ref (a o1))]) hx hb dX3_copy_22 hl (k := 0) rfl (nI_1 i) (by decide) rfl (fun ls hl => ?_)
        refine lv_goto (tgt := 2) hx hb dX3_copy_25 (by decide) ?_
        exact ih (i + 1) (by omega) (by omega) (up2 zS (o + 1) (nI i).toNatClampNeg (rX3_get zS o1 (nI i))) _ _ _ (by rw [lpX3_copy_2_s]; (try rw [← ezS]); unfold bX3_copy_2_zS; rfl) hP hS (lv_sub hl [0, 1, 2] rfl)
  exact loop ((Int32.ofNat (rowN o)).toNatClampNeg + 1) 0 (Nat.zero_le _) (by omega) S _ _ _ (by rw [lpX3_copy_2_0]) hP hS (lv_sub hl [0, 1, 2] rfl)

def vX8_at_1 (S : Mm) (p1 : Int32) (p2 : Int32) : Int32 := (rX3_get S 3 ((p1 * 32) + (((p2 / 2048) + 1) - ((p2 / 2048) + 1) / 32 * 32))) - (rX3_get S 3 ((p1 * 32) + (p2 / 2048)))
def rX8_at (S : Mm) (p1 : Int32) (p2 : Int32) : Int32 := (rX3_get S 3 ((p1 * 32) + (p2 / 2048))) + (((vX8_at_1 S p1 p2) * (p2 - p2 / 2048 * 2048)) / 2048)
theorem iX8_at_X8 : ∀ w ∈ u_ws RX8 TX8 1, w ∈ wsX8_at := by decide +kernel
set_option maxHeartbeats 4000000 in
set_option maxRecDepth 100000 in
theorem c_X8_at (l : Launch) (G : va_G) (cA : ClassId) (a : Nat → Nat) (ha : apart 37 a) (S : Mm) (L : Int64) (sz : Nat) (p1 : Int32) (p2 : Int32)  : Met l yX8_at wsX8_at ({ frames := 1, cells := 0, slots := 0, locals := 21 } : Room) (va_Pc [.ref (a 2), .int p1, .int p2] (gI G cA (a 37) 37 a (cM a cA) S L sz)) (gQi (rX8_at S p1 p2) G 37 a (cM a cA) S L sz) 0 0 (mA 37 a sz) := by
  refine g_met (cc := cX8_at) (maxL := 6) (ret := (some .int)) (by decide) rfl (Nat.le_of_ble_eq_true rfl) ?_
  intro p e s m below meth c ls hx hb hr hlocks hml hts hown hnm hsz hK hP hS hl
  subst hsz
  have hl : lv_has ls 6 [(0, .ref (a 2)), (1, .int p1), (2, .int p2)] := hl
  refine lv_iload_n hx hb dX8_at_0 rfl (lv_at hl 2 rfl) ?_
  refine lv_sipush (v := 2048) hx hb dX8_at_1 (by decide) ?_
  refine lv_idiv hx hb dX8_at_4 (by decide) ?_
  refine lv_istore_n (lv' := [(3, .int (p2 / 2048)), (0, .ref (a 2)), (1, .int p1), (2, .int p2)]) hx hb dX8_at_5 rfl hl (by decide) rfl (fun ls hl => ?_)
  refine lv_aload_n hx hb dX8_at_6 rfl (lv_at hl 1 rfl) ?_
  refine g_get (ci := 8) (C := RX8) (T := TX8) (N := 1) (v := .ref (a 3)) hx hb hts iX8_at_X8 hown hK hP (by decide) rfl rfl 0 (by decide) rfl (by decide +kernel) rfl dX8_at_7 ?_
  refine lv_iload_n hx hb dX8_at_10 rfl (lv_at hl 2 rfl) ?_
  refine lv_bipush (v := 32) hx hb dX8_at_11 (by decide) ?_
  refine lv_imul hx hb dX8_at_13 ?_
  refine lv_iload_n hx hb dX8_at_14 rfl (lv_at hl 0 rfl) ?_
  refine lv_iadd hx hb dX8_at_15 ?_
  refine g_cVi (As := [.int ((p1 * 32) + (p2 / 2048))]) (rest := []) ⟨hx, hb, hml, hown, hts⟩ (c_X3_get l G cA a ha S L s.heap.size 3 ((p1 * 32) + (p2 / 2048)) (by decide) ) (cwV 1 hts gX8_at_X3_get rfl rfl rfl (by decide +kernel) ⟨Nat.le_of_ble_eq_true rfl, Nat.le_of_ble_eq_true rfl⟩) (g_recv hK hP (lt_R (by decide)) (cM_R (by decide)) (C := RX3) (T := TX3) (N := 1) rfl) hK (mA_mono hS.1) hP hS rfl hl.1 rfl (lv_room (Nat.le_of_ble_eq_true rfl)) dX8_at_16 ⟨Nat.le_of_ble_eq_true rfl, Nat.le_of_ble_eq_true rfl⟩ (fun H locs hP hS _ _ => ?_)
  refine lv_istore (lv' := [(4, .int (rX3_get S 3 ((p1 * 32) + (p2 / 2048)))), (3, .int (p2 / 2048)), (0, .ref (a 2)), (1, .int p1), (2, .int p2)]) hx hb dX8_at_19 hl (by decide) rfl (fun ls hl => ?_)
  refine lv_aload_n hx hb dX8_at_21 rfl (lv_at hl 2 rfl) ?_
  refine g_get (ci := 8) (C := RX8) (T := TX8) (N := 1) (v := .ref (a 3)) hx hb hts iX8_at_X8 hown hK hP (by decide) rfl rfl 0 (by decide) rfl (by decide +kernel) rfl dX8_at_22 ?_
  refine lv_iload_n hx hb dX8_at_25 rfl (lv_at hl 3 rfl) ?_
  refine lv_bipush (v := 32) hx hb dX8_at_26 (by decide) ?_
  refine lv_imul hx hb dX8_at_28 ?_
  refine lv_iload_n hx hb dX8_at_29 rfl (lv_at hl 1 rfl) ?_
  refine lv_iconst (v := 1) hx hb dX8_at_30 (by decide) ?_
  refine lv_iadd hx hb dX8_at_31 ?_
  refine lv_bipush (v := 32) hx hb dX8_at_32 (by decide) ?_
  refine lv_irem hx hb dX8_at_34 (by decide) ?_
  refine lv_iadd hx hb dX8_at_35 ?_
  refine g_cVi (As := [.int ((p1 * 32) + (((p2 / 2048) + 1) - ((p2 / 2048) + 1) / 32 * 32))]) (rest := []) ⟨hx, hb, hml, hown, hts⟩ (c_X3_get l G cA a ha S L H.size 3 ((p1 * 32) + (((p2 / 2048) + 1) - ((p2 / 2048) + 1) / 32 * 32)) (by decide) ) (cwV 1 hts gX8_at_X3_get rfl rfl rfl (by decide +kernel) ⟨Nat.le_of_ble_eq_true rfl, Nat.le_of_ble_eq_true rfl⟩) (g_recv hK hP (lt_R (by decide)) (cM_R (by decide)) (C := RX3) (T := TX3) (N := 1) rfl) hK (mA_mono hS.1) hP hS rfl hl.1 rfl (lv_room (Nat.le_of_ble_eq_true rfl)) dX8_at_36 ⟨Nat.le_of_ble_eq_true rfl, Nat.le_of_ble_eq_true rfl⟩ (fun H locs hP hS _ _ => ?_)
  refine lv_istore (lv' := [(5, .int (rX3_get S 3 ((p1 * 32) + (((p2 / 2048) + 1) - ((p2 / 2048) + 1) / 32 * 32)))), (4, .int (rX3_get S 3 ((p1 * 32) + (p2 / 2048)))), (3, .int (p2 / 2048)), (0, .ref (a 2)), (1, .int p1), (2, .int p2)]) hx hb dX8_at_39 hl (by decide) rfl (fun ls hl => ?_)
  refine lv_iload hx hb dX8_at_41 (lv_at hl 1 rfl) ?_
  refine lv_iload hx hb dX8_at_43 (lv_at hl 0 rfl) ?_
  refine lv_iload hx hb dX8_at_45 (lv_at hl 1 rfl) ?_
  refine lv_isub hx hb dX8_at_47 ?_
  refine W.eq (g2 := F0 m 48 ls [.int (vX8_at_1 S p1 p2), .int (rX3_get S 3 ((p1 * 32) + (p2 / 2048)))]) rfl ?_
  refine lv_iload_n hx hb dX8_at_48 rfl (lv_at hl 5 rfl) ?_
  refine lv_sipush (v := 2048) hx hb dX8_at_49 (by decide) ?_
  refine lv_irem hx hb dX8_at_52 (by decide) ?_
  refine lv_imul hx hb dX8_at_53 ?_
  refine lv_sipush (v := 2048) hx hb dX8_at_54 (by decide) ?_
  refine lv_idiv hx hb dX8_at_57 (by decide) ?_
  refine lv_iadd hx hb dX8_at_58 ?_
  exact g_iret hx hb hr hlocks (by unfold rX8_at; rfl) rfl rfl hP hS dX8_at_59

def rX8_redraw (S : Mm) (p1 : Int32) (p2 : Int32) : Int32 := rX3_get S 3 (96 + p1)
def fX8_redraw (S : Mm) (p1 : Int32) (p2 : Int32) : Mm := fX3_put S 3 (96 + p1) p2
theorem iX8_redraw_X8 : ∀ w ∈ u_ws RX8 TX8 1, w ∈ wsX8_redraw := by decide +kernel
set_option maxHeartbeats 4000000 in
set_option maxRecDepth 100000 in
theorem c_X8_redraw (l : Launch) (G : va_G) (cA : ClassId) (a : Nat → Nat) (ha : apart 37 a) (S : Mm) (L : Int64) (sz : Nat) (p1 : Int32) (p2 : Int32)  : Met l yX8_redraw wsX8_redraw ({ frames := 1, cells := 0, slots := 0, locals := 22 } : Room) (va_Pc [.ref (a 2), .int p1, .int p2] (gI G cA (a 37) 37 a (cM a cA) S L sz)) (gQi (rX8_redraw S p1 p2) G 37 a (cM a cA) (fX8_redraw S p1 p2) L sz) 0 0 (mA 37 a sz) := by
  refine g_met (cc := cX8_redraw) (maxL := 4) (ret := (some .int)) (by decide) rfl (Nat.le_of_ble_eq_true rfl) ?_
  intro p e s m below meth c ls hx hb hr hlocks hml hts hown hnm hsz hK hP hS hl
  subst hsz
  have hl : lv_has ls 4 [(0, .ref (a 2)), (1, .int p1), (2, .int p2)] := hl
  refine lv_aload_n hx hb dX8_redraw_0 rfl (lv_at hl 0 rfl) ?_
  refine g_get (ci := 8) (C := RX8) (T := TX8) (N := 1) (v := .ref (a 3)) hx hb hts iX8_redraw_X8 hown hK hP (by decide) rfl rfl 0 (by decide) rfl (by decide +kernel) rfl dX8_redraw_1 ?_
  refine lv_bipush (v := 96) hx hb dX8_redraw_4 (by decide) ?_
  refine lv_iload_n hx hb dX8_redraw_6 rfl (lv_at hl 1 rfl) ?_
  refine lv_iadd hx hb dX8_redraw_7 ?_
  refine g_cVi (As := [.int (96 + p1)]) (rest := []) ⟨hx, hb, hml, hown, hts⟩ (c_X3_get l G cA a ha S L s.heap.size 3 (96 + p1) (by decide) ) (cwV 1 hts gX8_redraw_X3_get rfl rfl rfl (by decide +kernel) ⟨Nat.le_of_ble_eq_true rfl, Nat.le_of_ble_eq_true rfl⟩) (g_recv hK hP (lt_R (by decide)) (cM_R (by decide)) (C := RX3) (T := TX3) (N := 1) rfl) hK (mA_mono hS.1) hP hS rfl hl.1 rfl (lv_room (Nat.le_of_ble_eq_true rfl)) dX8_redraw_8 ⟨Nat.le_of_ble_eq_true rfl, Nat.le_of_ble_eq_true rfl⟩ (fun H locs hP hS _ _ => ?_)
  refine lv_istore_n (lv' := [(3, .int (rX3_get S 3 (96 + p1))), (0, .ref (a 2)), (1, .int p1), (2, .int p2)]) hx hb dX8_redraw_11 rfl hl (by decide) rfl (fun ls hl => ?_)
  refine lv_aload_n hx hb dX8_redraw_12 rfl (lv_at hl 1 rfl) ?_
  refine g_get (ci := 8) (C := RX8) (T := TX8) (N := 1) (v := .ref (a 3)) hx hb hts iX8_redraw_X8 hown hK hP (by decide) rfl rfl 0 (by decide) rfl (by decide +kernel) rfl dX8_redraw_13 ?_
  refine lv_bipush (v := 96) hx hb dX8_redraw_16 (by decide) ?_
  refine lv_iload_n hx hb dX8_redraw_18 rfl (lv_at hl 2 rfl) ?_
  refine lv_iadd hx hb dX8_redraw_19 ?_
  refine lv_iload_n hx hb dX8_redraw_20 rfl (lv_at hl 3 rfl) ?_
  refine g_cVv (As := [.int (96 + p1), .int p2]) (rest := []) ⟨hx, hb, hml, hown, hts⟩ (c_X3_put l G cA a ha S L H.size 3 (96 + p1) p2 (by decide) ) (cwV 2 hts gX8_redraw_X3_put rfl rfl rfl (by decide +kernel) ⟨Nat.le_of_ble_eq_true rfl, Nat.le_of_ble_eq_true rfl⟩) (g_recv hK hP (lt_R (by decide)) (cM_R (by decide)) (C := RX3) (T := TX3) (N := 1) rfl) hK (mA_mono hS.1) hP hS rfl hl.1 rfl (lv_room (Nat.le_of_ble_eq_true rfl)) dX8_redraw_21 ⟨Nat.le_of_ble_eq_true rfl, Nat.le_of_ble_eq_true rfl⟩ (fun H locs hP hS _ _ => ?_)
  refine lv_iload_n hx hb dX8_redraw_24 rfl (lv_at hl 0 rfl) ?_
  exact g_iret hx hb hr hlocks (by unfold rX8_redraw; rfl) (by unfold fX8_redraw; rfl) rfl hP hS dX8_redraw_25

def jX1_vibratoAt_1 (S : Mm) (o : Nat) (p1 : Int32) : Int32 := (if S o 11 = 0 then 0 else p1 - p1 / (S o 11) * (S o 11))
def vX1_vibratoAt_2 (S : Mm) (o : Nat) (p1 : Int32) : Int32 := ((S o 10) * (rX8_at S (2 : Int32) (rX9_quotient ((jX1_vibratoAt_1 S o p1) * 65536) (S o 11)))) / 1000
def rX1_vibratoAt (S : Mm) (o : Nat) (p1 : Int32) : Int32 := (vX1_vibratoAt_2 S o p1)
theorem iX1_vibratoAt_X1 : ∀ w ∈ u_ws RX1 TX1 12, w ∈ wsX1_vibratoAt := by decide +kernel
set_option maxHeartbeats 4000000 in
set_option maxRecDepth 100000 in
theorem c_X1_vibratoAt (l : Launch) (G : va_G) (cA : ClassId) (a : Nat → Nat) (ha : apart 37 a) (S : Mm) (L : Int64) (sz : Nat) (o : Nat) (p1 : Int32) (ho : isI o) : Met l yX1_vibratoAt wsX1_vibratoAt ({ frames := 2, cells := 0, slots := 0, locals := 46 } : Room) (va_Pc [.ref (a o), .int p1, .ref (a 2)] (gI G cA (a 37) 37 a (cM a cA) S L sz)) (gQi (rX1_vibratoAt S o p1) G 37 a (cM a cA) S L sz) 0 0 (mA 37 a sz) := by
  refine g_met (cc := cX1_vibratoAt) (maxL := 5) (ret := (some .int)) (by decide) rfl (Nat.le_of_ble_eq_true rfl) ?_
  intro p e s m below meth c ls hx hb hr hlocks hml hts hown hnm hsz hK hP hS hl
  subst hsz
  have hl : lv_has ls 5 [(0, .ref (a o)), (1, .int p1), (2, .ref (a 2))] := hl
  refine lv_aload_n hx hb dX1_vibratoAt_0 rfl (lv_at hl 0 rfl) ?_
  refine g_get (ci := 1) (C := RX1) (T := TX1) (N := 12) (v := .int (S o 11)) hx hb hts iX1_vibratoAt_X1 hown hK hP (lt_I ho) (cM_I ho) rfl 11 (by decide) rfl (by decide +kernel) rfl dX1_vibratoAt_1 ?_
  have hj2 : ∀ (zy0_hj2 : Int32) (H : Heap) (locs : List Loc) (ls : Array Slot), zy0_hj2 = (jX1_vibratoAt_1 S o p1) → va_P G vwCl (wG 37 a (cM a cA) S L) H → va_S (mA 37 a s.heap.size) s.heap H locs → lv_has ls 5 [(0, .ref (a o)), (1, .int p1), (2, .ref (a 2))] → W p l e ({ frames := 2, cells := 0, slots := 0, locals := 46 } : Room) s m ([.ref (a o), .int p1, .ref (a 2)] : List Value).toArray below meth c H locs 0 0 (MQ below (gQi (rX1_vibratoAt S o p1) G 37 a (cM a cA) S L s.heap.size) ([.ref (a o), .int p1, .ref (a 2)] : List Value).toArray s 0 0 (mA 37 a s.heap.size)) (F0 m 17 ls [.int zy0_hj2]) := by
    intro zy0_hj2 H locs ls ezy0_hj2 hP hS hl
    rw [ezy0_hj2]
    refine lv_istore_n (lv' := [(3, .int (jX1_vibratoAt_1 S o p1)), (0, .ref (a o)), (1, .int p1), (2, .ref (a 2))]) hx hb dX1_vibratoAt_17 rfl hl (by decide) rfl (fun ls hl => ?_)
    refine lv_aload_n hx hb dX1_vibratoAt_18 rfl (lv_at hl 3 rfl) ?_
    refine lv_iconst (v := 2) hx hb dX1_vibratoAt_19 (by decide) ?_
    refine lv_iload_n hx hb dX1_vibratoAt_20 rfl (lv_at hl 0 rfl) ?_
    refine lv_ldc (v := 65536) hx hb hown (hts (.constant RX1 33 65536) (by decide +kernel)) dX1_vibratoAt_21 ?_
    refine lv_imul hx hb dX1_vibratoAt_23 ?_
    refine lv_aload_n hx hb dX1_vibratoAt_24 rfl (lv_at hl 1 rfl) ?_
    refine g_get (ci := 1) (C := RX1) (T := TX1) (N := 12) (v := .int (S o 11)) hx hb hts iX1_vibratoAt_X1 hown hK hP (lt_I ho) (cM_I ho) rfl 11 (by decide) rfl (by decide +kernel) rfl dX1_vibratoAt_25 ?_
    refine g_cNi (As := [.int ((jX1_vibratoAt_1 S o p1) * 65536), .int (S o 11)]) (rest := [.int 2, .ref (a 2)]) ⟨hx, hb, hml, hown, hts⟩ (c_X9_quotient l G cA a ha S L H.size ((jX1_vibratoAt_1 S o p1) * 65536) (S o 11)  ) (va_cnB 2 hts gX1_vibratoAt_X9_quotient_n34 rfl rfl rfl (hK.2.1.at (q := ("Melodeon$Instrument", 34, yX9_quotient, "Melodeon")) (by decide +kernel)) (hts (.initialized RX9) (by decide +kernel)) (by decide +kernel) ⟨Nat.le_of_ble_eq_true rfl, Nat.le_of_ble_eq_true rfl⟩) (hts (.static yX9_quotient) (by decide +kernel)) hK (mA_mono hS.1) hP hS rfl hl.1 rfl (lv_room (Nat.le_of_ble_eq_true rfl)) dX1_vibratoAt_28 ⟨Nat.le_of_ble_eq_true rfl, Nat.le_of_ble_eq_true rfl⟩ (fun H locs hP hS _ _ => ?_)
    refine g_cVi (As := [.int 2, .int (rX9_quotient ((jX1_vibratoAt_1 S o p1) * 65536) (S o 11))]) (rest := []) ⟨hx, hb, hml, hown, hts⟩ (c_X8_at l G cA a ha S L H.size (2 : Int32) (rX9_quotient ((jX1_vibratoAt_1 S o p1) * 65536) (S o 11))  ) (cwV 2 hts gX1_vibratoAt_X8_at rfl rfl rfl (by decide +kernel) ⟨Nat.le_of_ble_eq_true rfl, Nat.le_of_ble_eq_true rfl⟩) (g_recv hK hP (by decide) rfl (C := RX8) (T := TX8) (N := 1) rfl) hK (mA_mono hS.1) hP hS rfl hl.1 rfl (lv_room (Nat.le_of_ble_eq_true rfl)) dX1_vibratoAt_31 ⟨Nat.le_of_ble_eq_true rfl, Nat.le_of_ble_eq_true rfl⟩ (fun H locs hP hS _ _ => ?_)
    refine lv_istore (lv' := [(4, .int (rX8_at S (2 : Int32) (rX9_quotient ((jX1_vibratoAt_1 S o p1) * 65536) (S o 11)))), (3, .int (jX1_vibratoAt_1 S o p1)), (0, .ref (a o)), (1, .int p1), (2, .ref (a 2))]) hx hb dX1_vibratoAt_34 hl (by decide) rfl (fun ls hl => ?_)
    refine lv_aload_n hx hb dX1_vibratoAt_36 rfl (lv_at hl 2 rfl) ?_
    refine g_get (ci := 1) (C := RX1) (T := TX1) (N := 12) (v := .int (S o 10)) hx hb hts iX1_vibratoAt_X1 hown hK hP (lt_I ho) (cM_I ho) rfl 10 (by decide) rfl (by decide +kernel) rfl dX1_vibratoAt_37 ?_
    refine lv_iload hx hb dX1_vibratoAt_40 (lv_at hl 0 rfl) ?_
    refine lv_imul hx hb dX1_vibratoAt_42 ?_
    refine lv_sipush (v := 1000) hx hb dX1_vibratoAt_43 (by decide) ?_
    refine lv_idiv hx hb dX1_vibratoAt_46 (by decide) ?_
    refine W.eq (g2 := F0 m 47 ls [.int (vX1_vibratoAt_2 S o p1)]) rfl ?_
    exact g_iret hx hb hr hlocks (by unfold rX1_vibratoAt; rfl) rfl rfl hP hS dX1_vibratoAt_47
  refine lv_if_ne (tgt := 11) hx hb dX1_vibratoAt_4 (by decide) (fun c1 => ?_) (fun c1 => ?_)
  ·
    refine lv_iload_n hx hb dX1_vibratoAt_11 rfl (lv_at hl 1 rfl) ?_
    refine lv_aload_n hx hb dX1_vibratoAt_12 rfl (lv_at hl 0 rfl) ?_
    refine g_get (ci := 1) (C := RX1) (T := TX1) (N := 12) (v := .int (S o 11)) hx hb hts iX1_vibratoAt_X1 hown hK hP (lt_I ho) (cM_I ho) rfl 11 (by decide) rfl (by decide +kernel) rfl dX1_vibratoAt_13 ?_
    refine lv_irem hx hb dX1_vibratoAt_16 c1 ?_
    exact hj2 _ _ _ _ (by unfold jX1_vibratoAt_1; rw [if_neg c1]) hP hS (lv_sub hl [0, 1, 2] rfl)
  ·
    refine lv_iconst (v := 0) hx hb dX1_vibratoAt_7 (by decide) ?_
    refine lv_goto (tgt := 17) hx hb dX1_vibratoAt_8 (by decide) ?_
    exact hj2 _ _ _ _ (by unfold jX1_vibratoAt_1; rw [if_pos c1]) hP hS (lv_sub hl [0, 1, 2] rfl)

