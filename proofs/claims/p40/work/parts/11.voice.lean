def fX7_release (S : Mm) (o : Nat) : Mm := (if S o 0 = 0 then S else up2 S o 0 4)
theorem iX7_release_X7 : ∀ w ∈ u_ws RX7 TX7 11, w ∈ wsX7_release := by decide +kernel
set_option maxHeartbeats 4000000 in
set_option maxRecDepth 100000 in
theorem c_X7_release (l : Launch) (G : va_G) (cA : ClassId) (a : Nat → Nat) (ha : apart 37 a) (S : Mm) (L : Int64) (sz : Nat) (o : Nat) (ho : isV o) : Met l yX7_release wsX7_release ({ frames := 0, cells := 0, slots := 0, locals := 0 } : Room) (va_Pc [.ref (a o)] (gI G cA (a 37) 37 a (cM a cA) S L sz)) (gQv G 37 a (cM a cA) (fX7_release S o) L sz) 0 0 (mA 37 a sz) := by
  refine g_met (cc := cX7_release) (maxL := 1) (ret := none) (by decide) rfl (Nat.le_of_ble_eq_true rfl) ?_
  intro p e s m below meth c ls hx hb hr hlocks hml hts hown hnm hsz hK hP hS hl
  subst hsz
  have hl : lv_has ls 1 [(0, .ref (a o))] := hl
  refine lv_aload_n hx hb dX7_release_0 rfl (lv_at hl 0 rfl) ?_
  refine g_get (ci := 7) (C := RX7) (T := TX7) (N := 11) (v := .int (S o 0)) hx hb hts iX7_release_X7 hown hK hP (lt_V ho) (cM_V ho) rfl 0 (by decide) rfl (by decide +kernel) rfl dX7_release_1 ?_
  refine lv_if_eq (tgt := 12) hx hb dX7_release_4 (by decide) (fun c1 => ?_) (fun c1 => ?_)
  ·
    exact g_vret hx hb hr hlocks (by unfold fX7_release; rw [if_pos c1]) rfl hP hS dX7_release_12
  ·
    refine lv_aload_n hx hb dX7_release_7 rfl (lv_at hl 0 rfl) ?_
    refine lv_iconst (v := 4) hx hb dX7_release_8 (by decide) ?_
    refine g_put (ci := 7) (C := RX7) (T := TX7) (N := 11) (ty := .int) hx hb hts iX7_release_X7 tyX7 tyX7_ok nmX7 hown hK ha mA_in hP hS (lt_V ho) (cM_V ho) rfl 0 (by decide) rfl (by decide +kernel) rfl (by decide +kernel) rfl rfl (Nat.le_of_ble_eq_true rfl) (cM_V_set ho (by decide)) dX7_release_9 (fun H locs hP hS => ?_)
    exact g_vret hx hb hr hlocks (by unfold fX7_release; rw [if_neg c1]) rfl hP hS dX7_release_12

def rX7_rankToTake (S : Mm) (o : Nat) : Int32 := (if S o 0 = 0 then 0 else (if S o 0 = 4 then 1 else 2))
theorem iX7_rankToTake_X7 : ∀ w ∈ u_ws RX7 TX7 11, w ∈ wsX7_rankToTake := by decide +kernel
set_option maxHeartbeats 4000000 in
set_option maxRecDepth 100000 in
theorem c_X7_rankToTake (l : Launch) (G : va_G) (cA : ClassId) (a : Nat → Nat) (ha : apart 37 a) (S : Mm) (L : Int64) (sz : Nat) (o : Nat) (ho : isV o) : Met l yX7_rankToTake wsX7_rankToTake ({ frames := 0, cells := 0, slots := 0, locals := 0 } : Room) (va_Pc [.ref (a o)] (gI G cA (a 37) 37 a (cM a cA) S L sz)) (gQi (rX7_rankToTake S o) G 37 a (cM a cA) S L sz) 0 0 (mA 37 a sz) := by
  refine g_met (cc := cX7_rankToTake) (maxL := 1) (ret := (some .int)) (by decide) rfl (Nat.le_of_ble_eq_true rfl) ?_
  intro p e s m below meth c ls hx hb hr hlocks hml hts hown hnm hsz hK hP hS hl
  subst hsz
  have hl : lv_has ls 1 [(0, .ref (a o))] := hl
  refine lv_aload_n hx hb dX7_rankToTake_0 rfl (lv_at hl 0 rfl) ?_
  refine g_get (ci := 7) (C := RX7) (T := TX7) (N := 11) (v := .int (S o 0)) hx hb hts iX7_rankToTake_X7 hown hK hP (lt_V ho) (cM_V ho) rfl 0 (by decide) rfl (by decide +kernel) rfl dX7_rankToTake_1 ?_
  by_cases c1 : S o 0 = 0
  ·
    refine lv_lookup (off := 28) (tgt := 32) hx hb dX7_rankToTake_4 (by decide) (by rw [c1]; rfl) (by decide) ?_
    refine lv_iconst (v := 0) hx hb dX7_rankToTake_32 (by decide) ?_
    exact g_iret hx hb hr hlocks (by unfold rX7_rankToTake; rw [if_pos c1]) rfl rfl hP hS dX7_rankToTake_33
  ·
    by_cases c2 : S o 0 = 4
    ·
      refine lv_lookup (off := 30) (tgt := 34) hx hb dX7_rankToTake_4 (by decide) ((lv_osw c1 rfl).trans (by rw [c2]; rfl)) (by decide) ?_
      refine lv_iconst (v := 1) hx hb dX7_rankToTake_34 (by decide) ?_
      exact g_iret hx hb hr hlocks (by unfold rX7_rankToTake; rw [if_neg c1, if_pos c2]) rfl rfl hP hS dX7_rankToTake_35
    ·
      refine lv_lookup (off := 32) (tgt := 36) hx hb dX7_rankToTake_4 (by decide) ((lv_osw c1 rfl).trans ((lv_osw c2 rfl).trans rfl)) (by decide) ?_
      refine lv_iconst (v := 2) hx hb dX7_rankToTake_36 (by decide) ?_
      exact g_iret hx hb hr hlocks (by unfold rX7_rankToTake; rw [if_neg c1, if_neg c2]) rfl rfl hP hS dX7_rankToTake_37

def rX7_isTakenBefore (S : Mm) (o : Nat) (o1 : Nat) : Int32 := (if rX7_rankToTake S o = rX7_rankToTake S o1 then (if S o 0 = 4 then (if S o1 1 ≤ S o 1 then 0 else 1) else (if S o 0 = 0 then 0 else (if S o1 10 ≤ S o 10 then 0 else 1))) else (if rX7_rankToTake S o1 ≤ rX7_rankToTake S o then 0 else 1))
theorem iX7_isTakenBefore_X7 : ∀ w ∈ u_ws RX7 TX7 11, w ∈ wsX7_isTakenBefore := by decide +kernel
set_option maxHeartbeats 4000000 in
set_option maxRecDepth 100000 in
theorem c_X7_isTakenBefore (l : Launch) (G : va_G) (cA : ClassId) (a : Nat → Nat) (ha : apart 37 a) (S : Mm) (L : Int64) (sz : Nat) (o : Nat) (o1 : Nat) (ho : isV o) (ho1 : isV o1) : Met l yX7_isTakenBefore wsX7_isTakenBefore ({ frames := 1, cells := 0, slots := 0, locals := 20 } : Room) (va_Pc [.ref (a o), .ref (a o1)] (gI G cA (a 37) 37 a (cM a cA) S L sz)) (gQi (rX7_isTakenBefore S o o1) G 37 a (cM a cA) S L sz) 0 0 (mA 37 a sz) := by
  refine g_met (cc := cX7_isTakenBefore) (maxL := 4) (ret := (some .boolean)) (by decide) rfl (Nat.le_of_ble_eq_true rfl) ?_
  intro p e s m below meth c ls hx hb hr hlocks hml hts hown hnm hsz hK hP hS hl
  subst hsz
  have hl : lv_has ls 4 [(0, .ref (a o)), (1, .ref (a o1))] := hl
  refine lv_aload_n hx hb dX7_isTakenBefore_0 rfl (lv_at hl 0 rfl) ?_
  refine g_cVi (As := []) (rest := []) ⟨hx, hb, hml, hown, hts⟩ (c_X7_rankToTake l G cA a ha S L s.heap.size o ho ) (cwV 0 hts gX7_isTakenBefore_X7_rankToTake rfl rfl rfl (by decide +kernel) ⟨Nat.le_of_ble_eq_true rfl, Nat.le_of_ble_eq_true rfl⟩) (g_recv hK hP (lt_V ho) (cM_V ho) (C := RX7) (T := TX7) (N := 11) rfl) hK (mA_mono hS.1) hP hS rfl hl.1 rfl (lv_room (Nat.le_of_ble_eq_true rfl)) dX7_isTakenBefore_1 ⟨Nat.le_of_ble_eq_true rfl, Nat.le_of_ble_eq_true rfl⟩ (fun H locs hP hS _ _ => ?_)
  refine lv_istore_n (lv' := [(2, .int (rX7_rankToTake S o)), (0, .ref (a o)), (1, .ref (a o1))]) hx hb dX7_isTakenBefore_4 rfl hl (by decide) rfl (fun ls hl => ?_)
  refine lv_aload_n hx hb dX7_isTakenBefore_5 rfl (lv_at hl 2 rfl) ?_
  refine g_cVi (As := []) (rest := []) ⟨hx, hb, hml, hown, hts⟩ (c_X7_rankToTake l G cA a ha S L H.size o1 ho1 ) (cwV 0 hts gX7_isTakenBefore_X7_rankToTake rfl rfl rfl (by decide +kernel) ⟨Nat.le_of_ble_eq_true rfl, Nat.le_of_ble_eq_true rfl⟩) (g_recv hK hP (lt_V ho1) (cM_V ho1) (C := RX7) (T := TX7) (N := 11) rfl) hK (mA_mono hS.1) hP hS rfl hl.1 rfl (lv_room (Nat.le_of_ble_eq_true rfl)) dX7_isTakenBefore_6 ⟨Nat.le_of_ble_eq_true rfl, Nat.le_of_ble_eq_true rfl⟩ (fun H locs hP hS _ _ => ?_)
  refine lv_istore_n (lv' := [(3, .int (rX7_rankToTake S o1)), (2, .int (rX7_rankToTake S o)), (0, .ref (a o)), (1, .ref (a o1))]) hx hb dX7_isTakenBefore_9 rfl hl (by decide) rfl (fun ls hl => ?_)
  refine lv_iload_n hx hb dX7_isTakenBefore_10 rfl (lv_at hl 1 rfl) ?_
  refine lv_iload_n hx hb dX7_isTakenBefore_11 rfl (lv_at hl 0 rfl) ?_
  refine lv_icmp_eq (tgt := 26) hx hb dX7_isTakenBefore_12 (by decide) (fun c1 => ?_) (fun c1 => ?_)
  ·
    refine lv_aload_n hx hb dX7_isTakenBefore_26 rfl (lv_at hl 2 rfl) ?_
    refine g_get (ci := 7) (C := RX7) (T := TX7) (N := 11) (v := .int (S o 0)) hx hb hts iX7_isTakenBefore_X7 hown hK hP (lt_V ho) (cM_V ho) rfl 0 (by decide) rfl (by decide +kernel) rfl dX7_isTakenBefore_27 ?_
    refine lv_iconst (v := 4) hx hb dX7_isTakenBefore_30 (by decide) ?_
    refine lv_icmp_ne (tgt := 51) hx hb dX7_isTakenBefore_31 (by decide) (fun c2 => ?_) (fun c2 => ?_)
    ·
      refine lv_aload_n hx hb dX7_isTakenBefore_51 rfl (lv_at hl 2 rfl) ?_
      refine g_get (ci := 7) (C := RX7) (T := TX7) (N := 11) (v := .int (S o 0)) hx hb hts iX7_isTakenBefore_X7 hown hK hP (lt_V ho) (cM_V ho) rfl 0 (by decide) rfl (by decide +kernel) rfl dX7_isTakenBefore_52 ?_
      refine lv_if_eq (tgt := 73) hx hb dX7_isTakenBefore_55 (by decide) (fun c3 => ?_) (fun c3 => ?_)
      ·
        refine lv_iconst (v := 0) hx hb dX7_isTakenBefore_73 (by decide) ?_
        exact g_zret hx hb hr hlocks rfl (by unfold rX7_isTakenBefore; rw [if_pos c1, if_neg c2, if_pos c3]) rfl rfl hP hS dX7_isTakenBefore_74
      ·
        refine lv_aload_n hx hb dX7_isTakenBefore_58 rfl (lv_at hl 2 rfl) ?_
        refine g_get (ci := 7) (C := RX7) (T := TX7) (N := 11) (v := .int (S o 10)) hx hb hts iX7_isTakenBefore_X7 hown hK hP (lt_V ho) (cM_V ho) rfl 10 (by decide) rfl (by decide +kernel) rfl dX7_isTakenBefore_59 ?_
        refine lv_aload_n hx hb dX7_isTakenBefore_62 rfl (lv_at hl 3 rfl) ?_
        refine g_get (ci := 7) (C := RX7) (T := TX7) (N := 11) (v := .int (S o1 10)) hx hb hts iX7_isTakenBefore_X7 hown hK hP (lt_V ho1) (cM_V ho1) rfl 10 (by decide) rfl (by decide +kernel) rfl dX7_isTakenBefore_63 ?_
        refine lv_icmp_ge (tgt := 73) hx hb dX7_isTakenBefore_66 (by decide) (fun c4 => ?_) (fun c4 => ?_)
        ·
          refine lv_iconst (v := 0) hx hb dX7_isTakenBefore_73 (by decide) ?_
          exact g_zret hx hb hr hlocks rfl (by unfold rX7_isTakenBefore; rw [if_pos c1, if_neg c2, if_neg c3, if_pos c4]) rfl rfl hP hS dX7_isTakenBefore_74
        ·
          refine lv_iconst (v := 1) hx hb dX7_isTakenBefore_69 (by decide) ?_
          refine lv_goto (tgt := 74) hx hb dX7_isTakenBefore_70 (by decide) ?_
          exact g_zret hx hb hr hlocks rfl (by unfold rX7_isTakenBefore; rw [if_pos c1, if_neg c2, if_neg c3, if_neg c4]) rfl rfl hP hS dX7_isTakenBefore_74
    ·
      refine lv_aload_n hx hb dX7_isTakenBefore_34 rfl (lv_at hl 2 rfl) ?_
      refine g_get (ci := 7) (C := RX7) (T := TX7) (N := 11) (v := .int (S o 1)) hx hb hts iX7_isTakenBefore_X7 hown hK hP (lt_V ho) (cM_V ho) rfl 1 (by decide) rfl (by decide +kernel) rfl dX7_isTakenBefore_35 ?_
      refine lv_aload_n hx hb dX7_isTakenBefore_38 rfl (lv_at hl 3 rfl) ?_
      refine g_get (ci := 7) (C := RX7) (T := TX7) (N := 11) (v := .int (S o1 1)) hx hb hts iX7_isTakenBefore_X7 hown hK hP (lt_V ho1) (cM_V ho1) rfl 1 (by decide) rfl (by decide +kernel) rfl dX7_isTakenBefore_39 ?_
      refine lv_icmp_ge (tgt := 49) hx hb dX7_isTakenBefore_42 (by decide) (fun c5 => ?_) (fun c5 => ?_)
      ·
        refine lv_iconst (v := 0) hx hb dX7_isTakenBefore_49 (by decide) ?_
        exact g_zret hx hb hr hlocks rfl (by unfold rX7_isTakenBefore; rw [if_pos c1, if_pos c2, if_pos c5]) rfl rfl hP hS dX7_isTakenBefore_50
      ·
        refine lv_iconst (v := 1) hx hb dX7_isTakenBefore_45 (by decide) ?_
        refine lv_goto (tgt := 50) hx hb dX7_isTakenBefore_46 (by decide) ?_
        exact g_zret hx hb hr hlocks rfl (by unfold rX7_isTakenBefore; rw [if_pos c1, if_pos c2, if_neg c5]) rfl rfl hP hS dX7_isTakenBefore_50
  ·
    refine lv_iload_n hx hb dX7_isTakenBefore_15 rfl (lv_at hl 1 rfl) ?_
    refine lv_iload_n hx hb dX7_isTakenBefore_16 rfl (lv_at hl 0 rfl) ?_
    refine lv_icmp_ge (tgt := 24) hx hb dX7_isTakenBefore_17 (by decide) (fun c6 => ?_) (fun c6 => ?_)
    ·
      refine lv_iconst (v := 0) hx hb dX7_isTakenBefore_24 (by decide) ?_
      exact g_zret hx hb hr hlocks rfl (by unfold rX7_isTakenBefore; rw [if_neg c1, if_pos c6]) rfl rfl hP hS dX7_isTakenBefore_25
    ·
      refine lv_iconst (v := 1) hx hb dX7_isTakenBefore_20 (by decide) ?_
      refine lv_goto (tgt := 25) hx hb dX7_isTakenBefore_21 (by decide) ?_
      exact g_zret hx hb hr hlocks rfl (by unfold rX7_isTakenBefore; rw [if_neg c1, if_neg c6]) rfl rfl hP hS dX7_isTakenBefore_25

def mX7_copy_1 (S : Mm) (o : Nat) (o1 : Nat) : Mm := up2 (up2 (up2 S o 0 (S o1 0)) o 1 ((up2 S o 0 (S o1 0)) o1 1)) o 2 ((up2 (up2 S o 0 (S o1 0)) o 1 ((up2 S o 0 (S o1 0)) o1 1)) o1 2)
def mX7_copy_2 (S : Mm) (o : Nat) (o1 : Nat) : Mm := up2 (up2 (mX7_copy_1 S o o1) o 3 ((mX7_copy_1 S o o1) o1 3)) o 4 ((up2 (mX7_copy_1 S o o1) o 3 ((mX7_copy_1 S o o1) o1 3)) o1 4)
def mX7_copy_3 (S : Mm) (o : Nat) (o1 : Nat) : Mm := up2 (up2 (mX7_copy_2 S o o1) o 5 ((mX7_copy_2 S o o1) o1 5)) o 6 ((up2 (mX7_copy_2 S o o1) o 5 ((mX7_copy_2 S o o1) o1 5)) o1 6)
def mX7_copy_4 (S : Mm) (o : Nat) (o1 : Nat) : Mm := up2 (up2 (mX7_copy_3 S o o1) o 7 ((mX7_copy_3 S o o1) o1 7)) o 8 ((up2 (mX7_copy_3 S o o1) o 7 ((mX7_copy_3 S o o1) o1 7)) o1 8)
def mX7_copy_5 (S : Mm) (o : Nat) (o1 : Nat) : Mm := up2 (up2 (mX7_copy_4 S o o1) o 9 ((mX7_copy_4 S o o1) o1 9)) o 10 ((up2 (mX7_copy_4 S o o1) o 9 ((mX7_copy_4 S o o1) o1 9)) o1 10)
def fX7_copy (S : Mm) (o : Nat) (o1 : Nat) : Mm := (mX7_copy_5 S o o1)
theorem iX7_copy_X7 : ∀ w ∈ u_ws RX7 TX7 11, w ∈ wsX7_copy := by decide +kernel
set_option maxHeartbeats 4000000 in
set_option maxRecDepth 100000 in
theorem c_X7_copy (l : Launch) (G : va_G) (cA : ClassId) (a : Nat → Nat) (ha : apart 37 a) (S : Mm) (L : Int64) (sz : Nat) (o : Nat) (o1 : Nat) (ho : isV o) (ho1 : isV o1) : Met l yX7_copy wsX7_copy ({ frames := 0, cells := 0, slots := 0, locals := 0 } : Room) (va_Pc [.ref (a o), .ref (a o1)] (gI G cA (a 37) 37 a (cM a cA) S L sz)) (gQv G 37 a (cM a cA) (fX7_copy S o o1) L sz) 0 0 (mA 37 a sz) := by
  refine g_met (cc := cX7_copy) (maxL := 2) (ret := none) (by decide) rfl (Nat.le_of_ble_eq_true rfl) ?_
  intro p e s m below meth c ls hx hb hr hlocks hml hts hown hnm hsz hK hP hS hl
  subst hsz
  have hl : lv_has ls 2 [(0, .ref (a o)), (1, .ref (a o1))] := hl
  refine lv_aload_n hx hb dX7_copy_0 rfl (lv_at hl 0 rfl) ?_
  refine lv_aload_n hx hb dX7_copy_1 rfl (lv_at hl 1 rfl) ?_
  refine g_get (ci := 7) (C := RX7) (T := TX7) (N := 11) (v := .int (S o1 0)) hx hb hts iX7_copy_X7 hown hK hP (lt_V ho1) (cM_V ho1) rfl 0 (by decide) rfl (by decide +kernel) rfl dX7_copy_2 ?_
  refine g_put (ci := 7) (C := RX7) (T := TX7) (N := 11) (ty := .int) hx hb hts iX7_copy_X7 tyX7 tyX7_ok nmX7 hown hK ha mA_in hP hS (lt_V ho) (cM_V ho) rfl 0 (by decide) rfl (by decide +kernel) rfl (by decide +kernel) rfl rfl (Nat.le_of_ble_eq_true rfl) (cM_V_set ho (by decide)) dX7_copy_5 (fun H locs hP hS => ?_)
  refine lv_aload_n hx hb dX7_copy_8 rfl (lv_at hl 0 rfl) ?_
  refine lv_aload_n hx hb dX7_copy_9 rfl (lv_at hl 1 rfl) ?_
  refine g_get (ci := 7) (C := RX7) (T := TX7) (N := 11) (v := .int ((up2 S o 0 (S o1 0)) o1 1)) hx hb hts iX7_copy_X7 hown hK hP (lt_V ho1) (cM_V ho1) rfl 1 (by decide) rfl (by decide +kernel) rfl dX7_copy_10 ?_
  refine g_put (ci := 7) (C := RX7) (T := TX7) (N := 11) (ty := .int) hx hb hts iX7_copy_X7 tyX7 tyX7_ok nmX7 hown hK ha mA_in hP hS (lt_V ho) (cM_V ho) rfl 1 (by decide) rfl (by decide +kernel) rfl (by decide +kernel) rfl rfl (Nat.le_of_ble_eq_true rfl) (cM_V_set ho (by decide)) dX7_copy_13 (fun H locs hP hS => ?_)
  refine lv_aload_n hx hb dX7_copy_16 rfl (lv_at hl 0 rfl) ?_
  refine lv_aload_n hx hb dX7_copy_17 rfl (lv_at hl 1 rfl) ?_
  refine g_get (ci := 7) (C := RX7) (T := TX7) (N := 11) (v := .int ((up2 (up2 S o 0 (S o1 0)) o 1 ((up2 S o 0 (S o1 0)) o1 1)) o1 2)) hx hb hts iX7_copy_X7 hown hK hP (lt_V ho1) (cM_V ho1) rfl 2 (by decide) rfl (by decide +kernel) rfl dX7_copy_18 ?_
  refine g_put (ci := 7) (C := RX7) (T := TX7) (N := 11) (ty := .int) hx hb hts iX7_copy_X7 tyX7 tyX7_ok nmX7 hown hK ha mA_in hP hS (lt_V ho) (cM_V ho) rfl 2 (by decide) rfl (by decide +kernel) rfl (by decide +kernel) rfl rfl (Nat.le_of_ble_eq_true rfl) (cM_V_set ho (by decide)) dX7_copy_21 (fun H locs hP hS => ?_)
  have hP : va_P G vwCl (wG 37 a (cM a cA) (mX7_copy_1 S o o1) L) H := hP
  refine lv_aload_n hx hb dX7_copy_24 rfl (lv_at hl 0 rfl) ?_
  refine lv_aload_n hx hb dX7_copy_25 rfl (lv_at hl 1 rfl) ?_
  refine g_get (ci := 7) (C := RX7) (T := TX7) (N := 11) (v := .int ((mX7_copy_1 S o o1) o1 3)) hx hb hts iX7_copy_X7 hown hK hP (lt_V ho1) (cM_V ho1) rfl 3 (by decide) rfl (by decide +kernel) rfl dX7_copy_26 ?_
  refine g_put (ci := 7) (C := RX7) (T := TX7) (N := 11) (ty := .int) hx hb hts iX7_copy_X7 tyX7 tyX7_ok nmX7 hown hK ha mA_in hP hS (lt_V ho) (cM_V ho) rfl 3 (by decide) rfl (by decide +kernel) rfl (by decide +kernel) rfl rfl (Nat.le_of_ble_eq_true rfl) (cM_V_set ho (by decide)) dX7_copy_29 (fun H locs hP hS => ?_)
  refine lv_aload_n hx hb dX7_copy_32 rfl (lv_at hl 0 rfl) ?_
  refine lv_aload_n hx hb dX7_copy_33 rfl (lv_at hl 1 rfl) ?_
  refine g_get (ci := 7) (C := RX7) (T := TX7) (N := 11) (v := .int ((up2 (mX7_copy_1 S o o1) o 3 ((mX7_copy_1 S o o1) o1 3)) o1 4)) hx hb hts iX7_copy_X7 hown hK hP (lt_V ho1) (cM_V ho1) rfl 4 (by decide) rfl (by decide +kernel) rfl dX7_copy_34 ?_
  refine g_put (ci := 7) (C := RX7) (T := TX7) (N := 11) (ty := .int) hx hb hts iX7_copy_X7 tyX7 tyX7_ok nmX7 hown hK ha mA_in hP hS (lt_V ho) (cM_V ho) rfl 4 (by decide) rfl (by decide +kernel) rfl (by decide +kernel) rfl rfl (Nat.le_of_ble_eq_true rfl) (cM_V_set ho (by decide)) dX7_copy_37 (fun H locs hP hS => ?_)
  have hP : va_P G vwCl (wG 37 a (cM a cA) (mX7_copy_2 S o o1) L) H := hP
  refine lv_aload_n hx hb dX7_copy_40 rfl (lv_at hl 0 rfl) ?_
  refine lv_aload_n hx hb dX7_copy_41 rfl (lv_at hl 1 rfl) ?_
  refine g_get (ci := 7) (C := RX7) (T := TX7) (N := 11) (v := .int ((mX7_copy_2 S o o1) o1 5)) hx hb hts iX7_copy_X7 hown hK hP (lt_V ho1) (cM_V ho1) rfl 5 (by decide) rfl (by decide +kernel) rfl dX7_copy_42 ?_
  refine g_put (ci := 7) (C := RX7) (T := TX7) (N := 11) (ty := .int) hx hb hts iX7_copy_X7 tyX7 tyX7_ok nmX7 hown hK ha mA_in hP hS (lt_V ho) (cM_V ho) rfl 5 (by decide) rfl (by decide +kernel) rfl (by decide +kernel) rfl rfl (Nat.le_of_ble_eq_true rfl) (cM_V_set ho (by decide)) dX7_copy_45 (fun H locs hP hS => ?_)
  refine lv_aload_n hx hb dX7_copy_48 rfl (lv_at hl 0 rfl) ?_
  refine lv_aload_n hx hb dX7_copy_49 rfl (lv_at hl 1 rfl) ?_
  refine g_get (ci := 7) (C := RX7) (T := TX7) (N := 11) (v := .int ((up2 (mX7_copy_2 S o o1) o 5 ((mX7_copy_2 S o o1) o1 5)) o1 6)) hx hb hts iX7_copy_X7 hown hK hP (lt_V ho1) (cM_V ho1) rfl 6 (by decide) rfl (by decide +kernel) rfl dX7_copy_50 ?_
  refine g_put (ci := 7) (C := RX7) (T := TX7) (N := 11) (ty := .int) hx hb hts iX7_copy_X7 tyX7 tyX7_ok nmX7 hown hK ha mA_in hP hS (lt_V ho) (cM_V ho) rfl 6 (by decide) rfl (by decide +kernel) rfl (by decide +kernel) rfl rfl (Nat.le_of_ble_eq_true rfl) (cM_V_set ho (by decide)) dX7_copy_53 (fun H locs hP hS => ?_)
  have hP : va_P G vwCl (wG 37 a (cM a cA) (mX7_copy_3 S o o1) L) H := hP
  refine lv_aload_n hx hb dX7_copy_56 rfl (lv_at hl 0 rfl) ?_
  refine lv_aload_n hx hb dX7_copy_57 rfl (lv_at hl 1 rfl) ?_
  refine g_get (ci := 7) (C := RX7) (T := TX7) (N := 11) (v := .int ((mX7_copy_3 S o o1) o1 7)) hx hb hts iX7_copy_X7 hown hK hP (lt_V ho1) (cM_V ho1) rfl 7 (by decide) rfl (by decide +kernel) rfl dX7_copy_58 ?_
  refine g_put (ci := 7) (C := RX7) (T := TX7) (N := 11) (ty := .int) hx hb hts iX7_copy_X7 tyX7 tyX7_ok nmX7 hown hK ha mA_in hP hS (lt_V ho) (cM_V ho) rfl 7 (by decide) rfl (by decide +kernel) rfl (by decide +kernel) rfl rfl (Nat.le_of_ble_eq_true rfl) (cM_V_set ho (by decide)) dX7_copy_61 (fun H locs hP hS => ?_)
  refine lv_aload_n hx hb dX7_copy_64 rfl (lv_at hl 0 rfl) ?_
  refine lv_aload_n hx hb dX7_copy_65 rfl (lv_at hl 1 rfl) ?_
  refine g_get (ci := 7) (C := RX7) (T := TX7) (N := 11) (v := .int ((up2 (mX7_copy_3 S o o1) o 7 ((mX7_copy_3 S o o1) o1 7)) o1 8)) hx hb hts iX7_copy_X7 hown hK hP (lt_V ho1) (cM_V ho1) rfl 8 (by decide) rfl (by decide +kernel) rfl dX7_copy_66 ?_
  refine g_put (ci := 7) (C := RX7) (T := TX7) (N := 11) (ty := .int) hx hb hts iX7_copy_X7 tyX7 tyX7_ok nmX7 hown hK ha mA_in hP hS (lt_V ho) (cM_V ho) rfl 8 (by decide) rfl (by decide +kernel) rfl (by decide +kernel) rfl rfl (Nat.le_of_ble_eq_true rfl) (cM_V_set ho (by decide)) dX7_copy_69 (fun H locs hP hS => ?_)
  have hP : va_P G vwCl (wG 37 a (cM a cA) (mX7_copy_4 S o o1) L) H := hP
  refine lv_aload_n hx hb dX7_copy_72 rfl (lv_at hl 0 rfl) ?_
  refine lv_aload_n hx hb dX7_copy_73 rfl (lv_at hl 1 rfl) ?_
  refine g_get (ci := 7) (C := RX7) (T := TX7) (N := 11) (v := .int ((mX7_copy_4 S o o1) o1 9)) hx hb hts iX7_copy_X7 hown hK hP (lt_V ho1) (cM_V ho1) rfl 9 (by decide) rfl (by decide +kernel) rfl dX7_copy_74 ?_
  refine g_put (ci := 7) (C := RX7) (T := TX7) (N := 11) (ty := .int) hx hb hts iX7_copy_X7 tyX7 tyX7_ok nmX7 hown hK ha mA_in hP hS (lt_V ho) (cM_V ho) rfl 9 (by decide) rfl (by decide +kernel) rfl (by decide +kernel) rfl rfl (Nat.le_of_ble_eq_true rfl) (cM_V_set ho (by decide)) dX7_copy_77 (fun H locs hP hS => ?_)
  refine lv_aload_n hx hb dX7_copy_80 rfl (lv_at hl 0 rfl) ?_
  refine lv_aload_n hx hb dX7_copy_81 rfl (lv_at hl 1 rfl) ?_
  refine g_get (ci := 7) (C := RX7) (T := TX7) (N := 11) (v := .int ((up2 (mX7_copy_4 S o o1) o 9 ((mX7_copy_4 S o o1) o1 9)) o1 10)) hx hb hts iX7_copy_X7 hown hK hP (lt_V ho1) (cM_V ho1) rfl 10 (by decide) rfl (by decide +kernel) rfl dX7_copy_82 ?_
  refine g_put (ci := 7) (C := RX7) (T := TX7) (N := 11) (ty := .int) hx hb hts iX7_copy_X7 tyX7 tyX7_ok nmX7 hown hK ha mA_in hP hS (lt_V ho) (cM_V ho) rfl 10 (by decide) rfl (by decide +kernel) rfl (by decide +kernel) rfl rfl (Nat.le_of_ble_eq_true rfl) (cM_V_set ho (by decide)) dX7_copy_85 (fun H locs hP hS => ?_)
  have hP : va_P G vwCl (wG 37 a (cM a cA) (mX7_copy_5 S o o1) L) H := hP
  exact g_vret hx hb hr hlocks (by unfold fX7_copy; rfl) rfl hP hS dX7_copy_88

def mX7_start_1 (S : Mm) (o : Nat) (p1 : Int32) (p2 : Int32) (p3 : Int32) (p4 : Int32) (p5 : Int32) : Mm := up2 (up2 (up2 (up2 (up2 (up2 S o 0 1) o 2 p1) o 3 p2) o 4 p3) o 9 p4) o 10 p5
def mX7_start_2 (S : Mm) (o : Nat) (p1 : Int32) (p2 : Int32) (p3 : Int32) (p4 : Int32) (p5 : Int32) : Mm := up2 (up2 (up2 (up2 (mX7_start_1 S o p1 p2 p3 p4 p5) o 5 0) o 6 0) o 7 0) o 8 0
def fX7_start (S : Mm) (o : Nat) (p1 : Int32) (p2 : Int32) (p3 : Int32) (p4 : Int32) (p5 : Int32) : Mm := (mX7_start_2 S o p1 p2 p3 p4 p5)
theorem iX7_start_X7 : ∀ w ∈ u_ws RX7 TX7 11, w ∈ wsX7_start := by decide +kernel
set_option maxHeartbeats 4000000 in
set_option maxRecDepth 100000 in
theorem c_X7_start (l : Launch) (G : va_G) (cA : ClassId) (a : Nat → Nat) (ha : apart 37 a) (S : Mm) (L : Int64) (sz : Nat) (o : Nat) (p1 : Int32) (p2 : Int32) (p3 : Int32) (p4 : Int32) (p5 : Int32) (ho : isV o) : Met l yX7_start wsX7_start ({ frames := 0, cells := 0, slots := 0, locals := 0 } : Room) (va_Pc [.ref (a o), .int p1, .int p2, .int p3, .int p4, .int p5] (gI G cA (a 37) 37 a (cM a cA) S L sz)) (gQv G 37 a (cM a cA) (fX7_start S o p1 p2 p3 p4 p5) L sz) 0 0 (mA 37 a sz) := by
  refine g_met (cc := cX7_start) (maxL := 6) (ret := none) (by decide) rfl (Nat.le_of_ble_eq_true rfl) ?_
  intro p e s m below meth c ls hx hb hr hlocks hml hts hown hnm hsz hK hP hS hl
  subst hsz
  have hl : lv_has ls 6 [(0, .ref (a o)), (1, .int p1), (2, .int p2), (3, .int p3), (4, .int p4), (5, .int p5)] := hl
  refine lv_aload_n hx hb dX7_start_0 rfl (lv_at hl 0 rfl) ?_
  refine lv_iconst (v := 1) hx hb dX7_start_1 (by decide) ?_
  refine g_put (ci := 7) (C := RX7) (T := TX7) (N := 11) (ty := .int) hx hb hts iX7_start_X7 tyX7 tyX7_ok nmX7 hown hK ha mA_in hP hS (lt_V ho) (cM_V ho) rfl 0 (by decide) rfl (by decide +kernel) rfl (by decide +kernel) rfl rfl (Nat.le_of_ble_eq_true rfl) (cM_V_set ho (by decide)) dX7_start_2 (fun H locs hP hS => ?_)
  refine lv_aload_n hx hb dX7_start_5 rfl (lv_at hl 0 rfl) ?_
  refine lv_iload_n hx hb dX7_start_6 rfl (lv_at hl 1 rfl) ?_
  refine g_put (ci := 7) (C := RX7) (T := TX7) (N := 11) (ty := .int) hx hb hts iX7_start_X7 tyX7 tyX7_ok nmX7 hown hK ha mA_in hP hS (lt_V ho) (cM_V ho) rfl 2 (by decide) rfl (by decide +kernel) rfl (by decide +kernel) rfl rfl (Nat.le_of_ble_eq_true rfl) (cM_V_set ho (by decide)) dX7_start_7 (fun H locs hP hS => ?_)
  refine lv_aload_n hx hb dX7_start_10 rfl (lv_at hl 0 rfl) ?_
  refine lv_iload_n hx hb dX7_start_11 rfl (lv_at hl 2 rfl) ?_
  refine g_put (ci := 7) (C := RX7) (T := TX7) (N := 11) (ty := .int) hx hb hts iX7_start_X7 tyX7 tyX7_ok nmX7 hown hK ha mA_in hP hS (lt_V ho) (cM_V ho) rfl 3 (by decide) rfl (by decide +kernel) rfl (by decide +kernel) rfl rfl (Nat.le_of_ble_eq_true rfl) (cM_V_set ho (by decide)) dX7_start_12 (fun H locs hP hS => ?_)
  refine lv_aload_n hx hb dX7_start_15 rfl (lv_at hl 0 rfl) ?_
  refine lv_iload_n hx hb dX7_start_16 rfl (lv_at hl 3 rfl) ?_
  refine g_put (ci := 7) (C := RX7) (T := TX7) (N := 11) (ty := .int) hx hb hts iX7_start_X7 tyX7 tyX7_ok nmX7 hown hK ha mA_in hP hS (lt_V ho) (cM_V ho) rfl 4 (by decide) rfl (by decide +kernel) rfl (by decide +kernel) rfl rfl (Nat.le_of_ble_eq_true rfl) (cM_V_set ho (by decide)) dX7_start_17 (fun H locs hP hS => ?_)
  refine lv_aload_n hx hb dX7_start_20 rfl (lv_at hl 0 rfl) ?_
  refine lv_iload hx hb dX7_start_21 (lv_at hl 4 rfl) ?_
  refine g_put (ci := 7) (C := RX7) (T := TX7) (N := 11) (ty := .int) hx hb hts iX7_start_X7 tyX7 tyX7_ok nmX7 hown hK ha mA_in hP hS (lt_V ho) (cM_V ho) rfl 9 (by decide) rfl (by decide +kernel) rfl (by decide +kernel) rfl rfl (Nat.le_of_ble_eq_true rfl) (cM_V_set ho (by decide)) dX7_start_23 (fun H locs hP hS => ?_)
  refine lv_aload_n hx hb dX7_start_26 rfl (lv_at hl 0 rfl) ?_
  refine lv_iload hx hb dX7_start_27 (lv_at hl 5 rfl) ?_
  refine g_put (ci := 7) (C := RX7) (T := TX7) (N := 11) (ty := .int) hx hb hts iX7_start_X7 tyX7 tyX7_ok nmX7 hown hK ha mA_in hP hS (lt_V ho) (cM_V ho) rfl 10 (by decide) rfl (by decide +kernel) rfl (by decide +kernel) rfl rfl (Nat.le_of_ble_eq_true rfl) (cM_V_set ho (by decide)) dX7_start_29 (fun H locs hP hS => ?_)
  have hP : va_P G vwCl (wG 37 a (cM a cA) (mX7_start_1 S o p1 p2 p3 p4 p5) L) H := hP
  refine lv_aload_n hx hb dX7_start_32 rfl (lv_at hl 0 rfl) ?_
  refine lv_iconst (v := 0) hx hb dX7_start_33 (by decide) ?_
  refine g_put (ci := 7) (C := RX7) (T := TX7) (N := 11) (ty := .int) hx hb hts iX7_start_X7 tyX7 tyX7_ok nmX7 hown hK ha mA_in hP hS (lt_V ho) (cM_V ho) rfl 5 (by decide) rfl (by decide +kernel) rfl (by decide +kernel) rfl rfl (Nat.le_of_ble_eq_true rfl) (cM_V_set ho (by decide)) dX7_start_34 (fun H locs hP hS => ?_)
  refine lv_aload_n hx hb dX7_start_37 rfl (lv_at hl 0 rfl) ?_
  refine lv_iconst (v := 0) hx hb dX7_start_38 (by decide) ?_
  refine g_put (ci := 7) (C := RX7) (T := TX7) (N := 11) (ty := .int) hx hb hts iX7_start_X7 tyX7 tyX7_ok nmX7 hown hK ha mA_in hP hS (lt_V ho) (cM_V ho) rfl 6 (by decide) rfl (by decide +kernel) rfl (by decide +kernel) rfl rfl (Nat.le_of_ble_eq_true rfl) (cM_V_set ho (by decide)) dX7_start_39 (fun H locs hP hS => ?_)
  refine lv_aload_n hx hb dX7_start_42 rfl (lv_at hl 0 rfl) ?_
  refine lv_iconst (v := 0) hx hb dX7_start_43 (by decide) ?_
  refine g_put (ci := 7) (C := RX7) (T := TX7) (N := 11) (ty := .int) hx hb hts iX7_start_X7 tyX7 tyX7_ok nmX7 hown hK ha mA_in hP hS (lt_V ho) (cM_V ho) rfl 7 (by decide) rfl (by decide +kernel) rfl (by decide +kernel) rfl rfl (Nat.le_of_ble_eq_true rfl) (cM_V_set ho (by decide)) dX7_start_44 (fun H locs hP hS => ?_)
  refine lv_aload_n hx hb dX7_start_47 rfl (lv_at hl 0 rfl) ?_
  refine lv_iconst (v := 0) hx hb dX7_start_48 (by decide) ?_
  refine g_put (ci := 7) (C := RX7) (T := TX7) (N := 11) (ty := .int) hx hb hts iX7_start_X7 tyX7 tyX7_ok nmX7 hown hK ha mA_in hP hS (lt_V ho) (cM_V ho) rfl 8 (by decide) rfl (by decide +kernel) rfl (by decide +kernel) rfl rfl (Nat.le_of_ble_eq_true rfl) (cM_V_set ho (by decide)) dX7_start_49 (fun H locs hP hS => ?_)
  have hP : va_P G vwCl (wG 37 a (cM a cA) (mX7_start_2 S o p1 p2 p3 p4 p5) L) H := hP
  exact g_vret hx hb hr hlocks (by unfold fX7_start; rfl) rfl hP hS dX7_start_52

def fX7_silence (S : Mm) (o : Nat) : Mm := up2 (up2 (up2 S o 0 0) o 1 0) o 9 (-1)
theorem iX7_silence_X7 : ∀ w ∈ u_ws RX7 TX7 11, w ∈ wsX7_silence := by decide +kernel
set_option maxHeartbeats 4000000 in
set_option maxRecDepth 100000 in
theorem c_X7_silence (l : Launch) (G : va_G) (cA : ClassId) (a : Nat → Nat) (ha : apart 37 a) (S : Mm) (L : Int64) (sz : Nat) (o : Nat) (ho : isV o) : Met l yX7_silence wsX7_silence ({ frames := 0, cells := 0, slots := 0, locals := 0 } : Room) (va_Pc [.ref (a o)] (gI G cA (a 37) 37 a (cM a cA) S L sz)) (gQv G 37 a (cM a cA) (fX7_silence S o) L sz) 0 0 (mA 37 a sz) := by
  refine g_met (cc := cX7_silence) (maxL := 1) (ret := none) (by decide) rfl (Nat.le_of_ble_eq_true rfl) ?_
  intro p e s m below meth c ls hx hb hr hlocks hml hts hown hnm hsz hK hP hS hl
  subst hsz
  have hl : lv_has ls 1 [(0, .ref (a o))] := hl
  refine lv_aload_n hx hb dX7_silence_0 rfl (lv_at hl 0 rfl) ?_
  refine lv_iconst (v := 0) hx hb dX7_silence_1 (by decide) ?_
  refine g_put (ci := 7) (C := RX7) (T := TX7) (N := 11) (ty := .int) hx hb hts iX7_silence_X7 tyX7 tyX7_ok nmX7 hown hK ha mA_in hP hS (lt_V ho) (cM_V ho) rfl 0 (by decide) rfl (by decide +kernel) rfl (by decide +kernel) rfl rfl (Nat.le_of_ble_eq_true rfl) (cM_V_set ho (by decide)) dX7_silence_2 (fun H locs hP hS => ?_)
  refine lv_aload_n hx hb dX7_silence_5 rfl (lv_at hl 0 rfl) ?_
  refine lv_iconst (v := 0) hx hb dX7_silence_6 (by decide) ?_
  refine g_put (ci := 7) (C := RX7) (T := TX7) (N := 11) (ty := .int) hx hb hts iX7_silence_X7 tyX7 tyX7_ok nmX7 hown hK ha mA_in hP hS (lt_V ho) (cM_V ho) rfl 1 (by decide) rfl (by decide +kernel) rfl (by decide +kernel) rfl rfl (Nat.le_of_ble_eq_true rfl) (cM_V_set ho (by decide)) dX7_silence_7 (fun H locs hP hS => ?_)
  refine lv_aload_n hx hb dX7_silence_10 rfl (lv_at hl 0 rfl) ?_
  refine lv_iconst (v := (-1)) hx hb dX7_silence_11 (by decide) ?_
  refine g_put (ci := 7) (C := RX7) (T := TX7) (N := 11) (ty := .int) hx hb hts iX7_silence_X7 tyX7 tyX7_ok nmX7 hown hK ha mA_in hP hS (lt_V ho) (cM_V ho) rfl 9 (by decide) rfl (by decide +kernel) rfl (by decide +kernel) rfl rfl (Nat.le_of_ble_eq_true rfl) (cM_V_set ho (by decide)) dX7_silence_12 (fun H locs hP hS => ?_)
  exact g_vret hx hb hr hlocks (by unfold fX7_silence; rfl) rfl hP hS dX7_silence_15

def fX7_closeGate (S : Mm) (o : Nat) : Mm := (if S o 9 = 0 then up2 (fX7_release S o) o 9 (-1) else S)
theorem iX7_closeGate_X7 : ∀ w ∈ u_ws RX7 TX7 11, w ∈ wsX7_closeGate := by decide +kernel
set_option maxHeartbeats 4000000 in
set_option maxRecDepth 100000 in
theorem c_X7_closeGate (l : Launch) (G : va_G) (cA : ClassId) (a : Nat → Nat) (ha : apart 37 a) (S : Mm) (L : Int64) (sz : Nat) (o : Nat) (ho : isV o) : Met l yX7_closeGate wsX7_closeGate ({ frames := 1, cells := 0, slots := 0, locals := 20 } : Room) (va_Pc [.ref (a o)] (gI G cA (a 37) 37 a (cM a cA) S L sz)) (gQv G 37 a (cM a cA) (fX7_closeGate S o) L sz) 0 0 (mA 37 a sz) := by
  refine g_met (cc := cX7_closeGate) (maxL := 1) (ret := none) (by decide) rfl (Nat.le_of_ble_eq_true rfl) ?_
  intro p e s m below meth c ls hx hb hr hlocks hml hts hown hnm hsz hK hP hS hl
  subst hsz
  have hl : lv_has ls 1 [(0, .ref (a o))] := hl
  refine lv_aload_n hx hb dX7_closeGate_0 rfl (lv_at hl 0 rfl) ?_
  refine g_get (ci := 7) (C := RX7) (T := TX7) (N := 11) (v := .int (S o 9)) hx hb hts iX7_closeGate_X7 hown hK hP (lt_V ho) (cM_V ho) rfl 9 (by decide) rfl (by decide +kernel) rfl dX7_closeGate_1 ?_
  refine lv_if_ne (tgt := 16) hx hb dX7_closeGate_4 (by decide) (fun c1 => ?_) (fun c1 => ?_)
  ·
    exact g_vret hx hb hr hlocks (by unfold fX7_closeGate; rw [if_neg c1]) rfl hP hS dX7_closeGate_16
  ·
    refine lv_aload_n hx hb dX7_closeGate_7 rfl (lv_at hl 0 rfl) ?_
    refine g_cVv (As := []) (rest := []) ⟨hx, hb, hml, hown, hts⟩ (c_X7_release l G cA a ha S L s.heap.size o ho ) (cwV 0 hts gX7_closeGate_X7_release rfl rfl rfl (by decide +kernel) ⟨Nat.le_of_ble_eq_true rfl, Nat.le_of_ble_eq_true rfl⟩) (g_recv hK hP (lt_V ho) (cM_V ho) (C := RX7) (T := TX7) (N := 11) rfl) hK (mA_mono hS.1) hP hS rfl hl.1 rfl (lv_room (Nat.le_of_ble_eq_true rfl)) dX7_closeGate_8 ⟨Nat.le_of_ble_eq_true rfl, Nat.le_of_ble_eq_true rfl⟩ (fun H locs hP hS _ _ => ?_)
    refine lv_aload_n hx hb dX7_closeGate_11 rfl (lv_at hl 0 rfl) ?_
    refine lv_iconst (v := (-1)) hx hb dX7_closeGate_12 (by decide) ?_
    refine g_put (ci := 7) (C := RX7) (T := TX7) (N := 11) (ty := .int) hx hb hts iX7_closeGate_X7 tyX7 tyX7_ok nmX7 hown hK ha mA_in hP hS (lt_V ho) (cM_V ho) rfl 9 (by decide) rfl (by decide +kernel) rfl (by decide +kernel) rfl rfl (Nat.le_of_ble_eq_true rfl) (cM_V_set ho (by decide)) dX7_closeGate_13 (fun H locs hP hS => ?_)
    exact g_vret hx hb hr hlocks (by unfold fX7_closeGate; rw [if_pos c1]) rfl hP hS dX7_closeGate_16

def fX7_countGate (S : Mm) (o : Nat) : Mm := (if S o 9 ≤ 0 then S else up2 S o 9 ((S o 9) - 1))
theorem iX7_countGate_X7 : ∀ w ∈ u_ws RX7 TX7 11, w ∈ wsX7_countGate := by decide +kernel
set_option maxHeartbeats 4000000 in
set_option maxRecDepth 100000 in
theorem c_X7_countGate (l : Launch) (G : va_G) (cA : ClassId) (a : Nat → Nat) (ha : apart 37 a) (S : Mm) (L : Int64) (sz : Nat) (o : Nat) (ho : isV o) : Met l yX7_countGate wsX7_countGate ({ frames := 0, cells := 0, slots := 0, locals := 0 } : Room) (va_Pc [.ref (a o)] (gI G cA (a 37) 37 a (cM a cA) S L sz)) (gQv G 37 a (cM a cA) (fX7_countGate S o) L sz) 0 0 (mA 37 a sz) := by
  refine g_met (cc := cX7_countGate) (maxL := 1) (ret := none) (by decide) rfl (Nat.le_of_ble_eq_true rfl) ?_
  intro p e s m below meth c ls hx hb hr hlocks hml hts hown hnm hsz hK hP hS hl
  subst hsz
  have hl : lv_has ls 1 [(0, .ref (a o))] := hl
  refine lv_aload_n hx hb dX7_countGate_0 rfl (lv_at hl 0 rfl) ?_
  refine g_get (ci := 7) (C := RX7) (T := TX7) (N := 11) (v := .int (S o 9)) hx hb hts iX7_countGate_X7 hown hK hP (lt_V ho) (cM_V ho) rfl 9 (by decide) rfl (by decide +kernel) rfl dX7_countGate_1 ?_
  refine lv_if_le (tgt := 17) hx hb dX7_countGate_4 (by decide) (fun c1 => ?_) (fun c1 => ?_)
  ·
    exact g_vret hx hb hr hlocks (by unfold fX7_countGate; rw [if_pos c1]) rfl hP hS dX7_countGate_17
  ·
    refine lv_aload_n hx hb dX7_countGate_7 rfl (lv_at hl 0 rfl) ?_
    refine lv_dup hx hb dX7_countGate_8 rfl ?_
    refine g_get (ci := 7) (C := RX7) (T := TX7) (N := 11) (v := .int (S o 9)) hx hb hts iX7_countGate_X7 hown hK hP (lt_V ho) (cM_V ho) rfl 9 (by decide) rfl (by decide +kernel) rfl dX7_countGate_9 ?_
    refine lv_iconst (v := 1) hx hb dX7_countGate_12 (by decide) ?_
    refine lv_isub hx hb dX7_countGate_13 ?_
    refine g_put (ci := 7) (C := RX7) (T := TX7) (N := 11) (ty := .int) hx hb hts iX7_countGate_X7 tyX7 tyX7_ok nmX7 hown hK ha mA_in hP hS (lt_V ho) (cM_V ho) rfl 9 (by decide) rfl (by decide +kernel) rfl (by decide +kernel) rfl rfl (Nat.le_of_ble_eq_true rfl) (cM_V_set ho (by decide)) dX7_countGate_14 (fun H locs hP hS => ?_)
    exact g_vret hx hb hr hlocks (by unfold fX7_countGate; rw [if_neg c1]) rfl hP hS dX7_countGate_17

def mX7_moveLevel_1 (S : Mm) (o : Nat) (o1 : Nat) : Mm := up2 (up2 S o 1 ((S o 1) + (rX9_quotient (1000000 : Int32) (S o1 4)))) o 1 1000000
def mX7_moveLevel_2 (S : Mm) (o : Nat) (o1 : Nat) : Mm := up2 S o 1 ((S o 1) - ((rX9_quotient (1000000 - (1000 * (S o1 6))) (S o1 5)) + 1))
def mX7_moveLevel_3 (S : Mm) (o : Nat) (o1 : Nat) : Mm := up2 (up2 S o 1 ((S o 1) - (rX9_quotient (1000000 : Int32) (S o1 7)))) o 1 0
def fX7_moveLevel (S : Mm) (o : Nat) (o1 : Nat) : Mm := (if S o 0 = 1 then (if (up2 S o 1 ((S o 1) + (rX9_quotient (1000000 : Int32) (S o1 4)))) o 1 < 1000000 then up2 S o 1 ((S o 1) + (rX9_quotient (1000000 : Int32) (S o1 4))) else up2 (mX7_moveLevel_1 S o o1) o 0 2) else (if S o 0 = 2 then (if 1000 * (S o1 6) < (mX7_moveLevel_2 S o o1) o 1 then (mX7_moveLevel_2 S o o1) else up2 (up2 (mX7_moveLevel_2 S o o1) o 1 (1000 * (S o1 6))) o 0 3) else (if S o 0 = 3 then up2 S o 1 (1000 * (S o1 6)) else (if S o 0 = 4 then (if 0 < (up2 S o 1 ((S o 1) - (rX9_quotient (1000000 : Int32) (S o1 7)))) o 1 then up2 S o 1 ((S o 1) - (rX9_quotient (1000000 : Int32) (S o1 7))) else up2 (mX7_moveLevel_3 S o o1) o 0 0) else S))))
theorem iX7_moveLevel_X1 : ∀ w ∈ u_ws RX1 TX1 12, w ∈ wsX7_moveLevel := by decide +kernel
theorem iX7_moveLevel_X7 : ∀ w ∈ u_ws RX7 TX7 11, w ∈ wsX7_moveLevel := by decide +kernel
set_option maxHeartbeats 4000000 in
set_option maxRecDepth 100000 in
theorem c_X7_moveLevel (l : Launch) (G : va_G) (cA : ClassId) (a : Nat → Nat) (ha : apart 37 a) (S : Mm) (L : Int64) (sz : Nat) (o : Nat) (o1 : Nat) (ho : isV o) (ho1 : isI o1) : Met l yX7_moveLevel wsX7_moveLevel ({ frames := 1, cells := 0, slots := 0, locals := 21 } : Room) (va_Pc [.ref (a o), .ref (a o1)] (gI G cA (a 37) 37 a (cM a cA) S L sz)) (gQv G 37 a (cM a cA) (fX7_moveLevel S o o1) L sz) 0 0 (mA 37 a sz) := by
  refine g_met (cc := cX7_moveLevel) (maxL := 3) (ret := none) (by decide) rfl (Nat.le_of_ble_eq_true rfl) ?_
  intro p e s m below meth c ls hx hb hr hlocks hml hts hown hnm hsz hK hP hS hl
  subst hsz
  have hl : lv_has ls 3 [(0, .ref (a o)), (1, .ref (a o1))] := hl
  refine lv_sipush (v := 1000) hx hb dX7_moveLevel_0 (by decide) ?_
  refine lv_aload_n hx hb dX7_moveLevel_3 rfl (lv_at hl 1 rfl) ?_
  refine g_get (ci := 1) (C := RX1) (T := TX1) (N := 12) (v := .int (S o1 6)) hx hb hts iX7_moveLevel_X1 hown hK hP (lt_I ho1) (cM_I ho1) rfl 6 (by decide) rfl (by decide +kernel) rfl dX7_moveLevel_4 ?_
  refine lv_imul hx hb dX7_moveLevel_7 ?_
  refine lv_istore_n (lv' := [(2, .int (1000 * (S o1 6))), (0, .ref (a o)), (1, .ref (a o1))]) hx hb dX7_moveLevel_8 rfl hl (by decide) rfl (fun ls hl => ?_)
  refine lv_aload_n hx hb dX7_moveLevel_9 rfl (lv_at hl 1 rfl) ?_
  refine g_get (ci := 7) (C := RX7) (T := TX7) (N := 11) (v := .int (S o 0)) hx hb hts iX7_moveLevel_X7 hown hK hP (lt_V ho) (cM_V ho) rfl 0 (by decide) rfl (by decide +kernel) rfl dX7_moveLevel_10 ?_
  by_cases c1 : S o 0 = 1
  ·
    refine lv_tableIn (off := 31) (tgt := 44) hx hb dX7_moveLevel_13 (by rw [c1]; decide) (by rw [c1]; decide) (by rw [c1]; rfl) (by decide) ?_
    refine lv_aload_n hx hb dX7_moveLevel_44 rfl (lv_at hl 1 rfl) ?_
    refine lv_dup hx hb dX7_moveLevel_45 rfl ?_
    refine g_get (ci := 7) (C := RX7) (T := TX7) (N := 11) (v := .int (S o 1)) hx hb hts iX7_moveLevel_X7 hown hK hP (lt_V ho) (cM_V ho) rfl 1 (by decide) rfl (by decide +kernel) rfl dX7_moveLevel_46 ?_
    refine lv_ldc (v := 1000000) hx hb hown (hts (.constant RX7 69 1000000) (by decide +kernel)) dX7_moveLevel_49 ?_
    refine lv_aload_n hx hb dX7_moveLevel_51 rfl (lv_at hl 2 rfl) ?_
    refine g_get (ci := 1) (C := RX1) (T := TX1) (N := 12) (v := .int (S o1 4)) hx hb hts iX7_moveLevel_X1 hown hK hP (lt_I ho1) (cM_I ho1) rfl 4 (by decide) rfl (by decide +kernel) rfl dX7_moveLevel_52 ?_
    refine g_cNi (As := [.int 1000000, .int (S o1 4)]) (rest := [.int (S o 1), .ref (a o)]) ⟨hx, hb, hml, hown, hts⟩ (c_X9_quotient l G cA a ha S L s.heap.size (1000000 : Int32) (S o1 4)  ) (va_cnB 2 hts gX7_moveLevel_X9_quotient_n73 rfl rfl rfl (hK.2.1.at (q := ("Melodeon$Voice", 73, yX9_quotient, "Melodeon")) (by decide +kernel)) (hts (.initialized RX9) (by decide +kernel)) (by decide +kernel) ⟨Nat.le_of_ble_eq_true rfl, Nat.le_of_ble_eq_true rfl⟩) (hts (.static yX9_quotient) (by decide +kernel)) hK (mA_mono hS.1) hP hS rfl hl.1 rfl (lv_room (Nat.le_of_ble_eq_true rfl)) dX7_moveLevel_55 ⟨Nat.le_of_ble_eq_true rfl, Nat.le_of_ble_eq_true rfl⟩ (fun H locs hP hS _ _ => ?_)
    refine lv_iadd hx hb dX7_moveLevel_58 ?_
    refine g_put (ci := 7) (C := RX7) (T := TX7) (N := 11) (ty := .int) hx hb hts iX7_moveLevel_X7 tyX7 tyX7_ok nmX7 hown hK ha mA_in hP hS (lt_V ho) (cM_V ho) rfl 1 (by decide) rfl (by decide +kernel) rfl (by decide +kernel) rfl rfl (Nat.le_of_ble_eq_true rfl) (cM_V_set ho (by decide)) dX7_moveLevel_59 (fun H locs hP hS => ?_)
    refine lv_aload_n hx hb dX7_moveLevel_62 rfl (lv_at hl 1 rfl) ?_
    refine g_get (ci := 7) (C := RX7) (T := TX7) (N := 11) (v := .int ((up2 S o 1 ((S o 1) + (rX9_quotient (1000000 : Int32) (S o1 4)))) o 1)) hx hb hts iX7_moveLevel_X7 hown hK hP (lt_V ho) (cM_V ho) rfl 1 (by decide) rfl (by decide +kernel) rfl dX7_moveLevel_63 ?_
    refine lv_ldc (v := 1000000) hx hb hown (hts (.constant RX7 69 1000000) (by decide +kernel)) dX7_moveLevel_66 ?_
    refine lv_icmp_lt (tgt := 174) hx hb dX7_moveLevel_68 (by decide) (fun c2 => ?_) (fun c2 => ?_)
    ·
      exact g_vret hx hb hr hlocks (by unfold fX7_moveLevel; rw [if_pos c1, if_pos c2]) rfl hP hS dX7_moveLevel_174
    ·
      refine lv_aload_n hx hb dX7_moveLevel_71 rfl (lv_at hl 1 rfl) ?_
      refine lv_ldc (v := 1000000) hx hb hown (hts (.constant RX7 69 1000000) (by decide +kernel)) dX7_moveLevel_72 ?_
      refine g_put (ci := 7) (C := RX7) (T := TX7) (N := 11) (ty := .int) hx hb hts iX7_moveLevel_X7 tyX7 tyX7_ok nmX7 hown hK ha mA_in hP hS (lt_V ho) (cM_V ho) rfl 1 (by decide) rfl (by decide +kernel) rfl (by decide +kernel) rfl rfl (Nat.le_of_ble_eq_true rfl) (cM_V_set ho (by decide)) dX7_moveLevel_74 (fun H locs hP hS => ?_)
      have hP : va_P G vwCl (wG 37 a (cM a cA) (mX7_moveLevel_1 S o o1) L) H := hP
      refine lv_aload_n hx hb dX7_moveLevel_77 rfl (lv_at hl 1 rfl) ?_
      refine lv_iconst (v := 2) hx hb dX7_moveLevel_78 (by decide) ?_
      refine g_put (ci := 7) (C := RX7) (T := TX7) (N := 11) (ty := .int) hx hb hts iX7_moveLevel_X7 tyX7 tyX7_ok nmX7 hown hK ha mA_in hP hS (lt_V ho) (cM_V ho) rfl 0 (by decide) rfl (by decide +kernel) rfl (by decide +kernel) rfl rfl (Nat.le_of_ble_eq_true rfl) (cM_V_set ho (by decide)) dX7_moveLevel_79 (fun H locs hP hS => ?_)
      refine lv_goto (tgt := 174) hx hb dX7_moveLevel_82 (by decide) ?_
      exact g_vret hx hb hr hlocks (by unfold fX7_moveLevel; rw [if_pos c1, if_neg c2]) rfl hP hS dX7_moveLevel_174
  ·
    by_cases c3 : S o 0 = 2
    ·
      refine lv_tableIn (off := 72) (tgt := 85) hx hb dX7_moveLevel_13 (by rw [c3]; decide) (by rw [c3]; decide) (by rw [c3]; rfl) (by decide) ?_
      refine lv_aload_n hx hb dX7_moveLevel_85 rfl (lv_at hl 1 rfl) ?_
      refine lv_dup hx hb dX7_moveLevel_86 rfl ?_
      refine g_get (ci := 7) (C := RX7) (T := TX7) (N := 11) (v := .int (S o 1)) hx hb hts iX7_moveLevel_X7 hown hK hP (lt_V ho) (cM_V ho) rfl 1 (by decide) rfl (by decide +kernel) rfl dX7_moveLevel_87 ?_
      refine lv_ldc (v := 1000000) hx hb hown (hts (.constant RX7 69 1000000) (by decide +kernel)) dX7_moveLevel_90 ?_
      refine lv_iload_n hx hb dX7_moveLevel_92 rfl (lv_at hl 0 rfl) ?_
      refine lv_isub hx hb dX7_moveLevel_93 ?_
      refine lv_aload_n hx hb dX7_moveLevel_94 rfl (lv_at hl 2 rfl) ?_
      refine g_get (ci := 1) (C := RX1) (T := TX1) (N := 12) (v := .int (S o1 5)) hx hb hts iX7_moveLevel_X1 hown hK hP (lt_I ho1) (cM_I ho1) rfl 5 (by decide) rfl (by decide +kernel) rfl dX7_moveLevel_95 ?_
      refine g_cNi (As := [.int (1000000 - (1000 * (S o1 6))), .int (S o1 5)]) (rest := [.int (S o 1), .ref (a o)]) ⟨hx, hb, hml, hown, hts⟩ (c_X9_quotient l G cA a ha S L s.heap.size (1000000 - (1000 * (S o1 6))) (S o1 5)  ) (va_cnB 2 hts gX7_moveLevel_X9_quotient_n73 rfl rfl rfl (hK.2.1.at (q := ("Melodeon$Voice", 73, yX9_quotient, "Melodeon")) (by decide +kernel)) (hts (.initialized RX9) (by decide +kernel)) (by decide +kernel) ⟨Nat.le_of_ble_eq_true rfl, Nat.le_of_ble_eq_true rfl⟩) (hts (.static yX9_quotient) (by decide +kernel)) hK (mA_mono hS.1) hP hS rfl hl.1 rfl (lv_room (Nat.le_of_ble_eq_true rfl)) dX7_moveLevel_98 ⟨Nat.le_of_ble_eq_true rfl, Nat.le_of_ble_eq_true rfl⟩ (fun H locs hP hS _ _ => ?_)
      refine lv_iconst (v := 1) hx hb dX7_moveLevel_101 (by decide) ?_
      refine lv_iadd hx hb dX7_moveLevel_102 ?_
      refine lv_isub hx hb dX7_moveLevel_103 ?_
      refine g_put (ci := 7) (C := RX7) (T := TX7) (N := 11) (ty := .int) hx hb hts iX7_moveLevel_X7 tyX7 tyX7_ok nmX7 hown hK ha mA_in hP hS (lt_V ho) (cM_V ho) rfl 1 (by decide) rfl (by decide +kernel) rfl (by decide +kernel) rfl rfl (Nat.le_of_ble_eq_true rfl) (cM_V_set ho (by decide)) dX7_moveLevel_104 (fun H locs hP hS => ?_)
      have hP : va_P G vwCl (wG 37 a (cM a cA) (mX7_moveLevel_2 S o o1) L) H := hP
      refine lv_aload_n hx hb dX7_moveLevel_107 rfl (lv_at hl 1 rfl) ?_
      refine g_get (ci := 7) (C := RX7) (T := TX7) (N := 11) (v := .int ((mX7_moveLevel_2 S o o1) o 1)) hx hb hts iX7_moveLevel_X7 hown hK hP (lt_V ho) (cM_V ho) rfl 1 (by decide) rfl (by decide +kernel) rfl dX7_moveLevel_108 ?_
      refine lv_iload_n hx hb dX7_moveLevel_111 rfl (lv_at hl 0 rfl) ?_
      refine lv_icmp_gt (tgt := 174) hx hb dX7_moveLevel_112 (by decide) (fun c4 => ?_) (fun c4 => ?_)
      ·
        exact g_vret hx hb hr hlocks (by unfold fX7_moveLevel; rw [if_neg c1, if_pos c3, if_pos c4]) rfl hP hS dX7_moveLevel_174
      ·
        refine lv_aload_n hx hb dX7_moveLevel_115 rfl (lv_at hl 1 rfl) ?_
        refine lv_iload_n hx hb dX7_moveLevel_116 rfl (lv_at hl 0 rfl) ?_
        refine g_put (ci := 7) (C := RX7) (T := TX7) (N := 11) (ty := .int) hx hb hts iX7_moveLevel_X7 tyX7 tyX7_ok nmX7 hown hK ha mA_in hP hS (lt_V ho) (cM_V ho) rfl 1 (by decide) rfl (by decide +kernel) rfl (by decide +kernel) rfl rfl (Nat.le_of_ble_eq_true rfl) (cM_V_set ho (by decide)) dX7_moveLevel_117 (fun H locs hP hS => ?_)
        refine lv_aload_n hx hb dX7_moveLevel_120 rfl (lv_at hl 1 rfl) ?_
        refine lv_iconst (v := 3) hx hb dX7_moveLevel_121 (by decide) ?_
        refine g_put (ci := 7) (C := RX7) (T := TX7) (N := 11) (ty := .int) hx hb hts iX7_moveLevel_X7 tyX7 tyX7_ok nmX7 hown hK ha mA_in hP hS (lt_V ho) (cM_V ho) rfl 0 (by decide) rfl (by decide +kernel) rfl (by decide +kernel) rfl rfl (Nat.le_of_ble_eq_true rfl) (cM_V_set ho (by decide)) dX7_moveLevel_122 (fun H locs hP hS => ?_)
        refine lv_goto (tgt := 174) hx hb dX7_moveLevel_125 (by decide) ?_
        exact g_vret hx hb hr hlocks (by unfold fX7_moveLevel; rw [if_neg c1, if_pos c3, if_neg c4]) rfl hP hS dX7_moveLevel_174
    ·
      by_cases c5 : S o 0 = 3
      ·
        refine lv_tableIn (off := 115) (tgt := 128) hx hb dX7_moveLevel_13 (by rw [c5]; decide) (by rw [c5]; decide) (by rw [c5]; rfl) (by decide) ?_
        refine lv_aload_n hx hb dX7_moveLevel_128 rfl (lv_at hl 1 rfl) ?_
        refine lv_iload_n hx hb dX7_moveLevel_129 rfl (lv_at hl 0 rfl) ?_
        refine g_put (ci := 7) (C := RX7) (T := TX7) (N := 11) (ty := .int) hx hb hts iX7_moveLevel_X7 tyX7 tyX7_ok nmX7 hown hK ha mA_in hP hS (lt_V ho) (cM_V ho) rfl 1 (by decide) rfl (by decide +kernel) rfl (by decide +kernel) rfl rfl (Nat.le_of_ble_eq_true rfl) (cM_V_set ho (by decide)) dX7_moveLevel_130 (fun H locs hP hS => ?_)
        refine lv_goto (tgt := 174) hx hb dX7_moveLevel_133 (by decide) ?_
        exact g_vret hx hb hr hlocks (by unfold fX7_moveLevel; rw [if_neg c1, if_neg c3, if_pos c5]) rfl hP hS dX7_moveLevel_174
      ·
        by_cases c6 : S o 0 = 4
        ·
          refine lv_tableIn (off := 123) (tgt := 136) hx hb dX7_moveLevel_13 (by rw [c6]; decide) (by rw [c6]; decide) (by rw [c6]; rfl) (by decide) ?_
          refine lv_aload_n hx hb dX7_moveLevel_136 rfl (lv_at hl 1 rfl) ?_
          refine lv_dup hx hb dX7_moveLevel_137 rfl ?_
          refine g_get (ci := 7) (C := RX7) (T := TX7) (N := 11) (v := .int (S o 1)) hx hb hts iX7_moveLevel_X7 hown hK hP (lt_V ho) (cM_V ho) rfl 1 (by decide) rfl (by decide +kernel) rfl dX7_moveLevel_138 ?_
          refine lv_ldc (v := 1000000) hx hb hown (hts (.constant RX7 69 1000000) (by decide +kernel)) dX7_moveLevel_141 ?_
          refine lv_aload_n hx hb dX7_moveLevel_143 rfl (lv_at hl 2 rfl) ?_
          refine g_get (ci := 1) (C := RX1) (T := TX1) (N := 12) (v := .int (S o1 7)) hx hb hts iX7_moveLevel_X1 hown hK hP (lt_I ho1) (cM_I ho1) rfl 7 (by decide) rfl (by decide +kernel) rfl dX7_moveLevel_144 ?_
          refine g_cNi (As := [.int 1000000, .int (S o1 7)]) (rest := [.int (S o 1), .ref (a o)]) ⟨hx, hb, hml, hown, hts⟩ (c_X9_quotient l G cA a ha S L s.heap.size (1000000 : Int32) (S o1 7)  ) (va_cnB 2 hts gX7_moveLevel_X9_quotient_n73 rfl rfl rfl (hK.2.1.at (q := ("Melodeon$Voice", 73, yX9_quotient, "Melodeon")) (by decide +kernel)) (hts (.initialized RX9) (by decide +kernel)) (by decide +kernel) ⟨Nat.le_of_ble_eq_true rfl, Nat.le_of_ble_eq_true rfl⟩) (hts (.static yX9_quotient) (by decide +kernel)) hK (mA_mono hS.1) hP hS rfl hl.1 rfl (lv_room (Nat.le_of_ble_eq_true rfl)) dX7_moveLevel_147 ⟨Nat.le_of_ble_eq_true rfl, Nat.le_of_ble_eq_true rfl⟩ (fun H locs hP hS _ _ => ?_)
          refine lv_isub hx hb dX7_moveLevel_150 ?_
          refine g_put (ci := 7) (C := RX7) (T := TX7) (N := 11) (ty := .int) hx hb hts iX7_moveLevel_X7 tyX7 tyX7_ok nmX7 hown hK ha mA_in hP hS (lt_V ho) (cM_V ho) rfl 1 (by decide) rfl (by decide +kernel) rfl (by decide +kernel) rfl rfl (Nat.le_of_ble_eq_true rfl) (cM_V_set ho (by decide)) dX7_moveLevel_151 (fun H locs hP hS => ?_)
          refine lv_aload_n hx hb dX7_moveLevel_154 rfl (lv_at hl 1 rfl) ?_
          refine g_get (ci := 7) (C := RX7) (T := TX7) (N := 11) (v := .int ((up2 S o 1 ((S o 1) - (rX9_quotient (1000000 : Int32) (S o1 7)))) o 1)) hx hb hts iX7_moveLevel_X7 hown hK hP (lt_V ho) (cM_V ho) rfl 1 (by decide) rfl (by decide +kernel) rfl dX7_moveLevel_155 ?_
          refine lv_if_gt (tgt := 174) hx hb dX7_moveLevel_158 (by decide) (fun c7 => ?_) (fun c7 => ?_)
          ·
            exact g_vret hx hb hr hlocks (by unfold fX7_moveLevel; rw [if_neg c1, if_neg c3, if_neg c5, if_pos c6, if_pos c7]) rfl hP hS dX7_moveLevel_174
          ·
            refine lv_aload_n hx hb dX7_moveLevel_161 rfl (lv_at hl 1 rfl) ?_
            refine lv_iconst (v := 0) hx hb dX7_moveLevel_162 (by decide) ?_
            refine g_put (ci := 7) (C := RX7) (T := TX7) (N := 11) (ty := .int) hx hb hts iX7_moveLevel_X7 tyX7 tyX7_ok nmX7 hown hK ha mA_in hP hS (lt_V ho) (cM_V ho) rfl 1 (by decide) rfl (by decide +kernel) rfl (by decide +kernel) rfl rfl (Nat.le_of_ble_eq_true rfl) (cM_V_set ho (by decide)) dX7_moveLevel_163 (fun H locs hP hS => ?_)
            have hP : va_P G vwCl (wG 37 a (cM a cA) (mX7_moveLevel_3 S o o1) L) H := hP
            refine lv_aload_n hx hb dX7_moveLevel_166 rfl (lv_at hl 1 rfl) ?_
            refine lv_iconst (v := 0) hx hb dX7_moveLevel_167 (by decide) ?_
            refine g_put (ci := 7) (C := RX7) (T := TX7) (N := 11) (ty := .int) hx hb hts iX7_moveLevel_X7 tyX7 tyX7_ok nmX7 hown hK ha mA_in hP hS (lt_V ho) (cM_V ho) rfl 0 (by decide) rfl (by decide +kernel) rfl (by decide +kernel) rfl rfl (Nat.le_of_ble_eq_true rfl) (cM_V_set ho (by decide)) dX7_moveLevel_168 (fun H locs hP hS => ?_)
            refine lv_goto (tgt := 174) hx hb dX7_moveLevel_171 (by decide) ?_
            exact g_vret hx hb hr hlocks (by unfold fX7_moveLevel; rw [if_neg c1, if_neg c3, if_neg c5, if_pos c6, if_neg c7]) rfl hP hS dX7_moveLevel_174
        ·
          refine lv_tableOut (tgt := 174) hx hb dX7_moveLevel_13 (by have := lv_neT c1 (a := 1) rfl; have := lv_neT c3 (a := 2) rfl; have := lv_neT c5 (a := 3) rfl; have := lv_neT c6 (a := 4) rfl; omega) (by decide) ?_
          exact g_vret hx hb hr hlocks (by unfold fX7_moveLevel; rw [if_neg c1, if_neg c3, if_neg c5, if_neg c6]) rfl hP hS dX7_moveLevel_174

def mX7_oscillate_1 (S : Mm) (o : Nat) (o1 : Nat) (p3 : Int32) : Mm := up2 S o 5 (rJ9_floorMod_7cf53 ((S o 5) + ((rX9_strideOf S (S o 3)) + (rX1_vibratoAt S o1 p3))) (65536 : Int32))
def vX7_oscillate_2 (S : Mm) (o : Nat) (o1 : Nat) (p3 : Int32) : Int32 := (((mX7_oscillate_1 S o o1 p3) o 6) + ((rX9_strideOf S (S o 3)) + (rX1_vibratoAt S o1 p3))) + ((mX7_oscillate_1 S o o1 p3) o1 2)
def mX7_oscillate_3 (S : Mm) (o : Nat) (o1 : Nat) (p3 : Int32) : Mm := up2 (mX7_oscillate_1 S o o1 p3) o 6 (rJ9_floorMod_7cf53 (vX7_oscillate_2 S o o1 p3) (65536 : Int32))
def vX7_oscillate_4 (S : Mm) (o : Nat) (o1 : Nat) (p3 : Int32) : Int32 := ((rX8_at S (S o1 0) (S o 5)) * (100 - ((mX7_oscillate_3 S o o1 p3) o1 3))) + ((rX8_at S (S o1 1) (S o 6)) * ((mX7_oscillate_3 S o o1 p3) o1 3))
def rX7_oscillate (S : Mm) (o : Nat) (o1 : Nat) (p3 : Int32) : Int32 := (vX7_oscillate_4 S o o1 p3) / 100
def fX7_oscillate (S : Mm) (o : Nat) (o1 : Nat) (p3 : Int32) : Mm := (mX7_oscillate_3 S o o1 p3)
theorem iX7_oscillate_X1 : ∀ w ∈ u_ws RX1 TX1 12, w ∈ wsX7_oscillate := by decide +kernel
theorem iX7_oscillate_X7 : ∀ w ∈ u_ws RX7 TX7 11, w ∈ wsX7_oscillate := by decide +kernel
set_option maxHeartbeats 4000000 in
set_option maxRecDepth 100000 in
theorem c_X7_oscillate (l : Launch) (G : va_G) (cA : ClassId) (a : Nat → Nat) (ha : apart 37 a) (S : Mm) (L : Int64) (sz : Nat) (o : Nat) (o1 : Nat) (p3 : Int32) (ho : isV o) (ho1 : isI o1) : Met l yX7_oscillate wsX7_oscillate ({ frames := 3, cells := 0, slots := 0, locals := 70 } : Room) (va_Pc [.ref (a o), .ref (a o1), .ref (a 2), .int p3] (gI G cA (a 37) 37 a (cM a cA) S L sz)) (gQi (rX7_oscillate S o o1 p3) G 37 a (cM a cA) (fX7_oscillate S o o1 p3) L sz) 0 0 (mA 37 a sz) := by
  refine g_met (cc := cX7_oscillate) (maxL := 7) (ret := (some .int)) (by decide) rfl (Nat.le_of_ble_eq_true rfl) ?_
  intro p e s m below meth c ls hx hb hr hlocks hml hts hown hnm hsz hK hP hS hl
  subst hsz
  have hl : lv_has ls 7 [(0, .ref (a o)), (1, .ref (a o1)), (2, .ref (a 2)), (3, .int p3)] := hl
  refine lv_aload_n hx hb dX7_oscillate_0 rfl (lv_at hl 2 rfl) ?_
  refine lv_aload_n hx hb dX7_oscillate_1 rfl (lv_at hl 1 rfl) ?_
  refine g_get (ci := 1) (C := RX1) (T := TX1) (N := 12) (v := .int (S o1 0)) hx hb hts iX7_oscillate_X1 hown hK hP (lt_I ho1) (cM_I ho1) rfl 0 (by decide) rfl (by decide +kernel) rfl dX7_oscillate_2 ?_
  refine lv_aload_n hx hb dX7_oscillate_5 rfl (lv_at hl 0 rfl) ?_
  refine g_get (ci := 7) (C := RX7) (T := TX7) (N := 11) (v := .int (S o 5)) hx hb hts iX7_oscillate_X7 hown hK hP (lt_V ho) (cM_V ho) rfl 5 (by decide) rfl (by decide +kernel) rfl dX7_oscillate_6 ?_
  refine g_cVi (As := [.int (S o1 0), .int (S o 5)]) (rest := []) ⟨hx, hb, hml, hown, hts⟩ (c_X8_at l G cA a ha S L s.heap.size (S o1 0) (S o 5)  ) (cwV 2 hts gX7_oscillate_X8_at rfl rfl rfl (by decide +kernel) ⟨Nat.le_of_ble_eq_true rfl, Nat.le_of_ble_eq_true rfl⟩) (g_recv hK hP (by decide) rfl (C := RX8) (T := TX8) (N := 1) rfl) hK (mA_mono hS.1) hP hS rfl hl.1 rfl (lv_room (Nat.le_of_ble_eq_true rfl)) dX7_oscillate_9 ⟨Nat.le_of_ble_eq_true rfl, Nat.le_of_ble_eq_true rfl⟩ (fun H locs hP hS _ _ => ?_)
  refine lv_istore (lv' := [(4, .int (rX8_at S (S o1 0) (S o 5))), (0, .ref (a o)), (1, .ref (a o1)), (2, .ref (a 2)), (3, .int p3)]) hx hb dX7_oscillate_12 hl (by decide) rfl (fun ls hl => ?_)
  refine lv_aload_n hx hb dX7_oscillate_14 rfl (lv_at hl 3 rfl) ?_
  refine lv_aload_n hx hb dX7_oscillate_15 rfl (lv_at hl 2 rfl) ?_
  refine g_get (ci := 1) (C := RX1) (T := TX1) (N := 12) (v := .int (S o1 1)) hx hb hts iX7_oscillate_X1 hown hK hP (lt_I ho1) (cM_I ho1) rfl 1 (by decide) rfl (by decide +kernel) rfl dX7_oscillate_16 ?_
  refine lv_aload_n hx hb dX7_oscillate_19 rfl (lv_at hl 1 rfl) ?_
  refine g_get (ci := 7) (C := RX7) (T := TX7) (N := 11) (v := .int (S o 6)) hx hb hts iX7_oscillate_X7 hown hK hP (lt_V ho) (cM_V ho) rfl 6 (by decide) rfl (by decide +kernel) rfl dX7_oscillate_20 ?_
  refine g_cVi (As := [.int (S o1 1), .int (S o 6)]) (rest := []) ⟨hx, hb, hml, hown, hts⟩ (c_X8_at l G cA a ha S L H.size (S o1 1) (S o 6)  ) (cwV 2 hts gX7_oscillate_X8_at rfl rfl rfl (by decide +kernel) ⟨Nat.le_of_ble_eq_true rfl, Nat.le_of_ble_eq_true rfl⟩) (g_recv hK hP (by decide) rfl (C := RX8) (T := TX8) (N := 1) rfl) hK (mA_mono hS.1) hP hS rfl hl.1 rfl (lv_room (Nat.le_of_ble_eq_true rfl)) dX7_oscillate_23 ⟨Nat.le_of_ble_eq_true rfl, Nat.le_of_ble_eq_true rfl⟩ (fun H locs hP hS _ _ => ?_)
  refine lv_istore (lv' := [(5, .int (rX8_at S (S o1 1) (S o 6))), (4, .int (rX8_at S (S o1 0) (S o 5))), (0, .ref (a o)), (1, .ref (a o1)), (2, .ref (a 2)), (3, .int p3)]) hx hb dX7_oscillate_26 hl (by decide) rfl (fun ls hl => ?_)
  refine lv_aload_n hx hb dX7_oscillate_28 rfl (lv_at hl 2 rfl) ?_
  refine g_get (ci := 7) (C := RX7) (T := TX7) (N := 11) (v := .int (S o 3)) hx hb hts iX7_oscillate_X7 hown hK hP (lt_V ho) (cM_V ho) rfl 3 (by decide) rfl (by decide +kernel) rfl dX7_oscillate_29 ?_
  refine g_cNi (As := [.int (S o 3)]) (rest := []) ⟨hx, hb, hml, hown, hts⟩ (c_X9_strideOf l G cA a ha S L H.size (S o 3)  ) (va_cnB 1 hts gX7_oscillate_X9_strideOf_n93 rfl rfl rfl (hK.2.1.at (q := ("Melodeon$Voice", 93, yX9_strideOf, "Melodeon")) (by decide +kernel)) (hts (.initialized RX9) (by decide +kernel)) (by decide +kernel) ⟨Nat.le_of_ble_eq_true rfl, Nat.le_of_ble_eq_true rfl⟩) (hts (.static yX9_strideOf) (by decide +kernel)) hK (mA_mono hS.1) hP hS rfl hl.1 rfl (lv_room (Nat.le_of_ble_eq_true rfl)) dX7_oscillate_32 ⟨Nat.le_of_ble_eq_true rfl, Nat.le_of_ble_eq_true rfl⟩ (fun H locs hP hS _ _ => ?_)
  refine lv_aload_n hx hb dX7_oscillate_35 rfl (lv_at hl 3 rfl) ?_
  refine lv_iload_n hx hb dX7_oscillate_36 rfl (lv_at hl 5 rfl) ?_
  refine lv_aload_n hx hb dX7_oscillate_37 rfl (lv_at hl 4 rfl) ?_
  refine g_cVi (As := [.int p3, .ref (a 2)]) (rest := [.int (rX9_strideOf S (S o 3))]) ⟨hx, hb, hml, hown, hts⟩ (c_X1_vibratoAt l G cA a ha S L H.size o1 p3 ho1 ) (cwV 2 hts gX7_oscillate_X1_vibratoAt rfl rfl rfl (by decide +kernel) ⟨Nat.le_of_ble_eq_true rfl, Nat.le_of_ble_eq_true rfl⟩) (g_recv hK hP (lt_I ho1) (cM_I ho1) (C := RX1) (T := TX1) (N := 12) rfl) hK (mA_mono hS.1) hP hS rfl hl.1 rfl (lv_room (Nat.le_of_ble_eq_true rfl)) dX7_oscillate_38 ⟨Nat.le_of_ble_eq_true rfl, Nat.le_of_ble_eq_true rfl⟩ (fun H locs hP hS _ _ => ?_)
  refine lv_iadd hx hb dX7_oscillate_41 ?_
  refine lv_istore (lv' := [(6, .int ((rX9_strideOf S (S o 3)) + (rX1_vibratoAt S o1 p3))), (5, .int (rX8_at S (S o1 1) (S o 6))), (4, .int (rX8_at S (S o1 0) (S o 5))), (0, .ref (a o)), (1, .ref (a o1)), (2, .ref (a 2)), (3, .int p3)]) hx hb dX7_oscillate_42 hl (by decide) rfl (fun ls hl => ?_)
  refine lv_aload_n hx hb dX7_oscillate_44 rfl (lv_at hl 3 rfl) ?_
  refine lv_aload_n hx hb dX7_oscillate_45 rfl (lv_at hl 3 rfl) ?_
  refine g_get (ci := 7) (C := RX7) (T := TX7) (N := 11) (v := .int (S o 5)) hx hb hts iX7_oscillate_X7 hown hK hP (lt_V ho) (cM_V ho) rfl 5 (by decide) rfl (by decide +kernel) rfl dX7_oscillate_46 ?_
  refine lv_iload hx hb dX7_oscillate_49 (lv_at hl 0 rfl) ?_
  refine lv_iadd hx hb dX7_oscillate_51 ?_
  refine lv_ldc (v := 65536) hx hb hown (hts (.constant RX7 101 65536) (by decide +kernel)) dX7_oscillate_52 ?_
  refine g_cSi (As := [.int ((S o 5) + ((rX9_strideOf S (S o 3)) + (rX1_vibratoAt S o1 p3))), .int 65536]) (rest := [.ref (a o)]) ⟨hx, hb, hml, hown, hts⟩ (c_J9_floorMod_7cf53 l G cA a ha S L H.size ((S o 5) + ((rX9_strideOf S (S o 3)) + (rX1_vibratoAt S o1 p3))) (65536 : Int32)  (by decide)) (va_cwS 2 hts gX7_oscillate_J9_floorMod_7cf53 rfl rfl rfl (by decide +kernel) ⟨Nat.le_of_ble_eq_true rfl, Nat.le_of_ble_eq_true rfl⟩) hK (mA_mono hS.1) hP hS rfl hl.1 rfl (lv_room (Nat.le_of_ble_eq_true rfl)) dX7_oscillate_54 ⟨Nat.le_of_ble_eq_true rfl, Nat.le_of_ble_eq_true rfl⟩ (fun H locs hP hS _ _ => ?_)
  refine g_put (ci := 7) (C := RX7) (T := TX7) (N := 11) (ty := .int) hx hb hts iX7_oscillate_X7 tyX7 tyX7_ok nmX7 hown hK ha mA_in hP hS (lt_V ho) (cM_V ho) rfl 5 (by decide) rfl (by decide +kernel) rfl (by decide +kernel) rfl rfl (Nat.le_of_ble_eq_true rfl) (cM_V_set ho (by decide)) dX7_oscillate_57 (fun H locs hP hS => ?_)
  have hP : va_P G vwCl (wG 37 a (cM a cA) (mX7_oscillate_1 S o o1 p3) L) H := hP
  refine lv_aload_n hx hb dX7_oscillate_60 rfl (lv_at hl 3 rfl) ?_
  refine lv_aload_n hx hb dX7_oscillate_61 rfl (lv_at hl 3 rfl) ?_
  refine g_get (ci := 7) (C := RX7) (T := TX7) (N := 11) (v := .int ((mX7_oscillate_1 S o o1 p3) o 6)) hx hb hts iX7_oscillate_X7 hown hK hP (lt_V ho) (cM_V ho) rfl 6 (by decide) rfl (by decide +kernel) rfl dX7_oscillate_62 ?_
  refine lv_iload hx hb dX7_oscillate_65 (lv_at hl 0 rfl) ?_
  refine lv_iadd hx hb dX7_oscillate_67 ?_
  refine lv_aload_n hx hb dX7_oscillate_68 rfl (lv_at hl 4 rfl) ?_
  refine g_get (ci := 1) (C := RX1) (T := TX1) (N := 12) (v := .int ((mX7_oscillate_1 S o o1 p3) o1 2)) hx hb hts iX7_oscillate_X1 hown hK hP (lt_I ho1) (cM_I ho1) rfl 2 (by decide) rfl (by decide +kernel) rfl dX7_oscillate_69 ?_
  refine lv_iadd hx hb dX7_oscillate_72 ?_
  refine W.eq (g2 := F0 m 73 ls [.int (vX7_oscillate_2 S o o1 p3), .ref (a o)]) rfl ?_
  refine lv_ldc (v := 65536) hx hb hown (hts (.constant RX7 101 65536) (by decide +kernel)) dX7_oscillate_73 ?_
  refine g_cSi (As := [.int (vX7_oscillate_2 S o o1 p3), .int 65536]) (rest := [.ref (a o)]) ⟨hx, hb, hml, hown, hts⟩ (c_J9_floorMod_7cf53 l G cA a ha (mX7_oscillate_1 S o o1 p3) L H.size (vX7_oscillate_2 S o o1 p3) (65536 : Int32)  (by decide)) (va_cwS 2 hts gX7_oscillate_J9_floorMod_7cf53 rfl rfl rfl (by decide +kernel) ⟨Nat.le_of_ble_eq_true rfl, Nat.le_of_ble_eq_true rfl⟩) hK (mA_mono hS.1) hP hS rfl hl.1 rfl (lv_room (Nat.le_of_ble_eq_true rfl)) dX7_oscillate_75 ⟨Nat.le_of_ble_eq_true rfl, Nat.le_of_ble_eq_true rfl⟩ (fun H locs hP hS _ _ => ?_)
  refine g_put (ci := 7) (C := RX7) (T := TX7) (N := 11) (ty := .int) hx hb hts iX7_oscillate_X7 tyX7 tyX7_ok nmX7 hown hK ha mA_in hP hS (lt_V ho) (cM_V ho) rfl 6 (by decide) rfl (by decide +kernel) rfl (by decide +kernel) rfl rfl (Nat.le_of_ble_eq_true rfl) (cM_V_set ho (by decide)) dX7_oscillate_78 (fun H locs hP hS => ?_)
  have hP : va_P G vwCl (wG 37 a (cM a cA) (mX7_oscillate_3 S o o1 p3) L) H := hP
  refine lv_iload hx hb dX7_oscillate_81 (lv_at hl 2 rfl) ?_
  refine lv_bipush (v := 100) hx hb dX7_oscillate_83 (by decide) ?_
  refine lv_aload_n hx hb dX7_oscillate_85 rfl (lv_at hl 4 rfl) ?_
  refine g_get (ci := 1) (C := RX1) (T := TX1) (N := 12) (v := .int ((mX7_oscillate_3 S o o1 p3) o1 3)) hx hb hts iX7_oscillate_X1 hown hK hP (lt_I ho1) (cM_I ho1) rfl 3 (by decide) rfl (by decide +kernel) rfl dX7_oscillate_86 ?_
  refine lv_isub hx hb dX7_oscillate_89 ?_
  refine lv_imul hx hb dX7_oscillate_90 ?_
  refine lv_iload hx hb dX7_oscillate_91 (lv_at hl 1 rfl) ?_
  refine lv_aload_n hx hb dX7_oscillate_93 rfl (lv_at hl 4 rfl) ?_
  refine g_get (ci := 1) (C := RX1) (T := TX1) (N := 12) (v := .int ((mX7_oscillate_3 S o o1 p3) o1 3)) hx hb hts iX7_oscillate_X1 hown hK hP (lt_I ho1) (cM_I ho1) rfl 3 (by decide) rfl (by decide +kernel) rfl dX7_oscillate_94 ?_
  refine lv_imul hx hb dX7_oscillate_97 ?_
  refine lv_iadd hx hb dX7_oscillate_98 ?_
  refine W.eq (g2 := F0 m 99 ls [.int (vX7_oscillate_4 S o o1 p3)]) rfl ?_
  refine lv_bipush (v := 100) hx hb dX7_oscillate_99 (by decide) ?_
  refine lv_idiv hx hb dX7_oscillate_101 (by decide) ?_
  exact g_iret hx hb hr hlocks (by unfold rX7_oscillate; rfl) (by unfold fX7_oscillate; rfl) rfl hP hS dX7_oscillate_102

def mX7_filter_1 (S : Mm) (o : Nat) (o1 : Nat) (p2 : Int32) : Mm := up2 S o 7 (rX9_kept ((S o 7) + (((S o1 8) * (S o 8)) / 256)) (4000 : Int32))
def vX7_filter_2 (S : Mm) (o : Nat) (o1 : Nat) (p2 : Int32) : Int32 := (p2 - ((mX7_filter_1 S o o1 p2) o 7)) - ((((mX7_filter_1 S o o1 p2) o1 9) * ((mX7_filter_1 S o o1 p2) o 8)) / 256)
def vX7_filter_3 (S : Mm) (o : Nat) (o1 : Nat) (p2 : Int32) : Int32 := ((mX7_filter_1 S o o1 p2) o 8) + ((((mX7_filter_1 S o o1 p2) o1 8) * (vX7_filter_2 S o o1 p2)) / 256)
def mX7_filter_4 (S : Mm) (o : Nat) (o1 : Nat) (p2 : Int32) : Mm := up2 (mX7_filter_1 S o o1 p2) o 8 (rX9_kept (vX7_filter_3 S o o1 p2) (4000 : Int32))
def fX7_filter (S : Mm) (o : Nat) (o1 : Nat) (p2 : Int32) : Mm := (mX7_filter_4 S o o1 p2)
theorem iX7_filter_X1 : ∀ w ∈ u_ws RX1 TX1 12, w ∈ wsX7_filter := by decide +kernel
theorem iX7_filter_X7 : ∀ w ∈ u_ws RX7 TX7 11, w ∈ wsX7_filter := by decide +kernel
set_option maxHeartbeats 4000000 in
set_option maxRecDepth 100000 in
theorem c_X7_filter (l : Launch) (G : va_G) (cA : ClassId) (a : Nat → Nat) (ha : apart 37 a) (S : Mm) (L : Int64) (sz : Nat) (o : Nat) (o1 : Nat) (p2 : Int32) (ho : isV o) (ho1 : isI o1) : Met l yX7_filter wsX7_filter ({ frames := 2, cells := 0, slots := 0, locals := 42 } : Room) (va_Pc [.ref (a o), .ref (a o1), .int p2] (gI G cA (a 37) 37 a (cM a cA) S L sz)) (gQv G 37 a (cM a cA) (fX7_filter S o o1 p2) L sz) 0 0 (mA 37 a sz) := by
  refine g_met (cc := cX7_filter) (maxL := 4) (ret := none) (by decide) rfl (Nat.le_of_ble_eq_true rfl) ?_
  intro p e s m below meth c ls hx hb hr hlocks hml hts hown hnm hsz hK hP hS hl
  subst hsz
  have hl : lv_has ls 4 [(0, .ref (a o)), (1, .ref (a o1)), (2, .int p2)] := hl
  refine lv_aload_n hx hb dX7_filter_0 rfl (lv_at hl 0 rfl) ?_
  refine lv_aload_n hx hb dX7_filter_1 rfl (lv_at hl 0 rfl) ?_
  refine g_get (ci := 7) (C := RX7) (T := TX7) (N := 11) (v := .int (S o 7)) hx hb hts iX7_filter_X7 hown hK hP (lt_V ho) (cM_V ho) rfl 7 (by decide) rfl (by decide +kernel) rfl dX7_filter_2 ?_
  refine lv_aload_n hx hb dX7_filter_5 rfl (lv_at hl 1 rfl) ?_
  refine g_get (ci := 1) (C := RX1) (T := TX1) (N := 12) (v := .int (S o1 8)) hx hb hts iX7_filter_X1 hown hK hP (lt_I ho1) (cM_I ho1) rfl 8 (by decide) rfl (by decide +kernel) rfl dX7_filter_6 ?_
  refine lv_aload_n hx hb dX7_filter_9 rfl (lv_at hl 0 rfl) ?_
  refine g_get (ci := 7) (C := RX7) (T := TX7) (N := 11) (v := .int (S o 8)) hx hb hts iX7_filter_X7 hown hK hP (lt_V ho) (cM_V ho) rfl 8 (by decide) rfl (by decide +kernel) rfl dX7_filter_10 ?_
  refine lv_imul hx hb dX7_filter_13 ?_
  refine lv_sipush (v := 256) hx hb dX7_filter_14 (by decide) ?_
  refine lv_idiv hx hb dX7_filter_17 (by decide) ?_
  refine lv_iadd hx hb dX7_filter_18 ?_
  refine lv_sipush (v := 4000) hx hb dX7_filter_19 (by decide) ?_
  refine g_cNi (As := [.int ((S o 7) + (((S o1 8) * (S o 8)) / 256)), .int 4000]) (rest := [.ref (a o)]) ⟨hx, hb, hml, hown, hts⟩ (c_X9_kept l G cA a ha S L s.heap.size ((S o 7) + (((S o1 8) * (S o 8)) / 256)) (4000 : Int32)  ) (va_cnB 2 hts gX7_filter_X9_kept_n116 rfl rfl rfl (hK.2.1.at (q := ("Melodeon$Voice", 116, yX9_kept, "Melodeon")) (by decide +kernel)) (hts (.initialized RX9) (by decide +kernel)) (by decide +kernel) ⟨Nat.le_of_ble_eq_true rfl, Nat.le_of_ble_eq_true rfl⟩) (hts (.static yX9_kept) (by decide +kernel)) hK (mA_mono hS.1) hP hS rfl hl.1 rfl (lv_room (Nat.le_of_ble_eq_true rfl)) dX7_filter_22 ⟨Nat.le_of_ble_eq_true rfl, Nat.le_of_ble_eq_true rfl⟩ (fun H locs hP hS _ _ => ?_)
  refine g_put (ci := 7) (C := RX7) (T := TX7) (N := 11) (ty := .int) hx hb hts iX7_filter_X7 tyX7 tyX7_ok nmX7 hown hK ha mA_in hP hS (lt_V ho) (cM_V ho) rfl 7 (by decide) rfl (by decide +kernel) rfl (by decide +kernel) rfl rfl (Nat.le_of_ble_eq_true rfl) (cM_V_set ho (by decide)) dX7_filter_25 (fun H locs hP hS => ?_)
  have hP : va_P G vwCl (wG 37 a (cM a cA) (mX7_filter_1 S o o1 p2) L) H := hP
  refine lv_iload_n hx hb dX7_filter_28 rfl (lv_at hl 2 rfl) ?_
  refine lv_aload_n hx hb dX7_filter_29 rfl (lv_at hl 0 rfl) ?_
  refine g_get (ci := 7) (C := RX7) (T := TX7) (N := 11) (v := .int ((mX7_filter_1 S o o1 p2) o 7)) hx hb hts iX7_filter_X7 hown hK hP (lt_V ho) (cM_V ho) rfl 7 (by decide) rfl (by decide +kernel) rfl dX7_filter_30 ?_
  refine lv_isub hx hb dX7_filter_33 ?_
  refine lv_aload_n hx hb dX7_filter_34 rfl (lv_at hl 1 rfl) ?_
  refine g_get (ci := 1) (C := RX1) (T := TX1) (N := 12) (v := .int ((mX7_filter_1 S o o1 p2) o1 9)) hx hb hts iX7_filter_X1 hown hK hP (lt_I ho1) (cM_I ho1) rfl 9 (by decide) rfl (by decide +kernel) rfl dX7_filter_35 ?_
  refine lv_aload_n hx hb dX7_filter_38 rfl (lv_at hl 0 rfl) ?_
  refine g_get (ci := 7) (C := RX7) (T := TX7) (N := 11) (v := .int ((mX7_filter_1 S o o1 p2) o 8)) hx hb hts iX7_filter_X7 hown hK hP (lt_V ho) (cM_V ho) rfl 8 (by decide) rfl (by decide +kernel) rfl dX7_filter_39 ?_
  refine lv_imul hx hb dX7_filter_42 ?_
  refine lv_sipush (v := 256) hx hb dX7_filter_43 (by decide) ?_
  refine lv_idiv hx hb dX7_filter_46 (by decide) ?_
  refine lv_isub hx hb dX7_filter_47 ?_
  refine W.eq (g2 := F0 m 48 ls [.int (vX7_filter_2 S o o1 p2)]) rfl ?_
  refine lv_istore_n (lv' := [(3, .int (vX7_filter_2 S o o1 p2)), (0, .ref (a o)), (1, .ref (a o1)), (2, .int p2)]) hx hb dX7_filter_48 rfl hl (by decide) rfl (fun ls hl => ?_)
  refine lv_aload_n hx hb dX7_filter_49 rfl (lv_at hl 1 rfl) ?_
  refine lv_aload_n hx hb dX7_filter_50 rfl (lv_at hl 1 rfl) ?_
  refine g_get (ci := 7) (C := RX7) (T := TX7) (N := 11) (v := .int ((mX7_filter_1 S o o1 p2) o 8)) hx hb hts iX7_filter_X7 hown hK hP (lt_V ho) (cM_V ho) rfl 8 (by decide) rfl (by decide +kernel) rfl dX7_filter_51 ?_
  refine lv_aload_n hx hb dX7_filter_54 rfl (lv_at hl 2 rfl) ?_
  refine g_get (ci := 1) (C := RX1) (T := TX1) (N := 12) (v := .int ((mX7_filter_1 S o o1 p2) o1 8)) hx hb hts iX7_filter_X1 hown hK hP (lt_I ho1) (cM_I ho1) rfl 8 (by decide) rfl (by decide +kernel) rfl dX7_filter_55 ?_
  refine lv_iload_n hx hb dX7_filter_58 rfl (lv_at hl 0 rfl) ?_
  refine lv_imul hx hb dX7_filter_59 ?_
  refine lv_sipush (v := 256) hx hb dX7_filter_60 (by decide) ?_
  refine lv_idiv hx hb dX7_filter_63 (by decide) ?_
  refine lv_iadd hx hb dX7_filter_64 ?_
  refine W.eq (g2 := F0 m 65 ls [.int (vX7_filter_3 S o o1 p2), .ref (a o)]) rfl ?_
  refine lv_sipush (v := 4000) hx hb dX7_filter_65 (by decide) ?_
  refine g_cNi (As := [.int (vX7_filter_3 S o o1 p2), .int 4000]) (rest := [.ref (a o)]) ⟨hx, hb, hml, hown, hts⟩ (c_X9_kept l G cA a ha (mX7_filter_1 S o o1 p2) L H.size (vX7_filter_3 S o o1 p2) (4000 : Int32)  ) (va_cnB 2 hts gX7_filter_X9_kept_n116 rfl rfl rfl (hK.2.1.at (q := ("Melodeon$Voice", 116, yX9_kept, "Melodeon")) (by decide +kernel)) (hts (.initialized RX9) (by decide +kernel)) (by decide +kernel) ⟨Nat.le_of_ble_eq_true rfl, Nat.le_of_ble_eq_true rfl⟩) (hts (.static yX9_kept) (by decide +kernel)) hK (mA_mono hS.1) hP hS rfl hl.1 rfl (lv_room (Nat.le_of_ble_eq_true rfl)) dX7_filter_68 ⟨Nat.le_of_ble_eq_true rfl, Nat.le_of_ble_eq_true rfl⟩ (fun H locs hP hS _ _ => ?_)
  refine g_put (ci := 7) (C := RX7) (T := TX7) (N := 11) (ty := .int) hx hb hts iX7_filter_X7 tyX7 tyX7_ok nmX7 hown hK ha mA_in hP hS (lt_V ho) (cM_V ho) rfl 8 (by decide) rfl (by decide +kernel) rfl (by decide +kernel) rfl rfl (Nat.le_of_ble_eq_true rfl) (cM_V_set ho (by decide)) dX7_filter_71 (fun H locs hP hS => ?_)
  have hP : va_P G vwCl (wG 37 a (cM a cA) (mX7_filter_4 S o o1 p2) L) H := hP
  exact g_vret hx hb hr hlocks (by unfold fX7_filter; rfl) rfl hP hS dX7_filter_74

def mX7_give_1 (S : Mm) (o : Nat) (o1 : Nat) (p3 : Int32) : Mm := fX7_filter (fX7_oscillate (fX7_moveLevel S o o1) o o1 p3) o o1 (rX7_oscillate (fX7_moveLevel S o o1) o o1 p3)
def vX7_give_2 (S : Mm) (o : Nat) (o1 : Nat) (p3 : Int32) : Int32 := ((((mX7_give_1 S o o1 p3) o 7) * ((mX7_give_1 S o o1 p3) o 4)) / 127) * (((mX7_give_1 S o o1 p3) o 1) / 1000)
def rX7_give (S : Mm) (o : Nat) (o1 : Nat) (p3 : Int32) : Int32 := (if (fX7_moveLevel S o o1) o 0 = 0 then 0 else (vX7_give_2 S o o1 p3) / 1000)
def fX7_give (S : Mm) (o : Nat) (o1 : Nat) (p3 : Int32) : Mm := (if (fX7_moveLevel S o o1) o 0 = 0 then fX7_moveLevel S o o1 else (mX7_give_1 S o o1 p3))
theorem iX7_give_X7 : ∀ w ∈ u_ws RX7 TX7 11, w ∈ wsX7_give := by decide +kernel
set_option maxHeartbeats 4000000 in
set_option maxRecDepth 100000 in
theorem c_X7_give (l : Launch) (G : va_G) (cA : ClassId) (a : Nat → Nat) (ha : apart 37 a) (S : Mm) (L : Int64) (sz : Nat) (o : Nat) (o1 : Nat) (p3 : Int32) (ho : isV o) (ho1 : isI o1) : Met l yX7_give wsX7_give ({ frames := 4, cells := 0, slots := 0, locals := 96 } : Room) (va_Pc [.ref (a o), .ref (a o1), .ref (a 2), .int p3] (gI G cA (a 37) 37 a (cM a cA) S L sz)) (gQi (rX7_give S o o1 p3) G 37 a (cM a cA) (fX7_give S o o1 p3) L sz) 0 0 (mA 37 a sz) := by
  refine g_met (cc := cX7_give) (maxL := 4) (ret := (some .int)) (by decide) rfl (Nat.le_of_ble_eq_true rfl) ?_
  intro p e s m below meth c ls hx hb hr hlocks hml hts hown hnm hsz hK hP hS hl
  subst hsz
  have hl : lv_has ls 4 [(0, .ref (a o)), (1, .ref (a o1)), (2, .ref (a 2)), (3, .int p3)] := hl
  refine lv_aload_n hx hb dX7_give_0 rfl (lv_at hl 0 rfl) ?_
  refine lv_aload_n hx hb dX7_give_1 rfl (lv_at hl 1 rfl) ?_
  refine g_cVv (As := [.ref (a o1)]) (rest := []) ⟨hx, hb, hml, hown, hts⟩ (c_X7_moveLevel l G cA a ha S L s.heap.size o o1 ho ho1 ) (cwV 1 hts gX7_give_X7_moveLevel rfl rfl rfl (by decide +kernel) ⟨Nat.le_of_ble_eq_true rfl, Nat.le_of_ble_eq_true rfl⟩) (g_recv hK hP (lt_V ho) (cM_V ho) (C := RX7) (T := TX7) (N := 11) rfl) hK (mA_mono hS.1) hP hS rfl hl.1 rfl (lv_room (Nat.le_of_ble_eq_true rfl)) dX7_give_2 ⟨Nat.le_of_ble_eq_true rfl, Nat.le_of_ble_eq_true rfl⟩ (fun H locs hP hS _ _ => ?_)
  refine lv_aload_n hx hb dX7_give_5 rfl (lv_at hl 0 rfl) ?_
  refine g_get (ci := 7) (C := RX7) (T := TX7) (N := 11) (v := .int ((fX7_moveLevel S o o1) o 0)) hx hb hts iX7_give_X7 hown hK hP (lt_V ho) (cM_V ho) rfl 0 (by decide) rfl (by decide +kernel) rfl dX7_give_6 ?_
  refine lv_if_ne (tgt := 14) hx hb dX7_give_9 (by decide) (fun c1 => ?_) (fun c1 => ?_)
  ·
    refine lv_aload_n hx hb dX7_give_14 rfl (lv_at hl 0 rfl) ?_
    refine lv_aload_n hx hb dX7_give_15 rfl (lv_at hl 1 rfl) ?_
    refine lv_aload_n hx hb dX7_give_16 rfl (lv_at hl 0 rfl) ?_
    refine lv_aload_n hx hb dX7_give_17 rfl (lv_at hl 1 rfl) ?_
    refine lv_aload_n hx hb dX7_give_18 rfl (lv_at hl 2 rfl) ?_
    refine lv_iload_n hx hb dX7_give_19 rfl (lv_at hl 3 rfl) ?_
    refine g_cVi (As := [.ref (a o1), .ref (a 2), .int p3]) (rest := [.ref (a o1), .ref (a o)]) ⟨hx, hb, hml, hown, hts⟩ (c_X7_oscillate l G cA a ha (fX7_moveLevel S o o1) L H.size o o1 p3 ho ho1 ) (cwV 3 hts gX7_give_X7_oscillate rfl rfl rfl (by decide +kernel) ⟨Nat.le_of_ble_eq_true rfl, Nat.le_of_ble_eq_true rfl⟩) (g_recv hK hP (lt_V ho) (cM_V ho) (C := RX7) (T := TX7) (N := 11) rfl) hK (mA_mono hS.1) hP hS rfl hl.1 rfl (lv_room (Nat.le_of_ble_eq_true rfl)) dX7_give_20 ⟨Nat.le_of_ble_eq_true rfl, Nat.le_of_ble_eq_true rfl⟩ (fun H locs hP hS _ _ => ?_)
    refine g_cVv (As := [.ref (a o1), .int (rX7_oscillate (fX7_moveLevel S o o1) o o1 p3)]) (rest := []) ⟨hx, hb, hml, hown, hts⟩ (c_X7_filter l G cA a ha (fX7_oscillate (fX7_moveLevel S o o1) o o1 p3) L H.size o o1 (rX7_oscillate (fX7_moveLevel S o o1) o o1 p3) ho ho1 ) (cwV 2 hts gX7_give_X7_filter rfl rfl rfl (by decide +kernel) ⟨Nat.le_of_ble_eq_true rfl, Nat.le_of_ble_eq_true rfl⟩) (g_recv hK hP (lt_V ho) (cM_V ho) (C := RX7) (T := TX7) (N := 11) rfl) hK (mA_mono hS.1) hP hS rfl hl.1 rfl (lv_room (Nat.le_of_ble_eq_true rfl)) dX7_give_23 ⟨Nat.le_of_ble_eq_true rfl, Nat.le_of_ble_eq_true rfl⟩ (fun H locs hP hS _ _ => ?_)
    have hP : va_P G vwCl (wG 37 a (cM a cA) (mX7_give_1 S o o1 p3) L) H := hP
    refine lv_aload_n hx hb dX7_give_26 rfl (lv_at hl 0 rfl) ?_
    refine g_get (ci := 7) (C := RX7) (T := TX7) (N := 11) (v := .int ((mX7_give_1 S o o1 p3) o 7)) hx hb hts iX7_give_X7 hown hK hP (lt_V ho) (cM_V ho) rfl 7 (by decide) rfl (by decide +kernel) rfl dX7_give_27 ?_
    refine lv_aload_n hx hb dX7_give_30 rfl (lv_at hl 0 rfl) ?_
    refine g_get (ci := 7) (C := RX7) (T := TX7) (N := 11) (v := .int ((mX7_give_1 S o o1 p3) o 4)) hx hb hts iX7_give_X7 hown hK hP (lt_V ho) (cM_V ho) rfl 4 (by decide) rfl (by decide +kernel) rfl dX7_give_31 ?_
    refine lv_imul hx hb dX7_give_34 ?_
    refine lv_bipush (v := 127) hx hb dX7_give_35 (by decide) ?_
    refine lv_idiv hx hb dX7_give_37 (by decide) ?_
    refine lv_aload_n hx hb dX7_give_38 rfl (lv_at hl 0 rfl) ?_
    refine g_get (ci := 7) (C := RX7) (T := TX7) (N := 11) (v := .int ((mX7_give_1 S o o1 p3) o 1)) hx hb hts iX7_give_X7 hown hK hP (lt_V ho) (cM_V ho) rfl 1 (by decide) rfl (by decide +kernel) rfl dX7_give_39 ?_
    refine lv_sipush (v := 1000) hx hb dX7_give_42 (by decide) ?_
    refine lv_idiv hx hb dX7_give_45 (by decide) ?_
    refine lv_imul hx hb dX7_give_46 ?_
    refine W.eq (g2 := F0 m 47 ls [.int (vX7_give_2 S o o1 p3)]) rfl ?_
    refine lv_sipush (v := 1000) hx hb dX7_give_47 (by decide) ?_
    refine lv_idiv hx hb dX7_give_50 (by decide) ?_
    exact g_iret hx hb hr hlocks (by unfold rX7_give; rw [if_neg c1]) (by unfold fX7_give; rw [if_neg c1]) rfl hP hS dX7_give_51
  ·
    refine lv_iconst (v := 0) hx hb dX7_give_12 (by decide) ?_
    exact g_iret hx hb hr hlocks (by unfold rX7_give; rw [if_pos c1]) (by unfold fX7_give; rw [if_pos c1]) rfl hP hS dX7_give_13

def rX7_fact (S : Mm) (o : Nat) (p1 : Int32) : Int32 := (if p1 = 0 then S o 0 else (if p1 = 1 then S o 1 else (if p1 = 2 then S o 2 else (if p1 = 3 then S o 3 else (if p1 = 4 then S o 4 else (if p1 = 5 then S o 5 else (if p1 = 6 then S o 6 else (if p1 = 7 then S o 7 else (if p1 = 8 then S o 8 else S o 9)))))))))
theorem iX7_fact_X7 : ∀ w ∈ u_ws RX7 TX7 11, w ∈ wsX7_fact := by decide +kernel
set_option maxHeartbeats 4000000 in
set_option maxRecDepth 100000 in
theorem c_X7_fact (l : Launch) (G : va_G) (cA : ClassId) (a : Nat → Nat) (ha : apart 37 a) (S : Mm) (L : Int64) (sz : Nat) (o : Nat) (p1 : Int32) (ho : isV o) : Met l yX7_fact wsX7_fact ({ frames := 0, cells := 0, slots := 0, locals := 0 } : Room) (va_Pc [.ref (a o), .int p1] (gI G cA (a 37) 37 a (cM a cA) S L sz)) (gQi (rX7_fact S o p1) G 37 a (cM a cA) S L sz) 0 0 (mA 37 a sz) := by
  refine g_met (cc := cX7_fact) (maxL := 2) (ret := (some .int)) (by decide) rfl (Nat.le_of_ble_eq_true rfl) ?_
  intro p e s m below meth c ls hx hb hr hlocks hml hts hown hnm hsz hK hP hS hl
  subst hsz
  have hl : lv_has ls 2 [(0, .ref (a o)), (1, .int p1)] := hl
  refine lv_iload_n hx hb dX7_fact_0 rfl (lv_at hl 1 rfl) ?_
  by_cases c1 : p1 = 0
  ·
    refine lv_tableIn (off := 51) (tgt := 52) hx hb dX7_fact_1 (by rw [c1]; decide) (by rw [c1]; decide) (by rw [c1]; rfl) (by decide) ?_
    refine lv_aload_n hx hb dX7_fact_52 rfl (lv_at hl 0 rfl) ?_
    refine g_get (ci := 7) (C := RX7) (T := TX7) (N := 11) (v := .int (S o 0)) hx hb hts iX7_fact_X7 hown hK hP (lt_V ho) (cM_V ho) rfl 0 (by decide) rfl (by decide +kernel) rfl dX7_fact_53 ?_
    exact g_iret hx hb hr hlocks (by unfold rX7_fact; rw [if_pos c1]) rfl rfl hP hS dX7_fact_56
  ·
    by_cases c2 : p1 = 1
    ·
      refine lv_tableIn (off := 56) (tgt := 57) hx hb dX7_fact_1 (by rw [c2]; decide) (by rw [c2]; decide) (by rw [c2]; rfl) (by decide) ?_
      refine lv_aload_n hx hb dX7_fact_57 rfl (lv_at hl 0 rfl) ?_
      refine g_get (ci := 7) (C := RX7) (T := TX7) (N := 11) (v := .int (S o 1)) hx hb hts iX7_fact_X7 hown hK hP (lt_V ho) (cM_V ho) rfl 1 (by decide) rfl (by decide +kernel) rfl dX7_fact_58 ?_
      exact g_iret hx hb hr hlocks (by unfold rX7_fact; rw [if_neg c1, if_pos c2]) rfl rfl hP hS dX7_fact_61
    ·
      by_cases c3 : p1 = 2
      ·
        refine lv_tableIn (off := 61) (tgt := 62) hx hb dX7_fact_1 (by rw [c3]; decide) (by rw [c3]; decide) (by rw [c3]; rfl) (by decide) ?_
        refine lv_aload_n hx hb dX7_fact_62 rfl (lv_at hl 0 rfl) ?_
        refine g_get (ci := 7) (C := RX7) (T := TX7) (N := 11) (v := .int (S o 2)) hx hb hts iX7_fact_X7 hown hK hP (lt_V ho) (cM_V ho) rfl 2 (by decide) rfl (by decide +kernel) rfl dX7_fact_63 ?_
        exact g_iret hx hb hr hlocks (by unfold rX7_fact; rw [if_neg c1, if_neg c2, if_pos c3]) rfl rfl hP hS dX7_fact_66
      ·
        by_cases c4 : p1 = 3
        ·
          refine lv_tableIn (off := 66) (tgt := 67) hx hb dX7_fact_1 (by rw [c4]; decide) (by rw [c4]; decide) (by rw [c4]; rfl) (by decide) ?_
          refine lv_aload_n hx hb dX7_fact_67 rfl (lv_at hl 0 rfl) ?_
          refine g_get (ci := 7) (C := RX7) (T := TX7) (N := 11) (v := .int (S o 3)) hx hb hts iX7_fact_X7 hown hK hP (lt_V ho) (cM_V ho) rfl 3 (by decide) rfl (by decide +kernel) rfl dX7_fact_68 ?_
          exact g_iret hx hb hr hlocks (by unfold rX7_fact; rw [if_neg c1, if_neg c2, if_neg c3, if_pos c4]) rfl rfl hP hS dX7_fact_71
        ·
          by_cases c5 : p1 = 4
          ·
            refine lv_tableIn (off := 71) (tgt := 72) hx hb dX7_fact_1 (by rw [c5]; decide) (by rw [c5]; decide) (by rw [c5]; rfl) (by decide) ?_
            refine lv_aload_n hx hb dX7_fact_72 rfl (lv_at hl 0 rfl) ?_
            refine g_get (ci := 7) (C := RX7) (T := TX7) (N := 11) (v := .int (S o 4)) hx hb hts iX7_fact_X7 hown hK hP (lt_V ho) (cM_V ho) rfl 4 (by decide) rfl (by decide +kernel) rfl dX7_fact_73 ?_
            exact g_iret hx hb hr hlocks (by unfold rX7_fact; rw [if_neg c1, if_neg c2, if_neg c3, if_neg c4, if_pos c5]) rfl rfl hP hS dX7_fact_76
          ·
            by_cases c6 : p1 = 5
            ·
              refine lv_tableIn (off := 76) (tgt := 77) hx hb dX7_fact_1 (by rw [c6]; decide) (by rw [c6]; decide) (by rw [c6]; rfl) (by decide) ?_
              refine lv_aload_n hx hb dX7_fact_77 rfl (lv_at hl 0 rfl) ?_
              refine g_get (ci := 7) (C := RX7) (T := TX7) (N := 11) (v := .int (S o 5)) hx hb hts iX7_fact_X7 hown hK hP (lt_V ho) (cM_V ho) rfl 5 (by decide) rfl (by decide +kernel) rfl dX7_fact_78 ?_
              exact g_iret hx hb hr hlocks (by unfold rX7_fact; rw [if_neg c1, if_neg c2, if_neg c3, if_neg c4, if_neg c5, if_pos c6]) rfl rfl hP hS dX7_fact_81
            ·
              by_cases c7 : p1 = 6
              ·
                refine lv_tableIn (off := 81) (tgt := 82) hx hb dX7_fact_1 (by rw [c7]; decide) (by rw [c7]; decide) (by rw [c7]; rfl) (by decide) ?_
                refine lv_aload_n hx hb dX7_fact_82 rfl (lv_at hl 0 rfl) ?_
                refine g_get (ci := 7) (C := RX7) (T := TX7) (N := 11) (v := .int (S o 6)) hx hb hts iX7_fact_X7 hown hK hP (lt_V ho) (cM_V ho) rfl 6 (by decide) rfl (by decide +kernel) rfl dX7_fact_83 ?_
                exact g_iret hx hb hr hlocks (by unfold rX7_fact; rw [if_neg c1, if_neg c2, if_neg c3, if_neg c4, if_neg c5, if_neg c6, if_pos c7]) rfl rfl hP hS dX7_fact_86
              ·
                by_cases c8 : p1 = 7
                ·
                  refine lv_tableIn (off := 86) (tgt := 87) hx hb dX7_fact_1 (by rw [c8]; decide) (by rw [c8]; decide) (by rw [c8]; rfl) (by decide) ?_
                  refine lv_aload_n hx hb dX7_fact_87 rfl (lv_at hl 0 rfl) ?_
                  refine g_get (ci := 7) (C := RX7) (T := TX7) (N := 11) (v := .int (S o 7)) hx hb hts iX7_fact_X7 hown hK hP (lt_V ho) (cM_V ho) rfl 7 (by decide) rfl (by decide +kernel) rfl dX7_fact_88 ?_
                  exact g_iret hx hb hr hlocks (by unfold rX7_fact; rw [if_neg c1, if_neg c2, if_neg c3, if_neg c4, if_neg c5, if_neg c6, if_neg c7, if_pos c8]) rfl rfl hP hS dX7_fact_91
                ·
                  by_cases c9 : p1 = 8
                  ·
                    refine lv_tableIn (off := 91) (tgt := 92) hx hb dX7_fact_1 (by rw [c9]; decide) (by rw [c9]; decide) (by rw [c9]; rfl) (by decide) ?_
                    refine lv_aload_n hx hb dX7_fact_92 rfl (lv_at hl 0 rfl) ?_
                    refine g_get (ci := 7) (C := RX7) (T := TX7) (N := 11) (v := .int (S o 8)) hx hb hts iX7_fact_X7 hown hK hP (lt_V ho) (cM_V ho) rfl 8 (by decide) rfl (by decide +kernel) rfl dX7_fact_93 ?_
                    exact g_iret hx hb hr hlocks (by unfold rX7_fact; rw [if_neg c1, if_neg c2, if_neg c3, if_neg c4, if_neg c5, if_neg c6, if_neg c7, if_neg c8, if_pos c9]) rfl rfl hP hS dX7_fact_96
                  ·
                    refine lv_tableOut (tgt := 97) hx hb dX7_fact_1 (by have := lv_neT c1 (a := 0) rfl; have := lv_neT c2 (a := 1) rfl; have := lv_neT c3 (a := 2) rfl; have := lv_neT c4 (a := 3) rfl; have := lv_neT c5 (a := 4) rfl; have := lv_neT c6 (a := 5) rfl; have := lv_neT c7 (a := 6) rfl; have := lv_neT c8 (a := 7) rfl; have := lv_neT c9 (a := 8) rfl; omega) (by decide) ?_
                    refine lv_aload_n hx hb dX7_fact_97 rfl (lv_at hl 0 rfl) ?_
                    refine g_get (ci := 7) (C := RX7) (T := TX7) (N := 11) (v := .int (S o 9)) hx hb hts iX7_fact_X7 hown hK hP (lt_V ho) (cM_V ho) rfl 9 (by decide) rfl (by decide +kernel) rfl dX7_fact_98 ?_
                    exact g_iret hx hb hr hlocks (by unfold rX7_fact; rw [if_neg c1, if_neg c2, if_neg c3, if_neg c4, if_neg c5, if_neg c6, if_neg c7, if_neg c8, if_neg c9]) rfl rfl hP hS dX7_fact_101

