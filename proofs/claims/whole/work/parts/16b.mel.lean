def rX9_write (S : Mm) (p1 : Int32) (p2 : Int32) (p3 : Int32) (p4 : Int32) (p5 : Int32) : Int32 := rX4_pitchOf S p1 p2
def fX9_write (S : Mm) (p1 : Int32) (p2 : Int32) (p3 : Int32) (p4 : Int32) (p5 : Int32) : Mm := (if p3 = (-1) then fX4_note S p1 p2 ((-1) : Int32) (0 : Int32) (0 : Int32) else fX4_note S p1 p2 p3 p4 p5)
theorem iX9_write_X5 : ∀ w ∈ u_ws RX5 TX5 7, w ∈ wsX9_write := by decide +kernel
theorem iX9_write_X9 : ∀ w ∈ u_ws RX9 TX9 4, w ∈ wsX9_write := by decide +kernel
set_option maxHeartbeats 4000000 in
set_option maxRecDepth 100000 in
theorem c_X9_write (l : Launch) (G : va_G) (cA : ClassId) (a : Nat → Nat) (ha : apart 38 a) (S : Mm) (L : Int64) (sz : Nat) (p1 : Int32) (p2 : Int32) (p3 : Int32) (p4 : Int32) (p5 : Int32)  (hh1 : ¬ p1 < 0) (hh2 : p1 < (3 : Int32)) (hh3 : ¬ p2 < 0) (hh4 : p2 < (8 : Int32)) (hh5 : ¬ p3 < ((-1) : Int32)) (hh6 : p3 ≤ (47 : Int32)) (hh7 : ¬ (p3 = (-1)) → ¬ p4 < (1 : Int32)) (hh8 : ¬ (p3 = (-1)) → p4 ≤ (127 : Int32)) (hh9 : ¬ (p3 = (-1)) → ¬ p5 < (1 : Int32)) (hh10 : ¬ (p3 = (-1)) → p5 ≤ (200 : Int32)) : Met l yX9_write wsX9_write ({ frames := 2, cells := 0, slots := 0, locals := 48 } : Room) (va_Pc [.ref (a 0), .int p1, .int p2, .int p3, .int p4, .int p5] (gI G cA (a 37) 38 a (cM a cA) S L sz)) (gQi (rX9_write S p1 p2 p3 p4 p5) G 38 a (cM a cA) (fX9_write S p1 p2 p3 p4 p5) L sz) 0 0 (mA 38 a sz) := by
  refine g_met (cc := cX9_write) (maxL := 7) (ret := (some .int)) (by decide) rfl (Nat.le_of_ble_eq_true rfl) ?_
  intro p e s m below meth c ls hx hb hr hlocks hml hts hown hnm hsz hK hP hS hl
  subst hsz
  have hl : lv_has ls 7 [(0, .ref (a 0)), (1, .int p1), (2, .int p2), (3, .int p3), (4, .int p4), (5, .int p5)] := hl
  refine lv_iload_n hx hb dX9_write_0 rfl (lv_at hl 1 rfl) ?_
  refine lv_iconst (v := 3) hx hb dX9_write_1 (by decide) ?_
  refine g_cSv (As := [.int p1, .int 3]) (rest := []) ⟨hx, hb, hml, hown, hts⟩ (c_X9_needPlace l G cA a ha S L s.heap.size p1 (3 : Int32)  hh1 hh2) (va_cwS 2 hts gX9_write_X9_needPlace rfl rfl rfl (by decide +kernel) ⟨Nat.le_of_ble_eq_true rfl, Nat.le_of_ble_eq_true rfl⟩) hK (mA_mono hS.1) hP hS rfl hl.1 rfl (lv_room (Nat.le_of_ble_eq_true rfl)) dX9_write_2 ⟨Nat.le_of_ble_eq_true rfl, Nat.le_of_ble_eq_true rfl⟩ (fun H locs hP hS _ _ => ?_)
  refine lv_iload_n hx hb dX9_write_5 rfl (lv_at hl 2 rfl) ?_
  refine lv_bipush (v := 8) hx hb dX9_write_6 (by decide) ?_
  refine g_cSv (As := [.int p2, .int 8]) (rest := []) ⟨hx, hb, hml, hown, hts⟩ (c_X9_needPlace l G cA a ha S L H.size p2 (8 : Int32)  hh3 hh4) (va_cwS 2 hts gX9_write_X9_needPlace rfl rfl rfl (by decide +kernel) ⟨Nat.le_of_ble_eq_true rfl, Nat.le_of_ble_eq_true rfl⟩) hK (mA_mono hS.1) hP hS rfl hl.1 rfl (lv_room (Nat.le_of_ble_eq_true rfl)) dX9_write_8 ⟨Nat.le_of_ble_eq_true rfl, Nat.le_of_ble_eq_true rfl⟩ (fun H locs hP hS _ _ => ?_)
  refine lv_iload_n hx hb dX9_write_11 rfl (lv_at hl 3 rfl) ?_
  refine lv_iconst (v := (-1)) hx hb dX9_write_12 (by decide) ?_
  refine lv_bipush (v := 47) hx hb dX9_write_13 (by decide) ?_
  refine g_cSv (As := [.int p3, .int (-1), .int 47]) (rest := []) ⟨hx, hb, hml, hown, hts⟩ (c_X9_needWithin l G cA a ha S L H.size p3 ((-1) : Int32) (47 : Int32)  hh5 hh6) (va_cwS 3 hts gX9_write_X9_needWithin rfl rfl rfl (by decide +kernel) ⟨Nat.le_of_ble_eq_true rfl, Nat.le_of_ble_eq_true rfl⟩) hK (mA_mono hS.1) hP hS rfl hl.1 rfl (lv_room (Nat.le_of_ble_eq_true rfl)) dX9_write_15 ⟨Nat.le_of_ble_eq_true rfl, Nat.le_of_ble_eq_true rfl⟩ (fun H locs hP hS _ _ => ?_)
  refine lv_iload_n hx hb dX9_write_18 rfl (lv_at hl 3 rfl) ?_
  refine lv_iconst (v := (-1)) hx hb dX9_write_19 (by decide) ?_
  have hj2 : ∀  (H : Heap) (locs : List Loc) (ls : Array Slot), va_P G vwCl (wG 38 a (cM a cA) S L) H → va_S (mA 38 a s.heap.size) s.heap H locs → lv_has ls 7 [(0, .ref (a 0)), (1, .int p1), (2, .int p2), (3, .int p3), (4, .int p4), (5, .int p5)] → W p l e ({ frames := 2, cells := 0, slots := 0, locals := 48 } : Room) s m ([.ref (a 0), .int p1, .int p2, .int p3, .int p4, .int p5] : List Value).toArray below meth c H locs 0 0 (MQ below (gQi (rX9_write S p1 p2 p3 p4 p5) G 38 a (cM a cA) (fX9_write S p1 p2 p3 p4 p5) L s.heap.size) ([.ref (a 0), .int p1, .int p2, .int p3, .int p4, .int p5] : List Value).toArray s 0 0 (mA 38 a s.heap.size)) (F0 m 40 ls []) := by
    intro  H locs ls  hP hS hl
    refine lv_aload_n hx hb dX9_write_40 rfl (lv_at hl 0 rfl) ?_
    refine g_get (ci := 9) (C := RX9) (T := TX9) (N := 4) (v := .ref (a 1)) hx hb hts iX9_write_X9 hown hK hP (by decide) rfl rfl 0 (by decide) rfl (by decide +kernel) rfl dX9_write_41 ?_
    refine g_get (ci := 5) (C := RX5) (T := TX5) (N := 7) (v := .ref (a 5)) hx hb hts iX9_write_X5 hown hK hP (by decide) cM_S rfl 1 (by decide) rfl (by decide +kernel) rfl dX9_write_44 ?_
    refine lv_iload_n hx hb dX9_write_47 rfl (lv_at hl 1 rfl) ?_
    refine lv_iload_n hx hb dX9_write_48 rfl (lv_at hl 2 rfl) ?_
    refine g_cVi (As := [.int p1, .int p2]) (rest := []) ⟨hx, hb, hml, hown, hts⟩ (c_X4_pitchOf l G cA a ha S L H.size p1 p2  ) (cwV 2 hts gX9_write_X4_pitchOf rfl rfl rfl (by decide +kernel) ⟨Nat.le_of_ble_eq_true rfl, Nat.le_of_ble_eq_true rfl⟩) (g_recv hK hP (by decide) cM_C (C := RX4) (T := TX4) (N := 6) rfl) hK (mA_mono hS.1) hP hS rfl hl.1 rfl (lv_room (Nat.le_of_ble_eq_true rfl)) dX9_write_49 ⟨Nat.le_of_ble_eq_true rfl, Nat.le_of_ble_eq_true rfl⟩ (fun H locs hP hS _ _ => ?_)
    refine lv_istore (lv' := [(6, .int (rX4_pitchOf S p1 p2)), (0, .ref (a 0)), (1, .int p1), (2, .int p2), (3, .int p3), (4, .int p4), (5, .int p5)]) hx hb dX9_write_52 hl (by decide) rfl (fun ls hl => ?_)
    refine lv_iload_n hx hb dX9_write_54 rfl (lv_at hl 4 rfl) ?_
    refine lv_iconst (v := (-1)) hx hb dX9_write_55 (by decide) ?_
    refine lv_icmp_ne (tgt := 77) hx hb dX9_write_56 (by decide) (fun c3 => ?_) (fun c3 => ?_)
    ·
      refine lv_aload_n hx hb dX9_write_77 rfl (lv_at hl 1 rfl) ?_
      refine g_get (ci := 9) (C := RX9) (T := TX9) (N := 4) (v := .ref (a 1)) hx hb hts iX9_write_X9 hown hK hP (by decide) rfl rfl 0 (by decide) rfl (by decide +kernel) rfl dX9_write_78 ?_
      refine g_get (ci := 5) (C := RX5) (T := TX5) (N := 7) (v := .ref (a 5)) hx hb hts iX9_write_X5 hown hK hP (by decide) cM_S rfl 1 (by decide) rfl (by decide +kernel) rfl dX9_write_81 ?_
      refine lv_iload_n hx hb dX9_write_84 rfl (lv_at hl 2 rfl) ?_
      refine lv_iload_n hx hb dX9_write_85 rfl (lv_at hl 3 rfl) ?_
      refine lv_iload_n hx hb dX9_write_86 rfl (lv_at hl 4 rfl) ?_
      refine lv_iload hx hb dX9_write_87 (lv_at hl 5 rfl) ?_
      refine lv_iload hx hb dX9_write_89 (lv_at hl 6 rfl) ?_
      refine g_cVv (As := [.int p1, .int p2, .int p3, .int p4, .int p5]) (rest := []) ⟨hx, hb, hml, hown, hts⟩ (c_X4_note l G cA a ha S L H.size p1 p2 p3 p4 p5  ) (cwV 5 hts gX9_write_X4_note rfl rfl rfl (by decide +kernel) ⟨Nat.le_of_ble_eq_true rfl, Nat.le_of_ble_eq_true rfl⟩) (g_recv hK hP (by decide) cM_C (C := RX4) (T := TX4) (N := 6) rfl) hK (mA_mono hS.1) hP hS rfl hl.1 rfl (lv_room (Nat.le_of_ble_eq_true rfl)) dX9_write_91 ⟨Nat.le_of_ble_eq_true rfl, Nat.le_of_ble_eq_true rfl⟩ (fun H locs hP hS _ _ => ?_)
      refine lv_iload hx hb dX9_write_94 (lv_at hl 0 rfl) ?_
      exact g_iret hx hb hr hlocks (by unfold rX9_write; rfl) (by unfold fX9_write; rw [if_neg c3]) rfl hP hS dX9_write_96
    ·
      refine lv_aload_n hx hb dX9_write_59 rfl (lv_at hl 1 rfl) ?_
      refine g_get (ci := 9) (C := RX9) (T := TX9) (N := 4) (v := .ref (a 1)) hx hb hts iX9_write_X9 hown hK hP (by decide) rfl rfl 0 (by decide) rfl (by decide +kernel) rfl dX9_write_60 ?_
      refine g_get (ci := 5) (C := RX5) (T := TX5) (N := 7) (v := .ref (a 5)) hx hb hts iX9_write_X5 hown hK hP (by decide) cM_S rfl 1 (by decide) rfl (by decide +kernel) rfl dX9_write_63 ?_
      refine lv_iload_n hx hb dX9_write_66 rfl (lv_at hl 2 rfl) ?_
      refine lv_iload_n hx hb dX9_write_67 rfl (lv_at hl 3 rfl) ?_
      refine lv_iconst (v := (-1)) hx hb dX9_write_68 (by decide) ?_
      refine lv_iconst (v := 0) hx hb dX9_write_69 (by decide) ?_
      refine lv_iconst (v := 0) hx hb dX9_write_70 (by decide) ?_
      refine g_cVv (As := [.int p1, .int p2, .int (-1), .int 0, .int 0]) (rest := []) ⟨hx, hb, hml, hown, hts⟩ (c_X4_note l G cA a ha S L H.size p1 p2 ((-1) : Int32) (0 : Int32) (0 : Int32)  ) (cwV 5 hts gX9_write_X4_note rfl rfl rfl (by decide +kernel) ⟨Nat.le_of_ble_eq_true rfl, Nat.le_of_ble_eq_true rfl⟩) (g_recv hK hP (by decide) cM_C (C := RX4) (T := TX4) (N := 6) rfl) hK (mA_mono hS.1) hP hS rfl hl.1 rfl (lv_room (Nat.le_of_ble_eq_true rfl)) dX9_write_71 ⟨Nat.le_of_ble_eq_true rfl, Nat.le_of_ble_eq_true rfl⟩ (fun H locs hP hS _ _ => ?_)
      refine lv_goto (tgt := 94) hx hb dX9_write_74 (by decide) ?_
      refine lv_iload hx hb dX9_write_94 (lv_at hl 0 rfl) ?_
      exact g_iret hx hb hr hlocks (by unfold rX9_write; rfl) (by unfold fX9_write; rw [if_pos c3]) rfl hP hS dX9_write_96
  refine lv_icmp_eq (tgt := 40) hx hb dX9_write_20 (by decide) (fun c1 => ?_) (fun c1 => ?_)
  ·
    exact hj2  _ _ _  hP hS (lv_sub hl [0, 1, 2, 3, 4, 5] rfl)
  ·
    refine lv_iload hx hb dX9_write_23 (lv_at hl 4 rfl) ?_
    refine lv_iconst (v := 1) hx hb dX9_write_25 (by decide) ?_
    refine lv_bipush (v := 127) hx hb dX9_write_26 (by decide) ?_
    refine g_cSv (As := [.int p4, .int 1, .int 127]) (rest := []) ⟨hx, hb, hml, hown, hts⟩ (c_X9_needWithin l G cA a ha S L H.size p4 (1 : Int32) (127 : Int32)  (hh7 c1) (hh8 c1)) (va_cwS 3 hts gX9_write_X9_needWithin rfl rfl rfl (by decide +kernel) ⟨Nat.le_of_ble_eq_true rfl, Nat.le_of_ble_eq_true rfl⟩) hK (mA_mono hS.1) hP hS rfl hl.1 rfl (lv_room (Nat.le_of_ble_eq_true rfl)) dX9_write_28 ⟨Nat.le_of_ble_eq_true rfl, Nat.le_of_ble_eq_true rfl⟩ (fun H locs hP hS _ _ => ?_)
    refine lv_iload hx hb dX9_write_31 (lv_at hl 5 rfl) ?_
    refine lv_iconst (v := 1) hx hb dX9_write_33 (by decide) ?_
    refine lv_sipush (v := 200) hx hb dX9_write_34 (by decide) ?_
    refine g_cSv (As := [.int p5, .int 1, .int 200]) (rest := []) ⟨hx, hb, hml, hown, hts⟩ (c_X9_needWithin l G cA a ha S L H.size p5 (1 : Int32) (200 : Int32)  (hh9 c1) (hh10 c1)) (va_cwS 3 hts gX9_write_X9_needWithin rfl rfl rfl (by decide +kernel) ⟨Nat.le_of_ble_eq_true rfl, Nat.le_of_ble_eq_true rfl⟩) hK (mA_mono hS.1) hP hS rfl hl.1 rfl (lv_room (Nat.le_of_ble_eq_true rfl)) dX9_write_37 ⟨Nat.le_of_ble_eq_true rfl, Nat.le_of_ble_eq_true rfl⟩ (fun H locs hP hS _ _ => ?_)
    exact hj2  _ _ _  hP hS (lv_sub hl [0, 1, 2, 3, 4, 5] rfl)

def rX9_setTrack (S : Mm) (p1 : Int32) (p2 : Int32) : Int32 := rX3_get S 6 p1
def fX9_setTrack (S : Mm) (p1 : Int32) (p2 : Int32) : Mm := fX3_put S 6 p1 p2
theorem iX9_setTrack_X4 : ∀ w ∈ u_ws RX4 TX4 6, w ∈ wsX9_setTrack := by decide +kernel
theorem iX9_setTrack_X5 : ∀ w ∈ u_ws RX5 TX5 7, w ∈ wsX9_setTrack := by decide +kernel
theorem iX9_setTrack_X9 : ∀ w ∈ u_ws RX9 TX9 4, w ∈ wsX9_setTrack := by decide +kernel
set_option maxHeartbeats 4000000 in
set_option maxRecDepth 100000 in
theorem c_X9_setTrack (l : Launch) (G : va_G) (cA : ClassId) (a : Nat → Nat) (ha : apart 38 a) (S : Mm) (L : Int64) (sz : Nat) (p1 : Int32) (p2 : Int32)  (hh1 : ¬ p1 < 0) (hh2 : p1 < (3 : Int32)) (hh3 : ¬ p2 < 0) (hh4 : p2 < (4 : Int32)) : Met l yX9_setTrack wsX9_setTrack ({ frames := 1, cells := 0, slots := 0, locals := 22 } : Room) (va_Pc [.ref (a 0), .int p1, .int p2] (gI G cA (a 37) 38 a (cM a cA) S L sz)) (gQi (rX9_setTrack S p1 p2) G 38 a (cM a cA) (fX9_setTrack S p1 p2) L sz) 0 0 (mA 38 a sz) := by
  refine g_met (cc := cX9_setTrack) (maxL := 4) (ret := (some .int)) (by decide) rfl (Nat.le_of_ble_eq_true rfl) ?_
  intro p e s m below meth c ls hx hb hr hlocks hml hts hown hnm hsz hK hP hS hl
  subst hsz
  have hl : lv_has ls 4 [(0, .ref (a 0)), (1, .int p1), (2, .int p2)] := hl
  refine lv_iload_n hx hb dX9_setTrack_0 rfl (lv_at hl 1 rfl) ?_
  refine lv_iconst (v := 3) hx hb dX9_setTrack_1 (by decide) ?_
  refine g_cSv (As := [.int p1, .int 3]) (rest := []) ⟨hx, hb, hml, hown, hts⟩ (c_X9_needPlace l G cA a ha S L s.heap.size p1 (3 : Int32)  hh1 hh2) (va_cwS 2 hts gX9_setTrack_X9_needPlace rfl rfl rfl (by decide +kernel) ⟨Nat.le_of_ble_eq_true rfl, Nat.le_of_ble_eq_true rfl⟩) hK (mA_mono hS.1) hP hS rfl hl.1 rfl (lv_room (Nat.le_of_ble_eq_true rfl)) dX9_setTrack_2 ⟨Nat.le_of_ble_eq_true rfl, Nat.le_of_ble_eq_true rfl⟩ (fun H locs hP hS _ _ => ?_)
  refine lv_iload_n hx hb dX9_setTrack_5 rfl (lv_at hl 2 rfl) ?_
  refine lv_iconst (v := 4) hx hb dX9_setTrack_6 (by decide) ?_
  refine g_cSv (As := [.int p2, .int 4]) (rest := []) ⟨hx, hb, hml, hown, hts⟩ (c_X9_needPlace l G cA a ha S L H.size p2 (4 : Int32)  hh3 hh4) (va_cwS 2 hts gX9_setTrack_X9_needPlace rfl rfl rfl (by decide +kernel) ⟨Nat.le_of_ble_eq_true rfl, Nat.le_of_ble_eq_true rfl⟩) hK (mA_mono hS.1) hP hS rfl hl.1 rfl (lv_room (Nat.le_of_ble_eq_true rfl)) dX9_setTrack_7 ⟨Nat.le_of_ble_eq_true rfl, Nat.le_of_ble_eq_true rfl⟩ (fun H locs hP hS _ _ => ?_)
  refine lv_aload_n hx hb dX9_setTrack_10 rfl (lv_at hl 0 rfl) ?_
  refine g_get (ci := 9) (C := RX9) (T := TX9) (N := 4) (v := .ref (a 1)) hx hb hts iX9_setTrack_X9 hown hK hP (by decide) rfl rfl 0 (by decide) rfl (by decide +kernel) rfl dX9_setTrack_11 ?_
  refine g_get (ci := 5) (C := RX5) (T := TX5) (N := 7) (v := .ref (a 5)) hx hb hts iX9_setTrack_X5 hown hK hP (by decide) cM_S rfl 1 (by decide) rfl (by decide +kernel) rfl dX9_setTrack_14 ?_
  refine g_get (ci := 4) (C := RX4) (T := TX4) (N := 6) (v := .ref (a 6)) hx hb hts iX9_setTrack_X4 hown hK hP (by decide) cM_C rfl 0 (by decide) rfl (by decide +kernel) rfl dX9_setTrack_17 ?_
  refine lv_iload_n hx hb dX9_setTrack_20 rfl (lv_at hl 1 rfl) ?_
  refine g_cVi (As := [.int p1]) (rest := []) ⟨hx, hb, hml, hown, hts⟩ (c_X3_get l G cA a ha S L H.size 6 p1 (by decide) ) (cwV 1 hts gX9_setTrack_X3_get rfl rfl rfl (by decide +kernel) ⟨Nat.le_of_ble_eq_true rfl, Nat.le_of_ble_eq_true rfl⟩) (g_recv hK hP (lt_R (by decide)) (cM_R (by decide)) (C := RX3) (T := TX3) (N := 1) rfl) hK (mA_mono hS.1) hP hS rfl hl.1 rfl (lv_room (Nat.le_of_ble_eq_true rfl)) dX9_setTrack_21 ⟨Nat.le_of_ble_eq_true rfl, Nat.le_of_ble_eq_true rfl⟩ (fun H locs hP hS _ _ => ?_)
  refine lv_istore_n (lv' := [(3, .int (rX3_get S 6 p1)), (0, .ref (a 0)), (1, .int p1), (2, .int p2)]) hx hb dX9_setTrack_24 rfl hl (by decide) rfl (fun ls hl => ?_)
  refine lv_aload_n hx hb dX9_setTrack_25 rfl (lv_at hl 1 rfl) ?_
  refine g_get (ci := 9) (C := RX9) (T := TX9) (N := 4) (v := .ref (a 1)) hx hb hts iX9_setTrack_X9 hown hK hP (by decide) rfl rfl 0 (by decide) rfl (by decide +kernel) rfl dX9_setTrack_26 ?_
  refine g_get (ci := 5) (C := RX5) (T := TX5) (N := 7) (v := .ref (a 5)) hx hb hts iX9_setTrack_X5 hown hK hP (by decide) cM_S rfl 1 (by decide) rfl (by decide +kernel) rfl dX9_setTrack_29 ?_
  refine g_get (ci := 4) (C := RX4) (T := TX4) (N := 6) (v := .ref (a 6)) hx hb hts iX9_setTrack_X4 hown hK hP (by decide) cM_C rfl 0 (by decide) rfl (by decide +kernel) rfl dX9_setTrack_32 ?_
  refine lv_iload_n hx hb dX9_setTrack_35 rfl (lv_at hl 2 rfl) ?_
  refine lv_iload_n hx hb dX9_setTrack_36 rfl (lv_at hl 3 rfl) ?_
  refine g_cVv (As := [.int p1, .int p2]) (rest := []) ⟨hx, hb, hml, hown, hts⟩ (c_X3_put l G cA a ha S L H.size 6 p1 p2 (by decide) ) (cwV 2 hts gX9_setTrack_X3_put rfl rfl rfl (by decide +kernel) ⟨Nat.le_of_ble_eq_true rfl, Nat.le_of_ble_eq_true rfl⟩) (g_recv hK hP (lt_R (by decide)) (cM_R (by decide)) (C := RX3) (T := TX3) (N := 1) rfl) hK (mA_mono hS.1) hP hS rfl hl.1 rfl (lv_room (Nat.le_of_ble_eq_true rfl)) dX9_setTrack_37 ⟨Nat.le_of_ble_eq_true rfl, Nat.le_of_ble_eq_true rfl⟩ (fun H locs hP hS _ _ => ?_)
  refine lv_iload_n hx hb dX9_setTrack_40 rfl (lv_at hl 0 rfl) ?_
  exact g_iret hx hb hr hlocks (by unfold rX9_setTrack; rfl) (by unfold fX9_setTrack; rfl) rfl hP hS dX9_setTrack_41

def rX9_setTempo (S : Mm) (p1 : Int32) (p2 : Int32) : Int32 := S 5 4
def fX9_setTempo (S : Mm) (p1 : Int32) (p2 : Int32) : Mm := up2 (up2 S 5 4 p1) 5 5 p2
theorem iX9_setTempo_X4 : ∀ w ∈ u_ws RX4 TX4 6, w ∈ wsX9_setTempo := by decide +kernel
theorem iX9_setTempo_X5 : ∀ w ∈ u_ws RX5 TX5 7, w ∈ wsX9_setTempo := by decide +kernel
theorem iX9_setTempo_X9 : ∀ w ∈ u_ws RX9 TX9 4, w ∈ wsX9_setTempo := by decide +kernel
set_option maxHeartbeats 4000000 in
set_option maxRecDepth 100000 in
theorem c_X9_setTempo (l : Launch) (G : va_G) (cA : ClassId) (a : Nat → Nat) (ha : apart 38 a) (S : Mm) (L : Int64) (sz : Nat) (p1 : Int32) (p2 : Int32)  (hh1 : ¬ p1 < (1 : Int32)) (hh2 : p1 ≤ (200 : Int32)) (hh3 : ¬ p2 < (0 : Int32)) (hh4 : p2 ≤ (p1 - 1)) : Met l yX9_setTempo wsX9_setTempo ({ frames := 1, cells := 0, slots := 0, locals := 22 } : Room) (va_Pc [.ref (a 0), .int p1, .int p2] (gI G cA (a 37) 38 a (cM a cA) S L sz)) (gQi (rX9_setTempo S p1 p2) G 38 a (cM a cA) (fX9_setTempo S p1 p2) L sz) 0 0 (mA 38 a sz) := by
  refine g_met (cc := cX9_setTempo) (maxL := 4) (ret := (some .int)) (by decide) rfl (Nat.le_of_ble_eq_true rfl) ?_
  intro p e s m below meth c ls hx hb hr hlocks hml hts hown hnm hsz hK hP hS hl
  subst hsz
  have hl : lv_has ls 4 [(0, .ref (a 0)), (1, .int p1), (2, .int p2)] := hl
  refine lv_iload_n hx hb dX9_setTempo_0 rfl (lv_at hl 1 rfl) ?_
  refine lv_iconst (v := 1) hx hb dX9_setTempo_1 (by decide) ?_
  refine lv_sipush (v := 200) hx hb dX9_setTempo_2 (by decide) ?_
  refine g_cSv (As := [.int p1, .int 1, .int 200]) (rest := []) ⟨hx, hb, hml, hown, hts⟩ (c_X9_needWithin l G cA a ha S L s.heap.size p1 (1 : Int32) (200 : Int32)  hh1 hh2) (va_cwS 3 hts gX9_setTempo_X9_needWithin rfl rfl rfl (by decide +kernel) ⟨Nat.le_of_ble_eq_true rfl, Nat.le_of_ble_eq_true rfl⟩) hK (mA_mono hS.1) hP hS rfl hl.1 rfl (lv_room (Nat.le_of_ble_eq_true rfl)) dX9_setTempo_5 ⟨Nat.le_of_ble_eq_true rfl, Nat.le_of_ble_eq_true rfl⟩ (fun H locs hP hS _ _ => ?_)
  refine lv_iload_n hx hb dX9_setTempo_8 rfl (lv_at hl 2 rfl) ?_
  refine lv_iconst (v := 0) hx hb dX9_setTempo_9 (by decide) ?_
  refine lv_iload_n hx hb dX9_setTempo_10 rfl (lv_at hl 1 rfl) ?_
  refine lv_iconst (v := 1) hx hb dX9_setTempo_11 (by decide) ?_
  refine lv_isub hx hb dX9_setTempo_12 ?_
  refine g_cSv (As := [.int p2, .int 0, .int (p1 - 1)]) (rest := []) ⟨hx, hb, hml, hown, hts⟩ (c_X9_needWithin l G cA a ha S L H.size p2 (0 : Int32) (p1 - 1)  hh3 hh4) (va_cwS 3 hts gX9_setTempo_X9_needWithin rfl rfl rfl (by decide +kernel) ⟨Nat.le_of_ble_eq_true rfl, Nat.le_of_ble_eq_true rfl⟩) hK (mA_mono hS.1) hP hS rfl hl.1 rfl (lv_room (Nat.le_of_ble_eq_true rfl)) dX9_setTempo_13 ⟨Nat.le_of_ble_eq_true rfl, Nat.le_of_ble_eq_true rfl⟩ (fun H locs hP hS _ _ => ?_)
  refine lv_aload_n hx hb dX9_setTempo_16 rfl (lv_at hl 0 rfl) ?_
  refine g_get (ci := 9) (C := RX9) (T := TX9) (N := 4) (v := .ref (a 1)) hx hb hts iX9_setTempo_X9 hown hK hP (by decide) rfl rfl 0 (by decide) rfl (by decide +kernel) rfl dX9_setTempo_17 ?_
  refine g_get (ci := 5) (C := RX5) (T := TX5) (N := 7) (v := .ref (a 5)) hx hb hts iX9_setTempo_X5 hown hK hP (by decide) cM_S rfl 1 (by decide) rfl (by decide +kernel) rfl dX9_setTempo_20 ?_
  refine g_get (ci := 4) (C := RX4) (T := TX4) (N := 6) (v := .int (S 5 4)) hx hb hts iX9_setTempo_X4 hown hK hP (by decide) cM_C rfl 4 (by decide) rfl (by decide +kernel) rfl dX9_setTempo_23 ?_
  refine lv_istore_n (lv' := [(3, .int (S 5 4)), (0, .ref (a 0)), (1, .int p1), (2, .int p2)]) hx hb dX9_setTempo_26 rfl hl (by decide) rfl (fun ls hl => ?_)
  refine lv_aload_n hx hb dX9_setTempo_27 rfl (lv_at hl 1 rfl) ?_
  refine g_get (ci := 9) (C := RX9) (T := TX9) (N := 4) (v := .ref (a 1)) hx hb hts iX9_setTempo_X9 hown hK hP (by decide) rfl rfl 0 (by decide) rfl (by decide +kernel) rfl dX9_setTempo_28 ?_
  refine g_get (ci := 5) (C := RX5) (T := TX5) (N := 7) (v := .ref (a 5)) hx hb hts iX9_setTempo_X5 hown hK hP (by decide) cM_S rfl 1 (by decide) rfl (by decide +kernel) rfl dX9_setTempo_31 ?_
  refine lv_iload_n hx hb dX9_setTempo_34 rfl (lv_at hl 2 rfl) ?_
  refine g_put (ci := 4) (C := RX4) (T := TX4) (N := 6) (ty := .int) hx hb hts iX9_setTempo_X4 tyX4 tyX4_ok nmX4 hown hK ha mA_in hP hS (by decide) cM_C rfl 4 (by decide) rfl (by decide +kernel) rfl (by decide +kernel) rfl rfl (Nat.le_of_ble_eq_true rfl) (cM_C_set (by decide)) dX9_setTempo_35 (fun H locs hP hS => ?_)
  refine lv_aload_n hx hb dX9_setTempo_38 rfl (lv_at hl 1 rfl) ?_
  refine g_get (ci := 9) (C := RX9) (T := TX9) (N := 4) (v := .ref (a 1)) hx hb hts iX9_setTempo_X9 hown hK hP (by decide) rfl rfl 0 (by decide) rfl (by decide +kernel) rfl dX9_setTempo_39 ?_
  refine g_get (ci := 5) (C := RX5) (T := TX5) (N := 7) (v := .ref (a 5)) hx hb hts iX9_setTempo_X5 hown hK hP (by decide) cM_S rfl 1 (by decide) rfl (by decide +kernel) rfl dX9_setTempo_42 ?_
  refine lv_iload_n hx hb dX9_setTempo_45 rfl (lv_at hl 3 rfl) ?_
  refine g_put (ci := 4) (C := RX4) (T := TX4) (N := 6) (ty := .int) hx hb hts iX9_setTempo_X4 tyX4 tyX4_ok nmX4 hown hK ha mA_in hP hS (by decide) cM_C rfl 5 (by decide) rfl (by decide +kernel) rfl (by decide +kernel) rfl rfl (Nat.le_of_ble_eq_true rfl) (cM_C_set (by decide)) dX9_setTempo_46 (fun H locs hP hS => ?_)
  refine lv_iload_n hx hb dX9_setTempo_49 rfl (lv_at hl 0 rfl) ?_
  exact g_iret hx hb hr hlocks (by unfold rX9_setTempo; rfl) (by unfold fX9_setTempo; rfl) rfl hP hS dX9_setTempo_50

def rX9_play (S : Mm) (p1 : Int32) : Int32 := S 18 9
def fX9_play (S : Mm) (p1 : Int32) : Mm := up2 (up2 (up2 S 18 9 1) 18 10 p1) 18 11 0
theorem iX9_play_X6 : ∀ w ∈ u_ws RX6 TX6 12, w ∈ wsX9_play := by decide +kernel
theorem iX9_play_X9 : ∀ w ∈ u_ws RX9 TX9 4, w ∈ wsX9_play := by decide +kernel
set_option maxHeartbeats 4000000 in
set_option maxRecDepth 100000 in
theorem c_X9_play (l : Launch) (G : va_G) (cA : ClassId) (a : Nat → Nat) (ha : apart 38 a) (S : Mm) (L : Int64) (sz : Nat) (p1 : Int32)  (hbn : narrow .boolean (.int (S 18 9)) = .int (S 18 9)) (hh1 : ¬ p1 < 0) (hh2 : p1 < (8 : Int32)) : Met l yX9_play wsX9_play ({ frames := 1, cells := 0, slots := 0, locals := 21 } : Room) (va_Pc [.ref (a 0), .int p1] (gI G cA (a 37) 38 a (cM a cA) S L sz)) (gQi (rX9_play S p1) G 38 a (cM a cA) (fX9_play S p1) L sz) 0 0 (mA 38 a sz) := by
  refine g_met (cc := cX9_play) (maxL := 3) (ret := (some .boolean)) (by decide) rfl (Nat.le_of_ble_eq_true rfl) ?_
  intro p e s m below meth c ls hx hb hr hlocks hml hts hown hnm hsz hK hP hS hl
  subst hsz
  have hl : lv_has ls 3 [(0, .ref (a 0)), (1, .int p1)] := hl
  refine lv_iload_n hx hb dX9_play_0 rfl (lv_at hl 1 rfl) ?_
  refine lv_bipush (v := 8) hx hb dX9_play_1 (by decide) ?_
  refine g_cSv (As := [.int p1, .int 8]) (rest := []) ⟨hx, hb, hml, hown, hts⟩ (c_X9_needPlace l G cA a ha S L s.heap.size p1 (8 : Int32)  hh1 hh2) (va_cwS 2 hts gX9_play_X9_needPlace rfl rfl rfl (by decide +kernel) ⟨Nat.le_of_ble_eq_true rfl, Nat.le_of_ble_eq_true rfl⟩) hK (mA_mono hS.1) hP hS rfl hl.1 rfl (lv_room (Nat.le_of_ble_eq_true rfl)) dX9_play_3 ⟨Nat.le_of_ble_eq_true rfl, Nat.le_of_ble_eq_true rfl⟩ (fun H locs hP hS _ _ => ?_)
  refine lv_aload_n hx hb dX9_play_6 rfl (lv_at hl 0 rfl) ?_
  refine g_get (ci := 9) (C := RX9) (T := TX9) (N := 4) (v := .ref (a 18)) hx hb hts iX9_play_X9 hown hK hP (by decide) rfl rfl 1 (by decide) rfl (by decide +kernel) rfl dX9_play_7 ?_
  refine g_get (ci := 6) (C := RX6) (T := TX6) (N := 12) (v := .int (S 18 9)) hx hb hts iX9_play_X6 hown hK hP (lt_G (by decide)) (cM_G (by decide)) rfl 9 (by decide) rfl (by decide +kernel) rfl dX9_play_10 ?_
  refine lv_istore_n (lv' := [(2, .int (S 18 9)), (0, .ref (a 0)), (1, .int p1)]) hx hb dX9_play_13 rfl hl (by decide) rfl (fun ls hl => ?_)
  refine lv_aload_n hx hb dX9_play_14 rfl (lv_at hl 1 rfl) ?_
  refine g_get (ci := 9) (C := RX9) (T := TX9) (N := 4) (v := .ref (a 18)) hx hb hts iX9_play_X9 hown hK hP (by decide) rfl rfl 1 (by decide) rfl (by decide +kernel) rfl dX9_play_15 ?_
  refine lv_iconst (v := 1) hx hb dX9_play_18 (by decide) ?_
  refine g_put (ci := 6) (C := RX6) (T := TX6) (N := 12) (ty := .boolean) hx hb hts iX9_play_X6 tyX6 tyX6_ok nmX6 hown hK ha mA_in hP hS (lt_G (by decide)) (cM_G (by decide)) rfl 9 (by decide) rfl (by decide +kernel) rfl (by decide +kernel) rfl rfl (Nat.le_of_ble_eq_true rfl) (cM_G_set (by decide) (by decide)) dX9_play_19 (fun H locs hP hS => ?_)
  refine lv_aload_n hx hb dX9_play_22 rfl (lv_at hl 1 rfl) ?_
  refine g_get (ci := 9) (C := RX9) (T := TX9) (N := 4) (v := .ref (a 18)) hx hb hts iX9_play_X9 hown hK hP (by decide) rfl rfl 1 (by decide) rfl (by decide +kernel) rfl dX9_play_23 ?_
  refine lv_iload_n hx hb dX9_play_26 rfl (lv_at hl 2 rfl) ?_
  refine g_put (ci := 6) (C := RX6) (T := TX6) (N := 12) (ty := .int) hx hb hts iX9_play_X6 tyX6 tyX6_ok nmX6 hown hK ha mA_in hP hS (lt_G (by decide)) (cM_G (by decide)) rfl 10 (by decide) rfl (by decide +kernel) rfl (by decide +kernel) rfl rfl (Nat.le_of_ble_eq_true rfl) (cM_G_set (by decide) (by decide)) dX9_play_27 (fun H locs hP hS => ?_)
  refine lv_aload_n hx hb dX9_play_30 rfl (lv_at hl 1 rfl) ?_
  refine g_get (ci := 9) (C := RX9) (T := TX9) (N := 4) (v := .ref (a 18)) hx hb hts iX9_play_X9 hown hK hP (by decide) rfl rfl 1 (by decide) rfl (by decide +kernel) rfl dX9_play_31 ?_
  refine lv_iconst (v := 0) hx hb dX9_play_34 (by decide) ?_
  refine g_put (ci := 6) (C := RX6) (T := TX6) (N := 12) (ty := .int) hx hb hts iX9_play_X6 tyX6 tyX6_ok nmX6 hown hK ha mA_in hP hS (lt_G (by decide)) (cM_G (by decide)) rfl 11 (by decide) rfl (by decide +kernel) rfl (by decide +kernel) rfl rfl (Nat.le_of_ble_eq_true rfl) (cM_G_set (by decide) (by decide)) dX9_play_35 (fun H locs hP hS => ?_)
  refine lv_iload_n hx hb dX9_play_38 rfl (lv_at hl 0 rfl) ?_
  exact g_zret hx hb hr hlocks hbn (by unfold rX9_play; rfl) (by unfold fX9_play; rfl) rfl hP hS dX9_play_39
