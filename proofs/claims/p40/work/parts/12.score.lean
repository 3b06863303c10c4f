def mX4_note_1 (S : Mm) (p1 : Int32) (p2 : Int32) (p3 : Int32) (p4 : Int32) (p5 : Int32) : Mm := fX3_put (fX3_put (fX3_put S 8 ((p1 * 8) + p2) p3) 10 ((p1 * 8) + p2) p4) 12 ((p1 * 8) + p2) p5
def fX4_note (S : Mm) (p1 : Int32) (p2 : Int32) (p3 : Int32) (p4 : Int32) (p5 : Int32) : Mm := (mX4_note_1 S p1 p2 p3 p4 p5)
theorem iX4_note_X4 : ∀ w ∈ u_ws RX4 TX4 6, w ∈ wsX4_note := by decide +kernel
set_option maxHeartbeats 4000000 in
set_option maxRecDepth 100000 in
theorem c_X4_note (l : Launch) (G : va_G) (cA : ClassId) (a : Nat → Nat) (ha : apart 37 a) (S : Mm) (L : Int64) (sz : Nat) (p1 : Int32) (p2 : Int32) (p3 : Int32) (p4 : Int32) (p5 : Int32)  : Met l yX4_note wsX4_note ({ frames := 1, cells := 0, slots := 0, locals := 22 } : Room) (va_Pc [.ref (a 5), .int p1, .int p2, .int p3, .int p4, .int p5] (gI G cA (a 37) 37 a (cM a cA) S L sz)) (gQv G 37 a (cM a cA) (fX4_note S p1 p2 p3 p4 p5) L sz) 0 0 (mA 37 a sz) := by
  refine g_met (cc := cX4_note) (maxL := 7) (ret := none) (by decide) rfl (Nat.le_of_ble_eq_true rfl) ?_
  intro p e s m below meth c ls hx hb hr hlocks hml hts hown hnm hsz hK hP hS hl
  subst hsz
  have hl : lv_has ls 7 [(0, .ref (a 5)), (1, .int p1), (2, .int p2), (3, .int p3), (4, .int p4), (5, .int p5)] := hl
  refine lv_iload_n hx hb dX4_note_0 rfl (lv_at hl 1 rfl) ?_
  refine lv_bipush (v := 8) hx hb dX4_note_1 (by decide) ?_
  refine lv_imul hx hb dX4_note_3 ?_
  refine lv_iload_n hx hb dX4_note_4 rfl (lv_at hl 2 rfl) ?_
  refine lv_iadd hx hb dX4_note_5 ?_
  refine lv_istore (lv' := [(6, .int ((p1 * 8) + p2)), (0, .ref (a 5)), (1, .int p1), (2, .int p2), (3, .int p3), (4, .int p4), (5, .int p5)]) hx hb dX4_note_6 hl (by decide) rfl (fun ls hl => ?_)
  refine lv_aload_n hx hb dX4_note_8 rfl (lv_at hl 1 rfl) ?_
  refine g_get (ci := 4) (C := RX4) (T := TX4) (N := 6) (v := .ref (a 8)) hx hb hts iX4_note_X4 hown hK hP (by decide) cM_C rfl 1 (by decide) rfl (by decide +kernel) rfl dX4_note_9 ?_
  refine lv_iload hx hb dX4_note_12 (lv_at hl 0 rfl) ?_
  refine lv_iload_n hx hb dX4_note_14 rfl (lv_at hl 4 rfl) ?_
  refine g_cVv (As := [.int ((p1 * 8) + p2), .int p3]) (rest := []) ⟨hx, hb, hml, hown, hts⟩ (c_X3_put l G cA a ha S L s.heap.size 8 ((p1 * 8) + p2) p3 (by decide) ) (cwV 2 hts gX4_note_X3_put rfl rfl rfl (by decide +kernel) ⟨Nat.le_of_ble_eq_true rfl, Nat.le_of_ble_eq_true rfl⟩) (g_recv hK hP (lt_R (by decide)) (cM_R (by decide)) (C := RX3) (T := TX3) (N := 1) rfl) hK (mA_mono hS.1) hP hS rfl hl.1 rfl (lv_room (Nat.le_of_ble_eq_true rfl)) dX4_note_15 ⟨Nat.le_of_ble_eq_true rfl, Nat.le_of_ble_eq_true rfl⟩ (fun H locs hP hS _ _ => ?_)
  refine lv_aload_n hx hb dX4_note_18 rfl (lv_at hl 1 rfl) ?_
  refine g_get (ci := 4) (C := RX4) (T := TX4) (N := 6) (v := .ref (a 10)) hx hb hts iX4_note_X4 hown hK hP (by decide) cM_C rfl 2 (by decide) rfl (by decide +kernel) rfl dX4_note_19 ?_
  refine lv_iload hx hb dX4_note_22 (lv_at hl 0 rfl) ?_
  refine lv_iload hx hb dX4_note_24 (lv_at hl 5 rfl) ?_
  refine g_cVv (As := [.int ((p1 * 8) + p2), .int p4]) (rest := []) ⟨hx, hb, hml, hown, hts⟩ (c_X3_put l G cA a ha (fX3_put S 8 ((p1 * 8) + p2) p3) L H.size 10 ((p1 * 8) + p2) p4 (by decide) ) (cwV 2 hts gX4_note_X3_put rfl rfl rfl (by decide +kernel) ⟨Nat.le_of_ble_eq_true rfl, Nat.le_of_ble_eq_true rfl⟩) (g_recv hK hP (lt_R (by decide)) (cM_R (by decide)) (C := RX3) (T := TX3) (N := 1) rfl) hK (mA_mono hS.1) hP hS rfl hl.1 rfl (lv_room (Nat.le_of_ble_eq_true rfl)) dX4_note_26 ⟨Nat.le_of_ble_eq_true rfl, Nat.le_of_ble_eq_true rfl⟩ (fun H locs hP hS _ _ => ?_)
  refine lv_aload_n hx hb dX4_note_29 rfl (lv_at hl 1 rfl) ?_
  refine g_get (ci := 4) (C := RX4) (T := TX4) (N := 6) (v := .ref (a 12)) hx hb hts iX4_note_X4 hown hK hP (by decide) cM_C rfl 3 (by decide) rfl (by decide +kernel) rfl dX4_note_30 ?_
  refine lv_iload hx hb dX4_note_33 (lv_at hl 0 rfl) ?_
  refine lv_iload hx hb dX4_note_35 (lv_at hl 6 rfl) ?_
  refine g_cVv (As := [.int ((p1 * 8) + p2), .int p5]) (rest := []) ⟨hx, hb, hml, hown, hts⟩ (c_X3_put l G cA a ha (fX3_put (fX3_put S 8 ((p1 * 8) + p2) p3) 10 ((p1 * 8) + p2) p4) L H.size 12 ((p1 * 8) + p2) p5 (by decide) ) (cwV 2 hts gX4_note_X3_put rfl rfl rfl (by decide +kernel) ⟨Nat.le_of_ble_eq_true rfl, Nat.le_of_ble_eq_true rfl⟩) (g_recv hK hP (lt_R (by decide)) (cM_R (by decide)) (C := RX3) (T := TX3) (N := 1) rfl) hK (mA_mono hS.1) hP hS rfl hl.1 rfl (lv_room (Nat.le_of_ble_eq_true rfl)) dX4_note_37 ⟨Nat.le_of_ble_eq_true rfl, Nat.le_of_ble_eq_true rfl⟩ (fun H locs hP hS _ _ => ?_)
  have hP : va_P G vwCl (wG 37 a (cM a cA) (mX4_note_1 S p1 p2 p3 p4 p5) L) H := hP
  exact g_vret hx hb hr hlocks (by unfold fX4_note; rfl) rfl hP hS dX4_note_40

def rX4_pitchOf (S : Mm) (p1 : Int32) (p2 : Int32) : Int32 := rX3_get S 8 ((p1 * 8) + p2)
theorem iX4_pitchOf_X4 : ∀ w ∈ u_ws RX4 TX4 6, w ∈ wsX4_pitchOf := by decide +kernel
set_option maxHeartbeats 4000000 in
set_option maxRecDepth 100000 in
theorem c_X4_pitchOf (l : Launch) (G : va_G) (cA : ClassId) (a : Nat → Nat) (ha : apart 37 a) (S : Mm) (L : Int64) (sz : Nat) (p1 : Int32) (p2 : Int32)  : Met l yX4_pitchOf wsX4_pitchOf ({ frames := 1, cells := 0, slots := 0, locals := 21 } : Room) (va_Pc [.ref (a 5), .int p1, .int p2] (gI G cA (a 37) 37 a (cM a cA) S L sz)) (gQi (rX4_pitchOf S p1 p2) G 37 a (cM a cA) S L sz) 0 0 (mA 37 a sz) := by
  refine g_met (cc := cX4_pitchOf) (maxL := 3) (ret := (some .int)) (by decide) rfl (Nat.le_of_ble_eq_true rfl) ?_
  intro p e s m below meth c ls hx hb hr hlocks hml hts hown hnm hsz hK hP hS hl
  subst hsz
  have hl : lv_has ls 3 [(0, .ref (a 5)), (1, .int p1), (2, .int p2)] := hl
  refine lv_aload_n hx hb dX4_pitchOf_0 rfl (lv_at hl 0 rfl) ?_
  refine g_get (ci := 4) (C := RX4) (T := TX4) (N := 6) (v := .ref (a 8)) hx hb hts iX4_pitchOf_X4 hown hK hP (by decide) cM_C rfl 1 (by decide) rfl (by decide +kernel) rfl dX4_pitchOf_1 ?_
  refine lv_iload_n hx hb dX4_pitchOf_4 rfl (lv_at hl 1 rfl) ?_
  refine lv_bipush (v := 8) hx hb dX4_pitchOf_5 (by decide) ?_
  refine lv_imul hx hb dX4_pitchOf_7 ?_
  refine lv_iload_n hx hb dX4_pitchOf_8 rfl (lv_at hl 2 rfl) ?_
  refine lv_iadd hx hb dX4_pitchOf_9 ?_
  refine g_cVi (As := [.int ((p1 * 8) + p2)]) (rest := []) ⟨hx, hb, hml, hown, hts⟩ (c_X3_get l G cA a ha S L s.heap.size 8 ((p1 * 8) + p2) (by decide) ) (cwV 1 hts gX4_pitchOf_X3_get rfl rfl rfl (by decide +kernel) ⟨Nat.le_of_ble_eq_true rfl, Nat.le_of_ble_eq_true rfl⟩) (g_recv hK hP (lt_R (by decide)) (cM_R (by decide)) (C := RX3) (T := TX3) (N := 1) rfl) hK (mA_mono hS.1) hP hS rfl hl.1 rfl (lv_room (Nat.le_of_ble_eq_true rfl)) dX4_pitchOf_10 ⟨Nat.le_of_ble_eq_true rfl, Nat.le_of_ble_eq_true rfl⟩ (fun H locs hP hS _ _ => ?_)
  exact g_iret hx hb hr hlocks (by unfold rX4_pitchOf; rfl) rfl rfl hP hS dX4_pitchOf_13

def rX4_forceOf (S : Mm) (p1 : Int32) (p2 : Int32) : Int32 := rX3_get S 10 ((p1 * 8) + p2)
theorem iX4_forceOf_X4 : ∀ w ∈ u_ws RX4 TX4 6, w ∈ wsX4_forceOf := by decide +kernel
set_option maxHeartbeats 4000000 in
set_option maxRecDepth 100000 in
theorem c_X4_forceOf (l : Launch) (G : va_G) (cA : ClassId) (a : Nat → Nat) (ha : apart 37 a) (S : Mm) (L : Int64) (sz : Nat) (p1 : Int32) (p2 : Int32)  : Met l yX4_forceOf wsX4_forceOf ({ frames := 1, cells := 0, slots := 0, locals := 21 } : Room) (va_Pc [.ref (a 5), .int p1, .int p2] (gI G cA (a 37) 37 a (cM a cA) S L sz)) (gQi (rX4_forceOf S p1 p2) G 37 a (cM a cA) S L sz) 0 0 (mA 37 a sz) := by
  refine g_met (cc := cX4_forceOf) (maxL := 3) (ret := (some .int)) (by decide) rfl (Nat.le_of_ble_eq_true rfl) ?_
  intro p e s m below meth c ls hx hb hr hlocks hml hts hown hnm hsz hK hP hS hl
  subst hsz
  have hl : lv_has ls 3 [(0, .ref (a 5)), (1, .int p1), (2, .int p2)] := hl
  refine lv_aload_n hx hb dX4_forceOf_0 rfl (lv_at hl 0 rfl) ?_
  refine g_get (ci := 4) (C := RX4) (T := TX4) (N := 6) (v := .ref (a 10)) hx hb hts iX4_forceOf_X4 hown hK hP (by decide) cM_C rfl 2 (by decide) rfl (by decide +kernel) rfl dX4_forceOf_1 ?_
  refine lv_iload_n hx hb dX4_forceOf_4 rfl (lv_at hl 1 rfl) ?_
  refine lv_bipush (v := 8) hx hb dX4_forceOf_5 (by decide) ?_
  refine lv_imul hx hb dX4_forceOf_7 ?_
  refine lv_iload_n hx hb dX4_forceOf_8 rfl (lv_at hl 2 rfl) ?_
  refine lv_iadd hx hb dX4_forceOf_9 ?_
  refine g_cVi (As := [.int ((p1 * 8) + p2)]) (rest := []) ⟨hx, hb, hml, hown, hts⟩ (c_X3_get l G cA a ha S L s.heap.size 10 ((p1 * 8) + p2) (by decide) ) (cwV 1 hts gX4_forceOf_X3_get rfl rfl rfl (by decide +kernel) ⟨Nat.le_of_ble_eq_true rfl, Nat.le_of_ble_eq_true rfl⟩) (g_recv hK hP (lt_R (by decide)) (cM_R (by decide)) (C := RX3) (T := TX3) (N := 1) rfl) hK (mA_mono hS.1) hP hS rfl hl.1 rfl (lv_room (Nat.le_of_ble_eq_true rfl)) dX4_forceOf_10 ⟨Nat.le_of_ble_eq_true rfl, Nat.le_of_ble_eq_true rfl⟩ (fun H locs hP hS _ _ => ?_)
  exact g_iret hx hb hr hlocks (by unfold rX4_forceOf; rfl) rfl rfl hP hS dX4_forceOf_13

def rX4_gateOf (S : Mm) (p1 : Int32) (p2 : Int32) : Int32 := rX3_get S 12 ((p1 * 8) + p2)
theorem iX4_gateOf_X4 : ∀ w ∈ u_ws RX4 TX4 6, w ∈ wsX4_gateOf := by decide +kernel
set_option maxHeartbeats 4000000 in
set_option maxRecDepth 100000 in
theorem c_X4_gateOf (l : Launch) (G : va_G) (cA : ClassId) (a : Nat → Nat) (ha : apart 37 a) (S : Mm) (L : Int64) (sz : Nat) (p1 : Int32) (p2 : Int32)  : Met l yX4_gateOf wsX4_gateOf ({ frames := 1, cells := 0, slots := 0, locals := 21 } : Room) (va_Pc [.ref (a 5), .int p1, .int p2] (gI G cA (a 37) 37 a (cM a cA) S L sz)) (gQi (rX4_gateOf S p1 p2) G 37 a (cM a cA) S L sz) 0 0 (mA 37 a sz) := by
  refine g_met (cc := cX4_gateOf) (maxL := 3) (ret := (some .int)) (by decide) rfl (Nat.le_of_ble_eq_true rfl) ?_
  intro p e s m below meth c ls hx hb hr hlocks hml hts hown hnm hsz hK hP hS hl
  subst hsz
  have hl : lv_has ls 3 [(0, .ref (a 5)), (1, .int p1), (2, .int p2)] := hl
  refine lv_aload_n hx hb dX4_gateOf_0 rfl (lv_at hl 0 rfl) ?_
  refine g_get (ci := 4) (C := RX4) (T := TX4) (N := 6) (v := .ref (a 12)) hx hb hts iX4_gateOf_X4 hown hK hP (by decide) cM_C rfl 3 (by decide) rfl (by decide +kernel) rfl dX4_gateOf_1 ?_
  refine lv_iload_n hx hb dX4_gateOf_4 rfl (lv_at hl 1 rfl) ?_
  refine lv_bipush (v := 8) hx hb dX4_gateOf_5 (by decide) ?_
  refine lv_imul hx hb dX4_gateOf_7 ?_
  refine lv_iload_n hx hb dX4_gateOf_8 rfl (lv_at hl 2 rfl) ?_
  refine lv_iadd hx hb dX4_gateOf_9 ?_
  refine g_cVi (As := [.int ((p1 * 8) + p2)]) (rest := []) ⟨hx, hb, hml, hown, hts⟩ (c_X3_get l G cA a ha S L s.heap.size 12 ((p1 * 8) + p2) (by decide) ) (cwV 1 hts gX4_gateOf_X3_get rfl rfl rfl (by decide +kernel) ⟨Nat.le_of_ble_eq_true rfl, Nat.le_of_ble_eq_true rfl⟩) (g_recv hK hP (lt_R (by decide)) (cM_R (by decide)) (C := RX3) (T := TX3) (N := 1) rfl) hK (mA_mono hS.1) hP hS rfl hl.1 rfl (lv_room (Nat.le_of_ble_eq_true rfl)) dX4_gateOf_10 ⟨Nat.le_of_ble_eq_true rfl, Nat.le_of_ble_eq_true rfl⟩ (fun H locs hP hS _ _ => ?_)
  exact g_iret hx hb hr hlocks (by unfold rX4_gateOf; rfl) rfl rfl hP hS dX4_gateOf_13

def rX4_fact (S : Mm) (p1 : Int32) (p2 : Int32) (p3 : Int32) : Int32 := (if p3 = 0 then rX4_pitchOf S p1 p2 else (if p3 = 1 then rX4_forceOf S p1 p2 else rX4_gateOf S p1 p2))
set_option maxHeartbeats 4000000 in
set_option maxRecDepth 100000 in
theorem c_X4_fact (l : Launch) (G : va_G) (cA : ClassId) (a : Nat → Nat) (ha : apart 37 a) (S : Mm) (L : Int64) (sz : Nat) (p1 : Int32) (p2 : Int32) (p3 : Int32)  : Met l yX4_fact wsX4_fact ({ frames := 2, cells := 0, slots := 0, locals := 43 } : Room) (va_Pc [.ref (a 5), .int p1, .int p2, .int p3] (gI G cA (a 37) 37 a (cM a cA) S L sz)) (gQi (rX4_fact S p1 p2 p3) G 37 a (cM a cA) S L sz) 0 0 (mA 37 a sz) := by
  refine g_met (cc := cX4_fact) (maxL := 4) (ret := (some .int)) (by decide) rfl (Nat.le_of_ble_eq_true rfl) ?_
  intro p e s m below meth c ls hx hb hr hlocks hml hts hown hnm hsz hK hP hS hl
  subst hsz
  have hl : lv_has ls 4 [(0, .ref (a 5)), (1, .int p1), (2, .int p2), (3, .int p3)] := hl
  refine lv_iload_n hx hb dX4_fact_0 rfl (lv_at hl 3 rfl) ?_
  by_cases c1 : p3 = 0
  ·
    refine lv_lookup (off := 27) (tgt := 28) hx hb dX4_fact_1 (by decide) (by rw [c1]; rfl) (by decide) ?_
    refine lv_aload_n hx hb dX4_fact_28 rfl (lv_at hl 0 rfl) ?_
    refine lv_iload_n hx hb dX4_fact_29 rfl (lv_at hl 1 rfl) ?_
    refine lv_iload_n hx hb dX4_fact_30 rfl (lv_at hl 2 rfl) ?_
    refine g_cVi (As := [.int p1, .int p2]) (rest := []) ⟨hx, hb, hml, hown, hts⟩ (c_X4_pitchOf l G cA a ha S L s.heap.size p1 p2  ) (cwV 2 hts gX4_fact_X4_pitchOf rfl rfl rfl (by decide +kernel) ⟨Nat.le_of_ble_eq_true rfl, Nat.le_of_ble_eq_true rfl⟩) (g_recv hK hP (by decide) cM_C (C := RX4) (T := TX4) (N := 6) rfl) hK (mA_mono hS.1) hP hS rfl hl.1 rfl (lv_room (Nat.le_of_ble_eq_true rfl)) dX4_fact_31 ⟨Nat.le_of_ble_eq_true rfl, Nat.le_of_ble_eq_true rfl⟩ (fun H locs hP hS _ _ => ?_)
    exact g_iret hx hb hr hlocks (by unfold rX4_fact; rw [if_pos c1]) rfl rfl hP hS dX4_fact_34
  ·
    by_cases c2 : p3 = 1
    ·
      refine lv_lookup (off := 34) (tgt := 35) hx hb dX4_fact_1 (by decide) ((lv_osw c1 rfl).trans (by rw [c2]; rfl)) (by decide) ?_
      refine lv_aload_n hx hb dX4_fact_35 rfl (lv_at hl 0 rfl) ?_
      refine lv_iload_n hx hb dX4_fact_36 rfl (lv_at hl 1 rfl) ?_
      refine lv_iload_n hx hb dX4_fact_37 rfl (lv_at hl 2 rfl) ?_
      refine g_cVi (As := [.int p1, .int p2]) (rest := []) ⟨hx, hb, hml, hown, hts⟩ (c_X4_forceOf l G cA a ha S L s.heap.size p1 p2  ) (cwV 2 hts gX4_fact_X4_forceOf rfl rfl rfl (by decide +kernel) ⟨Nat.le_of_ble_eq_true rfl, Nat.le_of_ble_eq_true rfl⟩) (g_recv hK hP (by decide) cM_C (C := RX4) (T := TX4) (N := 6) rfl) hK (mA_mono hS.1) hP hS rfl hl.1 rfl (lv_room (Nat.le_of_ble_eq_true rfl)) dX4_fact_38 ⟨Nat.le_of_ble_eq_true rfl, Nat.le_of_ble_eq_true rfl⟩ (fun H locs hP hS _ _ => ?_)
      exact g_iret hx hb hr hlocks (by unfold rX4_fact; rw [if_neg c1, if_pos c2]) rfl rfl hP hS dX4_fact_41
    ·
      refine lv_lookup (off := 41) (tgt := 42) hx hb dX4_fact_1 (by decide) ((lv_osw c1 rfl).trans ((lv_osw c2 rfl).trans rfl)) (by decide) ?_
      refine lv_aload_n hx hb dX4_fact_42 rfl (lv_at hl 0 rfl) ?_
      refine lv_iload_n hx hb dX4_fact_43 rfl (lv_at hl 1 rfl) ?_
      refine lv_iload_n hx hb dX4_fact_44 rfl (lv_at hl 2 rfl) ?_
      refine g_cVi (As := [.int p1, .int p2]) (rest := []) ⟨hx, hb, hml, hown, hts⟩ (c_X4_gateOf l G cA a ha S L s.heap.size p1 p2  ) (cwV 2 hts gX4_fact_X4_gateOf rfl rfl rfl (by decide +kernel) ⟨Nat.le_of_ble_eq_true rfl, Nat.le_of_ble_eq_true rfl⟩) (g_recv hK hP (by decide) cM_C (C := RX4) (T := TX4) (N := 6) rfl) hK (mA_mono hS.1) hP hS rfl hl.1 rfl (lv_room (Nat.le_of_ble_eq_true rfl)) dX4_fact_45 ⟨Nat.le_of_ble_eq_true rfl, Nat.le_of_ble_eq_true rfl⟩ (fun H locs hP hS _ _ => ?_)
      exact g_iret hx hb hr hlocks (by unfold rX4_fact; rw [if_neg c1, if_neg c2]) rfl rfl hP hS dX4_fact_48

def rX4_lengthOf (S : Mm) (p1 : Int32) : Int32 := (if p1 - p1 / 2 * 2 = 0 then (S 5 4) + (S 5 5) else (S 5 4) - (S 5 5))
theorem iX4_lengthOf_X4 : ∀ w ∈ u_ws RX4 TX4 6, w ∈ wsX4_lengthOf := by decide +kernel
set_option maxHeartbeats 4000000 in
set_option maxRecDepth 100000 in
theorem c_X4_lengthOf (l : Launch) (G : va_G) (cA : ClassId) (a : Nat → Nat) (ha : apart 37 a) (S : Mm) (L : Int64) (sz : Nat) (p1 : Int32)  : Met l yX4_lengthOf wsX4_lengthOf ({ frames := 0, cells := 0, slots := 0, locals := 0 } : Room) (va_Pc [.ref (a 5), .int p1] (gI G cA (a 37) 37 a (cM a cA) S L sz)) (gQi (rX4_lengthOf S p1) G 37 a (cM a cA) S L sz) 0 0 (mA 37 a sz) := by
  refine g_met (cc := cX4_lengthOf) (maxL := 2) (ret := (some .int)) (by decide) rfl (Nat.le_of_ble_eq_true rfl) ?_
  intro p e s m below meth c ls hx hb hr hlocks hml hts hown hnm hsz hK hP hS hl
  subst hsz
  have hl : lv_has ls 2 [(0, .ref (a 5)), (1, .int p1)] := hl
  refine lv_iload_n hx hb dX4_lengthOf_0 rfl (lv_at hl 1 rfl) ?_
  refine lv_iconst (v := 2) hx hb dX4_lengthOf_1 (by decide) ?_
  refine lv_irem hx hb dX4_lengthOf_2 (by decide) ?_
  refine lv_if_ne (tgt := 18) hx hb dX4_lengthOf_3 (by decide) (fun c1 => ?_) (fun c1 => ?_)
  ·
    refine lv_aload_n hx hb dX4_lengthOf_18 rfl (lv_at hl 0 rfl) ?_
    refine g_get (ci := 4) (C := RX4) (T := TX4) (N := 6) (v := .int (S 5 4)) hx hb hts iX4_lengthOf_X4 hown hK hP (by decide) cM_C rfl 4 (by decide) rfl (by decide +kernel) rfl dX4_lengthOf_19 ?_
    refine lv_aload_n hx hb dX4_lengthOf_22 rfl (lv_at hl 0 rfl) ?_
    refine g_get (ci := 4) (C := RX4) (T := TX4) (N := 6) (v := .int (S 5 5)) hx hb hts iX4_lengthOf_X4 hown hK hP (by decide) cM_C rfl 5 (by decide) rfl (by decide +kernel) rfl dX4_lengthOf_23 ?_
    refine lv_isub hx hb dX4_lengthOf_26 ?_
    exact g_iret hx hb hr hlocks (by unfold rX4_lengthOf; rw [if_neg c1]) rfl rfl hP hS dX4_lengthOf_27
  ·
    refine lv_aload_n hx hb dX4_lengthOf_6 rfl (lv_at hl 0 rfl) ?_
    refine g_get (ci := 4) (C := RX4) (T := TX4) (N := 6) (v := .int (S 5 4)) hx hb hts iX4_lengthOf_X4 hown hK hP (by decide) cM_C rfl 4 (by decide) rfl (by decide +kernel) rfl dX4_lengthOf_7 ?_
    refine lv_aload_n hx hb dX4_lengthOf_10 rfl (lv_at hl 0 rfl) ?_
    refine g_get (ci := 4) (C := RX4) (T := TX4) (N := 6) (v := .int (S 5 5)) hx hb hts iX4_lengthOf_X4 hown hK hP (by decide) cM_C rfl 5 (by decide) rfl (by decide +kernel) rfl dX4_lengthOf_11 ?_
    refine lv_iadd hx hb dX4_lengthOf_14 ?_
    refine lv_goto (tgt := 27) hx hb dX4_lengthOf_15 (by decide) ?_
    exact g_iret hx hb hr hlocks (by unfold rX4_lengthOf; rw [if_pos c1]) rfl rfl hP hS dX4_lengthOf_27

def rX5_instrumentOf (p1 : Int32) : Nat := (if p1 = 0 then 14 else (if p1 = 1 then 15 else (if p1 = 2 then 16 else 17)))
theorem iX5_instrumentOf_X5 : ∀ w ∈ u_ws RX5 TX5 7, w ∈ wsX5_instrumentOf := by decide +kernel
set_option maxHeartbeats 4000000 in
set_option maxRecDepth 100000 in
theorem c_X5_instrumentOf (l : Launch) (G : va_G) (cA : ClassId) (a : Nat → Nat) (ha : apart 37 a) (S : Mm) (L : Int64) (sz : Nat) (p1 : Int32)  : Met l yX5_instrumentOf wsX5_instrumentOf ({ frames := 0, cells := 0, slots := 0, locals := 0 } : Room) (va_Pc [.ref (a 1), .int p1] (gI G cA (a 37) 37 a (cM a cA) S L sz)) (gQr (a (rX5_instrumentOf p1)) G 37 a (cM a cA) S L sz) 0 0 (mA 37 a sz) := by
  refine g_met (cc := cX5_instrumentOf) (maxL := 2) (ret := (some (.object "Melodeon$Instrument"))) (by decide) rfl (Nat.le_of_ble_eq_true rfl) ?_
  intro p e s m below meth c ls hx hb hr hlocks hml hts hown hnm hsz hK hP hS hl
  subst hsz
  have hl : lv_has ls 2 [(0, .ref (a 1)), (1, .int p1)] := hl
  refine lv_iload_n hx hb dX5_instrumentOf_0 rfl (lv_at hl 1 rfl) ?_
  by_cases c1 : p1 = 0
  ·
    refine lv_tableIn (off := 27) (tgt := 28) hx hb dX5_instrumentOf_1 (by rw [c1]; decide) (by rw [c1]; decide) (by rw [c1]; rfl) (by decide) ?_
    refine lv_aload_n hx hb dX5_instrumentOf_28 rfl (lv_at hl 0 rfl) ?_
    refine g_get (ci := 5) (C := RX5) (T := TX5) (N := 7) (v := .ref (a 14)) hx hb hts iX5_instrumentOf_X5 hown hK hP (by decide) cM_S rfl 3 (by decide) rfl (by decide +kernel) rfl dX5_instrumentOf_29 ?_
    exact g_aret hx hb hr hlocks (congrArg a (by unfold rX5_instrumentOf; rw [if_pos c1])) rfl rfl hP hS dX5_instrumentOf_32
  ·
    by_cases c2 : p1 = 1
    ·
      refine lv_tableIn (off := 32) (tgt := 33) hx hb dX5_instrumentOf_1 (by rw [c2]; decide) (by rw [c2]; decide) (by rw [c2]; rfl) (by decide) ?_
      refine lv_aload_n hx hb dX5_instrumentOf_33 rfl (lv_at hl 0 rfl) ?_
      refine g_get (ci := 5) (C := RX5) (T := TX5) (N := 7) (v := .ref (a 15)) hx hb hts iX5_instrumentOf_X5 hown hK hP (by decide) cM_S rfl 4 (by decide) rfl (by decide +kernel) rfl dX5_instrumentOf_34 ?_
      exact g_aret hx hb hr hlocks (congrArg a (by unfold rX5_instrumentOf; rw [if_neg c1, if_pos c2])) rfl rfl hP hS dX5_instrumentOf_37
    ·
      by_cases c3 : p1 = 2
      ·
        refine lv_tableIn (off := 37) (tgt := 38) hx hb dX5_instrumentOf_1 (by rw [c3]; decide) (by rw [c3]; decide) (by rw [c3]; rfl) (by decide) ?_
        refine lv_aload_n hx hb dX5_instrumentOf_38 rfl (lv_at hl 0 rfl) ?_
        refine g_get (ci := 5) (C := RX5) (T := TX5) (N := 7) (v := .ref (a 16)) hx hb hts iX5_instrumentOf_X5 hown hK hP (by decide) cM_S rfl 5 (by decide) rfl (by decide +kernel) rfl dX5_instrumentOf_39 ?_
        exact g_aret hx hb hr hlocks (congrArg a (by unfold rX5_instrumentOf; rw [if_neg c1, if_neg c2, if_pos c3])) rfl rfl hP hS dX5_instrumentOf_42
      ·
        refine lv_tableOut (tgt := 43) hx hb dX5_instrumentOf_1 (by have := lv_neT c1 (a := 0) rfl; have := lv_neT c2 (a := 1) rfl; have := lv_neT c3 (a := 2) rfl; omega) (by decide) ?_
        refine lv_aload_n hx hb dX5_instrumentOf_43 rfl (lv_at hl 0 rfl) ?_
        refine g_get (ci := 5) (C := RX5) (T := TX5) (N := 7) (v := .ref (a 17)) hx hb hts iX5_instrumentOf_X5 hown hK hP (by decide) cM_S rfl 6 (by decide) rfl (by decide +kernel) rfl dX5_instrumentOf_44 ?_
        exact g_aret hx hb hr hlocks (congrArg a (by unfold rX5_instrumentOf; rw [if_neg c1, if_neg c2, if_neg c3])) rfl rfl hP hS dX5_instrumentOf_47
theorem k_X5_instrumentOf {p1 : Int32}  : isI (rX5_instrumentOf p1) := by
  unfold rX5_instrumentOf
  (repeat' split) <;> first | exact isV_G4 ho | exact isV_G5 ho | exact isV_G6 ho | exact isV_G7 ho | decide

def mX0_pass_1 (S : Mm) (o : Nat) (p1 : Int32) : Mm := fX3_put S (o + 1) (S o 3) (rX9_kept (p1 + (((rX3_get S (o + 1) (S o 3)) * (S o 2)) / 256)) (100000 : Int32))
def jX0_pass_2 (S : Mm) (o : Nat) (p1 : Int32) : Int32 := (if (mX0_pass_1 S o p1) o 0 ≤ ((mX0_pass_1 S o p1) o 3) + 1 then 0 else ((mX0_pass_1 S o p1) o 3) + 1)
def rX0_pass (S : Mm) (o : Nat) (p1 : Int32) : Int32 := (if S o 0 = 0 then p1 else p1 + (((rX3_get S (o + 1) (S o 3)) * ((up2 (mX0_pass_1 S o p1) o 3 (jX0_pass_2 S o p1)) o 1)) / 256))
def fX0_pass (S : Mm) (o : Nat) (p1 : Int32) : Mm := (if S o 0 = 0 then S else up2 (mX0_pass_1 S o p1) o 3 (jX0_pass_2 S o p1))
theorem iX0_pass_X0 : ∀ w ∈ u_ws RX0 TX0 5, w ∈ wsX0_pass := by decide +kernel
set_option maxHeartbeats 4000000 in
set_option maxRecDepth 100000 in
theorem c_X0_pass (l : Launch) (G : va_G) (cA : ClassId) (a : Nat → Nat) (ha : apart 37 a) (S : Mm) (L : Int64) (sz : Nat) (o : Nat) (p1 : Int32) (ho : isDl o) : Met l yX0_pass wsX0_pass ({ frames := 2, cells := 0, slots := 0, locals := 42 } : Room) (va_Pc [.ref (a o), .int p1] (gI G cA (a 37) 37 a (cM a cA) S L sz)) (gQi (rX0_pass S o p1) G 37 a (cM a cA) (fX0_pass S o p1) L sz) 0 0 (mA 37 a sz) := by
  refine g_met (cc := cX0_pass) (maxL := 3) (ret := (some .int)) (by decide) rfl (Nat.le_of_ble_eq_true rfl) ?_
  intro p e s m below meth c ls hx hb hr hlocks hml hts hown hnm hsz hK hP hS hl
  subst hsz
  have hl : lv_has ls 3 [(0, .ref (a o)), (1, .int p1)] := hl
  refine lv_aload_n hx hb dX0_pass_0 rfl (lv_at hl 0 rfl) ?_
  refine g_get (ci := 0) (C := RX0) (T := TX0) (N := 5) (v := .int (S o 0)) hx hb hts iX0_pass_X0 hown hK hP (lt_Dl ho) (cM_Dl ho) rfl 0 (by decide) rfl (by decide +kernel) rfl dX0_pass_1 ?_
  refine lv_if_ne (tgt := 9) hx hb dX0_pass_4 (by decide) (fun c1 => ?_) (fun c1 => ?_)
  ·
    refine lv_aload_n hx hb dX0_pass_9 rfl (lv_at hl 0 rfl) ?_
    refine g_get (ci := 0) (C := RX0) (T := TX0) (N := 5) (v := .ref (a (o + 1))) hx hb hts iX0_pass_X0 hown hK hP (lt_Dl ho) (cM_Dl ho) rfl 4 (by decide) rfl (by decide +kernel) rfl dX0_pass_10 ?_
    refine lv_aload_n hx hb dX0_pass_13 rfl (lv_at hl 0 rfl) ?_
    refine g_get (ci := 0) (C := RX0) (T := TX0) (N := 5) (v := .int (S o 3)) hx hb hts iX0_pass_X0 hown hK hP (lt_Dl ho) (cM_Dl ho) rfl 3 (by decide) rfl (by decide +kernel) rfl dX0_pass_14 ?_
    refine g_cVi (As := [.int (S o 3)]) (rest := []) ⟨hx, hb, hml, hown, hts⟩ (c_X3_get l G cA a ha S L s.heap.size (o + 1) (S o 3) (isR_Dl ho) ) (cwV 1 hts gX0_pass_X3_get rfl rfl rfl (by decide +kernel) ⟨Nat.le_of_ble_eq_true rfl, Nat.le_of_ble_eq_true rfl⟩) (g_recv hK hP (lt_R (isR_Dl ho)) (cM_R (isR_Dl ho)) (C := RX3) (T := TX3) (N := 1) rfl) hK (mA_mono hS.1) hP hS rfl hl.1 rfl (lv_room (Nat.le_of_ble_eq_true rfl)) dX0_pass_17 ⟨Nat.le_of_ble_eq_true rfl, Nat.le_of_ble_eq_true rfl⟩ (fun H locs hP hS _ _ => ?_)
    refine lv_istore_n (lv' := [(2, .int (rX3_get S (o + 1) (S o 3))), (0, .ref (a o)), (1, .int p1)]) hx hb dX0_pass_20 rfl hl (by decide) rfl (fun ls hl => ?_)
    refine lv_aload_n hx hb dX0_pass_21 rfl (lv_at hl 1 rfl) ?_
    refine g_get (ci := 0) (C := RX0) (T := TX0) (N := 5) (v := .ref (a (o + 1))) hx hb hts iX0_pass_X0 hown hK hP (lt_Dl ho) (cM_Dl ho) rfl 4 (by decide) rfl (by decide +kernel) rfl dX0_pass_22 ?_
    refine lv_aload_n hx hb dX0_pass_25 rfl (lv_at hl 1 rfl) ?_
    refine g_get (ci := 0) (C := RX0) (T := TX0) (N := 5) (v := .int (S o 3)) hx hb hts iX0_pass_X0 hown hK hP (lt_Dl ho) (cM_Dl ho) rfl 3 (by decide) rfl (by decide +kernel) rfl dX0_pass_26 ?_
    refine lv_iload_n hx hb dX0_pass_29 rfl (lv_at hl 2 rfl) ?_
    refine lv_iload_n hx hb dX0_pass_30 rfl (lv_at hl 0 rfl) ?_
    refine lv_aload_n hx hb dX0_pass_31 rfl (lv_at hl 1 rfl) ?_
    refine g_get (ci := 0) (C := RX0) (T := TX0) (N := 5) (v := .int (S o 2)) hx hb hts iX0_pass_X0 hown hK hP (lt_Dl ho) (cM_Dl ho) rfl 2 (by decide) rfl (by decide +kernel) rfl dX0_pass_32 ?_
    refine lv_imul hx hb dX0_pass_35 ?_
    refine lv_sipush (v := 256) hx hb dX0_pass_36 (by decide) ?_
    refine lv_idiv hx hb dX0_pass_39 (by decide) ?_
    refine lv_iadd hx hb dX0_pass_40 ?_
    refine lv_ldc (v := 100000) hx hb hown (hts (.constant RX0 44 100000) (by decide +kernel)) dX0_pass_41 ?_
    refine g_cNi (As := [.int (p1 + (((rX3_get S (o + 1) (S o 3)) * (S o 2)) / 256)), .int 100000]) (rest := [.int (S o 3), .ref (a (o + 1))]) ⟨hx, hb, hml, hown, hts⟩ (c_X9_kept l G cA a ha S L H.size (p1 + (((rX3_get S (o + 1) (S o 3)) * (S o 2)) / 256)) (100000 : Int32)  ) (va_cnB 2 hts gX0_pass_X9_kept_n45 rfl rfl rfl (hK.2.1.at (q := ("Melodeon$Delay", 45, yX9_kept, "Melodeon")) (by decide +kernel)) (hts (.initialized RX9) (by decide +kernel)) (by decide +kernel) ⟨Nat.le_of_ble_eq_true rfl, Nat.le_of_ble_eq_true rfl⟩) (hts (.static yX9_kept) (by decide +kernel)) hK (mA_mono hS.1) hP hS rfl hl.1 rfl (lv_room (Nat.le_of_ble_eq_true rfl)) dX0_pass_43 ⟨Nat.le_of_ble_eq_true rfl, Nat.le_of_ble_eq_true rfl⟩ (fun H locs hP hS _ _ => ?_)
    refine g_cVv (As := [.int (S o 3), .int (rX9_kept (p1 + (((rX3_get S (o + 1) (S o 3)) * (S o 2)) / 256)) (100000 : Int32))]) (rest := []) ⟨hx, hb, hml, hown, hts⟩ (c_X3_put l G cA a ha S L H.size (o + 1) (S o 3) (rX9_kept (p1 + (((rX3_get S (o + 1) (S o 3)) * (S o 2)) / 256)) (100000 : Int32)) (isR_Dl ho) ) (cwV 2 hts gX0_pass_X3_put rfl rfl rfl (by decide +kernel) ⟨Nat.le_of_ble_eq_true rfl, Nat.le_of_ble_eq_true rfl⟩) (g_recv hK hP (lt_R (isR_Dl ho)) (cM_R (isR_Dl ho)) (C := RX3) (T := TX3) (N := 1) rfl) hK (mA_mono hS.1) hP hS rfl hl.1 rfl (lv_room (Nat.le_of_ble_eq_true rfl)) dX0_pass_46 ⟨Nat.le_of_ble_eq_true rfl, Nat.le_of_ble_eq_true rfl⟩ (fun H locs hP hS _ _ => ?_)
    have hP : va_P G vwCl (wG 37 a (cM a cA) (mX0_pass_1 S o p1) L) H := hP
    refine lv_aload_n hx hb dX0_pass_49 rfl (lv_at hl 1 rfl) ?_
    refine lv_aload_n hx hb dX0_pass_50 rfl (lv_at hl 1 rfl) ?_
    refine g_get (ci := 0) (C := RX0) (T := TX0) (N := 5) (v := .int ((mX0_pass_1 S o p1) o 3)) hx hb hts iX0_pass_X0 hown hK hP (lt_Dl ho) (cM_Dl ho) rfl 3 (by decide) rfl (by decide +kernel) rfl dX0_pass_51 ?_
    refine lv_iconst (v := 1) hx hb dX0_pass_54 (by decide) ?_
    refine lv_iadd hx hb dX0_pass_55 ?_
    refine lv_aload_n hx hb dX0_pass_56 rfl (lv_at hl 1 rfl) ?_
    refine g_get (ci := 0) (C := RX0) (T := TX0) (N := 5) (v := .int ((mX0_pass_1 S o p1) o 0)) hx hb hts iX0_pass_X0 hown hK hP (lt_Dl ho) (cM_Dl ho) rfl 0 (by decide) rfl (by decide +kernel) rfl dX0_pass_57 ?_
    have hj3 : ∀ (zy0_hj3 : Int32) (H : Heap) (locs : List Loc) (ls : Array Slot), zy0_hj3 = (jX0_pass_2 S o p1) → va_P G vwCl (wG 37 a (cM a cA) (mX0_pass_1 S o p1) L) H → va_S (mA 37 a s.heap.size) s.heap H locs → lv_has ls 3 [(2, .int (rX3_get S (o + 1) (S o 3))), (0, .ref (a o)), (1, .int p1)] → W p l e ({ frames := 2, cells := 0, slots := 0, locals := 42 } : Room) s m ([.ref (a o), .int p1] : List Value).toArray below meth c H locs 0 0 (MQ below (gQi (rX0_pass S o p1) G 37 a (cM a cA) (fX0_pass S o p1) L s.heap.size) ([.ref (a o), .int p1] : List Value).toArray s 0 0 (mA 37 a s.heap.size)) (F0 m 73 ls [.int zy0_hj3, .ref (a o)]) := by
      intro zy0_hj3 H locs ls ezy0_hj3 hP hS hl
      rw [ezy0_hj3]
      refine g_put (ci := 0) (C := RX0) (T := TX0) (N := 5) (ty := .int) hx hb hts iX0_pass_X0 tyX0 tyX0_ok nmX0 hown hK ha mA_in hP hS (lt_Dl ho) (cM_Dl ho) rfl 3 (by decide) rfl (by decide +kernel) rfl (by decide +kernel) rfl rfl (Nat.le_of_ble_eq_true rfl) (cM_Dl_set ho (by decide)) dX0_pass_73 (fun H locs hP hS => ?_)
      refine lv_iload_n hx hb dX0_pass_76 rfl (lv_at hl 2 rfl) ?_
      refine lv_iload_n hx hb dX0_pass_77 rfl (lv_at hl 0 rfl) ?_
      refine lv_aload_n hx hb dX0_pass_78 rfl (lv_at hl 1 rfl) ?_
      refine g_get (ci := 0) (C := RX0) (T := TX0) (N := 5) (v := .int ((up2 (mX0_pass_1 S o p1) o 3 (jX0_pass_2 S o p1)) o 1)) hx hb hts iX0_pass_X0 hown hK hP (lt_Dl ho) (cM_Dl ho) rfl 1 (by decide) rfl (by decide +kernel) rfl dX0_pass_79 ?_
      refine lv_imul hx hb dX0_pass_82 ?_
      refine lv_sipush (v := 256) hx hb dX0_pass_83 (by decide) ?_
      refine lv_idiv hx hb dX0_pass_86 (by decide) ?_
      refine lv_iadd hx hb dX0_pass_87 ?_
      exact g_iret hx hb hr hlocks (by unfold rX0_pass; rw [if_neg c1]) (by unfold fX0_pass; rw [if_neg c1]) rfl hP hS dX0_pass_88
    refine lv_icmp_ge (tgt := 72) hx hb dX0_pass_60 (by decide) (fun c2 => ?_) (fun c2 => ?_)
    ·
      refine lv_iconst (v := 0) hx hb dX0_pass_72 (by decide) ?_
      exact hj3 _ _ _ _ (by unfold jX0_pass_2; rw [if_pos c2]) hP hS (lv_sub hl [0, 1, 2] rfl)
    ·
      refine lv_aload_n hx hb dX0_pass_63 rfl (lv_at hl 1 rfl) ?_
      refine g_get (ci := 0) (C := RX0) (T := TX0) (N := 5) (v := .int ((mX0_pass_1 S o p1) o 3)) hx hb hts iX0_pass_X0 hown hK hP (lt_Dl ho) (cM_Dl ho) rfl 3 (by decide) rfl (by decide +kernel) rfl dX0_pass_64 ?_
      refine lv_iconst (v := 1) hx hb dX0_pass_67 (by decide) ?_
      refine lv_iadd hx hb dX0_pass_68 ?_
      refine lv_goto (tgt := 73) hx hb dX0_pass_69 (by decide) ?_
      exact hj3 _ _ _ _ (by unfold jX0_pass_2; rw [if_neg c2]) hP hS (lv_sub hl [0, 1, 2] rfl)
  ·
    refine lv_iload_n hx hb dX0_pass_7 rfl (lv_at hl 1 rfl) ?_
    exact g_iret hx hb hr hlocks (by unfold rX0_pass; rw [if_pos c1]) (by unfold fX0_pass; rw [if_pos c1]) rfl hP hS dX0_pass_8

def jX0_at_1 (S : Mm) (o : Nat) (p1 : Int32) : Int32 := (if S o 0 ≤ (S o 3) + p1 then ((S o 3) + p1) - (S o 0) else (S o 3) + p1)
def rX0_at (S : Mm) (o : Nat) (p1 : Int32) : Int32 := rX3_get S (o + 1) (jX0_at_1 S o p1)
theorem iX0_at_X0 : ∀ w ∈ u_ws RX0 TX0 5, w ∈ wsX0_at := by decide +kernel
set_option maxHeartbeats 4000000 in
set_option maxRecDepth 100000 in
theorem c_X0_at (l : Launch) (G : va_G) (cA : ClassId) (a : Nat → Nat) (ha : apart 37 a) (S : Mm) (L : Int64) (sz : Nat) (o : Nat) (p1 : Int32) (ho : isDl o) : Met l yX0_at wsX0_at ({ frames := 1, cells := 0, slots := 0, locals := 21 } : Room) (va_Pc [.ref (a o), .int p1] (gI G cA (a 37) 37 a (cM a cA) S L sz)) (gQi (rX0_at S o p1) G 37 a (cM a cA) S L sz) 0 0 (mA 37 a sz) := by
  refine g_met (cc := cX0_at) (maxL := 3) (ret := (some .int)) (by decide) rfl (Nat.le_of_ble_eq_true rfl) ?_
  intro p e s m below meth c ls hx hb hr hlocks hml hts hown hnm hsz hK hP hS hl
  subst hsz
  have hl : lv_has ls 3 [(0, .ref (a o)), (1, .int p1)] := hl
  refine lv_aload_n hx hb dX0_at_0 rfl (lv_at hl 0 rfl) ?_
  refine g_get (ci := 0) (C := RX0) (T := TX0) (N := 5) (v := .int (S o 3)) hx hb hts iX0_at_X0 hown hK hP (lt_Dl ho) (cM_Dl ho) rfl 3 (by decide) rfl (by decide +kernel) rfl dX0_at_1 ?_
  refine lv_iload_n hx hb dX0_at_4 rfl (lv_at hl 1 rfl) ?_
  refine lv_iadd hx hb dX0_at_5 ?_
  refine lv_istore_n (lv' := [(2, .int ((S o 3) + p1)), (0, .ref (a o)), (1, .int p1)]) hx hb dX0_at_6 rfl hl (by decide) rfl (fun ls hl => ?_)
  refine lv_aload_n hx hb dX0_at_7 rfl (lv_at hl 1 rfl) ?_
  refine g_get (ci := 0) (C := RX0) (T := TX0) (N := 5) (v := .ref (a (o + 1))) hx hb hts iX0_at_X0 hown hK hP (lt_Dl ho) (cM_Dl ho) rfl 4 (by decide) rfl (by decide +kernel) rfl dX0_at_8 ?_
  refine lv_iload_n hx hb dX0_at_11 rfl (lv_at hl 0 rfl) ?_
  refine lv_aload_n hx hb dX0_at_12 rfl (lv_at hl 1 rfl) ?_
  refine g_get (ci := 0) (C := RX0) (T := TX0) (N := 5) (v := .int (S o 0)) hx hb hts iX0_at_X0 hown hK hP (lt_Dl ho) (cM_Dl ho) rfl 0 (by decide) rfl (by decide +kernel) rfl dX0_at_13 ?_
  have hj2 : ∀ (zy0_hj2 : Int32) (H : Heap) (locs : List Loc) (ls : Array Slot), zy0_hj2 = (jX0_at_1 S o p1) → va_P G vwCl (wG 37 a (cM a cA) S L) H → va_S (mA 37 a s.heap.size) s.heap H locs → lv_has ls 3 [(2, .int ((S o 3) + p1)), (0, .ref (a o)), (1, .int p1)] → W p l e ({ frames := 1, cells := 0, slots := 0, locals := 21 } : Room) s m ([.ref (a o), .int p1] : List Value).toArray below meth c H locs 0 0 (MQ below (gQi (rX0_at S o p1) G 37 a (cM a cA) S L s.heap.size) ([.ref (a o), .int p1] : List Value).toArray s 0 0 (mA 37 a s.heap.size)) (F0 m 29 ls [.int zy0_hj2, .ref (a (o + 1))]) := by
    intro zy0_hj2 H locs ls ezy0_hj2 hP hS hl
    rw [ezy0_hj2]
    refine g_cVi (As := [.int (jX0_at_1 S o p1)]) (rest := []) ⟨hx, hb, hml, hown, hts⟩ (c_X3_get l G cA a ha S L H.size (o + 1) (jX0_at_1 S o p1) (isR_Dl ho) ) (cwV 1 hts gX0_at_X3_get rfl rfl rfl (by decide +kernel) ⟨Nat.le_of_ble_eq_true rfl, Nat.le_of_ble_eq_true rfl⟩) (g_recv hK hP (lt_R (isR_Dl ho)) (cM_R (isR_Dl ho)) (C := RX3) (T := TX3) (N := 1) rfl) hK (mA_mono hS.1) hP hS rfl hl.1 rfl (lv_room (Nat.le_of_ble_eq_true rfl)) dX0_at_29 ⟨Nat.le_of_ble_eq_true rfl, Nat.le_of_ble_eq_true rfl⟩ (fun H locs hP hS _ _ => ?_)
    exact g_iret hx hb hr hlocks (by unfold rX0_at; rfl) rfl rfl hP hS dX0_at_32
  refine lv_icmp_ge (tgt := 23) hx hb dX0_at_16 (by decide) (fun c1 => ?_) (fun c1 => ?_)
  ·
    refine lv_iload_n hx hb dX0_at_23 rfl (lv_at hl 0 rfl) ?_
    refine lv_aload_n hx hb dX0_at_24 rfl (lv_at hl 1 rfl) ?_
    refine g_get (ci := 0) (C := RX0) (T := TX0) (N := 5) (v := .int (S o 0)) hx hb hts iX0_at_X0 hown hK hP (lt_Dl ho) (cM_Dl ho) rfl 0 (by decide) rfl (by decide +kernel) rfl dX0_at_25 ?_
    refine lv_isub hx hb dX0_at_28 ?_
    exact hj2 _ _ _ _ (by unfold jX0_at_1; rw [if_pos c1]) hP hS (lv_sub hl [0, 1, 2] rfl)
  ·
    refine lv_iload_n hx hb dX0_at_19 rfl (lv_at hl 0 rfl) ?_
    refine lv_goto (tgt := 29) hx hb dX0_at_20 (by decide) ?_
    exact hj2 _ _ _ _ (by unfold jX0_at_1; rw [if_neg c1]) hP hS (lv_sub hl [0, 1, 2] rfl)

def mX0_tell_1 (S : Mm) (o : Nat) (p1 : Int32) (p2 : Int32) (p3 : Int32) : Mm := fX3_fill (up2 (up2 (up2 (up2 S o 0 p1) o 1 p2) o 2 p3) o 3 0) (o + 1) (0 : Int32)
def fX0_tell (S : Mm) (o : Nat) (p1 : Int32) (p2 : Int32) (p3 : Int32) : Mm := (mX0_tell_1 S o p1 p2 p3)
theorem iX0_tell_X0 : ∀ w ∈ u_ws RX0 TX0 5, w ∈ wsX0_tell := by decide +kernel
set_option maxHeartbeats 4000000 in
set_option maxRecDepth 100000 in
theorem c_X0_tell (l : Launch) (G : va_G) (cA : ClassId) (a : Nat → Nat) (ha : apart 37 a) (S : Mm) (L : Int64) (sz : Nat) (o : Nat) (p1 : Int32) (p2 : Int32) (p3 : Int32) (ho : isDl o) : Met l yX0_tell wsX0_tell ({ frames := 1, cells := 0, slots := 0, locals := 22 } : Room) (va_Pc [.ref (a o), .int p1, .int p2, .int p3] (gI G cA (a 37) 37 a (cM a cA) S L sz)) (gQv G 37 a (cM a cA) (fX0_tell S o p1 p2 p3) L sz) 0 0 (mA 37 a sz) := by
  refine g_met (cc := cX0_tell) (maxL := 4) (ret := none) (by decide) rfl (Nat.le_of_ble_eq_true rfl) ?_
  intro p e s m below meth c ls hx hb hr hlocks hml hts hown hnm hsz hK hP hS hl
  subst hsz
  have hl : lv_has ls 4 [(0, .ref (a o)), (1, .int p1), (2, .int p2), (3, .int p3)] := hl
  refine lv_aload_n hx hb dX0_tell_0 rfl (lv_at hl 0 rfl) ?_
  refine lv_iload_n hx hb dX0_tell_1 rfl (lv_at hl 1 rfl) ?_
  refine g_put (ci := 0) (C := RX0) (T := TX0) (N := 5) (ty := .int) hx hb hts iX0_tell_X0 tyX0 tyX0_ok nmX0 hown hK ha mA_in hP hS (lt_Dl ho) (cM_Dl ho) rfl 0 (by decide) rfl (by decide +kernel) rfl (by decide +kernel) rfl rfl (Nat.le_of_ble_eq_true rfl) (cM_Dl_set ho (by decide)) dX0_tell_2 (fun H locs hP hS => ?_)
  refine lv_aload_n hx hb dX0_tell_5 rfl (lv_at hl 0 rfl) ?_
  refine lv_iload_n hx hb dX0_tell_6 rfl (lv_at hl 2 rfl) ?_
  refine g_put (ci := 0) (C := RX0) (T := TX0) (N := 5) (ty := .int) hx hb hts iX0_tell_X0 tyX0 tyX0_ok nmX0 hown hK ha mA_in hP hS (lt_Dl ho) (cM_Dl ho) rfl 1 (by decide) rfl (by decide +kernel) rfl (by decide +kernel) rfl rfl (Nat.le_of_ble_eq_true rfl) (cM_Dl_set ho (by decide)) dX0_tell_7 (fun H locs hP hS => ?_)
  refine lv_aload_n hx hb dX0_tell_10 rfl (lv_at hl 0 rfl) ?_
  refine lv_iload_n hx hb dX0_tell_11 rfl (lv_at hl 3 rfl) ?_
  refine g_put (ci := 0) (C := RX0) (T := TX0) (N := 5) (ty := .int) hx hb hts iX0_tell_X0 tyX0 tyX0_ok nmX0 hown hK ha mA_in hP hS (lt_Dl ho) (cM_Dl ho) rfl 2 (by decide) rfl (by decide +kernel) rfl (by decide +kernel) rfl rfl (Nat.le_of_ble_eq_true rfl) (cM_Dl_set ho (by decide)) dX0_tell_12 (fun H locs hP hS => ?_)
  refine lv_aload_n hx hb dX0_tell_15 rfl (lv_at hl 0 rfl) ?_
  refine lv_iconst (v := 0) hx hb dX0_tell_16 (by decide) ?_
  refine g_put (ci := 0) (C := RX0) (T := TX0) (N := 5) (ty := .int) hx hb hts iX0_tell_X0 tyX0 tyX0_ok nmX0 hown hK ha mA_in hP hS (lt_Dl ho) (cM_Dl ho) rfl 3 (by decide) rfl (by decide +kernel) rfl (by decide +kernel) rfl rfl (Nat.le_of_ble_eq_true rfl) (cM_Dl_set ho (by decide)) dX0_tell_17 (fun H locs hP hS => ?_)
  refine lv_aload_n hx hb dX0_tell_20 rfl (lv_at hl 0 rfl) ?_
  refine g_get (ci := 0) (C := RX0) (T := TX0) (N := 5) (v := .ref (a (o + 1))) hx hb hts iX0_tell_X0 hown hK hP (lt_Dl ho) (cM_Dl ho) rfl 4 (by decide) rfl (by decide +kernel) rfl dX0_tell_21 ?_
  refine lv_iconst (v := 0) hx hb dX0_tell_24 (by decide) ?_
  refine g_cVv (As := [.int 0]) (rest := []) ⟨hx, hb, hml, hown, hts⟩ (c_X3_fill l G cA a ha (up2 (up2 (up2 (up2 S o 0 p1) o 1 p2) o 2 p3) o 3 0) L H.size (o + 1) (0 : Int32) (isR_Dl ho) ) (cwV 1 hts gX0_tell_X3_fill rfl rfl rfl (by decide +kernel) ⟨Nat.le_of_ble_eq_true rfl, Nat.le_of_ble_eq_true rfl⟩) (g_recv hK hP (lt_R (isR_Dl ho)) (cM_R (isR_Dl ho)) (C := RX3) (T := TX3) (N := 1) rfl) hK (mA_mono hS.1) hP hS rfl hl.1 rfl (lv_room (Nat.le_of_ble_eq_true rfl)) dX0_tell_25 ⟨Nat.le_of_ble_eq_true rfl, Nat.le_of_ble_eq_true rfl⟩ (fun H locs hP hS _ _ => ?_)
  have hP : va_P G vwCl (wG 37 a (cM a cA) (mX0_tell_1 S o p1 p2 p3) L) H := hP
  exact g_vret hx hb hr hlocks (by unfold fX0_tell; rfl) rfl hP hS dX0_tell_28

def mX0_copy_1 (S : Mm) (o : Nat) (o1 : Nat) : Mm := up2 (up2 (up2 S o 0 (S o1 0)) o 1 ((up2 S o 0 (S o1 0)) o1 1)) o 2 ((up2 (up2 S o 0 (S o1 0)) o 1 ((up2 S o 0 (S o1 0)) o1 1)) o1 2)
def mX0_copy_2 (S : Mm) (o : Nat) (o1 : Nat) : Mm := fX3_copy (up2 (mX0_copy_1 S o o1) o 3 ((mX0_copy_1 S o o1) o1 3)) (o + 1) (o1 + 1)
def fX0_copy (S : Mm) (o : Nat) (o1 : Nat) : Mm := (mX0_copy_2 S o o1)
theorem iX0_copy_X0 : ∀ w ∈ u_ws RX0 TX0 5, w ∈ wsX0_copy := by decide +kernel
set_option maxHeartbeats 4000000 in
set_option maxRecDepth 100000 in
theorem c_X0_copy (l : Launch) (G : va_G) (cA : ClassId) (a : Nat → Nat) (ha : apart 37 a) (S : Mm) (L : Int64) (sz : Nat) (o : Nat) (o1 : Nat) (ho : isDl o) (ho1 : isDl o1) : Met l yX0_copy wsX0_copy ({ frames := 2, cells := 0, slots := 0, locals := 43 } : Room) (va_Pc [.ref (a o), .ref (a o1)] (gI G cA (a 37) 37 a (cM a cA) S L sz)) (gQv G 37 a (cM a cA) (fX0_copy S o o1) L sz) 0 0 (mA 37 a sz) := by
  refine g_met (cc := cX0_copy) (maxL := 2) (ret := none) (by decide) rfl (Nat.le_of_ble_eq_true rfl) ?_
  intro p e s m below meth c ls hx hb hr hlocks hml hts hown hnm hsz hK hP hS hl
  subst hsz
  have hl : lv_has ls 2 [(0, .ref (a o)), (1, .ref (a o1))] := hl
  refine lv_aload_n hx hb dX0_copy_0 rfl (lv_at hl 0 rfl) ?_
  refine lv_aload_n hx hb dX0_copy_1 rfl (lv_at hl 1 rfl) ?_
  refine g_get (ci := 0) (C := RX0) (T := TX0) (N := 5) (v := .int (S o1 0)) hx hb hts iX0_copy_X0 hown hK hP (lt_Dl ho1) (cM_Dl ho1) rfl 0 (by decide) rfl (by decide +kernel) rfl dX0_copy_2 ?_
  refine g_put (ci := 0) (C := RX0) (T := TX0) (N := 5) (ty := .int) hx hb hts iX0_copy_X0 tyX0 tyX0_ok nmX0 hown hK ha mA_in hP hS (lt_Dl ho) (cM_Dl ho) rfl 0 (by decide) rfl (by decide +kernel) rfl (by decide +kernel) rfl rfl (Nat.le_of_ble_eq_true rfl) (cM_Dl_set ho (by decide)) dX0_copy_5 (fun H locs hP hS => ?_)
  refine lv_aload_n hx hb dX0_copy_8 rfl (lv_at hl 0 rfl) ?_
  refine lv_aload_n hx hb dX0_copy_9 rfl (lv_at hl 1 rfl) ?_
  refine g_get (ci := 0) (C := RX0) (T := TX0) (N := 5) (v := .int ((up2 S o 0 (S o1 0)) o1 1)) hx hb hts iX0_copy_X0 hown hK hP (lt_Dl ho1) (cM_Dl ho1) rfl 1 (by decide) rfl (by decide +kernel) rfl dX0_copy_10 ?_
  refine g_put (ci := 0) (C := RX0) (T := TX0) (N := 5) (ty := .int) hx hb hts iX0_copy_X0 tyX0 tyX0_ok nmX0 hown hK ha mA_in hP hS (lt_Dl ho) (cM_Dl ho) rfl 1 (by decide) rfl (by decide +kernel) rfl (by decide +kernel) rfl rfl (Nat.le_of_ble_eq_true rfl) (cM_Dl_set ho (by decide)) dX0_copy_13 (fun H locs hP hS => ?_)
  refine lv_aload_n hx hb dX0_copy_16 rfl (lv_at hl 0 rfl) ?_
  refine lv_aload_n hx hb dX0_copy_17 rfl (lv_at hl 1 rfl) ?_
  refine g_get (ci := 0) (C := RX0) (T := TX0) (N := 5) (v := .int ((up2 (up2 S o 0 (S o1 0)) o 1 ((up2 S o 0 (S o1 0)) o1 1)) o1 2)) hx hb hts iX0_copy_X0 hown hK hP (lt_Dl ho1) (cM_Dl ho1) rfl 2 (by decide) rfl (by decide +kernel) rfl dX0_copy_18 ?_
  refine g_put (ci := 0) (C := RX0) (T := TX0) (N := 5) (ty := .int) hx hb hts iX0_copy_X0 tyX0 tyX0_ok nmX0 hown hK ha mA_in hP hS (lt_Dl ho) (cM_Dl ho) rfl 2 (by decide) rfl (by decide +kernel) rfl (by decide +kernel) rfl rfl (Nat.le_of_ble_eq_true rfl) (cM_Dl_set ho (by decide)) dX0_copy_21 (fun H locs hP hS => ?_)
  have hP : va_P G vwCl (wG 37 a (cM a cA) (mX0_copy_1 S o o1) L) H := hP
  refine lv_aload_n hx hb dX0_copy_24 rfl (lv_at hl 0 rfl) ?_
  refine lv_aload_n hx hb dX0_copy_25 rfl (lv_at hl 1 rfl) ?_
  refine g_get (ci := 0) (C := RX0) (T := TX0) (N := 5) (v := .int ((mX0_copy_1 S o o1) o1 3)) hx hb hts iX0_copy_X0 hown hK hP (lt_Dl ho1) (cM_Dl ho1) rfl 3 (by decide) rfl (by decide +kernel) rfl dX0_copy_26 ?_
  refine g_put (ci := 0) (C := RX0) (T := TX0) (N := 5) (ty := .int) hx hb hts iX0_copy_X0 tyX0 tyX0_ok nmX0 hown hK ha mA_in hP hS (lt_Dl ho) (cM_Dl ho) rfl 3 (by decide) rfl (by decide +kernel) rfl (by decide +kernel) rfl rfl (Nat.le_of_ble_eq_true rfl) (cM_Dl_set ho (by decide)) dX0_copy_29 (fun H locs hP hS => ?_)
  refine lv_aload_n hx hb dX0_copy_32 rfl (lv_at hl 0 rfl) ?_
  refine g_get (ci := 0) (C := RX0) (T := TX0) (N := 5) (v := .ref (a (o + 1))) hx hb hts iX0_copy_X0 hown hK hP (lt_Dl ho) (cM_Dl ho) rfl 4 (by decide) rfl (by decide +kernel) rfl dX0_copy_33 ?_
  refine lv_aload_n hx hb dX0_copy_36 rfl (lv_at hl 1 rfl) ?_
  refine g_get (ci := 0) (C := RX0) (T := TX0) (N := 5) (v := .ref (a (o1 + 1))) hx hb hts iX0_copy_X0 hown hK hP (lt_Dl ho1) (cM_Dl ho1) rfl 4 (by decide) rfl (by decide +kernel) rfl dX0_copy_37 ?_
  refine g_cVv (As := [.ref (a (o1 + 1))]) (rest := []) ⟨hx, hb, hml, hown, hts⟩ (c_X3_copy l G cA a ha (up2 (mX0_copy_1 S o o1) o 3 ((mX0_copy_1 S o o1) o1 3)) L H.size (o + 1) (o1 + 1) (isR_Dl ho) (isR_Dl ho1) ) (cwV 1 hts gX0_copy_X3_copy rfl rfl rfl (by decide +kernel) ⟨Nat.le_of_ble_eq_true rfl, Nat.le_of_ble_eq_true rfl⟩) (g_recv hK hP (lt_R (isR_Dl ho)) (cM_R (isR_Dl ho)) (C := RX3) (T := TX3) (N := 1) rfl) hK (mA_mono hS.1) hP hS rfl hl.1 rfl (lv_room (Nat.le_of_ble_eq_true rfl)) dX0_copy_40 ⟨Nat.le_of_ble_eq_true rfl, Nat.le_of_ble_eq_true rfl⟩ (fun H locs hP hS _ _ => ?_)
  have hP : va_P G vwCl (wG 37 a (cM a cA) (mX0_copy_2 S o o1) L) H := hP
  exact g_vret hx hb hr hlocks (by unfold fX0_copy; rfl) rfl hP hS dX0_copy_43

