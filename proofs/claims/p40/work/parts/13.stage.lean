def rX6_voiceOf (o : Nat) (p1 : Int32) : Nat := (if p1 = 0 then (o + 4) else (if p1 = 1 then (o + 5) else (if p1 = 2 then (o + 6) else (o + 7))))
theorem iX6_voiceOf_X6 : ∀ w ∈ u_ws RX6 TX6 12, w ∈ wsX6_voiceOf := by decide +kernel
set_option maxHeartbeats 4000000 in
set_option maxRecDepth 100000 in
theorem c_X6_voiceOf (l : Launch) (G : va_G) (cA : ClassId) (a : Nat → Nat) (ha : apart 37 a) (S : Mm) (L : Int64) (sz : Nat) (o : Nat) (p1 : Int32) (ho : isG o) : Met l yX6_voiceOf wsX6_voiceOf ({ frames := 0, cells := 0, slots := 0, locals := 0 } : Room) (va_Pc [.ref (a o), .int p1] (gI G cA (a 37) 37 a (cM a cA) S L sz)) (gQr (a (rX6_voiceOf o p1)) G 37 a (cM a cA) S L sz) 0 0 (mA 37 a sz) := by
  refine g_met (cc := cX6_voiceOf) (maxL := 2) (ret := (some (.object "Melodeon$Voice"))) (by decide) rfl (Nat.le_of_ble_eq_true rfl) ?_
  intro p e s m below meth c ls hx hb hr hlocks hml hts hown hnm hsz hK hP hS hl
  subst hsz
  have hl : lv_has ls 2 [(0, .ref (a o)), (1, .int p1)] := hl
  refine lv_iload_n hx hb dX6_voiceOf_0 rfl (lv_at hl 1 rfl) ?_
  by_cases c1 : p1 = 0
  ·
    refine lv_tableIn (off := 27) (tgt := 28) hx hb dX6_voiceOf_1 (by rw [c1]; decide) (by rw [c1]; decide) (by rw [c1]; rfl) (by decide) ?_
    refine lv_aload_n hx hb dX6_voiceOf_28 rfl (lv_at hl 0 rfl) ?_
    refine g_get (ci := 6) (C := RX6) (T := TX6) (N := 12) (v := .ref (a (o + 4))) hx hb hts iX6_voiceOf_X6 hown hK hP (lt_G ho) (cM_G ho) rfl 2 (by decide) rfl (by decide +kernel) rfl dX6_voiceOf_29 ?_
    exact g_aret hx hb hr hlocks (congrArg a (by unfold rX6_voiceOf; rw [if_pos c1])) rfl rfl hP hS dX6_voiceOf_32
  ·
    by_cases c2 : p1 = 1
    ·
      refine lv_tableIn (off := 32) (tgt := 33) hx hb dX6_voiceOf_1 (by rw [c2]; decide) (by rw [c2]; decide) (by rw [c2]; rfl) (by decide) ?_
      refine lv_aload_n hx hb dX6_voiceOf_33 rfl (lv_at hl 0 rfl) ?_
      refine g_get (ci := 6) (C := RX6) (T := TX6) (N := 12) (v := .ref (a (o + 5))) hx hb hts iX6_voiceOf_X6 hown hK hP (lt_G ho) (cM_G ho) rfl 3 (by decide) rfl (by decide +kernel) rfl dX6_voiceOf_34 ?_
      exact g_aret hx hb hr hlocks (congrArg a (by unfold rX6_voiceOf; rw [if_neg c1, if_pos c2])) rfl rfl hP hS dX6_voiceOf_37
    ·
      by_cases c3 : p1 = 2
      ·
        refine lv_tableIn (off := 37) (tgt := 38) hx hb dX6_voiceOf_1 (by rw [c3]; decide) (by rw [c3]; decide) (by rw [c3]; rfl) (by decide) ?_
        refine lv_aload_n hx hb dX6_voiceOf_38 rfl (lv_at hl 0 rfl) ?_
        refine g_get (ci := 6) (C := RX6) (T := TX6) (N := 12) (v := .ref (a (o + 6))) hx hb hts iX6_voiceOf_X6 hown hK hP (lt_G ho) (cM_G ho) rfl 4 (by decide) rfl (by decide +kernel) rfl dX6_voiceOf_39 ?_
        exact g_aret hx hb hr hlocks (congrArg a (by unfold rX6_voiceOf; rw [if_neg c1, if_neg c2, if_pos c3])) rfl rfl hP hS dX6_voiceOf_42
      ·
        refine lv_tableOut (tgt := 43) hx hb dX6_voiceOf_1 (by have := lv_neT c1 (a := 0) rfl; have := lv_neT c2 (a := 1) rfl; have := lv_neT c3 (a := 2) rfl; omega) (by decide) ?_
        refine lv_aload_n hx hb dX6_voiceOf_43 rfl (lv_at hl 0 rfl) ?_
        refine g_get (ci := 6) (C := RX6) (T := TX6) (N := 12) (v := .ref (a (o + 7))) hx hb hts iX6_voiceOf_X6 hown hK hP (lt_G ho) (cM_G ho) rfl 5 (by decide) rfl (by decide +kernel) rfl dX6_voiceOf_44 ?_
        exact g_aret hx hb hr hlocks (congrArg a (by unfold rX6_voiceOf; rw [if_neg c1, if_neg c2, if_neg c3])) rfl rfl hP hS dX6_voiceOf_47
theorem k_X6_voiceOf {o : Nat} {p1 : Int32} (ho : isG o) : isV (rX6_voiceOf o p1) := by
  unfold rX6_voiceOf
  (repeat' split) <;> first | exact isV_G4 ho | exact isV_G5 ho | exact isV_G6 ho | exact isV_G7 ho | decide

def jX6_countSounding_1 (S : Mm) (o : Nat) : Int32 := (if S (rX6_voiceOf o (0 : Int32)) 0 = 0 then 0 else 1)
def jX6_countSounding_2 (S : Mm) (o : Nat) : Int32 := (if S (rX6_voiceOf o (1 : Int32)) 0 = 0 then (jX6_countSounding_1 S o) else (jX6_countSounding_1 S o) + 1)
def jX6_countSounding_3 (S : Mm) (o : Nat) : Int32 := (if S (rX6_voiceOf o (2 : Int32)) 0 = 0 then (jX6_countSounding_2 S o) else (jX6_countSounding_2 S o) + 1)
def jX6_countSounding_4 (S : Mm) (o : Nat) : Int32 := (if S (rX6_voiceOf o (3 : Int32)) 0 = 0 then (jX6_countSounding_3 S o) else (jX6_countSounding_3 S o) + 1)
def rX6_countSounding (S : Mm) (o : Nat) : Int32 := (jX6_countSounding_4 S o)
theorem iX6_countSounding_X7 : ∀ w ∈ u_ws RX7 TX7 11, w ∈ wsX6_countSounding := by decide +kernel
set_option maxHeartbeats 4000000 in
set_option maxRecDepth 100000 in
theorem c_X6_countSounding (l : Launch) (G : va_G) (cA : ClassId) (a : Nat → Nat) (ha : apart 37 a) (S : Mm) (L : Int64) (sz : Nat) (o : Nat) (ho : isG o) : Met l yX6_countSounding wsX6_countSounding ({ frames := 1, cells := 0, slots := 0, locals := 21 } : Room) (va_Pc [.ref (a o)] (gI G cA (a 37) 37 a (cM a cA) S L sz)) (gQi (rX6_countSounding S o) G 37 a (cM a cA) S L sz) 0 0 (mA 37 a sz) := by
  refine g_met (cc := cX6_countSounding) (maxL := 3) (ret := (some .int)) (by decide) rfl (Nat.le_of_ble_eq_true rfl) ?_
  intro p e s m below meth c ls hx hb hr hlocks hml hts hown hnm hsz hK hP hS hl
  subst hsz
  have hl : lv_has ls 3 [(0, .ref (a o))] := hl
  refine lv_iconst (v := 0) hx hb dX6_countSounding_0 (by decide) ?_
  refine lv_istore_n (lv' := [(1, .int 0), (0, .ref (a o))]) hx hb dX6_countSounding_1 rfl hl (by decide) rfl (fun ls hl => ?_)
  refine lv_iconst (v := 0) hx hb dX6_countSounding_2 (by decide) ?_
  refine lv_istore_n (lv' := [(2, .int 0), (1, .int 0), (0, .ref (a o))]) hx hb dX6_countSounding_3 rfl hl (by decide) rfl (fun ls hl => ?_)
  refine lv_iload_n hx hb dX6_countSounding_4 rfl (lv_at hl 0 rfl) ?_
  refine lv_iconst (v := 4) hx hb dX6_countSounding_5 (by decide) ?_
  refine lv_icmp_ge (tgt := 29) hx hb dX6_countSounding_6 (by decide) (fun c => absurd c (by decide)) (fun _ => ?_)
  refine lv_aload_n hx hb dX6_countSounding_9 rfl (lv_at hl 2 rfl) ?_
  refine lv_iload_n hx hb dX6_countSounding_10 rfl (lv_at hl 0 rfl) ?_
  refine g_cVr (As := [.int 0]) (rest := []) ⟨hx, hb, hml, hown, hts⟩ (c_X6_voiceOf l G cA a ha S L s.heap.size o (0 : Int32) ho ) (cwV 1 hts gX6_countSounding_X6_voiceOf rfl rfl rfl (by decide +kernel) ⟨Nat.le_of_ble_eq_true rfl, Nat.le_of_ble_eq_true rfl⟩) (g_recv hK hP (lt_G ho) (cM_G ho) (C := RX6) (T := TX6) (N := 12) rfl) hK (mA_mono hS.1) hP hS rfl hl.1 rfl (lv_room (Nat.le_of_ble_eq_true rfl)) dX6_countSounding_11 ⟨Nat.le_of_ble_eq_true rfl, Nat.le_of_ble_eq_true rfl⟩ (fun H locs hP hS _ _ => ?_)
  refine g_get (ci := 7) (C := RX7) (T := TX7) (N := 11) (v := .int (S (rX6_voiceOf o (0 : Int32)) 0)) hx hb hts iX6_countSounding_X7 hown hK hP (lt_V (k_X6_voiceOf ho)) (cM_V (k_X6_voiceOf ho)) rfl 0 (by decide) rfl (by decide +kernel) rfl dX6_countSounding_14 ?_
  have hj2 : ∀ (zx1_hj2 : Int32) (H : Heap) (locs : List Loc) (ls : Array Slot), zx1_hj2 = (jX6_countSounding_1 S o) → va_P G vwCl (wG 37 a (cM a cA) S L) H → va_S (mA 37 a s.heap.size) s.heap H locs → lv_has ls 3 [(2, .int 0), (1, .int zx1_hj2), (0, .ref (a o))] → W p l e ({ frames := 1, cells := 0, slots := 0, locals := 21 } : Room) s m ([.ref (a o)] : List Value).toArray below meth c H locs 0 0 (MQ below (gQi (rX6_countSounding S o) G 37 a (cM a cA) S L s.heap.size) ([.ref (a o)] : List Value).toArray s 0 0 (mA 37 a s.heap.size)) (F0 m 23 ls []) := by
    intro zx1_hj2 H locs ls ezx1_hj2 hP hS hl
    rw [ezx1_hj2] at hl
    refine lv_iinc (v := 1) (lv' := [(2, .int 1), (1, .int (jX6_countSounding_1 S o)), (0, .ref (a o))]) hx hb dX6_countSounding_23 hl (k := 0) rfl (by decide) (by decide) rfl (fun ls hl => ?_)
    refine lv_goto (tgt := 4) hx hb dX6_countSounding_26 (by decide) ?_
    refine lv_iload_n hx hb dX6_countSounding_4 rfl (lv_at hl 0 rfl) ?_
    refine lv_iconst (v := 4) hx hb dX6_countSounding_5 (by decide) ?_
    refine lv_icmp_ge (tgt := 29) hx hb dX6_countSounding_6 (by decide) (fun c => absurd c (by decide)) (fun _ => ?_)
    refine lv_aload_n hx hb dX6_countSounding_9 rfl (lv_at hl 2 rfl) ?_
    refine lv_iload_n hx hb dX6_countSounding_10 rfl (lv_at hl 0 rfl) ?_
    refine g_cVr (As := [.int 1]) (rest := []) ⟨hx, hb, hml, hown, hts⟩ (c_X6_voiceOf l G cA a ha S L H.size o (1 : Int32) ho ) (cwV 1 hts gX6_countSounding_X6_voiceOf rfl rfl rfl (by decide +kernel) ⟨Nat.le_of_ble_eq_true rfl, Nat.le_of_ble_eq_true rfl⟩) (g_recv hK hP (lt_G ho) (cM_G ho) (C := RX6) (T := TX6) (N := 12) rfl) hK (mA_mono hS.1) hP hS rfl hl.1 rfl (lv_room (Nat.le_of_ble_eq_true rfl)) dX6_countSounding_11 ⟨Nat.le_of_ble_eq_true rfl, Nat.le_of_ble_eq_true rfl⟩ (fun H locs hP hS _ _ => ?_)
    refine g_get (ci := 7) (C := RX7) (T := TX7) (N := 11) (v := .int (S (rX6_voiceOf o (1 : Int32)) 0)) hx hb hts iX6_countSounding_X7 hown hK hP (lt_V (k_X6_voiceOf ho)) (cM_V (k_X6_voiceOf ho)) rfl 0 (by decide) rfl (by decide +kernel) rfl dX6_countSounding_14 ?_
    have hj4 : ∀ (zx1_hj4 : Int32) (H : Heap) (locs : List Loc) (ls : Array Slot), zx1_hj4 = (jX6_countSounding_2 S o) → va_P G vwCl (wG 37 a (cM a cA) S L) H → va_S (mA 37 a s.heap.size) s.heap H locs → lv_has ls 3 [(2, .int 1), (1, .int zx1_hj4), (0, .ref (a o))] → W p l e ({ frames := 1, cells := 0, slots := 0, locals := 21 } : Room) s m ([.ref (a o)] : List Value).toArray below meth c H locs 0 0 (MQ below (gQi (rX6_countSounding S o) G 37 a (cM a cA) S L s.heap.size) ([.ref (a o)] : List Value).toArray s 0 0 (mA 37 a s.heap.size)) (F0 m 23 ls []) := by
      intro zx1_hj4 H locs ls ezx1_hj4 hP hS hl
      rw [ezx1_hj4] at hl
      refine lv_iinc (v := 2) (lv' := [(2, .int 2), (1, .int (jX6_countSounding_2 S o)), (0, .ref (a o))]) hx hb dX6_countSounding_23 hl (k := 0) rfl (by decide) (by decide) rfl (fun ls hl => ?_)
      refine lv_goto (tgt := 4) hx hb dX6_countSounding_26 (by decide) ?_
      refine lv_iload_n hx hb dX6_countSounding_4 rfl (lv_at hl 0 rfl) ?_
      refine lv_iconst (v := 4) hx hb dX6_countSounding_5 (by decide) ?_
      refine lv_icmp_ge (tgt := 29) hx hb dX6_countSounding_6 (by decide) (fun c => absurd c (by decide)) (fun _ => ?_)
      refine lv_aload_n hx hb dX6_countSounding_9 rfl (lv_at hl 2 rfl) ?_
      refine lv_iload_n hx hb dX6_countSounding_10 rfl (lv_at hl 0 rfl) ?_
      refine g_cVr (As := [.int 2]) (rest := []) ⟨hx, hb, hml, hown, hts⟩ (c_X6_voiceOf l G cA a ha S L H.size o (2 : Int32) ho ) (cwV 1 hts gX6_countSounding_X6_voiceOf rfl rfl rfl (by decide +kernel) ⟨Nat.le_of_ble_eq_true rfl, Nat.le_of_ble_eq_true rfl⟩) (g_recv hK hP (lt_G ho) (cM_G ho) (C := RX6) (T := TX6) (N := 12) rfl) hK (mA_mono hS.1) hP hS rfl hl.1 rfl (lv_room (Nat.le_of_ble_eq_true rfl)) dX6_countSounding_11 ⟨Nat.le_of_ble_eq_true rfl, Nat.le_of_ble_eq_true rfl⟩ (fun H locs hP hS _ _ => ?_)
      refine g_get (ci := 7) (C := RX7) (T := TX7) (N := 11) (v := .int (S (rX6_voiceOf o (2 : Int32)) 0)) hx hb hts iX6_countSounding_X7 hown hK hP (lt_V (k_X6_voiceOf ho)) (cM_V (k_X6_voiceOf ho)) rfl 0 (by decide) rfl (by decide +kernel) rfl dX6_countSounding_14 ?_
      have hj6 : ∀ (zx1_hj6 : Int32) (H : Heap) (locs : List Loc) (ls : Array Slot), zx1_hj6 = (jX6_countSounding_3 S o) → va_P G vwCl (wG 37 a (cM a cA) S L) H → va_S (mA 37 a s.heap.size) s.heap H locs → lv_has ls 3 [(2, .int 2), (1, .int zx1_hj6), (0, .ref (a o))] → W p l e ({ frames := 1, cells := 0, slots := 0, locals := 21 } : Room) s m ([.ref (a o)] : List Value).toArray below meth c H locs 0 0 (MQ below (gQi (rX6_countSounding S o) G 37 a (cM a cA) S L s.heap.size) ([.ref (a o)] : List Value).toArray s 0 0 (mA 37 a s.heap.size)) (F0 m 23 ls []) := by
        intro zx1_hj6 H locs ls ezx1_hj6 hP hS hl
        rw [ezx1_hj6] at hl
        refine lv_iinc (v := 3) (lv' := [(2, .int 3), (1, .int (jX6_countSounding_3 S o)), (0, .ref (a o))]) hx hb dX6_countSounding_23 hl (k := 0) rfl (by decide) (by decide) rfl (fun ls hl => ?_)
        refine lv_goto (tgt := 4) hx hb dX6_countSounding_26 (by decide) ?_
        refine lv_iload_n hx hb dX6_countSounding_4 rfl (lv_at hl 0 rfl) ?_
        refine lv_iconst (v := 4) hx hb dX6_countSounding_5 (by decide) ?_
        refine lv_icmp_ge (tgt := 29) hx hb dX6_countSounding_6 (by decide) (fun c => absurd c (by decide)) (fun _ => ?_)
        refine lv_aload_n hx hb dX6_countSounding_9 rfl (lv_at hl 2 rfl) ?_
        refine lv_iload_n hx hb dX6_countSounding_10 rfl (lv_at hl 0 rfl) ?_
        refine g_cVr (As := [.int 3]) (rest := []) ⟨hx, hb, hml, hown, hts⟩ (c_X6_voiceOf l G cA a ha S L H.size o (3 : Int32) ho ) (cwV 1 hts gX6_countSounding_X6_voiceOf rfl rfl rfl (by decide +kernel) ⟨Nat.le_of_ble_eq_true rfl, Nat.le_of_ble_eq_true rfl⟩) (g_recv hK hP (lt_G ho) (cM_G ho) (C := RX6) (T := TX6) (N := 12) rfl) hK (mA_mono hS.1) hP hS rfl hl.1 rfl (lv_room (Nat.le_of_ble_eq_true rfl)) dX6_countSounding_11 ⟨Nat.le_of_ble_eq_true rfl, Nat.le_of_ble_eq_true rfl⟩ (fun H locs hP hS _ _ => ?_)
        refine g_get (ci := 7) (C := RX7) (T := TX7) (N := 11) (v := .int (S (rX6_voiceOf o (3 : Int32)) 0)) hx hb hts iX6_countSounding_X7 hown hK hP (lt_V (k_X6_voiceOf ho)) (cM_V (k_X6_voiceOf ho)) rfl 0 (by decide) rfl (by decide +kernel) rfl dX6_countSounding_14 ?_
        have hj8 : ∀ (zx1_hj8 : Int32) (H : Heap) (locs : List Loc) (ls : Array Slot), zx1_hj8 = (jX6_countSounding_4 S o) → va_P G vwCl (wG 37 a (cM a cA) S L) H → va_S (mA 37 a s.heap.size) s.heap H locs → lv_has ls 3 [(2, .int 3), (1, .int zx1_hj8), (0, .ref (a o))] → W p l e ({ frames := 1, cells := 0, slots := 0, locals := 21 } : Room) s m ([.ref (a o)] : List Value).toArray below meth c H locs 0 0 (MQ below (gQi (rX6_countSounding S o) G 37 a (cM a cA) S L s.heap.size) ([.ref (a o)] : List Value).toArray s 0 0 (mA 37 a s.heap.size)) (F0 m 23 ls []) := by
          intro zx1_hj8 H locs ls ezx1_hj8 hP hS hl
          rw [ezx1_hj8] at hl
          refine lv_iinc (v := 4) (lv' := [(2, .int 4), (1, .int (jX6_countSounding_4 S o)), (0, .ref (a o))]) hx hb dX6_countSounding_23 hl (k := 0) rfl (by decide) (by decide) rfl (fun ls hl => ?_)
          refine lv_goto (tgt := 4) hx hb dX6_countSounding_26 (by decide) ?_
          refine lv_iload_n hx hb dX6_countSounding_4 rfl (lv_at hl 0 rfl) ?_
          refine lv_iconst (v := 4) hx hb dX6_countSounding_5 (by decide) ?_
          refine lv_icmp_ge (tgt := 29) hx hb dX6_countSounding_6 (by decide) (fun _ => ?_) (fun c => absurd c (by decide))
          refine lv_iload_n hx hb dX6_countSounding_29 rfl (lv_at hl 1 rfl) ?_
          exact g_iret hx hb hr hlocks (by unfold rX6_countSounding; rfl) rfl rfl hP hS dX6_countSounding_30
        refine lv_if_eq (tgt := 23) hx hb dX6_countSounding_17 (by decide) (fun c7 => ?_) (fun c7 => ?_)
        ·
          exact hj8 _ _ _ _ (by unfold jX6_countSounding_4; rw [if_pos c7]) hP hS (lv_sub hl [0, 1, 2] rfl)
        ·
          refine lv_iinc (v := (jX6_countSounding_3 S o) + 1) (lv' := [(1, .int ((jX6_countSounding_3 S o) + 1)), (2, .int 3), (0, .ref (a o))]) hx hb dX6_countSounding_20 hl (k := 1) rfl rfl (by decide) rfl (fun ls hl => ?_)
          exact hj8 _ _ _ _ (by unfold jX6_countSounding_4; rw [if_neg c7]) hP hS (lv_sub hl [1, 0, 2] rfl)
      refine lv_if_eq (tgt := 23) hx hb dX6_countSounding_17 (by decide) (fun c5 => ?_) (fun c5 => ?_)
      ·
        exact hj6 _ _ _ _ (by unfold jX6_countSounding_3; rw [if_pos c5]) hP hS (lv_sub hl [0, 1, 2] rfl)
      ·
        refine lv_iinc (v := (jX6_countSounding_2 S o) + 1) (lv' := [(1, .int ((jX6_countSounding_2 S o) + 1)), (2, .int 2), (0, .ref (a o))]) hx hb dX6_countSounding_20 hl (k := 1) rfl rfl (by decide) rfl (fun ls hl => ?_)
        exact hj6 _ _ _ _ (by unfold jX6_countSounding_3; rw [if_neg c5]) hP hS (lv_sub hl [1, 0, 2] rfl)
    refine lv_if_eq (tgt := 23) hx hb dX6_countSounding_17 (by decide) (fun c3 => ?_) (fun c3 => ?_)
    ·
      exact hj4 _ _ _ _ (by unfold jX6_countSounding_2; rw [if_pos c3]) hP hS (lv_sub hl [0, 1, 2] rfl)
    ·
      refine lv_iinc (v := (jX6_countSounding_1 S o) + 1) (lv' := [(1, .int ((jX6_countSounding_1 S o) + 1)), (2, .int 1), (0, .ref (a o))]) hx hb dX6_countSounding_20 hl (k := 1) rfl rfl (by decide) rfl (fun ls hl => ?_)
      exact hj4 _ _ _ _ (by unfold jX6_countSounding_2; rw [if_neg c3]) hP hS (lv_sub hl [1, 0, 2] rfl)
  refine lv_if_eq (tgt := 23) hx hb dX6_countSounding_17 (by decide) (fun c1 => ?_) (fun c1 => ?_)
  ·
    exact hj2 _ _ _ _ (by unfold jX6_countSounding_1; rw [if_pos c1]) hP hS (lv_sub hl [0, 1, 2] rfl)
  ·
    refine lv_iinc (v := 1) (lv' := [(1, .int 1), (2, .int 0), (0, .ref (a o))]) hx hb dX6_countSounding_20 hl (k := 1) rfl (by decide) (by decide) rfl (fun ls hl => ?_)
    exact hj2 _ _ _ _ (by unfold jX6_countSounding_1; rw [if_neg c1]) hP hS (lv_sub hl [1, 0, 2] rfl)

def rX6_stepOrNone (S : Mm) (o : Nat) : Int32 := (if S o 9 = 0 then (-1) else S o 10)
theorem iX6_stepOrNone_X6 : ∀ w ∈ u_ws RX6 TX6 12, w ∈ wsX6_stepOrNone := by decide +kernel
set_option maxHeartbeats 4000000 in
set_option maxRecDepth 100000 in
theorem c_X6_stepOrNone (l : Launch) (G : va_G) (cA : ClassId) (a : Nat → Nat) (ha : apart 37 a) (S : Mm) (L : Int64) (sz : Nat) (o : Nat) (ho : isG o) : Met l yX6_stepOrNone wsX6_stepOrNone ({ frames := 0, cells := 0, slots := 0, locals := 0 } : Room) (va_Pc [.ref (a o)] (gI G cA (a 37) 37 a (cM a cA) S L sz)) (gQi (rX6_stepOrNone S o) G 37 a (cM a cA) S L sz) 0 0 (mA 37 a sz) := by
  refine g_met (cc := cX6_stepOrNone) (maxL := 1) (ret := (some .int)) (by decide) rfl (Nat.le_of_ble_eq_true rfl) ?_
  intro p e s m below meth c ls hx hb hr hlocks hml hts hown hnm hsz hK hP hS hl
  subst hsz
  have hl : lv_has ls 1 [(0, .ref (a o))] := hl
  refine lv_aload_n hx hb dX6_stepOrNone_0 rfl (lv_at hl 0 rfl) ?_
  refine g_get (ci := 6) (C := RX6) (T := TX6) (N := 12) (v := .int (S o 9)) hx hb hts iX6_stepOrNone_X6 hown hK hP (lt_G ho) (cM_G ho) rfl 9 (by decide) rfl (by decide +kernel) rfl dX6_stepOrNone_1 ?_
  refine lv_if_eq (tgt := 14) hx hb dX6_stepOrNone_4 (by decide) (fun c1 => ?_) (fun c1 => ?_)
  ·
    refine lv_iconst (v := (-1)) hx hb dX6_stepOrNone_14 (by decide) ?_
    exact g_iret hx hb hr hlocks (by unfold rX6_stepOrNone; rw [if_pos c1]) rfl rfl hP hS dX6_stepOrNone_15
  ·
    refine lv_aload_n hx hb dX6_stepOrNone_7 rfl (lv_at hl 0 rfl) ?_
    refine g_get (ci := 6) (C := RX6) (T := TX6) (N := 12) (v := .int (S o 10)) hx hb hts iX6_stepOrNone_X6 hown hK hP (lt_G ho) (cM_G ho) rfl 10 (by decide) rfl (by decide +kernel) rfl dX6_stepOrNone_8 ?_
    refine lv_goto (tgt := 15) hx hb dX6_stepOrNone_11 (by decide) ?_
    exact g_iret hx hb hr hlocks (by unfold rX6_stepOrNone; rw [if_neg c1]) rfl rfl hP hS dX6_stepOrNone_15

def jX6_voiceToTake_1 (S : Mm) (o : Nat) : Int32 := (if rX7_isTakenBefore S (rX6_voiceOf o (1 : Int32)) (rX6_voiceOf o (0 : Int32)) = 0 then 0 else 1)
def jX6_voiceToTake_2 (S : Mm) (o : Nat) : Int32 := (if rX7_isTakenBefore S (rX6_voiceOf o (2 : Int32)) (rX6_voiceOf o (jX6_voiceToTake_1 S o)) = 0 then (jX6_voiceToTake_1 S o) else 2)
def jX6_voiceToTake_3 (S : Mm) (o : Nat) : Int32 := (if rX7_isTakenBefore S (rX6_voiceOf o (3 : Int32)) (rX6_voiceOf o (jX6_voiceToTake_2 S o)) = 0 then (jX6_voiceToTake_2 S o) else 3)
def rX6_voiceToTake (S : Mm) (o : Nat) : Int32 := (jX6_voiceToTake_3 S o)
set_option maxHeartbeats 4000000 in
set_option maxRecDepth 100000 in
theorem c_X6_voiceToTake (l : Launch) (G : va_G) (cA : ClassId) (a : Nat → Nat) (ha : apart 37 a) (S : Mm) (L : Int64) (sz : Nat) (o : Nat) (ho : isG o) : Met l yX6_voiceToTake wsX6_voiceToTake ({ frames := 2, cells := 0, slots := 0, locals := 43 } : Room) (va_Pc [.ref (a o)] (gI G cA (a 37) 37 a (cM a cA) S L sz)) (gQi (rX6_voiceToTake S o) G 37 a (cM a cA) S L sz) 0 0 (mA 37 a sz) := by
  refine g_met (cc := cX6_voiceToTake) (maxL := 3) (ret := (some .int)) (by decide) rfl (Nat.le_of_ble_eq_true rfl) ?_
  intro p e s m below meth c ls hx hb hr hlocks hml hts hown hnm hsz hK hP hS hl
  subst hsz
  have hl : lv_has ls 3 [(0, .ref (a o))] := hl
  refine lv_iconst (v := 0) hx hb dX6_voiceToTake_0 (by decide) ?_
  refine lv_istore_n (lv' := [(1, .int 0), (0, .ref (a o))]) hx hb dX6_voiceToTake_1 rfl hl (by decide) rfl (fun ls hl => ?_)
  refine lv_iconst (v := 1) hx hb dX6_voiceToTake_2 (by decide) ?_
  refine lv_istore_n (lv' := [(2, .int 1), (1, .int 0), (0, .ref (a o))]) hx hb dX6_voiceToTake_3 rfl hl (by decide) rfl (fun ls hl => ?_)
  refine lv_iload_n hx hb dX6_voiceToTake_4 rfl (lv_at hl 0 rfl) ?_
  refine lv_iconst (v := 4) hx hb dX6_voiceToTake_5 (by decide) ?_
  refine lv_icmp_ge (tgt := 33) hx hb dX6_voiceToTake_6 (by decide) (fun c => absurd c (by decide)) (fun _ => ?_)
  refine lv_aload_n hx hb dX6_voiceToTake_9 rfl (lv_at hl 2 rfl) ?_
  refine lv_iload_n hx hb dX6_voiceToTake_10 rfl (lv_at hl 0 rfl) ?_
  refine g_cVr (As := [.int 1]) (rest := []) ⟨hx, hb, hml, hown, hts⟩ (c_X6_voiceOf l G cA a ha S L s.heap.size o (1 : Int32) ho ) (cwV 1 hts gX6_voiceToTake_X6_voiceOf rfl rfl rfl (by decide +kernel) ⟨Nat.le_of_ble_eq_true rfl, Nat.le_of_ble_eq_true rfl⟩) (g_recv hK hP (lt_G ho) (cM_G ho) (C := RX6) (T := TX6) (N := 12) rfl) hK (mA_mono hS.1) hP hS rfl hl.1 rfl (lv_room (Nat.le_of_ble_eq_true rfl)) dX6_voiceToTake_11 ⟨Nat.le_of_ble_eq_true rfl, Nat.le_of_ble_eq_true rfl⟩ (fun H locs hP hS _ _ => ?_)
  refine lv_aload_n hx hb dX6_voiceToTake_14 rfl (lv_at hl 2 rfl) ?_
  refine lv_iload_n hx hb dX6_voiceToTake_15 rfl (lv_at hl 1 rfl) ?_
  refine g_cVr (As := [.int 0]) (rest := [.ref (a (rX6_voiceOf o (1 : Int32)))]) ⟨hx, hb, hml, hown, hts⟩ (c_X6_voiceOf l G cA a ha S L H.size o (0 : Int32) ho ) (cwV 1 hts gX6_voiceToTake_X6_voiceOf rfl rfl rfl (by decide +kernel) ⟨Nat.le_of_ble_eq_true rfl, Nat.le_of_ble_eq_true rfl⟩) (g_recv hK hP (lt_G ho) (cM_G ho) (C := RX6) (T := TX6) (N := 12) rfl) hK (mA_mono hS.1) hP hS rfl hl.1 rfl (lv_room (Nat.le_of_ble_eq_true rfl)) dX6_voiceToTake_16 ⟨Nat.le_of_ble_eq_true rfl, Nat.le_of_ble_eq_true rfl⟩ (fun H locs hP hS _ _ => ?_)
  refine g_cVi (As := [.ref (a (rX6_voiceOf o (0 : Int32)))]) (rest := []) ⟨hx, hb, hml, hown, hts⟩ (c_X7_isTakenBefore l G cA a ha S L H.size (rX6_voiceOf o (1 : Int32)) (rX6_voiceOf o (0 : Int32)) (k_X6_voiceOf ho) (k_X6_voiceOf ho) ) (cwV 1 hts gX6_voiceToTake_X7_isTakenBefore rfl rfl rfl (by decide +kernel) ⟨Nat.le_of_ble_eq_true rfl, Nat.le_of_ble_eq_true rfl⟩) (g_recv hK hP (lt_V (k_X6_voiceOf ho)) (cM_V (k_X6_voiceOf ho)) (C := RX7) (T := TX7) (N := 11) rfl) hK (mA_mono hS.1) hP hS rfl hl.1 rfl (lv_room (Nat.le_of_ble_eq_true rfl)) dX6_voiceToTake_19 ⟨Nat.le_of_ble_eq_true rfl, Nat.le_of_ble_eq_true rfl⟩ (fun H locs hP hS _ _ => ?_)
  have hj2 : ∀ (zx1_hj2 : Int32) (H : Heap) (locs : List Loc) (ls : Array Slot), zx1_hj2 = (jX6_voiceToTake_1 S o) → va_P G vwCl (wG 37 a (cM a cA) S L) H → va_S (mA 37 a s.heap.size) s.heap H locs → lv_has ls 3 [(2, .int 1), (1, .int zx1_hj2), (0, .ref (a o))] → W p l e ({ frames := 2, cells := 0, slots := 0, locals := 43 } : Room) s m ([.ref (a o)] : List Value).toArray below meth c H locs 0 0 (MQ below (gQi (rX6_voiceToTake S o) G 37 a (cM a cA) S L s.heap.size) ([.ref (a o)] : List Value).toArray s 0 0 (mA 37 a s.heap.size)) (F0 m 27 ls []) := by
    intro zx1_hj2 H locs ls ezx1_hj2 hP hS hl
    rw [ezx1_hj2] at hl
    refine lv_iinc (v := 2) (lv' := [(2, .int 2), (1, .int (jX6_voiceToTake_1 S o)), (0, .ref (a o))]) hx hb dX6_voiceToTake_27 hl (k := 0) rfl (by decide) (by decide) rfl (fun ls hl => ?_)
    refine lv_goto (tgt := 4) hx hb dX6_voiceToTake_30 (by decide) ?_
    refine lv_iload_n hx hb dX6_voiceToTake_4 rfl (lv_at hl 0 rfl) ?_
    refine lv_iconst (v := 4) hx hb dX6_voiceToTake_5 (by decide) ?_
    refine lv_icmp_ge (tgt := 33) hx hb dX6_voiceToTake_6 (by decide) (fun c => absurd c (by decide)) (fun _ => ?_)
    refine lv_aload_n hx hb dX6_voiceToTake_9 rfl (lv_at hl 2 rfl) ?_
    refine lv_iload_n hx hb dX6_voiceToTake_10 rfl (lv_at hl 0 rfl) ?_
    refine g_cVr (As := [.int 2]) (rest := []) ⟨hx, hb, hml, hown, hts⟩ (c_X6_voiceOf l G cA a ha S L H.size o (2 : Int32) ho ) (cwV 1 hts gX6_voiceToTake_X6_voiceOf rfl rfl rfl (by decide +kernel) ⟨Nat.le_of_ble_eq_true rfl, Nat.le_of_ble_eq_true rfl⟩) (g_recv hK hP (lt_G ho) (cM_G ho) (C := RX6) (T := TX6) (N := 12) rfl) hK (mA_mono hS.1) hP hS rfl hl.1 rfl (lv_room (Nat.le_of_ble_eq_true rfl)) dX6_voiceToTake_11 ⟨Nat.le_of_ble_eq_true rfl, Nat.le_of_ble_eq_true rfl⟩ (fun H locs hP hS _ _ => ?_)
    refine lv_aload_n hx hb dX6_voiceToTake_14 rfl (lv_at hl 2 rfl) ?_
    refine lv_iload_n hx hb dX6_voiceToTake_15 rfl (lv_at hl 1 rfl) ?_
    refine g_cVr (As := [.int (jX6_voiceToTake_1 S o)]) (rest := [.ref (a (rX6_voiceOf o (2 : Int32)))]) ⟨hx, hb, hml, hown, hts⟩ (c_X6_voiceOf l G cA a ha S L H.size o (jX6_voiceToTake_1 S o) ho ) (cwV 1 hts gX6_voiceToTake_X6_voiceOf rfl rfl rfl (by decide +kernel) ⟨Nat.le_of_ble_eq_true rfl, Nat.le_of_ble_eq_true rfl⟩) (g_recv hK hP (lt_G ho) (cM_G ho) (C := RX6) (T := TX6) (N := 12) rfl) hK (mA_mono hS.1) hP hS rfl hl.1 rfl (lv_room (Nat.le_of_ble_eq_true rfl)) dX6_voiceToTake_16 ⟨Nat.le_of_ble_eq_true rfl, Nat.le_of_ble_eq_true rfl⟩ (fun H locs hP hS _ _ => ?_)
    refine g_cVi (As := [.ref (a (rX6_voiceOf o (jX6_voiceToTake_1 S o)))]) (rest := []) ⟨hx, hb, hml, hown, hts⟩ (c_X7_isTakenBefore l G cA a ha S L H.size (rX6_voiceOf o (2 : Int32)) (rX6_voiceOf o (jX6_voiceToTake_1 S o)) (k_X6_voiceOf ho) (k_X6_voiceOf ho) ) (cwV 1 hts gX6_voiceToTake_X7_isTakenBefore rfl rfl rfl (by decide +kernel) ⟨Nat.le_of_ble_eq_true rfl, Nat.le_of_ble_eq_true rfl⟩) (g_recv hK hP (lt_V (k_X6_voiceOf ho)) (cM_V (k_X6_voiceOf ho)) (C := RX7) (T := TX7) (N := 11) rfl) hK (mA_mono hS.1) hP hS rfl hl.1 rfl (lv_room (Nat.le_of_ble_eq_true rfl)) dX6_voiceToTake_19 ⟨Nat.le_of_ble_eq_true rfl, Nat.le_of_ble_eq_true rfl⟩ (fun H locs hP hS _ _ => ?_)
    have hj4 : ∀ (zx1_hj4 : Int32) (H : Heap) (locs : List Loc) (ls : Array Slot), zx1_hj4 = (jX6_voiceToTake_2 S o) → va_P G vwCl (wG 37 a (cM a cA) S L) H → va_S (mA 37 a s.heap.size) s.heap H locs → lv_has ls 3 [(2, .int 2), (1, .int zx1_hj4), (0, .ref (a o))] → W p l e ({ frames := 2, cells := 0, slots := 0, locals := 43 } : Room) s m ([.ref (a o)] : List Value).toArray below meth c H locs 0 0 (MQ below (gQi (rX6_voiceToTake S o) G 37 a (cM a cA) S L s.heap.size) ([.ref (a o)] : List Value).toArray s 0 0 (mA 37 a s.heap.size)) (F0 m 27 ls []) := by
      intro zx1_hj4 H locs ls ezx1_hj4 hP hS hl
      rw [ezx1_hj4] at hl
      refine lv_iinc (v := 3) (lv' := [(2, .int 3), (1, .int (jX6_voiceToTake_2 S o)), (0, .ref (a o))]) hx hb dX6_voiceToTake_27 hl (k := 0) rfl (by decide) (by decide) rfl (fun ls hl => ?_)
      refine lv_goto (tgt := 4) hx hb dX6_voiceToTake_30 (by decide) ?_
      refine lv_iload_n hx hb dX6_voiceToTake_4 rfl (lv_at hl 0 rfl) ?_
      refine lv_iconst (v := 4) hx hb dX6_voiceToTake_5 (by decide) ?_
      refine lv_icmp_ge (tgt := 33) hx hb dX6_voiceToTake_6 (by decide) (fun c => absurd c (by decide)) (fun _ => ?_)
      refine lv_aload_n hx hb dX6_voiceToTake_9 rfl (lv_at hl 2 rfl) ?_
      refine lv_iload_n hx hb dX6_voiceToTake_10 rfl (lv_at hl 0 rfl) ?_
      refine g_cVr (As := [.int 3]) (rest := []) ⟨hx, hb, hml, hown, hts⟩ (c_X6_voiceOf l G cA a ha S L H.size o (3 : Int32) ho ) (cwV 1 hts gX6_voiceToTake_X6_voiceOf rfl rfl rfl (by decide +kernel) ⟨Nat.le_of_ble_eq_true rfl, Nat.le_of_ble_eq_true rfl⟩) (g_recv hK hP (lt_G ho) (cM_G ho) (C := RX6) (T := TX6) (N := 12) rfl) hK (mA_mono hS.1) hP hS rfl hl.1 rfl (lv_room (Nat.le_of_ble_eq_true rfl)) dX6_voiceToTake_11 ⟨Nat.le_of_ble_eq_true rfl, Nat.le_of_ble_eq_true rfl⟩ (fun H locs hP hS _ _ => ?_)
      refine lv_aload_n hx hb dX6_voiceToTake_14 rfl (lv_at hl 2 rfl) ?_
      refine lv_iload_n hx hb dX6_voiceToTake_15 rfl (lv_at hl 1 rfl) ?_
      refine g_cVr (As := [.int (jX6_voiceToTake_2 S o)]) (rest := [.ref (a (rX6_voiceOf o (3 : Int32)))]) ⟨hx, hb, hml, hown, hts⟩ (c_X6_voiceOf l G cA a ha S L H.size o (jX6_voiceToTake_2 S o) ho ) (cwV 1 hts gX6_voiceToTake_X6_voiceOf rfl rfl rfl (by decide +kernel) ⟨Nat.le_of_ble_eq_true rfl, Nat.le_of_ble_eq_true rfl⟩) (g_recv hK hP (lt_G ho) (cM_G ho) (C := RX6) (T := TX6) (N := 12) rfl) hK (mA_mono hS.1) hP hS rfl hl.1 rfl (lv_room (Nat.le_of_ble_eq_true rfl)) dX6_voiceToTake_16 ⟨Nat.le_of_ble_eq_true rfl, Nat.le_of_ble_eq_true rfl⟩ (fun H locs hP hS _ _ => ?_)
      refine g_cVi (As := [.ref (a (rX6_voiceOf o (jX6_voiceToTake_2 S o)))]) (rest := []) ⟨hx, hb, hml, hown, hts⟩ (c_X7_isTakenBefore l G cA a ha S L H.size (rX6_voiceOf o (3 : Int32)) (rX6_voiceOf o (jX6_voiceToTake_2 S o)) (k_X6_voiceOf ho) (k_X6_voiceOf ho) ) (cwV 1 hts gX6_voiceToTake_X7_isTakenBefore rfl rfl rfl (by decide +kernel) ⟨Nat.le_of_ble_eq_true rfl, Nat.le_of_ble_eq_true rfl⟩) (g_recv hK hP (lt_V (k_X6_voiceOf ho)) (cM_V (k_X6_voiceOf ho)) (C := RX7) (T := TX7) (N := 11) rfl) hK (mA_mono hS.1) hP hS rfl hl.1 rfl (lv_room (Nat.le_of_ble_eq_true rfl)) dX6_voiceToTake_19 ⟨Nat.le_of_ble_eq_true rfl, Nat.le_of_ble_eq_true rfl⟩ (fun H locs hP hS _ _ => ?_)
      have hj6 : ∀ (zx1_hj6 : Int32) (H : Heap) (locs : List Loc) (ls : Array Slot), zx1_hj6 = (jX6_voiceToTake_3 S o) → va_P G vwCl (wG 37 a (cM a cA) S L) H → va_S (mA 37 a s.heap.size) s.heap H locs → lv_has ls 3 [(2, .int 3), (1, .int zx1_hj6), (0, .ref (a o))] → W p l e ({ frames := 2, cells := 0, slots := 0, locals := 43 } : Room) s m ([.ref (a o)] : List Value).toArray below meth c H locs 0 0 (MQ below (gQi (rX6_voiceToTake S o) G 37 a (cM a cA) S L s.heap.size) ([.ref (a o)] : List Value).toArray s 0 0 (mA 37 a s.heap.size)) (F0 m 27 ls []) := by
        intro zx1_hj6 H locs ls ezx1_hj6 hP hS hl
        rw [ezx1_hj6] at hl
        refine lv_iinc (v := 4) (lv' := [(2, .int 4), (1, .int (jX6_voiceToTake_3 S o)), (0, .ref (a o))]) hx hb dX6_voiceToTake_27 hl (k := 0) rfl (by decide) (by decide) rfl (fun ls hl => ?_)
        refine lv_goto (tgt := 4) hx hb dX6_voiceToTake_30 (by decide) ?_
        refine lv_iload_n hx hb dX6_voiceToTake_4 rfl (lv_at hl 0 rfl) ?_
        refine lv_iconst (v := 4) hx hb dX6_voiceToTake_5 (by decide) ?_
        refine lv_icmp_ge (tgt := 33) hx hb dX6_voiceToTake_6 (by decide) (fun _ => ?_) (fun c => absurd c (by decide))
        refine lv_iload_n hx hb dX6_voiceToTake_33 rfl (lv_at hl 1 rfl) ?_
        exact g_iret hx hb hr hlocks (by unfold rX6_voiceToTake; rfl) rfl rfl hP hS dX6_voiceToTake_34
      refine lv_if_eq (tgt := 27) hx hb dX6_voiceToTake_22 (by decide) (fun c5 => ?_) (fun c5 => ?_)
      ·
        exact hj6 _ _ _ _ (by unfold jX6_voiceToTake_3; rw [if_pos c5]) hP hS (lv_sub hl [0, 1, 2] rfl)
      ·
        refine lv_iload_n hx hb dX6_voiceToTake_25 rfl (lv_at hl 0 rfl) ?_
        refine lv_istore_n (lv' := [(1, .int 3), (2, .int 3), (0, .ref (a o))]) hx hb dX6_voiceToTake_26 rfl hl (by decide) rfl (fun ls hl => ?_)
        exact hj6 _ _ _ _ (by unfold jX6_voiceToTake_3; rw [if_neg c5]) hP hS (lv_sub hl [1, 0, 2] rfl)
    refine lv_if_eq (tgt := 27) hx hb dX6_voiceToTake_22 (by decide) (fun c3 => ?_) (fun c3 => ?_)
    ·
      exact hj4 _ _ _ _ (by unfold jX6_voiceToTake_2; rw [if_pos c3]) hP hS (lv_sub hl [0, 1, 2] rfl)
    ·
      refine lv_iload_n hx hb dX6_voiceToTake_25 rfl (lv_at hl 0 rfl) ?_
      refine lv_istore_n (lv' := [(1, .int 2), (2, .int 2), (0, .ref (a o))]) hx hb dX6_voiceToTake_26 rfl hl (by decide) rfl (fun ls hl => ?_)
      exact hj4 _ _ _ _ (by unfold jX6_voiceToTake_2; rw [if_neg c3]) hP hS (lv_sub hl [1, 0, 2] rfl)
  refine lv_if_eq (tgt := 27) hx hb dX6_voiceToTake_22 (by decide) (fun c1 => ?_) (fun c1 => ?_)
  ·
    exact hj2 _ _ _ _ (by unfold jX6_voiceToTake_1; rw [if_pos c1]) hP hS (lv_sub hl [0, 1, 2] rfl)
  ·
    refine lv_iload_n hx hb dX6_voiceToTake_25 rfl (lv_at hl 0 rfl) ?_
    refine lv_istore_n (lv' := [(1, .int 1), (2, .int 1), (0, .ref (a o))]) hx hb dX6_voiceToTake_26 rfl hl (by decide) rfl (fun ls hl => ?_)
    exact hj2 _ _ _ _ (by unfold jX6_voiceToTake_1; rw [if_neg c1]) hP hS (lv_sub hl [1, 0, 2] rfl)

def jX6_startNote_1 (S : Mm) (o : Nat) (p1 : Int32) (p2 : Int32) (p3 : Int32) (p4 : Int32) : Mm := (if S (rX6_voiceOf o (rX6_voiceToTake S o)) 0 = 0 then S else up2 S o 8 ((S o 8) + 1))
def mX6_startNote_2 (S : Mm) (o : Nat) (p1 : Int32) (p2 : Int32) (p3 : Int32) (p4 : Int32) : Mm := up2 (jX6_startNote_1 S o p1 p2 p3 p4) o 7 (((jX6_startNote_1 S o p1 p2 p3 p4) o 7) + 1)
def mX6_startNote_3 (S : Mm) (o : Nat) (p1 : Int32) (p2 : Int32) (p3 : Int32) (p4 : Int32) : Mm := fX7_start (mX6_startNote_2 S o p1 p2 p3 p4) (rX6_voiceOf o (rX6_voiceToTake S o)) p1 p2 p3 p4 ((mX6_startNote_2 S o p1 p2 p3 p4) o 7)
def rX6_startNote (S : Mm) (o : Nat) (p1 : Int32) (p2 : Int32) (p3 : Int32) (p4 : Int32) : Int32 := rX6_voiceToTake S o
def fX6_startNote (S : Mm) (o : Nat) (p1 : Int32) (p2 : Int32) (p3 : Int32) (p4 : Int32) : Mm := (mX6_startNote_3 S o p1 p2 p3 p4)
theorem iX6_startNote_X6 : ∀ w ∈ u_ws RX6 TX6 12, w ∈ wsX6_startNote := by decide +kernel
theorem iX6_startNote_X7 : ∀ w ∈ u_ws RX7 TX7 11, w ∈ wsX6_startNote := by decide +kernel
set_option maxHeartbeats 4000000 in
set_option maxRecDepth 100000 in
theorem c_X6_startNote (l : Launch) (G : va_G) (cA : ClassId) (a : Nat → Nat) (ha : apart 37 a) (S : Mm) (L : Int64) (sz : Nat) (o : Nat) (p1 : Int32) (p2 : Int32) (p3 : Int32) (p4 : Int32) (ho : isG o) : Met l yX6_startNote wsX6_startNote ({ frames := 3, cells := 0, slots := 0, locals := 65 } : Room) (va_Pc [.ref (a o), .int p1, .int p2, .int p3, .int p4] (gI G cA (a 37) 37 a (cM a cA) S L sz)) (gQi (rX6_startNote S o p1 p2 p3 p4) G 37 a (cM a cA) (fX6_startNote S o p1 p2 p3 p4) L sz) 0 0 (mA 37 a sz) := by
  refine g_met (cc := cX6_startNote) (maxL := 7) (ret := (some .int)) (by decide) rfl (Nat.le_of_ble_eq_true rfl) ?_
  intro p e s m below meth c ls hx hb hr hlocks hml hts hown hnm hsz hK hP hS hl
  subst hsz
  have hl : lv_has ls 7 [(0, .ref (a o)), (1, .int p1), (2, .int p2), (3, .int p3), (4, .int p4)] := hl
  refine lv_aload_n hx hb dX6_startNote_0 rfl (lv_at hl 0 rfl) ?_
  refine g_cVi (As := []) (rest := []) ⟨hx, hb, hml, hown, hts⟩ (c_X6_voiceToTake l G cA a ha S L s.heap.size o ho ) (cwV 0 hts gX6_startNote_X6_voiceToTake rfl rfl rfl (by decide +kernel) ⟨Nat.le_of_ble_eq_true rfl, Nat.le_of_ble_eq_true rfl⟩) (g_recv hK hP (lt_G ho) (cM_G ho) (C := RX6) (T := TX6) (N := 12) rfl) hK (mA_mono hS.1) hP hS rfl hl.1 rfl (lv_room (Nat.le_of_ble_eq_true rfl)) dX6_startNote_1 ⟨Nat.le_of_ble_eq_true rfl, Nat.le_of_ble_eq_true rfl⟩ (fun H locs hP hS _ _ => ?_)
  refine lv_istore (lv' := [(5, .int (rX6_voiceToTake S o)), (0, .ref (a o)), (1, .int p1), (2, .int p2), (3, .int p3), (4, .int p4)]) hx hb dX6_startNote_4 hl (by decide) rfl (fun ls hl => ?_)
  refine lv_aload_n hx hb dX6_startNote_6 rfl (lv_at hl 1 rfl) ?_
  refine lv_iload hx hb dX6_startNote_7 (lv_at hl 0 rfl) ?_
  refine g_cVr (As := [.int (rX6_voiceToTake S o)]) (rest := []) ⟨hx, hb, hml, hown, hts⟩ (c_X6_voiceOf l G cA a ha S L H.size o (rX6_voiceToTake S o) ho ) (cwV 1 hts gX6_startNote_X6_voiceOf rfl rfl rfl (by decide +kernel) ⟨Nat.le_of_ble_eq_true rfl, Nat.le_of_ble_eq_true rfl⟩) (g_recv hK hP (lt_G ho) (cM_G ho) (C := RX6) (T := TX6) (N := 12) rfl) hK (mA_mono hS.1) hP hS rfl hl.1 rfl (lv_room (Nat.le_of_ble_eq_true rfl)) dX6_startNote_9 ⟨Nat.le_of_ble_eq_true rfl, Nat.le_of_ble_eq_true rfl⟩ (fun H locs hP hS _ _ => ?_)
  refine lv_astore (lv' := [(6, .ref (a (rX6_voiceOf o (rX6_voiceToTake S o)))), (5, .int (rX6_voiceToTake S o)), (0, .ref (a o)), (1, .int p1), (2, .int p2), (3, .int p3), (4, .int p4)]) hx hb dX6_startNote_12 hl (by decide) rfl (fun ls hl => ?_)
  refine lv_aload hx hb dX6_startNote_14 (lv_at hl 0 rfl) ?_
  refine g_get (ci := 7) (C := RX7) (T := TX7) (N := 11) (v := .int (S (rX6_voiceOf o (rX6_voiceToTake S o)) 0)) hx hb hts iX6_startNote_X7 hown hK hP (lt_V (k_X6_voiceOf ho)) (cM_V (k_X6_voiceOf ho)) rfl 0 (by decide) rfl (by decide +kernel) rfl dX6_startNote_16 ?_
  have hj2 : ∀ (zS_hj2 : Mm) (H : Heap) (locs : List Loc) (ls : Array Slot), zS_hj2 = (jX6_startNote_1 S o p1 p2 p3 p4) → va_P G vwCl (wG 37 a (cM a cA) zS_hj2 L) H → va_S (mA 37 a s.heap.size) s.heap H locs → lv_has ls 7 [(6, .ref (a (rX6_voiceOf o (rX6_voiceToTake S o)))), (5, .int (rX6_voiceToTake S o)), (0, .ref (a o)), (1, .int p1), (2, .int p2), (3, .int p3), (4, .int p4)] → W p l e ({ frames := 3, cells := 0, slots := 0, locals := 65 } : Room) s m ([.ref (a o), .int p1, .int p2, .int p3, .int p4] : List Value).toArray below meth c H locs 0 0 (MQ below (gQi (rX6_startNote S o p1 p2 p3 p4) G 37 a (cM a cA) (fX6_startNote S o p1 p2 p3 p4) L s.heap.size) ([.ref (a o), .int p1, .int p2, .int p3, .int p4] : List Value).toArray s 0 0 (mA 37 a s.heap.size)) (F0 m 32 ls []) := by
    intro zS_hj2 H locs ls ezS_hj2 hP hS hl
    rw [ezS_hj2] at hP
    refine lv_aload_n hx hb dX6_startNote_32 rfl (lv_at hl 2 rfl) ?_
    refine lv_dup hx hb dX6_startNote_33 rfl ?_
    refine g_get (ci := 6) (C := RX6) (T := TX6) (N := 12) (v := .int ((jX6_startNote_1 S o p1 p2 p3 p4) o 7)) hx hb hts iX6_startNote_X6 hown hK hP (lt_G ho) (cM_G ho) rfl 7 (by decide) rfl (by decide +kernel) rfl dX6_startNote_34 ?_
    refine lv_iconst (v := 1) hx hb dX6_startNote_37 (by decide) ?_
    refine lv_iadd hx hb dX6_startNote_38 ?_
    refine g_put (ci := 6) (C := RX6) (T := TX6) (N := 12) (ty := .int) hx hb hts iX6_startNote_X6 tyX6 tyX6_ok nmX6 hown hK ha mA_in hP hS (lt_G ho) (cM_G ho) rfl 7 (by decide) rfl (by decide +kernel) rfl (by decide +kernel) rfl rfl (Nat.le_of_ble_eq_true rfl) (cM_G_set ho (by decide)) dX6_startNote_39 (fun H locs hP hS => ?_)
    have hP : va_P G vwCl (wG 37 a (cM a cA) (mX6_startNote_2 S o p1 p2 p3 p4) L) H := hP
    refine lv_aload hx hb dX6_startNote_42 (lv_at hl 0 rfl) ?_
    refine lv_iload_n hx hb dX6_startNote_44 rfl (lv_at hl 3 rfl) ?_
    refine lv_iload_n hx hb dX6_startNote_45 rfl (lv_at hl 4 rfl) ?_
    refine lv_iload_n hx hb dX6_startNote_46 rfl (lv_at hl 5 rfl) ?_
    refine lv_iload hx hb dX6_startNote_47 (lv_at hl 6 rfl) ?_
    refine lv_aload_n hx hb dX6_startNote_49 rfl (lv_at hl 2 rfl) ?_
    refine g_get (ci := 6) (C := RX6) (T := TX6) (N := 12) (v := .int ((mX6_startNote_2 S o p1 p2 p3 p4) o 7)) hx hb hts iX6_startNote_X6 hown hK hP (lt_G ho) (cM_G ho) rfl 7 (by decide) rfl (by decide +kernel) rfl dX6_startNote_50 ?_
    refine g_cVv (As := [.int p1, .int p2, .int p3, .int p4, .int ((mX6_startNote_2 S o p1 p2 p3 p4) o 7)]) (rest := []) ⟨hx, hb, hml, hown, hts⟩ (c_X7_start l G cA a ha (mX6_startNote_2 S o p1 p2 p3 p4) L H.size (rX6_voiceOf o (rX6_voiceToTake S o)) p1 p2 p3 p4 ((mX6_startNote_2 S o p1 p2 p3 p4) o 7) (k_X6_voiceOf ho) ) (cwV 5 hts gX6_startNote_X7_start rfl rfl rfl (by decide +kernel) ⟨Nat.le_of_ble_eq_true rfl, Nat.le_of_ble_eq_true rfl⟩) (g_recv hK hP (lt_V (k_X6_voiceOf ho)) (cM_V (k_X6_voiceOf ho)) (C := RX7) (T := TX7) (N := 11) rfl) hK (mA_mono hS.1) hP hS rfl hl.1 rfl (lv_room (Nat.le_of_ble_eq_true rfl)) dX6_startNote_53 ⟨Nat.le_of_ble_eq_true rfl, Nat.le_of_ble_eq_true rfl⟩ (fun H locs hP hS _ _ => ?_)
    have hP : va_P G vwCl (wG 37 a (cM a cA) (mX6_startNote_3 S o p1 p2 p3 p4) L) H := hP
    refine lv_iload hx hb dX6_startNote_56 (lv_at hl 1 rfl) ?_
    exact g_iret hx hb hr hlocks (by unfold rX6_startNote; rfl) (by unfold fX6_startNote; rfl) rfl hP hS dX6_startNote_58
  refine lv_if_eq (tgt := 32) hx hb dX6_startNote_19 (by decide) (fun c1 => ?_) (fun c1 => ?_)
  ·
    exact hj2 _ _ _ _ (by unfold jX6_startNote_1; rw [if_pos c1]) hP hS (lv_sub hl [0, 1, 2, 3, 4, 5, 6] rfl)
  ·
    refine lv_aload_n hx hb dX6_startNote_22 rfl (lv_at hl 2 rfl) ?_
    refine lv_dup hx hb dX6_startNote_23 rfl ?_
    refine g_get (ci := 6) (C := RX6) (T := TX6) (N := 12) (v := .int (S o 8)) hx hb hts iX6_startNote_X6 hown hK hP (lt_G ho) (cM_G ho) rfl 8 (by decide) rfl (by decide +kernel) rfl dX6_startNote_24 ?_
    refine lv_iconst (v := 1) hx hb dX6_startNote_27 (by decide) ?_
    refine lv_iadd hx hb dX6_startNote_28 ?_
    refine g_put (ci := 6) (C := RX6) (T := TX6) (N := 12) (ty := .int) hx hb hts iX6_startNote_X6 tyX6 tyX6_ok nmX6 hown hK ha mA_in hP hS (lt_G ho) (cM_G ho) rfl 8 (by decide) rfl (by decide +kernel) rfl (by decide +kernel) rfl rfl (Nat.le_of_ble_eq_true rfl) (cM_G_set ho (by decide)) dX6_startNote_29 (fun H locs hP hS => ?_)
    exact hj2 _ _ _ _ (by unfold jX6_startNote_1; rw [if_neg c1]) hP hS (lv_sub hl [0, 1, 2, 3, 4, 5, 6] rfl)

def mX6_closeGates_1 (S : Mm) (o : Nat) : Mm := fX7_closeGate (fX7_closeGate S (rX6_voiceOf o (0 : Int32))) (rX6_voiceOf o (1 : Int32))
def mX6_closeGates_2 (S : Mm) (o : Nat) : Mm := fX7_closeGate (fX7_closeGate (mX6_closeGates_1 S o) (rX6_voiceOf o (2 : Int32))) (rX6_voiceOf o (3 : Int32))
def fX6_closeGates (S : Mm) (o : Nat) : Mm := (mX6_closeGates_2 S o)
set_option maxHeartbeats 4000000 in
set_option maxRecDepth 100000 in
theorem c_X6_closeGates (l : Launch) (G : va_G) (cA : ClassId) (a : Nat → Nat) (ha : apart 37 a) (S : Mm) (L : Int64) (sz : Nat) (o : Nat) (ho : isG o) : Met l yX6_closeGates wsX6_closeGates ({ frames := 2, cells := 0, slots := 0, locals := 40 } : Room) (va_Pc [.ref (a o)] (gI G cA (a 37) 37 a (cM a cA) S L sz)) (gQv G 37 a (cM a cA) (fX6_closeGates S o) L sz) 0 0 (mA 37 a sz) := by
  refine g_met (cc := cX6_closeGates) (maxL := 2) (ret := none) (by decide) rfl (Nat.le_of_ble_eq_true rfl) ?_
  intro p e s m below meth c ls hx hb hr hlocks hml hts hown hnm hsz hK hP hS hl
  subst hsz
  have hl : lv_has ls 2 [(0, .ref (a o))] := hl
  refine lv_iconst (v := 0) hx hb dX6_closeGates_0 (by decide) ?_
  refine lv_istore_n (lv' := [(1, .int 0), (0, .ref (a o))]) hx hb dX6_closeGates_1 rfl hl (by decide) rfl (fun ls hl => ?_)
  refine lv_iload_n hx hb dX6_closeGates_2 rfl (lv_at hl 0 rfl) ?_
  refine lv_iconst (v := 4) hx hb dX6_closeGates_3 (by decide) ?_
  refine lv_icmp_ge (tgt := 21) hx hb dX6_closeGates_4 (by decide) (fun c => absurd c (by decide)) (fun _ => ?_)
  refine lv_aload_n hx hb dX6_closeGates_7 rfl (lv_at hl 1 rfl) ?_
  refine lv_iload_n hx hb dX6_closeGates_8 rfl (lv_at hl 0 rfl) ?_
  refine g_cVr (As := [.int 0]) (rest := []) ⟨hx, hb, hml, hown, hts⟩ (c_X6_voiceOf l G cA a ha S L s.heap.size o (0 : Int32) ho ) (cwV 1 hts gX6_closeGates_X6_voiceOf rfl rfl rfl (by decide +kernel) ⟨Nat.le_of_ble_eq_true rfl, Nat.le_of_ble_eq_true rfl⟩) (g_recv hK hP (lt_G ho) (cM_G ho) (C := RX6) (T := TX6) (N := 12) rfl) hK (mA_mono hS.1) hP hS rfl hl.1 rfl (lv_room (Nat.le_of_ble_eq_true rfl)) dX6_closeGates_9 ⟨Nat.le_of_ble_eq_true rfl, Nat.le_of_ble_eq_true rfl⟩ (fun H locs hP hS _ _ => ?_)
  refine g_cVv (As := []) (rest := []) ⟨hx, hb, hml, hown, hts⟩ (c_X7_closeGate l G cA a ha S L H.size (rX6_voiceOf o (0 : Int32)) (k_X6_voiceOf ho) ) (cwV 0 hts gX6_closeGates_X7_closeGate rfl rfl rfl (by decide +kernel) ⟨Nat.le_of_ble_eq_true rfl, Nat.le_of_ble_eq_true rfl⟩) (g_recv hK hP (lt_V (k_X6_voiceOf ho)) (cM_V (k_X6_voiceOf ho)) (C := RX7) (T := TX7) (N := 11) rfl) hK (mA_mono hS.1) hP hS rfl hl.1 rfl (lv_room (Nat.le_of_ble_eq_true rfl)) dX6_closeGates_12 ⟨Nat.le_of_ble_eq_true rfl, Nat.le_of_ble_eq_true rfl⟩ (fun H locs hP hS _ _ => ?_)
  refine lv_iinc (v := 1) (lv' := [(1, .int 1), (0, .ref (a o))]) hx hb dX6_closeGates_15 hl (k := 0) rfl (by decide) (by decide) rfl (fun ls hl => ?_)
  refine lv_goto (tgt := 2) hx hb dX6_closeGates_18 (by decide) ?_
  refine lv_iload_n hx hb dX6_closeGates_2 rfl (lv_at hl 0 rfl) ?_
  refine lv_iconst (v := 4) hx hb dX6_closeGates_3 (by decide) ?_
  refine lv_icmp_ge (tgt := 21) hx hb dX6_closeGates_4 (by decide) (fun c => absurd c (by decide)) (fun _ => ?_)
  refine lv_aload_n hx hb dX6_closeGates_7 rfl (lv_at hl 1 rfl) ?_
  refine lv_iload_n hx hb dX6_closeGates_8 rfl (lv_at hl 0 rfl) ?_
  refine g_cVr (As := [.int 1]) (rest := []) ⟨hx, hb, hml, hown, hts⟩ (c_X6_voiceOf l G cA a ha (fX7_closeGate S (rX6_voiceOf o (0 : Int32))) L H.size o (1 : Int32) ho ) (cwV 1 hts gX6_closeGates_X6_voiceOf rfl rfl rfl (by decide +kernel) ⟨Nat.le_of_ble_eq_true rfl, Nat.le_of_ble_eq_true rfl⟩) (g_recv hK hP (lt_G ho) (cM_G ho) (C := RX6) (T := TX6) (N := 12) rfl) hK (mA_mono hS.1) hP hS rfl hl.1 rfl (lv_room (Nat.le_of_ble_eq_true rfl)) dX6_closeGates_9 ⟨Nat.le_of_ble_eq_true rfl, Nat.le_of_ble_eq_true rfl⟩ (fun H locs hP hS _ _ => ?_)
  refine g_cVv (As := []) (rest := []) ⟨hx, hb, hml, hown, hts⟩ (c_X7_closeGate l G cA a ha (fX7_closeGate S (rX6_voiceOf o (0 : Int32))) L H.size (rX6_voiceOf o (1 : Int32)) (k_X6_voiceOf ho) ) (cwV 0 hts gX6_closeGates_X7_closeGate rfl rfl rfl (by decide +kernel) ⟨Nat.le_of_ble_eq_true rfl, Nat.le_of_ble_eq_true rfl⟩) (g_recv hK hP (lt_V (k_X6_voiceOf ho)) (cM_V (k_X6_voiceOf ho)) (C := RX7) (T := TX7) (N := 11) rfl) hK (mA_mono hS.1) hP hS rfl hl.1 rfl (lv_room (Nat.le_of_ble_eq_true rfl)) dX6_closeGates_12 ⟨Nat.le_of_ble_eq_true rfl, Nat.le_of_ble_eq_true rfl⟩ (fun H locs hP hS _ _ => ?_)
  have hP : va_P G vwCl (wG 37 a (cM a cA) (mX6_closeGates_1 S o) L) H := hP
  refine lv_iinc (v := 2) (lv' := [(1, .int 2), (0, .ref (a o))]) hx hb dX6_closeGates_15 hl (k := 0) rfl (by decide) (by decide) rfl (fun ls hl => ?_)
  refine lv_goto (tgt := 2) hx hb dX6_closeGates_18 (by decide) ?_
  refine lv_iload_n hx hb dX6_closeGates_2 rfl (lv_at hl 0 rfl) ?_
  refine lv_iconst (v := 4) hx hb dX6_closeGates_3 (by decide) ?_
  refine lv_icmp_ge (tgt := 21) hx hb dX6_closeGates_4 (by decide) (fun c => absurd c (by decide)) (fun _ => ?_)
  refine lv_aload_n hx hb dX6_closeGates_7 rfl (lv_at hl 1 rfl) ?_
  refine lv_iload_n hx hb dX6_closeGates_8 rfl (lv_at hl 0 rfl) ?_
  refine g_cVr (As := [.int 2]) (rest := []) ⟨hx, hb, hml, hown, hts⟩ (c_X6_voiceOf l G cA a ha (mX6_closeGates_1 S o) L H.size o (2 : Int32) ho ) (cwV 1 hts gX6_closeGates_X6_voiceOf rfl rfl rfl (by decide +kernel) ⟨Nat.le_of_ble_eq_true rfl, Nat.le_of_ble_eq_true rfl⟩) (g_recv hK hP (lt_G ho) (cM_G ho) (C := RX6) (T := TX6) (N := 12) rfl) hK (mA_mono hS.1) hP hS rfl hl.1 rfl (lv_room (Nat.le_of_ble_eq_true rfl)) dX6_closeGates_9 ⟨Nat.le_of_ble_eq_true rfl, Nat.le_of_ble_eq_true rfl⟩ (fun H locs hP hS _ _ => ?_)
  refine g_cVv (As := []) (rest := []) ⟨hx, hb, hml, hown, hts⟩ (c_X7_closeGate l G cA a ha (mX6_closeGates_1 S o) L H.size (rX6_voiceOf o (2 : Int32)) (k_X6_voiceOf ho) ) (cwV 0 hts gX6_closeGates_X7_closeGate rfl rfl rfl (by decide +kernel) ⟨Nat.le_of_ble_eq_true rfl, Nat.le_of_ble_eq_true rfl⟩) (g_recv hK hP (lt_V (k_X6_voiceOf ho)) (cM_V (k_X6_voiceOf ho)) (C := RX7) (T := TX7) (N := 11) rfl) hK (mA_mono hS.1) hP hS rfl hl.1 rfl (lv_room (Nat.le_of_ble_eq_true rfl)) dX6_closeGates_12 ⟨Nat.le_of_ble_eq_true rfl, Nat.le_of_ble_eq_true rfl⟩ (fun H locs hP hS _ _ => ?_)
  refine lv_iinc (v := 3) (lv' := [(1, .int 3), (0, .ref (a o))]) hx hb dX6_closeGates_15 hl (k := 0) rfl (by decide) (by decide) rfl (fun ls hl => ?_)
  refine lv_goto (tgt := 2) hx hb dX6_closeGates_18 (by decide) ?_
  refine lv_iload_n hx hb dX6_closeGates_2 rfl (lv_at hl 0 rfl) ?_
  refine lv_iconst (v := 4) hx hb dX6_closeGates_3 (by decide) ?_
  refine lv_icmp_ge (tgt := 21) hx hb dX6_closeGates_4 (by decide) (fun c => absurd c (by decide)) (fun _ => ?_)
  refine lv_aload_n hx hb dX6_closeGates_7 rfl (lv_at hl 1 rfl) ?_
  refine lv_iload_n hx hb dX6_closeGates_8 rfl (lv_at hl 0 rfl) ?_
  refine g_cVr (As := [.int 3]) (rest := []) ⟨hx, hb, hml, hown, hts⟩ (c_X6_voiceOf l G cA a ha (fX7_closeGate (mX6_closeGates_1 S o) (rX6_voiceOf o (2 : Int32))) L H.size o (3 : Int32) ho ) (cwV 1 hts gX6_closeGates_X6_voiceOf rfl rfl rfl (by decide +kernel) ⟨Nat.le_of_ble_eq_true rfl, Nat.le_of_ble_eq_true rfl⟩) (g_recv hK hP (lt_G ho) (cM_G ho) (C := RX6) (T := TX6) (N := 12) rfl) hK (mA_mono hS.1) hP hS rfl hl.1 rfl (lv_room (Nat.le_of_ble_eq_true rfl)) dX6_closeGates_9 ⟨Nat.le_of_ble_eq_true rfl, Nat.le_of_ble_eq_true rfl⟩ (fun H locs hP hS _ _ => ?_)
  refine g_cVv (As := []) (rest := []) ⟨hx, hb, hml, hown, hts⟩ (c_X7_closeGate l G cA a ha (fX7_closeGate (mX6_closeGates_1 S o) (rX6_voiceOf o (2 : Int32))) L H.size (rX6_voiceOf o (3 : Int32)) (k_X6_voiceOf ho) ) (cwV 0 hts gX6_closeGates_X7_closeGate rfl rfl rfl (by decide +kernel) ⟨Nat.le_of_ble_eq_true rfl, Nat.le_of_ble_eq_true rfl⟩) (g_recv hK hP (lt_V (k_X6_voiceOf ho)) (cM_V (k_X6_voiceOf ho)) (C := RX7) (T := TX7) (N := 11) rfl) hK (mA_mono hS.1) hP hS rfl hl.1 rfl (lv_room (Nat.le_of_ble_eq_true rfl)) dX6_closeGates_12 ⟨Nat.le_of_ble_eq_true rfl, Nat.le_of_ble_eq_true rfl⟩ (fun H locs hP hS _ _ => ?_)
  have hP : va_P G vwCl (wG 37 a (cM a cA) (mX6_closeGates_2 S o) L) H := hP
  refine lv_iinc (v := 4) (lv' := [(1, .int 4), (0, .ref (a o))]) hx hb dX6_closeGates_15 hl (k := 0) rfl (by decide) (by decide) rfl (fun ls hl => ?_)
  refine lv_goto (tgt := 2) hx hb dX6_closeGates_18 (by decide) ?_
  refine lv_iload_n hx hb dX6_closeGates_2 rfl (lv_at hl 0 rfl) ?_
  refine lv_iconst (v := 4) hx hb dX6_closeGates_3 (by decide) ?_
  refine lv_icmp_ge (tgt := 21) hx hb dX6_closeGates_4 (by decide) (fun _ => ?_) (fun c => absurd c (by decide))
  exact g_vret hx hb hr hlocks (by unfold fX6_closeGates; rfl) rfl hP hS dX6_closeGates_21

def mX6_countGates_1 (S : Mm) (o : Nat) : Mm := fX7_countGate (fX7_countGate S (rX6_voiceOf o (0 : Int32))) (rX6_voiceOf o (1 : Int32))
def mX6_countGates_2 (S : Mm) (o : Nat) : Mm := fX7_countGate (fX7_countGate (mX6_countGates_1 S o) (rX6_voiceOf o (2 : Int32))) (rX6_voiceOf o (3 : Int32))
def fX6_countGates (S : Mm) (o : Nat) : Mm := (mX6_countGates_2 S o)
set_option maxHeartbeats 4000000 in
set_option maxRecDepth 100000 in
theorem c_X6_countGates (l : Launch) (G : va_G) (cA : ClassId) (a : Nat → Nat) (ha : apart 37 a) (S : Mm) (L : Int64) (sz : Nat) (o : Nat) (ho : isG o) : Met l yX6_countGates wsX6_countGates ({ frames := 1, cells := 0, slots := 0, locals := 21 } : Room) (va_Pc [.ref (a o)] (gI G cA (a 37) 37 a (cM a cA) S L sz)) (gQv G 37 a (cM a cA) (fX6_countGates S o) L sz) 0 0 (mA 37 a sz) := by
  refine g_met (cc := cX6_countGates) (maxL := 2) (ret := none) (by decide) rfl (Nat.le_of_ble_eq_true rfl) ?_
  intro p e s m below meth c ls hx hb hr hlocks hml hts hown hnm hsz hK hP hS hl
  subst hsz
  have hl : lv_has ls 2 [(0, .ref (a o))] := hl
  refine lv_iconst (v := 0) hx hb dX6_countGates_0 (by decide) ?_
  refine lv_istore_n (lv' := [(1, .int 0), (0, .ref (a o))]) hx hb dX6_countGates_1 rfl hl (by decide) rfl (fun ls hl => ?_)
  refine lv_iload_n hx hb dX6_countGates_2 rfl (lv_at hl 0 rfl) ?_
  refine lv_iconst (v := 4) hx hb dX6_countGates_3 (by decide) ?_
  refine lv_icmp_ge (tgt := 21) hx hb dX6_countGates_4 (by decide) (fun c => absurd c (by decide)) (fun _ => ?_)
  refine lv_aload_n hx hb dX6_countGates_7 rfl (lv_at hl 1 rfl) ?_
  refine lv_iload_n hx hb dX6_countGates_8 rfl (lv_at hl 0 rfl) ?_
  refine g_cVr (As := [.int 0]) (rest := []) ⟨hx, hb, hml, hown, hts⟩ (c_X6_voiceOf l G cA a ha S L s.heap.size o (0 : Int32) ho ) (cwV 1 hts gX6_countGates_X6_voiceOf rfl rfl rfl (by decide +kernel) ⟨Nat.le_of_ble_eq_true rfl, Nat.le_of_ble_eq_true rfl⟩) (g_recv hK hP (lt_G ho) (cM_G ho) (C := RX6) (T := TX6) (N := 12) rfl) hK (mA_mono hS.1) hP hS rfl hl.1 rfl (lv_room (Nat.le_of_ble_eq_true rfl)) dX6_countGates_9 ⟨Nat.le_of_ble_eq_true rfl, Nat.le_of_ble_eq_true rfl⟩ (fun H locs hP hS _ _ => ?_)
  refine g_cVv (As := []) (rest := []) ⟨hx, hb, hml, hown, hts⟩ (c_X7_countGate l G cA a ha S L H.size (rX6_voiceOf o (0 : Int32)) (k_X6_voiceOf ho) ) (cwV 0 hts gX6_countGates_X7_countGate rfl rfl rfl (by decide +kernel) ⟨Nat.le_of_ble_eq_true rfl, Nat.le_of_ble_eq_true rfl⟩) (g_recv hK hP (lt_V (k_X6_voiceOf ho)) (cM_V (k_X6_voiceOf ho)) (C := RX7) (T := TX7) (N := 11) rfl) hK (mA_mono hS.1) hP hS rfl hl.1 rfl (lv_room (Nat.le_of_ble_eq_true rfl)) dX6_countGates_12 ⟨Nat.le_of_ble_eq_true rfl, Nat.le_of_ble_eq_true rfl⟩ (fun H locs hP hS _ _ => ?_)
  refine lv_iinc (v := 1) (lv' := [(1, .int 1), (0, .ref (a o))]) hx hb dX6_countGates_15 hl (k := 0) rfl (by decide) (by decide) rfl (fun ls hl => ?_)
  refine lv_goto (tgt := 2) hx hb dX6_countGates_18 (by decide) ?_
  refine lv_iload_n hx hb dX6_countGates_2 rfl (lv_at hl 0 rfl) ?_
  refine lv_iconst (v := 4) hx hb dX6_countGates_3 (by decide) ?_
  refine lv_icmp_ge (tgt := 21) hx hb dX6_countGates_4 (by decide) (fun c => absurd c (by decide)) (fun _ => ?_)
  refine lv_aload_n hx hb dX6_countGates_7 rfl (lv_at hl 1 rfl) ?_
  refine lv_iload_n hx hb dX6_countGates_8 rfl (lv_at hl 0 rfl) ?_
  refine g_cVr (As := [.int 1]) (rest := []) ⟨hx, hb, hml, hown, hts⟩ (c_X6_voiceOf l G cA a ha (fX7_countGate S (rX6_voiceOf o (0 : Int32))) L H.size o (1 : Int32) ho ) (cwV 1 hts gX6_countGates_X6_voiceOf rfl rfl rfl (by decide +kernel) ⟨Nat.le_of_ble_eq_true rfl, Nat.le_of_ble_eq_true rfl⟩) (g_recv hK hP (lt_G ho) (cM_G ho) (C := RX6) (T := TX6) (N := 12) rfl) hK (mA_mono hS.1) hP hS rfl hl.1 rfl (lv_room (Nat.le_of_ble_eq_true rfl)) dX6_countGates_9 ⟨Nat.le_of_ble_eq_true rfl, Nat.le_of_ble_eq_true rfl⟩ (fun H locs hP hS _ _ => ?_)
  refine g_cVv (As := []) (rest := []) ⟨hx, hb, hml, hown, hts⟩ (c_X7_countGate l G cA a ha (fX7_countGate S (rX6_voiceOf o (0 : Int32))) L H.size (rX6_voiceOf o (1 : Int32)) (k_X6_voiceOf ho) ) (cwV 0 hts gX6_countGates_X7_countGate rfl rfl rfl (by decide +kernel) ⟨Nat.le_of_ble_eq_true rfl, Nat.le_of_ble_eq_true rfl⟩) (g_recv hK hP (lt_V (k_X6_voiceOf ho)) (cM_V (k_X6_voiceOf ho)) (C := RX7) (T := TX7) (N := 11) rfl) hK (mA_mono hS.1) hP hS rfl hl.1 rfl (lv_room (Nat.le_of_ble_eq_true rfl)) dX6_countGates_12 ⟨Nat.le_of_ble_eq_true rfl, Nat.le_of_ble_eq_true rfl⟩ (fun H locs hP hS _ _ => ?_)
  have hP : va_P G vwCl (wG 37 a (cM a cA) (mX6_countGates_1 S o) L) H := hP
  refine lv_iinc (v := 2) (lv' := [(1, .int 2), (0, .ref (a o))]) hx hb dX6_countGates_15 hl (k := 0) rfl (by decide) (by decide) rfl (fun ls hl => ?_)
  refine lv_goto (tgt := 2) hx hb dX6_countGates_18 (by decide) ?_
  refine lv_iload_n hx hb dX6_countGates_2 rfl (lv_at hl 0 rfl) ?_
  refine lv_iconst (v := 4) hx hb dX6_countGates_3 (by decide) ?_
  refine lv_icmp_ge (tgt := 21) hx hb dX6_countGates_4 (by decide) (fun c => absurd c (by decide)) (fun _ => ?_)
  refine lv_aload_n hx hb dX6_countGates_7 rfl (lv_at hl 1 rfl) ?_
  refine lv_iload_n hx hb dX6_countGates_8 rfl (lv_at hl 0 rfl) ?_
  refine g_cVr (As := [.int 2]) (rest := []) ⟨hx, hb, hml, hown, hts⟩ (c_X6_voiceOf l G cA a ha (mX6_countGates_1 S o) L H.size o (2 : Int32) ho ) (cwV 1 hts gX6_countGates_X6_voiceOf rfl rfl rfl (by decide +kernel) ⟨Nat.le_of_ble_eq_true rfl, Nat.le_of_ble_eq_true rfl⟩) (g_recv hK hP (lt_G ho) (cM_G ho) (C := RX6) (T := TX6) (N := 12) rfl) hK (mA_mono hS.1) hP hS rfl hl.1 rfl (lv_room (Nat.le_of_ble_eq_true rfl)) dX6_countGates_9 ⟨Nat.le_of_ble_eq_true rfl, Nat.le_of_ble_eq_true rfl⟩ (fun H locs hP hS _ _ => ?_)
  refine g_cVv (As := []) (rest := []) ⟨hx, hb, hml, hown, hts⟩ (c_X7_countGate l G cA a ha (mX6_countGates_1 S o) L H.size (rX6_voiceOf o (2 : Int32)) (k_X6_voiceOf ho) ) (cwV 0 hts gX6_countGates_X7_countGate rfl rfl rfl (by decide +kernel) ⟨Nat.le_of_ble_eq_true rfl, Nat.le_of_ble_eq_true rfl⟩) (g_recv hK hP (lt_V (k_X6_voiceOf ho)) (cM_V (k_X6_voiceOf ho)) (C := RX7) (T := TX7) (N := 11) rfl) hK (mA_mono hS.1) hP hS rfl hl.1 rfl (lv_room (Nat.le_of_ble_eq_true rfl)) dX6_countGates_12 ⟨Nat.le_of_ble_eq_true rfl, Nat.le_of_ble_eq_true rfl⟩ (fun H locs hP hS _ _ => ?_)
  refine lv_iinc (v := 3) (lv' := [(1, .int 3), (0, .ref (a o))]) hx hb dX6_countGates_15 hl (k := 0) rfl (by decide) (by decide) rfl (fun ls hl => ?_)
  refine lv_goto (tgt := 2) hx hb dX6_countGates_18 (by decide) ?_
  refine lv_iload_n hx hb dX6_countGates_2 rfl (lv_at hl 0 rfl) ?_
  refine lv_iconst (v := 4) hx hb dX6_countGates_3 (by decide) ?_
  refine lv_icmp_ge (tgt := 21) hx hb dX6_countGates_4 (by decide) (fun c => absurd c (by decide)) (fun _ => ?_)
  refine lv_aload_n hx hb dX6_countGates_7 rfl (lv_at hl 1 rfl) ?_
  refine lv_iload_n hx hb dX6_countGates_8 rfl (lv_at hl 0 rfl) ?_
  refine g_cVr (As := [.int 3]) (rest := []) ⟨hx, hb, hml, hown, hts⟩ (c_X6_voiceOf l G cA a ha (fX7_countGate (mX6_countGates_1 S o) (rX6_voiceOf o (2 : Int32))) L H.size o (3 : Int32) ho ) (cwV 1 hts gX6_countGates_X6_voiceOf rfl rfl rfl (by decide +kernel) ⟨Nat.le_of_ble_eq_true rfl, Nat.le_of_ble_eq_true rfl⟩) (g_recv hK hP (lt_G ho) (cM_G ho) (C := RX6) (T := TX6) (N := 12) rfl) hK (mA_mono hS.1) hP hS rfl hl.1 rfl (lv_room (Nat.le_of_ble_eq_true rfl)) dX6_countGates_9 ⟨Nat.le_of_ble_eq_true rfl, Nat.le_of_ble_eq_true rfl⟩ (fun H locs hP hS _ _ => ?_)
  refine g_cVv (As := []) (rest := []) ⟨hx, hb, hml, hown, hts⟩ (c_X7_countGate l G cA a ha (fX7_countGate (mX6_countGates_1 S o) (rX6_voiceOf o (2 : Int32))) L H.size (rX6_voiceOf o (3 : Int32)) (k_X6_voiceOf ho) ) (cwV 0 hts gX6_countGates_X7_countGate rfl rfl rfl (by decide +kernel) ⟨Nat.le_of_ble_eq_true rfl, Nat.le_of_ble_eq_true rfl⟩) (g_recv hK hP (lt_V (k_X6_voiceOf ho)) (cM_V (k_X6_voiceOf ho)) (C := RX7) (T := TX7) (N := 11) rfl) hK (mA_mono hS.1) hP hS rfl hl.1 rfl (lv_room (Nat.le_of_ble_eq_true rfl)) dX6_countGates_12 ⟨Nat.le_of_ble_eq_true rfl, Nat.le_of_ble_eq_true rfl⟩ (fun H locs hP hS _ _ => ?_)
  have hP : va_P G vwCl (wG 37 a (cM a cA) (mX6_countGates_2 S o) L) H := hP
  refine lv_iinc (v := 4) (lv' := [(1, .int 4), (0, .ref (a o))]) hx hb dX6_countGates_15 hl (k := 0) rfl (by decide) (by decide) rfl (fun ls hl => ?_)
  refine lv_goto (tgt := 2) hx hb dX6_countGates_18 (by decide) ?_
  refine lv_iload_n hx hb dX6_countGates_2 rfl (lv_at hl 0 rfl) ?_
  refine lv_iconst (v := 4) hx hb dX6_countGates_3 (by decide) ?_
  refine lv_icmp_ge (tgt := 21) hx hb dX6_countGates_4 (by decide) (fun _ => ?_) (fun c => absurd c (by decide))
  exact g_vret hx hb hr hlocks (by unfold fX6_countGates; rfl) rfl hP hS dX6_countGates_21

def mX6_countStep_1 (S : Mm) (o : Nat) : Mm := up2 (up2 S o 11 ((S o 11) - 1)) o 10 ((((up2 S o 11 ((S o 11) - 1)) o 10) + 1) - (((up2 S o 11 ((S o 11) - 1)) o 10) + 1) / 8 * 8)
def fX6_countStep (S : Mm) (o : Nat) : Mm := (if (up2 S o 11 ((S o 11) - 1)) o 11 = 0 then (mX6_countStep_1 S o) else up2 S o 11 ((S o 11) - 1))
theorem iX6_countStep_X6 : ∀ w ∈ u_ws RX6 TX6 12, w ∈ wsX6_countStep := by decide +kernel
set_option maxHeartbeats 4000000 in
set_option maxRecDepth 100000 in
theorem c_X6_countStep (l : Launch) (G : va_G) (cA : ClassId) (a : Nat → Nat) (ha : apart 37 a) (S : Mm) (L : Int64) (sz : Nat) (o : Nat) (ho : isG o) : Met l yX6_countStep wsX6_countStep ({ frames := 0, cells := 0, slots := 0, locals := 0 } : Room) (va_Pc [.ref (a o)] (gI G cA (a 37) 37 a (cM a cA) S L sz)) (gQv G 37 a (cM a cA) (fX6_countStep S o) L sz) 0 0 (mA 37 a sz) := by
  refine g_met (cc := cX6_countStep) (maxL := 1) (ret := none) (by decide) rfl (Nat.le_of_ble_eq_true rfl) ?_
  intro p e s m below meth c ls hx hb hr hlocks hml hts hown hnm hsz hK hP hS hl
  subst hsz
  have hl : lv_has ls 1 [(0, .ref (a o))] := hl
  refine lv_aload_n hx hb dX6_countStep_0 rfl (lv_at hl 0 rfl) ?_
  refine lv_dup hx hb dX6_countStep_1 rfl ?_
  refine g_get (ci := 6) (C := RX6) (T := TX6) (N := 12) (v := .int (S o 11)) hx hb hts iX6_countStep_X6 hown hK hP (lt_G ho) (cM_G ho) rfl 11 (by decide) rfl (by decide +kernel) rfl dX6_countStep_2 ?_
  refine lv_iconst (v := 1) hx hb dX6_countStep_5 (by decide) ?_
  refine lv_isub hx hb dX6_countStep_6 ?_
  refine g_put (ci := 6) (C := RX6) (T := TX6) (N := 12) (ty := .int) hx hb hts iX6_countStep_X6 tyX6 tyX6_ok nmX6 hown hK ha mA_in hP hS (lt_G ho) (cM_G ho) rfl 11 (by decide) rfl (by decide +kernel) rfl (by decide +kernel) rfl rfl (Nat.le_of_ble_eq_true rfl) (cM_G_set ho (by decide)) dX6_countStep_7 (fun H locs hP hS => ?_)
  refine lv_aload_n hx hb dX6_countStep_10 rfl (lv_at hl 0 rfl) ?_
  refine g_get (ci := 6) (C := RX6) (T := TX6) (N := 12) (v := .int ((up2 S o 11 ((S o 11) - 1)) o 11)) hx hb hts iX6_countStep_X6 hown hK hP (lt_G ho) (cM_G ho) rfl 11 (by decide) rfl (by decide +kernel) rfl dX6_countStep_11 ?_
  refine lv_if_ne (tgt := 30) hx hb dX6_countStep_14 (by decide) (fun c1 => ?_) (fun c1 => ?_)
  ·
    exact g_vret hx hb hr hlocks (by unfold fX6_countStep; rw [if_neg c1]) rfl hP hS dX6_countStep_30
  ·
    refine lv_aload_n hx hb dX6_countStep_17 rfl (lv_at hl 0 rfl) ?_
    refine lv_aload_n hx hb dX6_countStep_18 rfl (lv_at hl 0 rfl) ?_
    refine g_get (ci := 6) (C := RX6) (T := TX6) (N := 12) (v := .int ((up2 S o 11 ((S o 11) - 1)) o 10)) hx hb hts iX6_countStep_X6 hown hK hP (lt_G ho) (cM_G ho) rfl 10 (by decide) rfl (by decide +kernel) rfl dX6_countStep_19 ?_
    refine lv_iconst (v := 1) hx hb dX6_countStep_22 (by decide) ?_
    refine lv_iadd hx hb dX6_countStep_23 ?_
    refine lv_bipush (v := 8) hx hb dX6_countStep_24 (by decide) ?_
    refine lv_irem hx hb dX6_countStep_26 (by decide) ?_
    refine g_put (ci := 6) (C := RX6) (T := TX6) (N := 12) (ty := .int) hx hb hts iX6_countStep_X6 tyX6 tyX6_ok nmX6 hown hK ha mA_in hP hS (lt_G ho) (cM_G ho) rfl 10 (by decide) rfl (by decide +kernel) rfl (by decide +kernel) rfl rfl (Nat.le_of_ble_eq_true rfl) (cM_G_set ho (by decide)) dX6_countStep_27 (fun H locs hP hS => ?_)
    have hP : va_P G vwCl (wG 37 a (cM a cA) (mX6_countStep_1 S o) L) H := hP
    exact g_vret hx hb hr hlocks (by unfold fX6_countStep; rw [if_pos c1]) rfl hP hS dX6_countStep_30

def vX6_startStep_1 (S : Mm) (o : Nat) : Int32 := rX4_pitchOf (up2 S o 11 (rX4_lengthOf S (S o 10))) (0 : Int32) ((up2 S o 11 (rX4_lengthOf S (S o 10))) o 10)
def vX6_startStep_2 (S : Mm) (o : Nat) : Int32 := rX4_forceOf (up2 S o 11 (rX4_lengthOf S (S o 10))) (0 : Int32) ((up2 S o 11 (rX4_lengthOf S (S o 10))) o 10)
def vX6_startStep_3 (S : Mm) (o : Nat) : Int32 := rX4_gateOf (up2 S o 11 (rX4_lengthOf S (S o 10))) (0 : Int32) ((up2 S o 11 (rX4_lengthOf S (S o 10))) o 10)
def mX6_startStep_4 (S : Mm) (o : Nat) : Mm := fX6_startNote (up2 S o 11 (rX4_lengthOf S (S o 10))) o (rX3_get (up2 S o 11 (rX4_lengthOf S (S o 10))) 6 (0 : Int32)) (vX6_startStep_1 S o) (vX6_startStep_2 S o) (vX6_startStep_3 S o)
def vX6_startStep_5 (S : Mm) (o : Nat) : Int32 := rX6_startNote (up2 S o 11 (rX4_lengthOf S (S o 10))) o (rX3_get (up2 S o 11 (rX4_lengthOf S (S o 10))) 6 (0 : Int32)) (vX6_startStep_1 S o) (vX6_startStep_2 S o) (vX6_startStep_3 S o)
def jX6_startStep_6 (S : Mm) (o : Nat) : Mm := (if (vX6_startStep_1 S o) = (-1) then up2 S o 11 (rX4_lengthOf S (S o 10)) else (mX6_startStep_4 S o))
def mX6_startStep_7 (S : Mm) (o : Nat) : Mm := fX6_startNote (jX6_startStep_6 S o) o (rX3_get (jX6_startStep_6 S o) 6 (1 : Int32)) (rX4_pitchOf (jX6_startStep_6 S o) (1 : Int32) ((jX6_startStep_6 S o) o 10)) (rX4_forceOf (jX6_startStep_6 S o) (1 : Int32) ((jX6_startStep_6 S o) o 10)) (rX4_gateOf (jX6_startStep_6 S o) (1 : Int32) ((jX6_startStep_6 S o) o 10))
def vX6_startStep_8 (S : Mm) (o : Nat) : Int32 := rX6_startNote (jX6_startStep_6 S o) o (rX3_get (jX6_startStep_6 S o) 6 (1 : Int32)) (rX4_pitchOf (jX6_startStep_6 S o) (1 : Int32) ((jX6_startStep_6 S o) o 10)) (rX4_forceOf (jX6_startStep_6 S o) (1 : Int32) ((jX6_startStep_6 S o) o 10)) (rX4_gateOf (jX6_startStep_6 S o) (1 : Int32) ((jX6_startStep_6 S o) o 10))
def jX6_startStep_9 (S : Mm) (o : Nat) : Mm := (if rX4_pitchOf (jX6_startStep_6 S o) (1 : Int32) ((jX6_startStep_6 S o) o 10) = (-1) then (jX6_startStep_6 S o) else (mX6_startStep_7 S o))
def mX6_startStep_10 (S : Mm) (o : Nat) : Mm := fX6_startNote (jX6_startStep_9 S o) o (rX3_get (jX6_startStep_9 S o) 6 (2 : Int32)) (rX4_pitchOf (jX6_startStep_9 S o) (2 : Int32) ((jX6_startStep_9 S o) o 10)) (rX4_forceOf (jX6_startStep_9 S o) (2 : Int32) ((jX6_startStep_9 S o) o 10)) (rX4_gateOf (jX6_startStep_9 S o) (2 : Int32) ((jX6_startStep_9 S o) o 10))
def vX6_startStep_11 (S : Mm) (o : Nat) : Int32 := rX6_startNote (jX6_startStep_9 S o) o (rX3_get (jX6_startStep_9 S o) 6 (2 : Int32)) (rX4_pitchOf (jX6_startStep_9 S o) (2 : Int32) ((jX6_startStep_9 S o) o 10)) (rX4_forceOf (jX6_startStep_9 S o) (2 : Int32) ((jX6_startStep_9 S o) o 10)) (rX4_gateOf (jX6_startStep_9 S o) (2 : Int32) ((jX6_startStep_9 S o) o 10))
def jX6_startStep_12 (S : Mm) (o : Nat) : Mm := (if rX4_pitchOf (jX6_startStep_9 S o) (2 : Int32) ((jX6_startStep_9 S o) o 10) = (-1) then (jX6_startStep_9 S o) else (mX6_startStep_10 S o))
def fX6_startStep (S : Mm) (o : Nat) : Mm := (jX6_startStep_12 S o)
theorem iX6_startStep_X4 : ∀ w ∈ u_ws RX4 TX4 6, w ∈ wsX6_startStep := by decide +kernel
theorem iX6_startStep_X5 : ∀ w ∈ u_ws RX5 TX5 7, w ∈ wsX6_startStep := by decide +kernel
theorem iX6_startStep_X6 : ∀ w ∈ u_ws RX6 TX6 12, w ∈ wsX6_startStep := by decide +kernel
set_option maxHeartbeats 4000000 in
set_option maxRecDepth 100000 in
theorem c_X6_startStep (l : Launch) (G : va_G) (cA : ClassId) (a : Nat → Nat) (ha : apart 37 a) (S : Mm) (L : Int64) (sz : Nat) (o : Nat) (ho : isG o) : Met l yX6_startStep wsX6_startStep ({ frames := 4, cells := 0, slots := 0, locals := 91 } : Room) (va_Pc [.ref (a o)] (gI G cA (a 37) 37 a (cM a cA) S L sz)) (gQv G 37 a (cM a cA) (fX6_startStep S o) L sz) 0 0 (mA 37 a sz) := by
  refine g_met (cc := cX6_startStep) (maxL := 5) (ret := none) (by decide) rfl (Nat.le_of_ble_eq_true rfl) ?_
  intro p e s m below meth c ls hx hb hr hlocks hml hts hown hnm hsz hK hP hS hl
  subst hsz
  have hl : lv_has ls 5 [(0, .ref (a o))] := hl
  refine lv_aload_n hx hb dX6_startStep_0 rfl (lv_at hl 0 rfl) ?_
  refine g_get (ci := 6) (C := RX6) (T := TX6) (N := 12) (v := .ref (a 1)) hx hb hts iX6_startStep_X6 hown hK hP (lt_G ho) (cM_G ho) rfl 0 (by decide) rfl (by decide +kernel) rfl dX6_startStep_1 ?_
  refine g_get (ci := 5) (C := RX5) (T := TX5) (N := 7) (v := .ref (a 5)) hx hb hts iX6_startStep_X5 hown hK hP (by decide) cM_S rfl 1 (by decide) rfl (by decide +kernel) rfl dX6_startStep_4 ?_
  refine lv_astore_n (lv' := [(1, .ref (a 5)), (0, .ref (a o))]) hx hb dX6_startStep_7 rfl hl (by decide) rfl (fun ls hl => ?_)
  refine lv_aload_n hx hb dX6_startStep_8 rfl (lv_at hl 1 rfl) ?_
  refine lv_aload_n hx hb dX6_startStep_9 rfl (lv_at hl 0 rfl) ?_
  refine lv_aload_n hx hb dX6_startStep_10 rfl (lv_at hl 1 rfl) ?_
  refine g_get (ci := 6) (C := RX6) (T := TX6) (N := 12) (v := .int (S o 10)) hx hb hts iX6_startStep_X6 hown hK hP (lt_G ho) (cM_G ho) rfl 10 (by decide) rfl (by decide +kernel) rfl dX6_startStep_11 ?_
  refine g_cVi (As := [.int (S o 10)]) (rest := [.ref (a o)]) ⟨hx, hb, hml, hown, hts⟩ (c_X4_lengthOf l G cA a ha S L s.heap.size (S o 10)  ) (cwV 1 hts gX6_startStep_X4_lengthOf rfl rfl rfl (by decide +kernel) ⟨Nat.le_of_ble_eq_true rfl, Nat.le_of_ble_eq_true rfl⟩) (g_recv hK hP (by decide) cM_C (C := RX4) (T := TX4) (N := 6) rfl) hK (mA_mono hS.1) hP hS rfl hl.1 rfl (lv_room (Nat.le_of_ble_eq_true rfl)) dX6_startStep_14 ⟨Nat.le_of_ble_eq_true rfl, Nat.le_of_ble_eq_true rfl⟩ (fun H locs hP hS _ _ => ?_)
  refine g_put (ci := 6) (C := RX6) (T := TX6) (N := 12) (ty := .int) hx hb hts iX6_startStep_X6 tyX6 tyX6_ok nmX6 hown hK ha mA_in hP hS (lt_G ho) (cM_G ho) rfl 11 (by decide) rfl (by decide +kernel) rfl (by decide +kernel) rfl rfl (Nat.le_of_ble_eq_true rfl) (cM_G_set ho (by decide)) dX6_startStep_17 (fun H locs hP hS => ?_)
  refine lv_iconst (v := 0) hx hb dX6_startStep_20 (by decide) ?_
  refine lv_istore_n (lv' := [(2, .int 0), (1, .ref (a 5)), (0, .ref (a o))]) hx hb dX6_startStep_21 rfl hl (by decide) rfl (fun ls hl => ?_)
  refine lv_iload_n hx hb dX6_startStep_22 rfl (lv_at hl 0 rfl) ?_
  refine lv_iconst (v := 3) hx hb dX6_startStep_23 (by decide) ?_
  refine lv_icmp_ge (tgt := 84) hx hb dX6_startStep_24 (by decide) (fun c => absurd c (by decide)) (fun _ => ?_)
  refine lv_aload_n hx hb dX6_startStep_27 rfl (lv_at hl 1 rfl) ?_
  refine lv_iload_n hx hb dX6_startStep_28 rfl (lv_at hl 0 rfl) ?_
  refine lv_aload_n hx hb dX6_startStep_29 rfl (lv_at hl 2 rfl) ?_
  refine g_get (ci := 6) (C := RX6) (T := TX6) (N := 12) (v := .int ((up2 S o 11 (rX4_lengthOf S (S o 10))) o 10)) hx hb hts iX6_startStep_X6 hown hK hP (lt_G ho) (cM_G ho) rfl 10 (by decide) rfl (by decide +kernel) rfl dX6_startStep_30 ?_
  refine g_cVi (As := [.int 0, .int ((up2 S o 11 (rX4_lengthOf S (S o 10))) o 10)]) (rest := []) ⟨hx, hb, hml, hown, hts⟩ (c_X4_pitchOf l G cA a ha (up2 S o 11 (rX4_lengthOf S (S o 10))) L H.size (0 : Int32) ((up2 S o 11 (rX4_lengthOf S (S o 10))) o 10)  ) (cwV 2 hts gX6_startStep_X4_pitchOf rfl rfl rfl (by decide +kernel) ⟨Nat.le_of_ble_eq_true rfl, Nat.le_of_ble_eq_true rfl⟩) (g_recv hK hP (by decide) cM_C (C := RX4) (T := TX4) (N := 6) rfl) hK (mA_mono hS.1) hP hS rfl hl.1 rfl (lv_room (Nat.le_of_ble_eq_true rfl)) dX6_startStep_33 ⟨Nat.le_of_ble_eq_true rfl, Nat.le_of_ble_eq_true rfl⟩ (fun H locs hP hS _ _ => ?_)
  refine W.eq (g2 := F0 m 36 ls [.int (vX6_startStep_1 S o)]) rfl ?_
  refine lv_istore_n (lv' := [(3, .int (vX6_startStep_1 S o)), (2, .int 0), (1, .ref (a 5)), (0, .ref (a o))]) hx hb dX6_startStep_36 rfl hl (by decide) rfl (fun ls hl => ?_)
  refine lv_iload_n hx hb dX6_startStep_37 rfl (lv_at hl 0 rfl) ?_
  refine lv_iconst (v := (-1)) hx hb dX6_startStep_38 (by decide) ?_
  have hj2 : ∀ (zS_hj2 : Mm) (H : Heap) (locs : List Loc) (ls : Array Slot), zS_hj2 = (jX6_startStep_6 S o) → va_P G vwCl (wG 37 a (cM a cA) zS_hj2 L) H → va_S (mA 37 a s.heap.size) s.heap H locs → lv_has ls 5 [(3, .int (vX6_startStep_1 S o)), (2, .int 0), (1, .ref (a 5)), (0, .ref (a o))] → W p l e ({ frames := 4, cells := 0, slots := 0, locals := 91 } : Room) s m ([.ref (a o)] : List Value).toArray below meth c H locs 0 0 (MQ below (gQv G 37 a (cM a cA) (fX6_startStep S o) L s.heap.size) ([.ref (a o)] : List Value).toArray s 0 0 (mA 37 a s.heap.size)) (F0 m 78 ls []) := by
    intro zS_hj2 H locs ls ezS_hj2 hP hS hl
    rw [ezS_hj2] at hP
    refine lv_iinc (v := 1) (lv' := [(2, .int 1), (3, .int (vX6_startStep_1 S o)), (1, .ref (a 5)), (0, .ref (a o))]) hx hb dX6_startStep_78 hl (k := 1) rfl (by decide) (by decide) rfl (fun ls hl => ?_)
    refine lv_goto (tgt := 22) hx hb dX6_startStep_81 (by decide) ?_
    refine lv_iload_n hx hb dX6_startStep_22 rfl (lv_at hl 0 rfl) ?_
    refine lv_iconst (v := 3) hx hb dX6_startStep_23 (by decide) ?_
    refine lv_icmp_ge (tgt := 84) hx hb dX6_startStep_24 (by decide) (fun c => absurd c (by decide)) (fun _ => ?_)
    refine lv_aload_n hx hb dX6_startStep_27 rfl (lv_at hl 2 rfl) ?_
    refine lv_iload_n hx hb dX6_startStep_28 rfl (lv_at hl 0 rfl) ?_
    refine lv_aload_n hx hb dX6_startStep_29 rfl (lv_at hl 3 rfl) ?_
    refine g_get (ci := 6) (C := RX6) (T := TX6) (N := 12) (v := .int ((jX6_startStep_6 S o) o 10)) hx hb hts iX6_startStep_X6 hown hK hP (lt_G ho) (cM_G ho) rfl 10 (by decide) rfl (by decide +kernel) rfl dX6_startStep_30 ?_
    refine g_cVi (As := [.int 1, .int ((jX6_startStep_6 S o) o 10)]) (rest := []) ⟨hx, hb, hml, hown, hts⟩ (c_X4_pitchOf l G cA a ha (jX6_startStep_6 S o) L H.size (1 : Int32) ((jX6_startStep_6 S o) o 10)  ) (cwV 2 hts gX6_startStep_X4_pitchOf rfl rfl rfl (by decide +kernel) ⟨Nat.le_of_ble_eq_true rfl, Nat.le_of_ble_eq_true rfl⟩) (g_recv hK hP (by decide) cM_C (C := RX4) (T := TX4) (N := 6) rfl) hK (mA_mono hS.1) hP hS rfl hl.1 rfl (lv_room (Nat.le_of_ble_eq_true rfl)) dX6_startStep_33 ⟨Nat.le_of_ble_eq_true rfl, Nat.le_of_ble_eq_true rfl⟩ (fun H locs hP hS _ _ => ?_)
    refine lv_istore_n (lv' := [(3, .int (rX4_pitchOf (jX6_startStep_6 S o) (1 : Int32) ((jX6_startStep_6 S o) o 10))), (2, .int 1), (1, .ref (a 5)), (0, .ref (a o))]) hx hb dX6_startStep_36 rfl hl (by decide) rfl (fun ls hl => ?_)
    refine lv_iload_n hx hb dX6_startStep_37 rfl (lv_at hl 0 rfl) ?_
    refine lv_iconst (v := (-1)) hx hb dX6_startStep_38 (by decide) ?_
    have hj4 : ∀ (zS_hj4 : Mm) (H : Heap) (locs : List Loc) (ls : Array Slot), zS_hj4 = (jX6_startStep_9 S o) → va_P G vwCl (wG 37 a (cM a cA) zS_hj4 L) H → va_S (mA 37 a s.heap.size) s.heap H locs → lv_has ls 5 [(3, .int (rX4_pitchOf (jX6_startStep_6 S o) (1 : Int32) ((jX6_startStep_6 S o) o 10))), (2, .int 1), (1, .ref (a 5)), (0, .ref (a o))] → W p l e ({ frames := 4, cells := 0, slots := 0, locals := 91 } : Room) s m ([.ref (a o)] : List Value).toArray below meth c H locs 0 0 (MQ below (gQv G 37 a (cM a cA) (fX6_startStep S o) L s.heap.size) ([.ref (a o)] : List Value).toArray s 0 0 (mA 37 a s.heap.size)) (F0 m 78 ls []) := by
      intro zS_hj4 H locs ls ezS_hj4 hP hS hl
      rw [ezS_hj4] at hP
      refine lv_iinc (v := 2) (lv' := [(2, .int 2), (3, .int (rX4_pitchOf (jX6_startStep_6 S o) (1 : Int32) ((jX6_startStep_6 S o) o 10))), (1, .ref (a 5)), (0, .ref (a o))]) hx hb dX6_startStep_78 hl (k := 1) rfl (by decide) (by decide) rfl (fun ls hl => ?_)
      refine lv_goto (tgt := 22) hx hb dX6_startStep_81 (by decide) ?_
      refine lv_iload_n hx hb dX6_startStep_22 rfl (lv_at hl 0 rfl) ?_
      refine lv_iconst (v := 3) hx hb dX6_startStep_23 (by decide) ?_
      refine lv_icmp_ge (tgt := 84) hx hb dX6_startStep_24 (by decide) (fun c => absurd c (by decide)) (fun _ => ?_)
      refine lv_aload_n hx hb dX6_startStep_27 rfl (lv_at hl 2 rfl) ?_
      refine lv_iload_n hx hb dX6_startStep_28 rfl (lv_at hl 0 rfl) ?_
      refine lv_aload_n hx hb dX6_startStep_29 rfl (lv_at hl 3 rfl) ?_
      refine g_get (ci := 6) (C := RX6) (T := TX6) (N := 12) (v := .int ((jX6_startStep_9 S o) o 10)) hx hb hts iX6_startStep_X6 hown hK hP (lt_G ho) (cM_G ho) rfl 10 (by decide) rfl (by decide +kernel) rfl dX6_startStep_30 ?_
      refine g_cVi (As := [.int 2, .int ((jX6_startStep_9 S o) o 10)]) (rest := []) ⟨hx, hb, hml, hown, hts⟩ (c_X4_pitchOf l G cA a ha (jX6_startStep_9 S o) L H.size (2 : Int32) ((jX6_startStep_9 S o) o 10)  ) (cwV 2 hts gX6_startStep_X4_pitchOf rfl rfl rfl (by decide +kernel) ⟨Nat.le_of_ble_eq_true rfl, Nat.le_of_ble_eq_true rfl⟩) (g_recv hK hP (by decide) cM_C (C := RX4) (T := TX4) (N := 6) rfl) hK (mA_mono hS.1) hP hS rfl hl.1 rfl (lv_room (Nat.le_of_ble_eq_true rfl)) dX6_startStep_33 ⟨Nat.le_of_ble_eq_true rfl, Nat.le_of_ble_eq_true rfl⟩ (fun H locs hP hS _ _ => ?_)
      refine lv_istore_n (lv' := [(3, .int (rX4_pitchOf (jX6_startStep_9 S o) (2 : Int32) ((jX6_startStep_9 S o) o 10))), (2, .int 2), (1, .ref (a 5)), (0, .ref (a o))]) hx hb dX6_startStep_36 rfl hl (by decide) rfl (fun ls hl => ?_)
      refine lv_iload_n hx hb dX6_startStep_37 rfl (lv_at hl 0 rfl) ?_
      refine lv_iconst (v := (-1)) hx hb dX6_startStep_38 (by decide) ?_
      have hj6 : ∀ (zS_hj6 : Mm) (H : Heap) (locs : List Loc) (ls : Array Slot), zS_hj6 = (jX6_startStep_12 S o) → va_P G vwCl (wG 37 a (cM a cA) zS_hj6 L) H → va_S (mA 37 a s.heap.size) s.heap H locs → lv_has ls 5 [(3, .int (rX4_pitchOf (jX6_startStep_9 S o) (2 : Int32) ((jX6_startStep_9 S o) o 10))), (2, .int 2), (1, .ref (a 5)), (0, .ref (a o))] → W p l e ({ frames := 4, cells := 0, slots := 0, locals := 91 } : Room) s m ([.ref (a o)] : List Value).toArray below meth c H locs 0 0 (MQ below (gQv G 37 a (cM a cA) (fX6_startStep S o) L s.heap.size) ([.ref (a o)] : List Value).toArray s 0 0 (mA 37 a s.heap.size)) (F0 m 78 ls []) := by
        intro zS_hj6 H locs ls ezS_hj6 hP hS hl
        rw [ezS_hj6] at hP
        refine lv_iinc (v := 3) (lv' := [(2, .int 3), (3, .int (rX4_pitchOf (jX6_startStep_9 S o) (2 : Int32) ((jX6_startStep_9 S o) o 10))), (1, .ref (a 5)), (0, .ref (a o))]) hx hb dX6_startStep_78 hl (k := 1) rfl (by decide) (by decide) rfl (fun ls hl => ?_)
        refine lv_goto (tgt := 22) hx hb dX6_startStep_81 (by decide) ?_
        refine lv_iload_n hx hb dX6_startStep_22 rfl (lv_at hl 0 rfl) ?_
        refine lv_iconst (v := 3) hx hb dX6_startStep_23 (by decide) ?_
        refine lv_icmp_ge (tgt := 84) hx hb dX6_startStep_24 (by decide) (fun _ => ?_) (fun c => absurd c (by decide))
        exact g_vret hx hb hr hlocks (by unfold fX6_startStep; rfl) rfl hP hS dX6_startStep_84
      refine lv_icmp_eq (tgt := 78) hx hb dX6_startStep_39 (by decide) (fun c5 => ?_) (fun c5 => ?_)
      ·
        exact hj6 _ _ _ _ (by unfold jX6_startStep_12; rw [if_pos c5]) hP hS (lv_sub hl [0, 1, 2, 3] rfl)
      ·
        refine lv_aload_n hx hb dX6_startStep_42 rfl (lv_at hl 2 rfl) ?_
        refine g_get (ci := 4) (C := RX4) (T := TX4) (N := 6) (v := .ref (a 6)) hx hb hts iX6_startStep_X4 hown hK hP (by decide) cM_C rfl 0 (by decide) rfl (by decide +kernel) rfl dX6_startStep_43 ?_
        refine lv_iload_n hx hb dX6_startStep_46 rfl (lv_at hl 1 rfl) ?_
        refine g_cVi (As := [.int 2]) (rest := []) ⟨hx, hb, hml, hown, hts⟩ (c_X3_get l G cA a ha (jX6_startStep_9 S o) L H.size 6 (2 : Int32) (by decide) ) (cwV 1 hts gX6_startStep_X3_get rfl rfl rfl (by decide +kernel) ⟨Nat.le_of_ble_eq_true rfl, Nat.le_of_ble_eq_true rfl⟩) (g_recv hK hP (lt_R (by decide)) (cM_R (by decide)) (C := RX3) (T := TX3) (N := 1) rfl) hK (mA_mono hS.1) hP hS rfl hl.1 rfl (lv_room (Nat.le_of_ble_eq_true rfl)) dX6_startStep_47 ⟨Nat.le_of_ble_eq_true rfl, Nat.le_of_ble_eq_true rfl⟩ (fun H locs hP hS _ _ => ?_)
        refine lv_istore (lv' := [(4, .int (rX3_get (jX6_startStep_9 S o) 6 (2 : Int32))), (3, .int (rX4_pitchOf (jX6_startStep_9 S o) (2 : Int32) ((jX6_startStep_9 S o) o 10))), (2, .int 2), (1, .ref (a 5)), (0, .ref (a o))]) hx hb dX6_startStep_50 hl (by decide) rfl (fun ls hl => ?_)
        refine lv_aload_n hx hb dX6_startStep_52 rfl (lv_at hl 4 rfl) ?_
        refine lv_iload hx hb dX6_startStep_53 (lv_at hl 0 rfl) ?_
        refine lv_iload_n hx hb dX6_startStep_55 rfl (lv_at hl 1 rfl) ?_
        refine lv_aload_n hx hb dX6_startStep_56 rfl (lv_at hl 3 rfl) ?_
        refine lv_iload_n hx hb dX6_startStep_57 rfl (lv_at hl 2 rfl) ?_
        refine lv_aload_n hx hb dX6_startStep_58 rfl (lv_at hl 4 rfl) ?_
        refine g_get (ci := 6) (C := RX6) (T := TX6) (N := 12) (v := .int ((jX6_startStep_9 S o) o 10)) hx hb hts iX6_startStep_X6 hown hK hP (lt_G ho) (cM_G ho) rfl 10 (by decide) rfl (by decide +kernel) rfl dX6_startStep_59 ?_
        refine g_cVi (As := [.int 2, .int ((jX6_startStep_9 S o) o 10)]) (rest := [.int (rX4_pitchOf (jX6_startStep_9 S o) (2 : Int32) ((jX6_startStep_9 S o) o 10)), .int (rX3_get (jX6_startStep_9 S o) 6 (2 : Int32)), .ref (a o)]) ⟨hx, hb, hml, hown, hts⟩ (c_X4_forceOf l G cA a ha (jX6_startStep_9 S o) L H.size (2 : Int32) ((jX6_startStep_9 S o) o 10)  ) (cwV 2 hts gX6_startStep_X4_forceOf rfl rfl rfl (by decide +kernel) ⟨Nat.le_of_ble_eq_true rfl, Nat.le_of_ble_eq_true rfl⟩) (g_recv hK hP (by decide) cM_C (C := RX4) (T := TX4) (N := 6) rfl) hK (mA_mono hS.1) hP hS rfl hl.1 rfl (lv_room (Nat.le_of_ble_eq_true rfl)) dX6_startStep_62 ⟨Nat.le_of_ble_eq_true rfl, Nat.le_of_ble_eq_true rfl⟩ (fun H locs hP hS _ _ => ?_)
        refine lv_aload_n hx hb dX6_startStep_65 rfl (lv_at hl 3 rfl) ?_
        refine lv_iload_n hx hb dX6_startStep_66 rfl (lv_at hl 2 rfl) ?_
        refine lv_aload_n hx hb dX6_startStep_67 rfl (lv_at hl 4 rfl) ?_
        refine g_get (ci := 6) (C := RX6) (T := TX6) (N := 12) (v := .int ((jX6_startStep_9 S o) o 10)) hx hb hts iX6_startStep_X6 hown hK hP (lt_G ho) (cM_G ho) rfl 10 (by decide) rfl (by decide +kernel) rfl dX6_startStep_68 ?_
        refine g_cVi (As := [.int 2, .int ((jX6_startStep_9 S o) o 10)]) (rest := [.int (rX4_forceOf (jX6_startStep_9 S o) (2 : Int32) ((jX6_startStep_9 S o) o 10)), .int (rX4_pitchOf (jX6_startStep_9 S o) (2 : Int32) ((jX6_startStep_9 S o) o 10)), .int (rX3_get (jX6_startStep_9 S o) 6 (2 : Int32)), .ref (a o)]) ⟨hx, hb, hml, hown, hts⟩ (c_X4_gateOf l G cA a ha (jX6_startStep_9 S o) L H.size (2 : Int32) ((jX6_startStep_9 S o) o 10)  ) (cwV 2 hts gX6_startStep_X4_gateOf rfl rfl rfl (by decide +kernel) ⟨Nat.le_of_ble_eq_true rfl, Nat.le_of_ble_eq_true rfl⟩) (g_recv hK hP (by decide) cM_C (C := RX4) (T := TX4) (N := 6) rfl) hK (mA_mono hS.1) hP hS rfl hl.1 rfl (lv_room (Nat.le_of_ble_eq_true rfl)) dX6_startStep_71 ⟨Nat.le_of_ble_eq_true rfl, Nat.le_of_ble_eq_true rfl⟩ (fun H locs hP hS _ _ => ?_)
        refine g_cVi (As := [.int (rX3_get (jX6_startStep_9 S o) 6 (2 : Int32)), .int (rX4_pitchOf (jX6_startStep_9 S o) (2 : Int32) ((jX6_startStep_9 S o) o 10)), .int (rX4_forceOf (jX6_startStep_9 S o) (2 : Int32) ((jX6_startStep_9 S o) o 10)), .int (rX4_gateOf (jX6_startStep_9 S o) (2 : Int32) ((jX6_startStep_9 S o) o 10))]) (rest := []) ⟨hx, hb, hml, hown, hts⟩ (c_X6_startNote l G cA a ha (jX6_startStep_9 S o) L H.size o (rX3_get (jX6_startStep_9 S o) 6 (2 : Int32)) (rX4_pitchOf (jX6_startStep_9 S o) (2 : Int32) ((jX6_startStep_9 S o) o 10)) (rX4_forceOf (jX6_startStep_9 S o) (2 : Int32) ((jX6_startStep_9 S o) o 10)) (rX4_gateOf (jX6_startStep_9 S o) (2 : Int32) ((jX6_startStep_9 S o) o 10)) ho ) (cwV 4 hts gX6_startStep_X6_startNote rfl rfl rfl (by decide +kernel) ⟨Nat.le_of_ble_eq_true rfl, Nat.le_of_ble_eq_true rfl⟩) (g_recv hK hP (lt_G ho) (cM_G ho) (C := RX6) (T := TX6) (N := 12) rfl) hK (mA_mono hS.1) hP hS rfl hl.1 rfl (lv_room (Nat.le_of_ble_eq_true rfl)) dX6_startStep_74 ⟨Nat.le_of_ble_eq_true rfl, Nat.le_of_ble_eq_true rfl⟩ (fun H locs hP hS _ _ => ?_)
        have hP : va_P G vwCl (wG 37 a (cM a cA) (mX6_startStep_10 S o) L) H := hP
        refine W.eq (g2 := F0 m 77 ls [.int (vX6_startStep_11 S o)]) rfl ?_
        refine lv_pop hx hb dX6_startStep_77 rfl ?_
        exact hj6 _ _ _ _ (by unfold jX6_startStep_12; rw [if_neg c5]) hP hS (lv_sub hl [1, 2, 3, 4] rfl)
    refine lv_icmp_eq (tgt := 78) hx hb dX6_startStep_39 (by decide) (fun c3 => ?_) (fun c3 => ?_)
    ·
      exact hj4 _ _ _ _ (by unfold jX6_startStep_9; rw [if_pos c3]) hP hS (lv_sub hl [0, 1, 2, 3] rfl)
    ·
      refine lv_aload_n hx hb dX6_startStep_42 rfl (lv_at hl 2 rfl) ?_
      refine g_get (ci := 4) (C := RX4) (T := TX4) (N := 6) (v := .ref (a 6)) hx hb hts iX6_startStep_X4 hown hK hP (by decide) cM_C rfl 0 (by decide) rfl (by decide +kernel) rfl dX6_startStep_43 ?_
      refine lv_iload_n hx hb dX6_startStep_46 rfl (lv_at hl 1 rfl) ?_
      refine g_cVi (As := [.int 1]) (rest := []) ⟨hx, hb, hml, hown, hts⟩ (c_X3_get l G cA a ha (jX6_startStep_6 S o) L H.size 6 (1 : Int32) (by decide) ) (cwV 1 hts gX6_startStep_X3_get rfl rfl rfl (by decide +kernel) ⟨Nat.le_of_ble_eq_true rfl, Nat.le_of_ble_eq_true rfl⟩) (g_recv hK hP (lt_R (by decide)) (cM_R (by decide)) (C := RX3) (T := TX3) (N := 1) rfl) hK (mA_mono hS.1) hP hS rfl hl.1 rfl (lv_room (Nat.le_of_ble_eq_true rfl)) dX6_startStep_47 ⟨Nat.le_of_ble_eq_true rfl, Nat.le_of_ble_eq_true rfl⟩ (fun H locs hP hS _ _ => ?_)
      refine lv_istore (lv' := [(4, .int (rX3_get (jX6_startStep_6 S o) 6 (1 : Int32))), (3, .int (rX4_pitchOf (jX6_startStep_6 S o) (1 : Int32) ((jX6_startStep_6 S o) o 10))), (2, .int 1), (1, .ref (a 5)), (0, .ref (a o))]) hx hb dX6_startStep_50 hl (by decide) rfl (fun ls hl => ?_)
      refine lv_aload_n hx hb dX6_startStep_52 rfl (lv_at hl 4 rfl) ?_
      refine lv_iload hx hb dX6_startStep_53 (lv_at hl 0 rfl) ?_
      refine lv_iload_n hx hb dX6_startStep_55 rfl (lv_at hl 1 rfl) ?_
      refine lv_aload_n hx hb dX6_startStep_56 rfl (lv_at hl 3 rfl) ?_
      refine lv_iload_n hx hb dX6_startStep_57 rfl (lv_at hl 2 rfl) ?_
      refine lv_aload_n hx hb dX6_startStep_58 rfl (lv_at hl 4 rfl) ?_
      refine g_get (ci := 6) (C := RX6) (T := TX6) (N := 12) (v := .int ((jX6_startStep_6 S o) o 10)) hx hb hts iX6_startStep_X6 hown hK hP (lt_G ho) (cM_G ho) rfl 10 (by decide) rfl (by decide +kernel) rfl dX6_startStep_59 ?_
      refine g_cVi (As := [.int 1, .int ((jX6_startStep_6 S o) o 10)]) (rest := [.int (rX4_pitchOf (jX6_startStep_6 S o) (1 : Int32) ((jX6_startStep_6 S o) o 10)), .int (rX3_get (jX6_startStep_6 S o) 6 (1 : Int32)), .ref (a o)]) ⟨hx, hb, hml, hown, hts⟩ (c_X4_forceOf l G cA a ha (jX6_startStep_6 S o) L H.size (1 : Int32) ((jX6_startStep_6 S o) o 10)  ) (cwV 2 hts gX6_startStep_X4_forceOf rfl rfl rfl (by decide +kernel) ⟨Nat.le_of_ble_eq_true rfl, Nat.le_of_ble_eq_true rfl⟩) (g_recv hK hP (by decide) cM_C (C := RX4) (T := TX4) (N := 6) rfl) hK (mA_mono hS.1) hP hS rfl hl.1 rfl (lv_room (Nat.le_of_ble_eq_true rfl)) dX6_startStep_62 ⟨Nat.le_of_ble_eq_true rfl, Nat.le_of_ble_eq_true rfl⟩ (fun H locs hP hS _ _ => ?_)
      refine lv_aload_n hx hb dX6_startStep_65 rfl (lv_at hl 3 rfl) ?_
      refine lv_iload_n hx hb dX6_startStep_66 rfl (lv_at hl 2 rfl) ?_
      refine lv_aload_n hx hb dX6_startStep_67 rfl (lv_at hl 4 rfl) ?_
      refine g_get (ci := 6) (C := RX6) (T := TX6) (N := 12) (v := .int ((jX6_startStep_6 S o) o 10)) hx hb hts iX6_startStep_X6 hown hK hP (lt_G ho) (cM_G ho) rfl 10 (by decide) rfl (by decide +kernel) rfl dX6_startStep_68 ?_
      refine g_cVi (As := [.int 1, .int ((jX6_startStep_6 S o) o 10)]) (rest := [.int (rX4_forceOf (jX6_startStep_6 S o) (1 : Int32) ((jX6_startStep_6 S o) o 10)), .int (rX4_pitchOf (jX6_startStep_6 S o) (1 : Int32) ((jX6_startStep_6 S o) o 10)), .int (rX3_get (jX6_startStep_6 S o) 6 (1 : Int32)), .ref (a o)]) ⟨hx, hb, hml, hown, hts⟩ (c_X4_gateOf l G cA a ha (jX6_startStep_6 S o) L H.size (1 : Int32) ((jX6_startStep_6 S o) o 10)  ) (cwV 2 hts gX6_startStep_X4_gateOf rfl rfl rfl (by decide +kernel) ⟨Nat.le_of_ble_eq_true rfl, Nat.le_of_ble_eq_true rfl⟩) (g_recv hK hP (by decide) cM_C (C := RX4) (T := TX4) (N := 6) rfl) hK (mA_mono hS.1) hP hS rfl hl.1 rfl (lv_room (Nat.le_of_ble_eq_true rfl)) dX6_startStep_71 ⟨Nat.le_of_ble_eq_true rfl, Nat.le_of_ble_eq_true rfl⟩ (fun H locs hP hS _ _ => ?_)
      refine g_cVi (As := [.int (rX3_get (jX6_startStep_6 S o) 6 (1 : Int32)), .int (rX4_pitchOf (jX6_startStep_6 S o) (1 : Int32) ((jX6_startStep_6 S o) o 10)), .int (rX4_forceOf (jX6_startStep_6 S o) (1 : Int32) ((jX6_startStep_6 S o) o 10)), .int (rX4_gateOf (jX6_startStep_6 S o) (1 : Int32) ((jX6_startStep_6 S o) o 10))]) (rest := []) ⟨hx, hb, hml, hown, hts⟩ (c_X6_startNote l G cA a ha (jX6_startStep_6 S o) L H.size o (rX3_get (jX6_startStep_6 S o) 6 (1 : Int32)) (rX4_pitchOf (jX6_startStep_6 S o) (1 : Int32) ((jX6_startStep_6 S o) o 10)) (rX4_forceOf (jX6_startStep_6 S o) (1 : Int32) ((jX6_startStep_6 S o) o 10)) (rX4_gateOf (jX6_startStep_6 S o) (1 : Int32) ((jX6_startStep_6 S o) o 10)) ho ) (cwV 4 hts gX6_startStep_X6_startNote rfl rfl rfl (by decide +kernel) ⟨Nat.le_of_ble_eq_true rfl, Nat.le_of_ble_eq_true rfl⟩) (g_recv hK hP (lt_G ho) (cM_G ho) (C := RX6) (T := TX6) (N := 12) rfl) hK (mA_mono hS.1) hP hS rfl hl.1 rfl (lv_room (Nat.le_of_ble_eq_true rfl)) dX6_startStep_74 ⟨Nat.le_of_ble_eq_true rfl, Nat.le_of_ble_eq_true rfl⟩ (fun H locs hP hS _ _ => ?_)
      have hP : va_P G vwCl (wG 37 a (cM a cA) (mX6_startStep_7 S o) L) H := hP
      refine W.eq (g2 := F0 m 77 ls [.int (vX6_startStep_8 S o)]) rfl ?_
      refine lv_pop hx hb dX6_startStep_77 rfl ?_
      exact hj4 _ _ _ _ (by unfold jX6_startStep_9; rw [if_neg c3]) hP hS (lv_sub hl [1, 2, 3, 4] rfl)
  refine lv_icmp_eq (tgt := 78) hx hb dX6_startStep_39 (by decide) (fun c1 => ?_) (fun c1 => ?_)
  ·
    exact hj2 _ _ _ _ (by unfold jX6_startStep_6; rw [if_pos c1]) hP hS (lv_sub hl [0, 1, 2, 3] rfl)
  ·
    refine lv_aload_n hx hb dX6_startStep_42 rfl (lv_at hl 2 rfl) ?_
    refine g_get (ci := 4) (C := RX4) (T := TX4) (N := 6) (v := .ref (a 6)) hx hb hts iX6_startStep_X4 hown hK hP (by decide) cM_C rfl 0 (by decide) rfl (by decide +kernel) rfl dX6_startStep_43 ?_
    refine lv_iload_n hx hb dX6_startStep_46 rfl (lv_at hl 1 rfl) ?_
    refine g_cVi (As := [.int 0]) (rest := []) ⟨hx, hb, hml, hown, hts⟩ (c_X3_get l G cA a ha (up2 S o 11 (rX4_lengthOf S (S o 10))) L H.size 6 (0 : Int32) (by decide) ) (cwV 1 hts gX6_startStep_X3_get rfl rfl rfl (by decide +kernel) ⟨Nat.le_of_ble_eq_true rfl, Nat.le_of_ble_eq_true rfl⟩) (g_recv hK hP (lt_R (by decide)) (cM_R (by decide)) (C := RX3) (T := TX3) (N := 1) rfl) hK (mA_mono hS.1) hP hS rfl hl.1 rfl (lv_room (Nat.le_of_ble_eq_true rfl)) dX6_startStep_47 ⟨Nat.le_of_ble_eq_true rfl, Nat.le_of_ble_eq_true rfl⟩ (fun H locs hP hS _ _ => ?_)
    refine lv_istore (lv' := [(4, .int (rX3_get (up2 S o 11 (rX4_lengthOf S (S o 10))) 6 (0 : Int32))), (3, .int (vX6_startStep_1 S o)), (2, .int 0), (1, .ref (a 5)), (0, .ref (a o))]) hx hb dX6_startStep_50 hl (by decide) rfl (fun ls hl => ?_)
    refine lv_aload_n hx hb dX6_startStep_52 rfl (lv_at hl 4 rfl) ?_
    refine lv_iload hx hb dX6_startStep_53 (lv_at hl 0 rfl) ?_
    refine lv_iload_n hx hb dX6_startStep_55 rfl (lv_at hl 1 rfl) ?_
    refine lv_aload_n hx hb dX6_startStep_56 rfl (lv_at hl 3 rfl) ?_
    refine lv_iload_n hx hb dX6_startStep_57 rfl (lv_at hl 2 rfl) ?_
    refine lv_aload_n hx hb dX6_startStep_58 rfl (lv_at hl 4 rfl) ?_
    refine g_get (ci := 6) (C := RX6) (T := TX6) (N := 12) (v := .int ((up2 S o 11 (rX4_lengthOf S (S o 10))) o 10)) hx hb hts iX6_startStep_X6 hown hK hP (lt_G ho) (cM_G ho) rfl 10 (by decide) rfl (by decide +kernel) rfl dX6_startStep_59 ?_
    refine g_cVi (As := [.int 0, .int ((up2 S o 11 (rX4_lengthOf S (S o 10))) o 10)]) (rest := [.int (vX6_startStep_1 S o), .int (rX3_get (up2 S o 11 (rX4_lengthOf S (S o 10))) 6 (0 : Int32)), .ref (a o)]) ⟨hx, hb, hml, hown, hts⟩ (c_X4_forceOf l G cA a ha (up2 S o 11 (rX4_lengthOf S (S o 10))) L H.size (0 : Int32) ((up2 S o 11 (rX4_lengthOf S (S o 10))) o 10)  ) (cwV 2 hts gX6_startStep_X4_forceOf rfl rfl rfl (by decide +kernel) ⟨Nat.le_of_ble_eq_true rfl, Nat.le_of_ble_eq_true rfl⟩) (g_recv hK hP (by decide) cM_C (C := RX4) (T := TX4) (N := 6) rfl) hK (mA_mono hS.1) hP hS rfl hl.1 rfl (lv_room (Nat.le_of_ble_eq_true rfl)) dX6_startStep_62 ⟨Nat.le_of_ble_eq_true rfl, Nat.le_of_ble_eq_true rfl⟩ (fun H locs hP hS _ _ => ?_)
    refine W.eq (g2 := F0 m 65 ls [.int (vX6_startStep_2 S o), .int (vX6_startStep_1 S o), .int (rX3_get (up2 S o 11 (rX4_lengthOf S (S o 10))) 6 (0 : Int32)), .ref (a o)]) rfl ?_
    refine lv_aload_n hx hb dX6_startStep_65 rfl (lv_at hl 3 rfl) ?_
    refine lv_iload_n hx hb dX6_startStep_66 rfl (lv_at hl 2 rfl) ?_
    refine lv_aload_n hx hb dX6_startStep_67 rfl (lv_at hl 4 rfl) ?_
    refine g_get (ci := 6) (C := RX6) (T := TX6) (N := 12) (v := .int ((up2 S o 11 (rX4_lengthOf S (S o 10))) o 10)) hx hb hts iX6_startStep_X6 hown hK hP (lt_G ho) (cM_G ho) rfl 10 (by decide) rfl (by decide +kernel) rfl dX6_startStep_68 ?_
    refine g_cVi (As := [.int 0, .int ((up2 S o 11 (rX4_lengthOf S (S o 10))) o 10)]) (rest := [.int (vX6_startStep_2 S o), .int (vX6_startStep_1 S o), .int (rX3_get (up2 S o 11 (rX4_lengthOf S (S o 10))) 6 (0 : Int32)), .ref (a o)]) ⟨hx, hb, hml, hown, hts⟩ (c_X4_gateOf l G cA a ha (up2 S o 11 (rX4_lengthOf S (S o 10))) L H.size (0 : Int32) ((up2 S o 11 (rX4_lengthOf S (S o 10))) o 10)  ) (cwV 2 hts gX6_startStep_X4_gateOf rfl rfl rfl (by decide +kernel) ⟨Nat.le_of_ble_eq_true rfl, Nat.le_of_ble_eq_true rfl⟩) (g_recv hK hP (by decide) cM_C (C := RX4) (T := TX4) (N := 6) rfl) hK (mA_mono hS.1) hP hS rfl hl.1 rfl (lv_room (Nat.le_of_ble_eq_true rfl)) dX6_startStep_71 ⟨Nat.le_of_ble_eq_true rfl, Nat.le_of_ble_eq_true rfl⟩ (fun H locs hP hS _ _ => ?_)
    refine W.eq (g2 := F0 m 74 ls [.int (vX6_startStep_3 S o), .int (vX6_startStep_2 S o), .int (vX6_startStep_1 S o), .int (rX3_get (up2 S o 11 (rX4_lengthOf S (S o 10))) 6 (0 : Int32)), .ref (a o)]) rfl ?_
    refine g_cVi (As := [.int (rX3_get (up2 S o 11 (rX4_lengthOf S (S o 10))) 6 (0 : Int32)), .int (vX6_startStep_1 S o), .int (vX6_startStep_2 S o), .int (vX6_startStep_3 S o)]) (rest := []) ⟨hx, hb, hml, hown, hts⟩ (c_X6_startNote l G cA a ha (up2 S o 11 (rX4_lengthOf S (S o 10))) L H.size o (rX3_get (up2 S o 11 (rX4_lengthOf S (S o 10))) 6 (0 : Int32)) (vX6_startStep_1 S o) (vX6_startStep_2 S o) (vX6_startStep_3 S o) ho ) (cwV 4 hts gX6_startStep_X6_startNote rfl rfl rfl (by decide +kernel) ⟨Nat.le_of_ble_eq_true rfl, Nat.le_of_ble_eq_true rfl⟩) (g_recv hK hP (lt_G ho) (cM_G ho) (C := RX6) (T := TX6) (N := 12) rfl) hK (mA_mono hS.1) hP hS rfl hl.1 rfl (lv_room (Nat.le_of_ble_eq_true rfl)) dX6_startStep_74 ⟨Nat.le_of_ble_eq_true rfl, Nat.le_of_ble_eq_true rfl⟩ (fun H locs hP hS _ _ => ?_)
    have hP : va_P G vwCl (wG 37 a (cM a cA) (mX6_startStep_4 S o) L) H := hP
    refine W.eq (g2 := F0 m 77 ls [.int (vX6_startStep_5 S o)]) rfl ?_
    refine lv_pop hx hb dX6_startStep_77 rfl ?_
    exact hj2 _ _ _ _ (by unfold jX6_startStep_6; rw [if_neg c1]) hP hS (lv_sub hl [1, 2, 3, 4] rfl)

def mX6_mixVoices_1 (S : Mm) (o : Nat) : Mm := fX7_give S (rX6_voiceOf o (0 : Int32)) (rX5_instrumentOf (S (rX6_voiceOf o (0 : Int32)) 2)) (S o 6)
def vX6_mixVoices_2 (S : Mm) (o : Nat) : Int32 := 0 + (rX7_give S (rX6_voiceOf o (0 : Int32)) (rX5_instrumentOf (S (rX6_voiceOf o (0 : Int32)) 2)) (S o 6))
def mX6_mixVoices_3 (S : Mm) (o : Nat) : Mm := fX7_give (mX6_mixVoices_1 S o) (rX6_voiceOf o (1 : Int32)) (rX5_instrumentOf ((mX6_mixVoices_1 S o) (rX6_voiceOf o (1 : Int32)) 2)) ((mX6_mixVoices_1 S o) o 6)
def vX6_mixVoices_4 (S : Mm) (o : Nat) : Int32 := rX7_give (mX6_mixVoices_1 S o) (rX6_voiceOf o (1 : Int32)) (rX5_instrumentOf ((mX6_mixVoices_1 S o) (rX6_voiceOf o (1 : Int32)) 2)) ((mX6_mixVoices_1 S o) o 6)
def mX6_mixVoices_5 (S : Mm) (o : Nat) : Mm := fX7_give (mX6_mixVoices_3 S o) (rX6_voiceOf o (2 : Int32)) (rX5_instrumentOf ((mX6_mixVoices_3 S o) (rX6_voiceOf o (2 : Int32)) 2)) ((mX6_mixVoices_3 S o) o 6)
def vX6_mixVoices_6 (S : Mm) (o : Nat) : Int32 := rX7_give (mX6_mixVoices_3 S o) (rX6_voiceOf o (2 : Int32)) (rX5_instrumentOf ((mX6_mixVoices_3 S o) (rX6_voiceOf o (2 : Int32)) 2)) ((mX6_mixVoices_3 S o) o 6)
def mX6_mixVoices_7 (S : Mm) (o : Nat) : Mm := fX7_give (mX6_mixVoices_5 S o) (rX6_voiceOf o (3 : Int32)) (rX5_instrumentOf ((mX6_mixVoices_5 S o) (rX6_voiceOf o (3 : Int32)) 2)) ((mX6_mixVoices_5 S o) o 6)
def vX6_mixVoices_8 (S : Mm) (o : Nat) : Int32 := rX7_give (mX6_mixVoices_5 S o) (rX6_voiceOf o (3 : Int32)) (rX5_instrumentOf ((mX6_mixVoices_5 S o) (rX6_voiceOf o (3 : Int32)) 2)) ((mX6_mixVoices_5 S o) o 6)
def rX6_mixVoices (S : Mm) (o : Nat) : Int32 := (((vX6_mixVoices_2 S o) + (vX6_mixVoices_4 S o)) + (vX6_mixVoices_6 S o)) + (vX6_mixVoices_8 S o)
def fX6_mixVoices (S : Mm) (o : Nat) : Mm := (mX6_mixVoices_7 S o)
theorem iX6_mixVoices_X5 : ∀ w ∈ u_ws RX5 TX5 7, w ∈ wsX6_mixVoices := by decide +kernel
theorem iX6_mixVoices_X6 : ∀ w ∈ u_ws RX6 TX6 12, w ∈ wsX6_mixVoices := by decide +kernel
theorem iX6_mixVoices_X7 : ∀ w ∈ u_ws RX7 TX7 11, w ∈ wsX6_mixVoices := by decide +kernel
set_option maxHeartbeats 4000000 in
set_option maxRecDepth 100000 in
theorem c_X6_mixVoices (l : Launch) (G : va_G) (cA : ClassId) (a : Nat → Nat) (ha : apart 37 a) (S : Mm) (L : Int64) (sz : Nat) (o : Nat) (ho : isG o) : Met l yX6_mixVoices wsX6_mixVoices ({ frames := 5, cells := 0, slots := 0, locals := 119 } : Room) (va_Pc [.ref (a o)] (gI G cA (a 37) 37 a (cM a cA) S L sz)) (gQi (rX6_mixVoices S o) G 37 a (cM a cA) (fX6_mixVoices S o) L sz) 0 0 (mA 37 a sz) := by
  refine g_met (cc := cX6_mixVoices) (maxL := 4) (ret := (some .int)) (by decide) rfl (Nat.le_of_ble_eq_true rfl) ?_
  intro p e s m below meth c ls hx hb hr hlocks hml hts hown hnm hsz hK hP hS hl
  subst hsz
  have hl : lv_has ls 4 [(0, .ref (a o))] := hl
  refine lv_iconst (v := 0) hx hb dX6_mixVoices_0 (by decide) ?_
  refine lv_istore_n (lv' := [(1, .int 0), (0, .ref (a o))]) hx hb dX6_mixVoices_1 rfl hl (by decide) rfl (fun ls hl => ?_)
  refine lv_iconst (v := 0) hx hb dX6_mixVoices_2 (by decide) ?_
  refine lv_istore_n (lv' := [(2, .int 0), (1, .int 0), (0, .ref (a o))]) hx hb dX6_mixVoices_3 rfl hl (by decide) rfl (fun ls hl => ?_)
  refine lv_iload_n hx hb dX6_mixVoices_4 rfl (lv_at hl 0 rfl) ?_
  refine lv_iconst (v := 4) hx hb dX6_mixVoices_5 (by decide) ?_
  refine lv_icmp_ge (tgt := 50) hx hb dX6_mixVoices_6 (by decide) (fun c => absurd c (by decide)) (fun _ => ?_)
  refine lv_aload_n hx hb dX6_mixVoices_9 rfl (lv_at hl 2 rfl) ?_
  refine lv_iload_n hx hb dX6_mixVoices_10 rfl (lv_at hl 0 rfl) ?_
  refine g_cVr (As := [.int 0]) (rest := []) ⟨hx, hb, hml, hown, hts⟩ (c_X6_voiceOf l G cA a ha S L s.heap.size o (0 : Int32) ho ) (cwV 1 hts gX6_mixVoices_X6_voiceOf rfl rfl rfl (by decide +kernel) ⟨Nat.le_of_ble_eq_true rfl, Nat.le_of_ble_eq_true rfl⟩) (g_recv hK hP (lt_G ho) (cM_G ho) (C := RX6) (T := TX6) (N := 12) rfl) hK (mA_mono hS.1) hP hS rfl hl.1 rfl (lv_room (Nat.le_of_ble_eq_true rfl)) dX6_mixVoices_11 ⟨Nat.le_of_ble_eq_true rfl, Nat.le_of_ble_eq_true rfl⟩ (fun H locs hP hS _ _ => ?_)
  refine lv_astore_n (lv' := [(3, .ref (a (rX6_voiceOf o (0 : Int32)))), (2, .int 0), (1, .int 0), (0, .ref (a o))]) hx hb dX6_mixVoices_14 rfl hl (by decide) rfl (fun ls hl => ?_)
  refine lv_iload_n hx hb dX6_mixVoices_15 rfl (lv_at hl 2 rfl) ?_
  refine lv_aload_n hx hb dX6_mixVoices_16 rfl (lv_at hl 0 rfl) ?_
  refine lv_aload_n hx hb dX6_mixVoices_17 rfl (lv_at hl 3 rfl) ?_
  refine g_get (ci := 6) (C := RX6) (T := TX6) (N := 12) (v := .ref (a 1)) hx hb hts iX6_mixVoices_X6 hown hK hP (lt_G ho) (cM_G ho) rfl 0 (by decide) rfl (by decide +kernel) rfl dX6_mixVoices_18 ?_
  refine lv_aload_n hx hb dX6_mixVoices_21 rfl (lv_at hl 0 rfl) ?_
  refine g_get (ci := 7) (C := RX7) (T := TX7) (N := 11) (v := .int (S (rX6_voiceOf o (0 : Int32)) 2)) hx hb hts iX6_mixVoices_X7 hown hK hP (lt_V (k_X6_voiceOf ho)) (cM_V (k_X6_voiceOf ho)) rfl 2 (by decide) rfl (by decide +kernel) rfl dX6_mixVoices_22 ?_
  refine g_cVr (As := [.int (S (rX6_voiceOf o (0 : Int32)) 2)]) (rest := [.ref (a (rX6_voiceOf o (0 : Int32))), .int 0]) ⟨hx, hb, hml, hown, hts⟩ (c_X5_instrumentOf l G cA a ha S L H.size (S (rX6_voiceOf o (0 : Int32)) 2)  ) (cwV 1 hts gX6_mixVoices_X5_instrumentOf rfl rfl rfl (by decide +kernel) ⟨Nat.le_of_ble_eq_true rfl, Nat.le_of_ble_eq_true rfl⟩) (g_recv hK hP (by decide) cM_S (C := RX5) (T := TX5) (N := 7) rfl) hK (mA_mono hS.1) hP hS rfl hl.1 rfl (lv_room (Nat.le_of_ble_eq_true rfl)) dX6_mixVoices_25 ⟨Nat.le_of_ble_eq_true rfl, Nat.le_of_ble_eq_true rfl⟩ (fun H locs hP hS _ _ => ?_)
  refine lv_aload_n hx hb dX6_mixVoices_28 rfl (lv_at hl 3 rfl) ?_
  refine g_get (ci := 6) (C := RX6) (T := TX6) (N := 12) (v := .ref (a 1)) hx hb hts iX6_mixVoices_X6 hown hK hP (lt_G ho) (cM_G ho) rfl 0 (by decide) rfl (by decide +kernel) rfl dX6_mixVoices_29 ?_
  refine g_get (ci := 5) (C := RX5) (T := TX5) (N := 7) (v := .ref (a 2)) hx hb hts iX6_mixVoices_X5 hown hK hP (by decide) cM_S rfl 0 (by decide) rfl (by decide +kernel) rfl dX6_mixVoices_32 ?_
  refine lv_aload_n hx hb dX6_mixVoices_35 rfl (lv_at hl 3 rfl) ?_
  refine g_get (ci := 6) (C := RX6) (T := TX6) (N := 12) (v := .int (S o 6)) hx hb hts iX6_mixVoices_X6 hown hK hP (lt_G ho) (cM_G ho) rfl 6 (by decide) rfl (by decide +kernel) rfl dX6_mixVoices_36 ?_
  refine g_cVi (As := [.ref (a (rX5_instrumentOf (S (rX6_voiceOf o (0 : Int32)) 2))), .ref (a 2), .int (S o 6)]) (rest := [.int 0]) ⟨hx, hb, hml, hown, hts⟩ (c_X7_give l G cA a ha S L H.size (rX6_voiceOf o (0 : Int32)) (rX5_instrumentOf (S (rX6_voiceOf o (0 : Int32)) 2)) (S o 6) (k_X6_voiceOf ho) (k_X5_instrumentOf ) ) (cwV 3 hts gX6_mixVoices_X7_give rfl rfl rfl (by decide +kernel) ⟨Nat.le_of_ble_eq_true rfl, Nat.le_of_ble_eq_true rfl⟩) (g_recv hK hP (lt_V (k_X6_voiceOf ho)) (cM_V (k_X6_voiceOf ho)) (C := RX7) (T := TX7) (N := 11) rfl) hK (mA_mono hS.1) hP hS rfl hl.1 rfl (lv_room (Nat.le_of_ble_eq_true rfl)) dX6_mixVoices_39 ⟨Nat.le_of_ble_eq_true rfl, Nat.le_of_ble_eq_true rfl⟩ (fun H locs hP hS _ _ => ?_)
  have hP : va_P G vwCl (wG 37 a (cM a cA) (mX6_mixVoices_1 S o) L) H := hP
  refine lv_iadd hx hb dX6_mixVoices_42 ?_
  refine W.eq (g2 := F0 m 43 ls [.int (vX6_mixVoices_2 S o)]) rfl ?_
  refine lv_istore_n (lv' := [(1, .int (vX6_mixVoices_2 S o)), (3, .ref (a (rX6_voiceOf o (0 : Int32)))), (2, .int 0), (0, .ref (a o))]) hx hb dX6_mixVoices_43 rfl hl (by decide) rfl (fun ls hl => ?_)
  refine lv_iinc (v := 1) (lv' := [(2, .int 1), (1, .int (vX6_mixVoices_2 S o)), (3, .ref (a (rX6_voiceOf o (0 : Int32)))), (0, .ref (a o))]) hx hb dX6_mixVoices_44 hl (k := 2) rfl (by decide) (by decide) rfl (fun ls hl => ?_)
  refine lv_goto (tgt := 4) hx hb dX6_mixVoices_47 (by decide) ?_
  refine lv_iload_n hx hb dX6_mixVoices_4 rfl (lv_at hl 0 rfl) ?_
  refine lv_iconst (v := 4) hx hb dX6_mixVoices_5 (by decide) ?_
  refine lv_icmp_ge (tgt := 50) hx hb dX6_mixVoices_6 (by decide) (fun c => absurd c (by decide)) (fun _ => ?_)
  refine lv_aload_n hx hb dX6_mixVoices_9 rfl (lv_at hl 3 rfl) ?_
  refine lv_iload_n hx hb dX6_mixVoices_10 rfl (lv_at hl 0 rfl) ?_
  refine g_cVr (As := [.int 1]) (rest := []) ⟨hx, hb, hml, hown, hts⟩ (c_X6_voiceOf l G cA a ha (mX6_mixVoices_1 S o) L H.size o (1 : Int32) ho ) (cwV 1 hts gX6_mixVoices_X6_voiceOf rfl rfl rfl (by decide +kernel) ⟨Nat.le_of_ble_eq_true rfl, Nat.le_of_ble_eq_true rfl⟩) (g_recv hK hP (lt_G ho) (cM_G ho) (C := RX6) (T := TX6) (N := 12) rfl) hK (mA_mono hS.1) hP hS rfl hl.1 rfl (lv_room (Nat.le_of_ble_eq_true rfl)) dX6_mixVoices_11 ⟨Nat.le_of_ble_eq_true rfl, Nat.le_of_ble_eq_true rfl⟩ (fun H locs hP hS _ _ => ?_)
  refine lv_astore_n (lv' := [(3, .ref (a (rX6_voiceOf o (1 : Int32)))), (2, .int 1), (1, .int (vX6_mixVoices_2 S o)), (0, .ref (a o))]) hx hb dX6_mixVoices_14 rfl hl (by decide) rfl (fun ls hl => ?_)
  refine lv_iload_n hx hb dX6_mixVoices_15 rfl (lv_at hl 2 rfl) ?_
  refine lv_aload_n hx hb dX6_mixVoices_16 rfl (lv_at hl 0 rfl) ?_
  refine lv_aload_n hx hb dX6_mixVoices_17 rfl (lv_at hl 3 rfl) ?_
  refine g_get (ci := 6) (C := RX6) (T := TX6) (N := 12) (v := .ref (a 1)) hx hb hts iX6_mixVoices_X6 hown hK hP (lt_G ho) (cM_G ho) rfl 0 (by decide) rfl (by decide +kernel) rfl dX6_mixVoices_18 ?_
  refine lv_aload_n hx hb dX6_mixVoices_21 rfl (lv_at hl 0 rfl) ?_
  refine g_get (ci := 7) (C := RX7) (T := TX7) (N := 11) (v := .int ((mX6_mixVoices_1 S o) (rX6_voiceOf o (1 : Int32)) 2)) hx hb hts iX6_mixVoices_X7 hown hK hP (lt_V (k_X6_voiceOf ho)) (cM_V (k_X6_voiceOf ho)) rfl 2 (by decide) rfl (by decide +kernel) rfl dX6_mixVoices_22 ?_
  refine g_cVr (As := [.int ((mX6_mixVoices_1 S o) (rX6_voiceOf o (1 : Int32)) 2)]) (rest := [.ref (a (rX6_voiceOf o (1 : Int32))), .int (vX6_mixVoices_2 S o)]) ⟨hx, hb, hml, hown, hts⟩ (c_X5_instrumentOf l G cA a ha (mX6_mixVoices_1 S o) L H.size ((mX6_mixVoices_1 S o) (rX6_voiceOf o (1 : Int32)) 2)  ) (cwV 1 hts gX6_mixVoices_X5_instrumentOf rfl rfl rfl (by decide +kernel) ⟨Nat.le_of_ble_eq_true rfl, Nat.le_of_ble_eq_true rfl⟩) (g_recv hK hP (by decide) cM_S (C := RX5) (T := TX5) (N := 7) rfl) hK (mA_mono hS.1) hP hS rfl hl.1 rfl (lv_room (Nat.le_of_ble_eq_true rfl)) dX6_mixVoices_25 ⟨Nat.le_of_ble_eq_true rfl, Nat.le_of_ble_eq_true rfl⟩ (fun H locs hP hS _ _ => ?_)
  refine lv_aload_n hx hb dX6_mixVoices_28 rfl (lv_at hl 3 rfl) ?_
  refine g_get (ci := 6) (C := RX6) (T := TX6) (N := 12) (v := .ref (a 1)) hx hb hts iX6_mixVoices_X6 hown hK hP (lt_G ho) (cM_G ho) rfl 0 (by decide) rfl (by decide +kernel) rfl dX6_mixVoices_29 ?_
  refine g_get (ci := 5) (C := RX5) (T := TX5) (N := 7) (v := .ref (a 2)) hx hb hts iX6_mixVoices_X5 hown hK hP (by decide) cM_S rfl 0 (by decide) rfl (by decide +kernel) rfl dX6_mixVoices_32 ?_
  refine lv_aload_n hx hb dX6_mixVoices_35 rfl (lv_at hl 3 rfl) ?_
  refine g_get (ci := 6) (C := RX6) (T := TX6) (N := 12) (v := .int ((mX6_mixVoices_1 S o) o 6)) hx hb hts iX6_mixVoices_X6 hown hK hP (lt_G ho) (cM_G ho) rfl 6 (by decide) rfl (by decide +kernel) rfl dX6_mixVoices_36 ?_
  refine g_cVi (As := [.ref (a (rX5_instrumentOf ((mX6_mixVoices_1 S o) (rX6_voiceOf o (1 : Int32)) 2))), .ref (a 2), .int ((mX6_mixVoices_1 S o) o 6)]) (rest := [.int (vX6_mixVoices_2 S o)]) ⟨hx, hb, hml, hown, hts⟩ (c_X7_give l G cA a ha (mX6_mixVoices_1 S o) L H.size (rX6_voiceOf o (1 : Int32)) (rX5_instrumentOf ((mX6_mixVoices_1 S o) (rX6_voiceOf o (1 : Int32)) 2)) ((mX6_mixVoices_1 S o) o 6) (k_X6_voiceOf ho) (k_X5_instrumentOf ) ) (cwV 3 hts gX6_mixVoices_X7_give rfl rfl rfl (by decide +kernel) ⟨Nat.le_of_ble_eq_true rfl, Nat.le_of_ble_eq_true rfl⟩) (g_recv hK hP (lt_V (k_X6_voiceOf ho)) (cM_V (k_X6_voiceOf ho)) (C := RX7) (T := TX7) (N := 11) rfl) hK (mA_mono hS.1) hP hS rfl hl.1 rfl (lv_room (Nat.le_of_ble_eq_true rfl)) dX6_mixVoices_39 ⟨Nat.le_of_ble_eq_true rfl, Nat.le_of_ble_eq_true rfl⟩ (fun H locs hP hS _ _ => ?_)
  have hP : va_P G vwCl (wG 37 a (cM a cA) (mX6_mixVoices_3 S o) L) H := hP
  refine W.eq (g2 := F0 m 42 ls [.int (vX6_mixVoices_4 S o), .int (vX6_mixVoices_2 S o)]) rfl ?_
  refine lv_iadd hx hb dX6_mixVoices_42 ?_
  refine lv_istore_n (lv' := [(1, .int ((vX6_mixVoices_2 S o) + (vX6_mixVoices_4 S o))), (3, .ref (a (rX6_voiceOf o (1 : Int32)))), (2, .int 1), (0, .ref (a o))]) hx hb dX6_mixVoices_43 rfl hl (by decide) rfl (fun ls hl => ?_)
  refine lv_iinc (v := 2) (lv' := [(2, .int 2), (1, .int ((vX6_mixVoices_2 S o) + (vX6_mixVoices_4 S o))), (3, .ref (a (rX6_voiceOf o (1 : Int32)))), (0, .ref (a o))]) hx hb dX6_mixVoices_44 hl (k := 2) rfl (by decide) (by decide) rfl (fun ls hl => ?_)
  refine lv_goto (tgt := 4) hx hb dX6_mixVoices_47 (by decide) ?_
  refine lv_iload_n hx hb dX6_mixVoices_4 rfl (lv_at hl 0 rfl) ?_
  refine lv_iconst (v := 4) hx hb dX6_mixVoices_5 (by decide) ?_
  refine lv_icmp_ge (tgt := 50) hx hb dX6_mixVoices_6 (by decide) (fun c => absurd c (by decide)) (fun _ => ?_)
  refine lv_aload_n hx hb dX6_mixVoices_9 rfl (lv_at hl 3 rfl) ?_
  refine lv_iload_n hx hb dX6_mixVoices_10 rfl (lv_at hl 0 rfl) ?_
  refine g_cVr (As := [.int 2]) (rest := []) ⟨hx, hb, hml, hown, hts⟩ (c_X6_voiceOf l G cA a ha (mX6_mixVoices_3 S o) L H.size o (2 : Int32) ho ) (cwV 1 hts gX6_mixVoices_X6_voiceOf rfl rfl rfl (by decide +kernel) ⟨Nat.le_of_ble_eq_true rfl, Nat.le_of_ble_eq_true rfl⟩) (g_recv hK hP (lt_G ho) (cM_G ho) (C := RX6) (T := TX6) (N := 12) rfl) hK (mA_mono hS.1) hP hS rfl hl.1 rfl (lv_room (Nat.le_of_ble_eq_true rfl)) dX6_mixVoices_11 ⟨Nat.le_of_ble_eq_true rfl, Nat.le_of_ble_eq_true rfl⟩ (fun H locs hP hS _ _ => ?_)
  refine lv_astore_n (lv' := [(3, .ref (a (rX6_voiceOf o (2 : Int32)))), (2, .int 2), (1, .int ((vX6_mixVoices_2 S o) + (vX6_mixVoices_4 S o))), (0, .ref (a o))]) hx hb dX6_mixVoices_14 rfl hl (by decide) rfl (fun ls hl => ?_)
  refine lv_iload_n hx hb dX6_mixVoices_15 rfl (lv_at hl 2 rfl) ?_
  refine lv_aload_n hx hb dX6_mixVoices_16 rfl (lv_at hl 0 rfl) ?_
  refine lv_aload_n hx hb dX6_mixVoices_17 rfl (lv_at hl 3 rfl) ?_
  refine g_get (ci := 6) (C := RX6) (T := TX6) (N := 12) (v := .ref (a 1)) hx hb hts iX6_mixVoices_X6 hown hK hP (lt_G ho) (cM_G ho) rfl 0 (by decide) rfl (by decide +kernel) rfl dX6_mixVoices_18 ?_
  refine lv_aload_n hx hb dX6_mixVoices_21 rfl (lv_at hl 0 rfl) ?_
  refine g_get (ci := 7) (C := RX7) (T := TX7) (N := 11) (v := .int ((mX6_mixVoices_3 S o) (rX6_voiceOf o (2 : Int32)) 2)) hx hb hts iX6_mixVoices_X7 hown hK hP (lt_V (k_X6_voiceOf ho)) (cM_V (k_X6_voiceOf ho)) rfl 2 (by decide) rfl (by decide +kernel) rfl dX6_mixVoices_22 ?_
  refine g_cVr (As := [.int ((mX6_mixVoices_3 S o) (rX6_voiceOf o (2 : Int32)) 2)]) (rest := [.ref (a (rX6_voiceOf o (2 : Int32))), .int ((vX6_mixVoices_2 S o) + (vX6_mixVoices_4 S o))]) ⟨hx, hb, hml, hown, hts⟩ (c_X5_instrumentOf l G cA a ha (mX6_mixVoices_3 S o) L H.size ((mX6_mixVoices_3 S o) (rX6_voiceOf o (2 : Int32)) 2)  ) (cwV 1 hts gX6_mixVoices_X5_instrumentOf rfl rfl rfl (by decide +kernel) ⟨Nat.le_of_ble_eq_true rfl, Nat.le_of_ble_eq_true rfl⟩) (g_recv hK hP (by decide) cM_S (C := RX5) (T := TX5) (N := 7) rfl) hK (mA_mono hS.1) hP hS rfl hl.1 rfl (lv_room (Nat.le_of_ble_eq_true rfl)) dX6_mixVoices_25 ⟨Nat.le_of_ble_eq_true rfl, Nat.le_of_ble_eq_true rfl⟩ (fun H locs hP hS _ _ => ?_)
  refine lv_aload_n hx hb dX6_mixVoices_28 rfl (lv_at hl 3 rfl) ?_
  refine g_get (ci := 6) (C := RX6) (T := TX6) (N := 12) (v := .ref (a 1)) hx hb hts iX6_mixVoices_X6 hown hK hP (lt_G ho) (cM_G ho) rfl 0 (by decide) rfl (by decide +kernel) rfl dX6_mixVoices_29 ?_
  refine g_get (ci := 5) (C := RX5) (T := TX5) (N := 7) (v := .ref (a 2)) hx hb hts iX6_mixVoices_X5 hown hK hP (by decide) cM_S rfl 0 (by decide) rfl (by decide +kernel) rfl dX6_mixVoices_32 ?_
  refine lv_aload_n hx hb dX6_mixVoices_35 rfl (lv_at hl 3 rfl) ?_
  refine g_get (ci := 6) (C := RX6) (T := TX6) (N := 12) (v := .int ((mX6_mixVoices_3 S o) o 6)) hx hb hts iX6_mixVoices_X6 hown hK hP (lt_G ho) (cM_G ho) rfl 6 (by decide) rfl (by decide +kernel) rfl dX6_mixVoices_36 ?_
  refine g_cVi (As := [.ref (a (rX5_instrumentOf ((mX6_mixVoices_3 S o) (rX6_voiceOf o (2 : Int32)) 2))), .ref (a 2), .int ((mX6_mixVoices_3 S o) o 6)]) (rest := [.int ((vX6_mixVoices_2 S o) + (vX6_mixVoices_4 S o))]) ⟨hx, hb, hml, hown, hts⟩ (c_X7_give l G cA a ha (mX6_mixVoices_3 S o) L H.size (rX6_voiceOf o (2 : Int32)) (rX5_instrumentOf ((mX6_mixVoices_3 S o) (rX6_voiceOf o (2 : Int32)) 2)) ((mX6_mixVoices_3 S o) o 6) (k_X6_voiceOf ho) (k_X5_instrumentOf ) ) (cwV 3 hts gX6_mixVoices_X7_give rfl rfl rfl (by decide +kernel) ⟨Nat.le_of_ble_eq_true rfl, Nat.le_of_ble_eq_true rfl⟩) (g_recv hK hP (lt_V (k_X6_voiceOf ho)) (cM_V (k_X6_voiceOf ho)) (C := RX7) (T := TX7) (N := 11) rfl) hK (mA_mono hS.1) hP hS rfl hl.1 rfl (lv_room (Nat.le_of_ble_eq_true rfl)) dX6_mixVoices_39 ⟨Nat.le_of_ble_eq_true rfl, Nat.le_of_ble_eq_true rfl⟩ (fun H locs hP hS _ _ => ?_)
  have hP : va_P G vwCl (wG 37 a (cM a cA) (mX6_mixVoices_5 S o) L) H := hP
  refine W.eq (g2 := F0 m 42 ls [.int (vX6_mixVoices_6 S o), .int ((vX6_mixVoices_2 S o) + (vX6_mixVoices_4 S o))]) rfl ?_
  refine lv_iadd hx hb dX6_mixVoices_42 ?_
  refine lv_istore_n (lv' := [(1, .int (((vX6_mixVoices_2 S o) + (vX6_mixVoices_4 S o)) + (vX6_mixVoices_6 S o))), (3, .ref (a (rX6_voiceOf o (2 : Int32)))), (2, .int 2), (0, .ref (a o))]) hx hb dX6_mixVoices_43 rfl hl (by decide) rfl (fun ls hl => ?_)
  refine lv_iinc (v := 3) (lv' := [(2, .int 3), (1, .int (((vX6_mixVoices_2 S o) + (vX6_mixVoices_4 S o)) + (vX6_mixVoices_6 S o))), (3, .ref (a (rX6_voiceOf o (2 : Int32)))), (0, .ref (a o))]) hx hb dX6_mixVoices_44 hl (k := 2) rfl (by decide) (by decide) rfl (fun ls hl => ?_)
  refine lv_goto (tgt := 4) hx hb dX6_mixVoices_47 (by decide) ?_
  refine lv_iload_n hx hb dX6_mixVoices_4 rfl (lv_at hl 0 rfl) ?_
  refine lv_iconst (v := 4) hx hb dX6_mixVoices_5 (by decide) ?_
  refine lv_icmp_ge (tgt := 50) hx hb dX6_mixVoices_6 (by decide) (fun c => absurd c (by decide)) (fun _ => ?_)
  refine lv_aload_n hx hb dX6_mixVoices_9 rfl (lv_at hl 3 rfl) ?_
  refine lv_iload_n hx hb dX6_mixVoices_10 rfl (lv_at hl 0 rfl) ?_
  refine g_cVr (As := [.int 3]) (rest := []) ⟨hx, hb, hml, hown, hts⟩ (c_X6_voiceOf l G cA a ha (mX6_mixVoices_5 S o) L H.size o (3 : Int32) ho ) (cwV 1 hts gX6_mixVoices_X6_voiceOf rfl rfl rfl (by decide +kernel) ⟨Nat.le_of_ble_eq_true rfl, Nat.le_of_ble_eq_true rfl⟩) (g_recv hK hP (lt_G ho) (cM_G ho) (C := RX6) (T := TX6) (N := 12) rfl) hK (mA_mono hS.1) hP hS rfl hl.1 rfl (lv_room (Nat.le_of_ble_eq_true rfl)) dX6_mixVoices_11 ⟨Nat.le_of_ble_eq_true rfl, Nat.le_of_ble_eq_true rfl⟩ (fun H locs hP hS _ _ => ?_)
  refine lv_astore_n (lv' := [(3, .ref (a (rX6_voiceOf o (3 : Int32)))), (2, .int 3), (1, .int (((vX6_mixVoices_2 S o) + (vX6_mixVoices_4 S o)) + (vX6_mixVoices_6 S o))), (0, .ref (a o))]) hx hb dX6_mixVoices_14 rfl hl (by decide) rfl (fun ls hl => ?_)
  refine lv_iload_n hx hb dX6_mixVoices_15 rfl (lv_at hl 2 rfl) ?_
  refine lv_aload_n hx hb dX6_mixVoices_16 rfl (lv_at hl 0 rfl) ?_
  refine lv_aload_n hx hb dX6_mixVoices_17 rfl (lv_at hl 3 rfl) ?_
  refine g_get (ci := 6) (C := RX6) (T := TX6) (N := 12) (v := .ref (a 1)) hx hb hts iX6_mixVoices_X6 hown hK hP (lt_G ho) (cM_G ho) rfl 0 (by decide) rfl (by decide +kernel) rfl dX6_mixVoices_18 ?_
  refine lv_aload_n hx hb dX6_mixVoices_21 rfl (lv_at hl 0 rfl) ?_
  refine g_get (ci := 7) (C := RX7) (T := TX7) (N := 11) (v := .int ((mX6_mixVoices_5 S o) (rX6_voiceOf o (3 : Int32)) 2)) hx hb hts iX6_mixVoices_X7 hown hK hP (lt_V (k_X6_voiceOf ho)) (cM_V (k_X6_voiceOf ho)) rfl 2 (by decide) rfl (by decide +kernel) rfl dX6_mixVoices_22 ?_
  refine g_cVr (As := [.int ((mX6_mixVoices_5 S o) (rX6_voiceOf o (3 : Int32)) 2)]) (rest := [.ref (a (rX6_voiceOf o (3 : Int32))), .int (((vX6_mixVoices_2 S o) + (vX6_mixVoices_4 S o)) + (vX6_mixVoices_6 S o))]) ⟨hx, hb, hml, hown, hts⟩ (c_X5_instrumentOf l G cA a ha (mX6_mixVoices_5 S o) L H.size ((mX6_mixVoices_5 S o) (rX6_voiceOf o (3 : Int32)) 2)  ) (cwV 1 hts gX6_mixVoices_X5_instrumentOf rfl rfl rfl (by decide +kernel) ⟨Nat.le_of_ble_eq_true rfl, Nat.le_of_ble_eq_true rfl⟩) (g_recv hK hP (by decide) cM_S (C := RX5) (T := TX5) (N := 7) rfl) hK (mA_mono hS.1) hP hS rfl hl.1 rfl (lv_room (Nat.le_of_ble_eq_true rfl)) dX6_mixVoices_25 ⟨Nat.le_of_ble_eq_true rfl, Nat.le_of_ble_eq_true rfl⟩ (fun H locs hP hS _ _ => ?_)
  refine lv_aload_n hx hb dX6_mixVoices_28 rfl (lv_at hl 3 rfl) ?_
  refine g_get (ci := 6) (C := RX6) (T := TX6) (N := 12) (v := .ref (a 1)) hx hb hts iX6_mixVoices_X6 hown hK hP (lt_G ho) (cM_G ho) rfl 0 (by decide) rfl (by decide +kernel) rfl dX6_mixVoices_29 ?_
  refine g_get (ci := 5) (C := RX5) (T := TX5) (N := 7) (v := .ref (a 2)) hx hb hts iX6_mixVoices_X5 hown hK hP (by decide) cM_S rfl 0 (by decide) rfl (by decide +kernel) rfl dX6_mixVoices_32 ?_
  refine lv_aload_n hx hb dX6_mixVoices_35 rfl (lv_at hl 3 rfl) ?_
  refine g_get (ci := 6) (C := RX6) (T := TX6) (N := 12) (v := .int ((mX6_mixVoices_5 S o) o 6)) hx hb hts iX6_mixVoices_X6 hown hK hP (lt_G ho) (cM_G ho) rfl 6 (by decide) rfl (by decide +kernel) rfl dX6_mixVoices_36 ?_
  refine g_cVi (As := [.ref (a (rX5_instrumentOf ((mX6_mixVoices_5 S o) (rX6_voiceOf o (3 : Int32)) 2))), .ref (a 2), .int ((mX6_mixVoices_5 S o) o 6)]) (rest := [.int (((vX6_mixVoices_2 S o) + (vX6_mixVoices_4 S o)) + (vX6_mixVoices_6 S o))]) ⟨hx, hb, hml, hown, hts⟩ (c_X7_give l G cA a ha (mX6_mixVoices_5 S o) L H.size (rX6_voiceOf o (3 : Int32)) (rX5_instrumentOf ((mX6_mixVoices_5 S o) (rX6_voiceOf o (3 : Int32)) 2)) ((mX6_mixVoices_5 S o) o 6) (k_X6_voiceOf ho) (k_X5_instrumentOf ) ) (cwV 3 hts gX6_mixVoices_X7_give rfl rfl rfl (by decide +kernel) ⟨Nat.le_of_ble_eq_true rfl, Nat.le_of_ble_eq_true rfl⟩) (g_recv hK hP (lt_V (k_X6_voiceOf ho)) (cM_V (k_X6_voiceOf ho)) (C := RX7) (T := TX7) (N := 11) rfl) hK (mA_mono hS.1) hP hS rfl hl.1 rfl (lv_room (Nat.le_of_ble_eq_true rfl)) dX6_mixVoices_39 ⟨Nat.le_of_ble_eq_true rfl, Nat.le_of_ble_eq_true rfl⟩ (fun H locs hP hS _ _ => ?_)
  have hP : va_P G vwCl (wG 37 a (cM a cA) (mX6_mixVoices_7 S o) L) H := hP
  refine W.eq (g2 := F0 m 42 ls [.int (vX6_mixVoices_8 S o), .int (((vX6_mixVoices_2 S o) + (vX6_mixVoices_4 S o)) + (vX6_mixVoices_6 S o))]) rfl ?_
  refine lv_iadd hx hb dX6_mixVoices_42 ?_
  refine lv_istore_n (lv' := [(1, .int ((((vX6_mixVoices_2 S o) + (vX6_mixVoices_4 S o)) + (vX6_mixVoices_6 S o)) + (vX6_mixVoices_8 S o))), (3, .ref (a (rX6_voiceOf o (3 : Int32)))), (2, .int 3), (0, .ref (a o))]) hx hb dX6_mixVoices_43 rfl hl (by decide) rfl (fun ls hl => ?_)
  refine lv_iinc (v := 4) (lv' := [(2, .int 4), (1, .int ((((vX6_mixVoices_2 S o) + (vX6_mixVoices_4 S o)) + (vX6_mixVoices_6 S o)) + (vX6_mixVoices_8 S o))), (3, .ref (a (rX6_voiceOf o (3 : Int32)))), (0, .ref (a o))]) hx hb dX6_mixVoices_44 hl (k := 2) rfl (by decide) (by decide) rfl (fun ls hl => ?_)
  refine lv_goto (tgt := 4) hx hb dX6_mixVoices_47 (by decide) ?_
  refine lv_iload_n hx hb dX6_mixVoices_4 rfl (lv_at hl 0 rfl) ?_
  refine lv_iconst (v := 4) hx hb dX6_mixVoices_5 (by decide) ?_
  refine lv_icmp_ge (tgt := 50) hx hb dX6_mixVoices_6 (by decide) (fun _ => ?_) (fun c => absurd c (by decide))
  refine lv_iload_n hx hb dX6_mixVoices_50 rfl (lv_at hl 1 rfl) ?_
  exact g_iret hx hb hr hlocks (by unfold rX6_mixVoices; rfl) (by unfold fX6_mixVoices; rfl) rfl hP hS dX6_mixVoices_51

def jX6_advance_1 (S : Mm) (o : Nat) : Mm := (if (fX6_closeGates S o) o 9 = 0 then fX6_closeGates S o else (if (fX6_closeGates S o) o 11 = 0 then fX6_startStep (fX6_closeGates S o) o else fX6_closeGates S o))
def mX6_advance_2 (S : Mm) (o : Nat) : Mm := fX0_pass (fX6_mixVoices (jX6_advance_1 S o) o) (o + 1) (((rX6_mixVoices (jX6_advance_1 S o) o) * ((fX6_mixVoices (jX6_advance_1 S o) o) 1 2)) / 16)
def vX6_advance_3 (S : Mm) (o : Nat) : Int32 := rX0_pass (fX6_mixVoices (jX6_advance_1 S o) o) (o + 1) (((rX6_mixVoices (jX6_advance_1 S o) o) * ((fX6_mixVoices (jX6_advance_1 S o) o) 1 2)) / 16)
def jX6_advance_4 (S : Mm) (o : Nat) : Mm := (if (fX6_countGates (mX6_advance_2 S o) o) o 9 = 0 then fX6_countGates (mX6_advance_2 S o) o else fX6_countStep (fX6_countGates (mX6_advance_2 S o) o) o)
def rX6_advance (S : Mm) (o : Nat) : Int32 := (vX6_advance_3 S o)
def fX6_advance (S : Mm) (o : Nat) : Mm := up2 (jX6_advance_4 S o) o 6 (((jX6_advance_4 S o) o 6) + 1)
theorem iX6_advance_X5 : ∀ w ∈ u_ws RX5 TX5 7, w ∈ wsX6_advance := by decide +kernel
theorem iX6_advance_X6 : ∀ w ∈ u_ws RX6 TX6 12, w ∈ wsX6_advance := by decide +kernel
set_option maxHeartbeats 4000000 in
set_option maxRecDepth 100000 in
theorem c_X6_advance (l : Launch) (G : va_G) (cA : ClassId) (a : Nat → Nat) (ha : apart 37 a) (S : Mm) (L : Int64) (sz : Nat) (o : Nat) (ho : isG o) : Met l yX6_advance wsX6_advance ({ frames := 6, cells := 0, slots := 0, locals := 142 } : Room) (va_Pc [.ref (a o)] (gI G cA (a 37) 37 a (cM a cA) S L sz)) (gQi (rX6_advance S o) G 37 a (cM a cA) (fX6_advance S o) L sz) 0 0 (mA 37 a sz) := by
  refine g_met (cc := cX6_advance) (maxL := 2) (ret := (some .int)) (by decide) rfl (Nat.le_of_ble_eq_true rfl) ?_
  intro p e s m below meth c ls hx hb hr hlocks hml hts hown hnm hsz hK hP hS hl
  subst hsz
  have hl : lv_has ls 2 [(0, .ref (a o))] := hl
  refine lv_aload_n hx hb dX6_advance_0 rfl (lv_at hl 0 rfl) ?_
  refine g_cVv (As := []) (rest := []) ⟨hx, hb, hml, hown, hts⟩ (c_X6_closeGates l G cA a ha S L s.heap.size o ho ) (cwV 0 hts gX6_advance_X6_closeGates rfl rfl rfl (by decide +kernel) ⟨Nat.le_of_ble_eq_true rfl, Nat.le_of_ble_eq_true rfl⟩) (g_recv hK hP (lt_G ho) (cM_G ho) (C := RX6) (T := TX6) (N := 12) rfl) hK (mA_mono hS.1) hP hS rfl hl.1 rfl (lv_room (Nat.le_of_ble_eq_true rfl)) dX6_advance_1 ⟨Nat.le_of_ble_eq_true rfl, Nat.le_of_ble_eq_true rfl⟩ (fun H locs hP hS _ _ => ?_)
  refine lv_aload_n hx hb dX6_advance_4 rfl (lv_at hl 0 rfl) ?_
  refine g_get (ci := 6) (C := RX6) (T := TX6) (N := 12) (v := .int ((fX6_closeGates S o) o 9)) hx hb hts iX6_advance_X6 hown hK hP (lt_G ho) (cM_G ho) rfl 9 (by decide) rfl (by decide +kernel) rfl dX6_advance_5 ?_
  have hj2 : ∀ (zS_hj2 : Mm) (H : Heap) (locs : List Loc) (ls : Array Slot), zS_hj2 = (jX6_advance_1 S o) → va_P G vwCl (wG 37 a (cM a cA) zS_hj2 L) H → va_S (mA 37 a s.heap.size) s.heap H locs → lv_has ls 2 [(0, .ref (a o))] → W p l e ({ frames := 6, cells := 0, slots := 0, locals := 142 } : Room) s m ([.ref (a o)] : List Value).toArray below meth c H locs 0 0 (MQ below (gQi (rX6_advance S o) G 37 a (cM a cA) (fX6_advance S o) L s.heap.size) ([.ref (a o)] : List Value).toArray s 0 0 (mA 37 a s.heap.size)) (F0 m 22 ls []) := by
    intro zS_hj2 H locs ls ezS_hj2 hP hS hl
    rw [ezS_hj2] at hP
    refine lv_aload_n hx hb dX6_advance_22 rfl (lv_at hl 0 rfl) ?_
    refine g_get (ci := 6) (C := RX6) (T := TX6) (N := 12) (v := .ref (a (o + 1))) hx hb hts iX6_advance_X6 hown hK hP (lt_G ho) (cM_G ho) rfl 1 (by decide) rfl (by decide +kernel) rfl dX6_advance_23 ?_
    refine lv_aload_n hx hb dX6_advance_26 rfl (lv_at hl 0 rfl) ?_
    refine g_cVi (As := []) (rest := [.ref (a (o + 1))]) ⟨hx, hb, hml, hown, hts⟩ (c_X6_mixVoices l G cA a ha (jX6_advance_1 S o) L H.size o ho ) (cwV 0 hts gX6_advance_X6_mixVoices rfl rfl rfl (by decide +kernel) ⟨Nat.le_of_ble_eq_true rfl, Nat.le_of_ble_eq_true rfl⟩) (g_recv hK hP (lt_G ho) (cM_G ho) (C := RX6) (T := TX6) (N := 12) rfl) hK (mA_mono hS.1) hP hS rfl hl.1 rfl (lv_room (Nat.le_of_ble_eq_true rfl)) dX6_advance_27 ⟨Nat.le_of_ble_eq_true rfl, Nat.le_of_ble_eq_true rfl⟩ (fun H locs hP hS _ _ => ?_)
    refine lv_aload_n hx hb dX6_advance_30 rfl (lv_at hl 0 rfl) ?_
    refine g_get (ci := 6) (C := RX6) (T := TX6) (N := 12) (v := .ref (a 1)) hx hb hts iX6_advance_X6 hown hK hP (lt_G ho) (cM_G ho) rfl 0 (by decide) rfl (by decide +kernel) rfl dX6_advance_31 ?_
    refine g_get (ci := 5) (C := RX5) (T := TX5) (N := 7) (v := .int ((fX6_mixVoices (jX6_advance_1 S o) o) 1 2)) hx hb hts iX6_advance_X5 hown hK hP (by decide) cM_S rfl 2 (by decide) rfl (by decide +kernel) rfl dX6_advance_34 ?_
    refine lv_imul hx hb dX6_advance_37 ?_
    refine lv_bipush (v := 16) hx hb dX6_advance_38 (by decide) ?_
    refine lv_idiv hx hb dX6_advance_40 (by decide) ?_
    refine g_cVi (As := [.int (((rX6_mixVoices (jX6_advance_1 S o) o) * ((fX6_mixVoices (jX6_advance_1 S o) o) 1 2)) / 16)]) (rest := []) ⟨hx, hb, hml, hown, hts⟩ (c_X0_pass l G cA a ha (fX6_mixVoices (jX6_advance_1 S o) o) L H.size (o + 1) (((rX6_mixVoices (jX6_advance_1 S o) o) * ((fX6_mixVoices (jX6_advance_1 S o) o) 1 2)) / 16) (isDl_G ho) ) (cwV 1 hts gX6_advance_X0_pass rfl rfl rfl (by decide +kernel) ⟨Nat.le_of_ble_eq_true rfl, Nat.le_of_ble_eq_true rfl⟩) (g_recv hK hP (lt_Dl (isDl_G ho)) (cM_Dl (isDl_G ho)) (C := RX0) (T := TX0) (N := 5) rfl) hK (mA_mono hS.1) hP hS rfl hl.1 rfl (lv_room (Nat.le_of_ble_eq_true rfl)) dX6_advance_41 ⟨Nat.le_of_ble_eq_true rfl, Nat.le_of_ble_eq_true rfl⟩ (fun H locs hP hS _ _ => ?_)
    have hP : va_P G vwCl (wG 37 a (cM a cA) (mX6_advance_2 S o) L) H := hP
    refine W.eq (g2 := F0 m 44 ls [.int (vX6_advance_3 S o)]) rfl ?_
    refine lv_istore_n (lv' := [(1, .int (vX6_advance_3 S o)), (0, .ref (a o))]) hx hb dX6_advance_44 rfl hl (by decide) rfl (fun ls hl => ?_)
    refine lv_aload_n hx hb dX6_advance_45 rfl (lv_at hl 1 rfl) ?_
    refine g_cVv (As := []) (rest := []) ⟨hx, hb, hml, hown, hts⟩ (c_X6_countGates l G cA a ha (mX6_advance_2 S o) L H.size o ho ) (cwV 0 hts gX6_advance_X6_countGates rfl rfl rfl (by decide +kernel) ⟨Nat.le_of_ble_eq_true rfl, Nat.le_of_ble_eq_true rfl⟩) (g_recv hK hP (lt_G ho) (cM_G ho) (C := RX6) (T := TX6) (N := 12) rfl) hK (mA_mono hS.1) hP hS rfl hl.1 rfl (lv_room (Nat.le_of_ble_eq_true rfl)) dX6_advance_46 ⟨Nat.le_of_ble_eq_true rfl, Nat.le_of_ble_eq_true rfl⟩ (fun H locs hP hS _ _ => ?_)
    refine lv_aload_n hx hb dX6_advance_49 rfl (lv_at hl 1 rfl) ?_
    refine g_get (ci := 6) (C := RX6) (T := TX6) (N := 12) (v := .int ((fX6_countGates (mX6_advance_2 S o) o) o 9)) hx hb hts iX6_advance_X6 hown hK hP (lt_G ho) (cM_G ho) rfl 9 (by decide) rfl (by decide +kernel) rfl dX6_advance_50 ?_
    have hj4 : ∀ (zS_hj4 : Mm) (H : Heap) (locs : List Loc) (ls : Array Slot), zS_hj4 = (jX6_advance_4 S o) → va_P G vwCl (wG 37 a (cM a cA) zS_hj4 L) H → va_S (mA 37 a s.heap.size) s.heap H locs → lv_has ls 2 [(1, .int (vX6_advance_3 S o)), (0, .ref (a o))] → W p l e ({ frames := 6, cells := 0, slots := 0, locals := 142 } : Room) s m ([.ref (a o)] : List Value).toArray below meth c H locs 0 0 (MQ below (gQi (rX6_advance S o) G 37 a (cM a cA) (fX6_advance S o) L s.heap.size) ([.ref (a o)] : List Value).toArray s 0 0 (mA 37 a s.heap.size)) (F0 m 60 ls []) := by
      intro zS_hj4 H locs ls ezS_hj4 hP hS hl
      rw [ezS_hj4] at hP
      refine lv_aload_n hx hb dX6_advance_60 rfl (lv_at hl 1 rfl) ?_
      refine lv_dup hx hb dX6_advance_61 rfl ?_
      refine g_get (ci := 6) (C := RX6) (T := TX6) (N := 12) (v := .int ((jX6_advance_4 S o) o 6)) hx hb hts iX6_advance_X6 hown hK hP (lt_G ho) (cM_G ho) rfl 6 (by decide) rfl (by decide +kernel) rfl dX6_advance_62 ?_
      refine lv_iconst (v := 1) hx hb dX6_advance_65 (by decide) ?_
      refine lv_iadd hx hb dX6_advance_66 ?_
      refine g_put (ci := 6) (C := RX6) (T := TX6) (N := 12) (ty := .int) hx hb hts iX6_advance_X6 tyX6 tyX6_ok nmX6 hown hK ha mA_in hP hS (lt_G ho) (cM_G ho) rfl 6 (by decide) rfl (by decide +kernel) rfl (by decide +kernel) rfl rfl (Nat.le_of_ble_eq_true rfl) (cM_G_set ho (by decide)) dX6_advance_67 (fun H locs hP hS => ?_)
      refine lv_iload_n hx hb dX6_advance_70 rfl (lv_at hl 0 rfl) ?_
      exact g_iret hx hb hr hlocks (by unfold rX6_advance; rfl) (by unfold fX6_advance; rfl) rfl hP hS dX6_advance_71
    refine lv_if_eq (tgt := 60) hx hb dX6_advance_53 (by decide) (fun c3 => ?_) (fun c3 => ?_)
    ·
      exact hj4 _ _ _ _ (by unfold jX6_advance_4; rw [if_pos c3]) hP hS (lv_sub hl [0, 1] rfl)
    ·
      refine lv_aload_n hx hb dX6_advance_56 rfl (lv_at hl 1 rfl) ?_
      refine g_cVv (As := []) (rest := []) ⟨hx, hb, hml, hown, hts⟩ (c_X6_countStep l G cA a ha (fX6_countGates (mX6_advance_2 S o) o) L H.size o ho ) (cwV 0 hts gX6_advance_X6_countStep rfl rfl rfl (by decide +kernel) ⟨Nat.le_of_ble_eq_true rfl, Nat.le_of_ble_eq_true rfl⟩) (g_recv hK hP (lt_G ho) (cM_G ho) (C := RX6) (T := TX6) (N := 12) rfl) hK (mA_mono hS.1) hP hS rfl hl.1 rfl (lv_room (Nat.le_of_ble_eq_true rfl)) dX6_advance_57 ⟨Nat.le_of_ble_eq_true rfl, Nat.le_of_ble_eq_true rfl⟩ (fun H locs hP hS _ _ => ?_)
      exact hj4 _ _ _ _ (by unfold jX6_advance_4; rw [if_neg c3]) hP hS (lv_sub hl [0, 1] rfl)
  refine lv_if_eq (tgt := 22) hx hb dX6_advance_8 (by decide) (fun c1 => ?_) (fun c1 => ?_)
  ·
    exact hj2 _ _ _ _ (by unfold jX6_advance_1; rw [if_pos c1]) hP hS (lv_sub hl [0] rfl)
  ·
    refine lv_aload_n hx hb dX6_advance_11 rfl (lv_at hl 0 rfl) ?_
    refine g_get (ci := 6) (C := RX6) (T := TX6) (N := 12) (v := .int ((fX6_closeGates S o) o 11)) hx hb hts iX6_advance_X6 hown hK hP (lt_G ho) (cM_G ho) rfl 11 (by decide) rfl (by decide +kernel) rfl dX6_advance_12 ?_
    refine lv_if_ne (tgt := 22) hx hb dX6_advance_15 (by decide) (fun c5 => ?_) (fun c5 => ?_)
    ·
      exact hj2 _ _ _ _ (by unfold jX6_advance_1; rw [if_neg c1, if_neg c5]) hP hS (lv_sub hl [0] rfl)
    ·
      refine lv_aload_n hx hb dX6_advance_18 rfl (lv_at hl 0 rfl) ?_
      refine g_cVv (As := []) (rest := []) ⟨hx, hb, hml, hown, hts⟩ (c_X6_startStep l G cA a ha (fX6_closeGates S o) L H.size o ho ) (cwV 0 hts gX6_advance_X6_startStep rfl rfl rfl (by decide +kernel) ⟨Nat.le_of_ble_eq_true rfl, Nat.le_of_ble_eq_true rfl⟩) (g_recv hK hP (lt_G ho) (cM_G ho) (C := RX6) (T := TX6) (N := 12) rfl) hK (mA_mono hS.1) hP hS rfl hl.1 rfl (lv_room (Nat.le_of_ble_eq_true rfl)) dX6_advance_19 ⟨Nat.le_of_ble_eq_true rfl, Nat.le_of_ble_eq_true rfl⟩ (fun H locs hP hS _ _ => ?_)
      exact hj2 _ _ _ _ (by unfold jX6_advance_1; rw [if_neg c1, if_pos c5]) hP hS (lv_sub hl [0] rfl)

