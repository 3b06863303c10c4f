def vX9_foldVoices_1 (S : Mm) (p1 : Int64) : Int64 := rX9_fold (rX9_fold p1 ((rX9_ofVoice S (0 : Int32) (0 : Int32)).toInt64)) ((rX9_ofVoice S (0 : Int32) (1 : Int32)).toInt64)
def vX9_foldVoices_2 (S : Mm) (p1 : Int64) : Int64 := rX9_fold (rX9_fold (vX9_foldVoices_1 S p1) ((rX9_ofVoice S (0 : Int32) (2 : Int32)).toInt64)) ((rX9_ofVoice S (0 : Int32) (3 : Int32)).toInt64)
def vX9_foldVoices_3 (S : Mm) (p1 : Int64) : Int64 := rX9_fold (rX9_fold (vX9_foldVoices_2 S p1) ((rX9_ofVoice S (0 : Int32) (4 : Int32)).toInt64)) ((rX9_ofVoice S (0 : Int32) (5 : Int32)).toInt64)
def vX9_foldVoices_4 (S : Mm) (p1 : Int64) : Int64 := rX9_fold (rX9_fold (vX9_foldVoices_3 S p1) ((rX9_ofVoice S (0 : Int32) (6 : Int32)).toInt64)) ((rX9_ofVoice S (0 : Int32) (7 : Int32)).toInt64)
def vX9_foldVoices_5 (S : Mm) (p1 : Int64) : Int64 := rX9_fold (rX9_fold (vX9_foldVoices_4 S p1) ((rX9_ofVoice S (0 : Int32) (8 : Int32)).toInt64)) ((rX9_ofVoice S (0 : Int32) (9 : Int32)).toInt64)
def vX9_foldVoices_6 (S : Mm) (p1 : Int64) : Int64 := rX9_fold (rX9_fold (vX9_foldVoices_5 S p1) ((rX9_ofVoice S (1 : Int32) (0 : Int32)).toInt64)) ((rX9_ofVoice S (1 : Int32) (1 : Int32)).toInt64)
def vX9_foldVoices_7 (S : Mm) (p1 : Int64) : Int64 := rX9_fold (rX9_fold (vX9_foldVoices_6 S p1) ((rX9_ofVoice S (1 : Int32) (2 : Int32)).toInt64)) ((rX9_ofVoice S (1 : Int32) (3 : Int32)).toInt64)
def vX9_foldVoices_8 (S : Mm) (p1 : Int64) : Int64 := rX9_fold (rX9_fold (vX9_foldVoices_7 S p1) ((rX9_ofVoice S (1 : Int32) (4 : Int32)).toInt64)) ((rX9_ofVoice S (1 : Int32) (5 : Int32)).toInt64)
def vX9_foldVoices_9 (S : Mm) (p1 : Int64) : Int64 := rX9_fold (rX9_fold (vX9_foldVoices_8 S p1) ((rX9_ofVoice S (1 : Int32) (6 : Int32)).toInt64)) ((rX9_ofVoice S (1 : Int32) (7 : Int32)).toInt64)
def vX9_foldVoices_10 (S : Mm) (p1 : Int64) : Int64 := rX9_fold (rX9_fold (vX9_foldVoices_9 S p1) ((rX9_ofVoice S (1 : Int32) (8 : Int32)).toInt64)) ((rX9_ofVoice S (1 : Int32) (9 : Int32)).toInt64)
def vX9_foldVoices_11 (S : Mm) (p1 : Int64) : Int64 := rX9_fold (rX9_fold (vX9_foldVoices_10 S p1) ((rX9_ofVoice S (2 : Int32) (0 : Int32)).toInt64)) ((rX9_ofVoice S (2 : Int32) (1 : Int32)).toInt64)
def vX9_foldVoices_12 (S : Mm) (p1 : Int64) : Int64 := rX9_fold (rX9_fold (vX9_foldVoices_11 S p1) ((rX9_ofVoice S (2 : Int32) (2 : Int32)).toInt64)) ((rX9_ofVoice S (2 : Int32) (3 : Int32)).toInt64)
def vX9_foldVoices_13 (S : Mm) (p1 : Int64) : Int64 := rX9_fold (rX9_fold (vX9_foldVoices_12 S p1) ((rX9_ofVoice S (2 : Int32) (4 : Int32)).toInt64)) ((rX9_ofVoice S (2 : Int32) (5 : Int32)).toInt64)
def vX9_foldVoices_14 (S : Mm) (p1 : Int64) : Int64 := rX9_fold (rX9_fold (vX9_foldVoices_13 S p1) ((rX9_ofVoice S (2 : Int32) (6 : Int32)).toInt64)) ((rX9_ofVoice S (2 : Int32) (7 : Int32)).toInt64)
def vX9_foldVoices_15 (S : Mm) (p1 : Int64) : Int64 := rX9_fold (rX9_fold (vX9_foldVoices_14 S p1) ((rX9_ofVoice S (2 : Int32) (8 : Int32)).toInt64)) ((rX9_ofVoice S (2 : Int32) (9 : Int32)).toInt64)
def vX9_foldVoices_16 (S : Mm) (p1 : Int64) : Int64 := rX9_fold (rX9_fold (vX9_foldVoices_15 S p1) ((rX9_ofVoice S (3 : Int32) (0 : Int32)).toInt64)) ((rX9_ofVoice S (3 : Int32) (1 : Int32)).toInt64)
def vX9_foldVoices_17 (S : Mm) (p1 : Int64) : Int64 := rX9_fold (rX9_fold (vX9_foldVoices_16 S p1) ((rX9_ofVoice S (3 : Int32) (2 : Int32)).toInt64)) ((rX9_ofVoice S (3 : Int32) (3 : Int32)).toInt64)
def vX9_foldVoices_18 (S : Mm) (p1 : Int64) : Int64 := rX9_fold (rX9_fold (vX9_foldVoices_17 S p1) ((rX9_ofVoice S (3 : Int32) (4 : Int32)).toInt64)) ((rX9_ofVoice S (3 : Int32) (5 : Int32)).toInt64)
def vX9_foldVoices_19 (S : Mm) (p1 : Int64) : Int64 := rX9_fold (rX9_fold (vX9_foldVoices_18 S p1) ((rX9_ofVoice S (3 : Int32) (6 : Int32)).toInt64)) ((rX9_ofVoice S (3 : Int32) (7 : Int32)).toInt64)
def vX9_foldVoices_20 (S : Mm) (p1 : Int64) : Int64 := rX9_fold (rX9_fold (vX9_foldVoices_19 S p1) ((rX9_ofVoice S (3 : Int32) (8 : Int32)).toInt64)) ((rX9_ofVoice S (3 : Int32) (9 : Int32)).toInt64)
def rX9_foldVoices (S : Mm) (p1 : Int64) : Int64 := (vX9_foldVoices_20 S p1)
set_option maxHeartbeats 4000000 in
set_option maxRecDepth 100000 in
theorem c_X9_foldVoices (l : Launch) (G : va_G) (cA : ClassId) (a : Nat → Nat) (ha : apart 37 a) (S : Mm) (L : Int64) (sz : Nat) (p1 : Int64)  : Met l yX9_foldVoices wsX9_foldVoices ({ frames := 2, cells := 0, slots := 0, locals := 44 } : Room) (va_Pc [.ref (a 0), .long p1] (gI G cA (a 37) 37 a (cM a cA) S L sz)) (gQl (rX9_foldVoices S p1) G 37 a (cM a cA) S L sz) 0 0 (mA 37 a sz) := by
  refine g_met (cc := cX9_foldVoices) (maxL := 7) (ret := (some .long)) (by decide) rfl (Nat.le_of_ble_eq_true rfl) ?_
  intro p e s m below meth c ls hx hb hr hlocks hml hts hown hnm hsz hK hP hS hl
  subst hsz
  have hl : lv_has ls 7 [(0, .ref (a 0)), (1, .long p1)] := hl
  refine lv_lload_n hx hb dX9_foldVoices_0 rfl (lv_at hl 1 rfl) ?_
  refine lv_lstore_n (lv' := [(3, .long p1), (0, .ref (a 0)), (1, .long p1)]) hx hb dX9_foldVoices_1 rfl hl (by decide) rfl (fun ls hl => ?_)
  refine lv_iconst (v := 0) hx hb dX9_foldVoices_2 (by decide) ?_
  refine lv_istore (lv' := [(5, .int 0), (3, .long p1), (0, .ref (a 0)), (1, .long p1)]) hx hb dX9_foldVoices_3 hl (by decide) rfl (fun ls hl => ?_)
  refine lv_iload hx hb dX9_foldVoices_5 (lv_at hl 0 rfl) ?_
  refine lv_iconst (v := 4) hx hb dX9_foldVoices_7 (by decide) ?_
  refine lv_icmp_ge (tgt := 47) hx hb dX9_foldVoices_8 (by decide) (fun c => absurd c (by decide)) (fun _ => ?_)
  refine lv_iconst (v := 0) hx hb dX9_foldVoices_11 (by decide) ?_
  refine lv_istore (lv' := [(6, .int 0), (5, .int 0), (3, .long p1), (0, .ref (a 0)), (1, .long p1)]) hx hb dX9_foldVoices_12 hl (by decide) rfl (fun ls hl => ?_)
  refine lv_iload hx hb dX9_foldVoices_14 (lv_at hl 0 rfl) ?_
  refine lv_bipush (v := 10) hx hb dX9_foldVoices_16 (by decide) ?_
  refine lv_icmp_ge (tgt := 41) hx hb dX9_foldVoices_18 (by decide) (fun c => absurd c (by decide)) (fun _ => ?_)
  refine lv_lload_n hx hb dX9_foldVoices_21 rfl (lv_at hl 2 rfl) ?_
  refine lv_aload_n hx hb dX9_foldVoices_22 rfl (lv_at hl 3 rfl) ?_
  refine lv_iload hx hb dX9_foldVoices_23 (lv_at hl 1 rfl) ?_
  refine lv_iload hx hb dX9_foldVoices_25 (lv_at hl 0 rfl) ?_
  refine g_cVi (As := [.int 0, .int 0]) (rest := [.long p1]) ⟨hx, hb, hml, hown, hts⟩ (c_X9_ofVoice l G cA a ha S L s.heap.size (0 : Int32) (0 : Int32)  (by decide) (by decide) (by decide) (by decide)) (cwV 2 hts gX9_foldVoices_X9_ofVoice rfl rfl rfl (by decide +kernel) ⟨Nat.le_of_ble_eq_true rfl, Nat.le_of_ble_eq_true rfl⟩) (g_recv hK hP (by decide) rfl (C := RX9) (T := TX9) (N := 4) rfl) hK (mA_mono hS.1) hP hS rfl hl.1 rfl (lv_room (Nat.le_of_ble_eq_true rfl)) dX9_foldVoices_27 ⟨Nat.le_of_ble_eq_true rfl, Nat.le_of_ble_eq_true rfl⟩ (fun H locs hP hS _ _ => ?_)
  refine lv_i2l hx hb dX9_foldVoices_30 rfl ?_
  refine g_cSl (As := [.long p1, .long ((rX9_ofVoice S (0 : Int32) (0 : Int32)).toInt64)]) (rest := []) ⟨hx, hb, hml, hown, hts⟩ (c_X9_fold l G cA a ha S L H.size p1 ((rX9_ofVoice S (0 : Int32) (0 : Int32)).toInt64)  ) (va_cwS 2 hts gX9_foldVoices_X9_fold rfl rfl rfl (by decide +kernel) ⟨Nat.le_of_ble_eq_true rfl, Nat.le_of_ble_eq_true rfl⟩) hK (mA_mono hS.1) hP hS rfl hl.1 rfl (lv_room (Nat.le_of_ble_eq_true rfl)) dX9_foldVoices_31 ⟨Nat.le_of_ble_eq_true rfl, Nat.le_of_ble_eq_true rfl⟩ (fun H locs hP hS _ _ => ?_)
  refine lv_lstore_n (lv' := [(3, .long (rX9_fold p1 ((rX9_ofVoice S (0 : Int32) (0 : Int32)).toInt64))), (6, .int 0), (5, .int 0), (0, .ref (a 0)), (1, .long p1)]) hx hb dX9_foldVoices_34 rfl hl (by decide) rfl (fun ls hl => ?_)
  refine lv_iinc (v := 1) (lv' := [(6, .int 1), (3, .long (rX9_fold p1 ((rX9_ofVoice S (0 : Int32) (0 : Int32)).toInt64))), (5, .int 0), (0, .ref (a 0)), (1, .long p1)]) hx hb dX9_foldVoices_35 hl (k := 1) rfl (by decide) (by decide) rfl (fun ls hl => ?_)
  refine lv_goto (tgt := 14) hx hb dX9_foldVoices_38 (by decide) ?_
  refine lv_iload hx hb dX9_foldVoices_14 (lv_at hl 0 rfl) ?_
  refine lv_bipush (v := 10) hx hb dX9_foldVoices_16 (by decide) ?_
  refine lv_icmp_ge (tgt := 41) hx hb dX9_foldVoices_18 (by decide) (fun c => absurd c (by decide)) (fun _ => ?_)
  refine lv_lload_n hx hb dX9_foldVoices_21 rfl (lv_at hl 1 rfl) ?_
  refine lv_aload_n hx hb dX9_foldVoices_22 rfl (lv_at hl 3 rfl) ?_
  refine lv_iload hx hb dX9_foldVoices_23 (lv_at hl 2 rfl) ?_
  refine lv_iload hx hb dX9_foldVoices_25 (lv_at hl 0 rfl) ?_
  refine g_cVi (As := [.int 0, .int 1]) (rest := [.long (rX9_fold p1 ((rX9_ofVoice S (0 : Int32) (0 : Int32)).toInt64))]) ⟨hx, hb, hml, hown, hts⟩ (c_X9_ofVoice l G cA a ha S L H.size (0 : Int32) (1 : Int32)  (by decide) (by decide) (by decide) (by decide)) (cwV 2 hts gX9_foldVoices_X9_ofVoice rfl rfl rfl (by decide +kernel) ⟨Nat.le_of_ble_eq_true rfl, Nat.le_of_ble_eq_true rfl⟩) (g_recv hK hP (by decide) rfl (C := RX9) (T := TX9) (N := 4) rfl) hK (mA_mono hS.1) hP hS rfl hl.1 rfl (lv_room (Nat.le_of_ble_eq_true rfl)) dX9_foldVoices_27 ⟨Nat.le_of_ble_eq_true rfl, Nat.le_of_ble_eq_true rfl⟩ (fun H locs hP hS _ _ => ?_)
  refine lv_i2l hx hb dX9_foldVoices_30 rfl ?_
  refine g_cSl (As := [.long (rX9_fold p1 ((rX9_ofVoice S (0 : Int32) (0 : Int32)).toInt64)), .long ((rX9_ofVoice S (0 : Int32) (1 : Int32)).toInt64)]) (rest := []) ⟨hx, hb, hml, hown, hts⟩ (c_X9_fold l G cA a ha S L H.size (rX9_fold p1 ((rX9_ofVoice S (0 : Int32) (0 : Int32)).toInt64)) ((rX9_ofVoice S (0 : Int32) (1 : Int32)).toInt64)  ) (va_cwS 2 hts gX9_foldVoices_X9_fold rfl rfl rfl (by decide +kernel) ⟨Nat.le_of_ble_eq_true rfl, Nat.le_of_ble_eq_true rfl⟩) hK (mA_mono hS.1) hP hS rfl hl.1 rfl (lv_room (Nat.le_of_ble_eq_true rfl)) dX9_foldVoices_31 ⟨Nat.le_of_ble_eq_true rfl, Nat.le_of_ble_eq_true rfl⟩ (fun H locs hP hS _ _ => ?_)
  refine W.eq (g2 := F0 m 34 ls [.long (vX9_foldVoices_1 S p1)]) rfl ?_
  refine lv_lstore_n (lv' := [(3, .long (vX9_foldVoices_1 S p1)), (6, .int 1), (5, .int 0), (0, .ref (a 0)), (1, .long p1)]) hx hb dX9_foldVoices_34 rfl hl (by decide) rfl (fun ls hl => ?_)
  refine lv_iinc (v := 2) (lv' := [(6, .int 2), (3, .long (vX9_foldVoices_1 S p1)), (5, .int 0), (0, .ref (a 0)), (1, .long p1)]) hx hb dX9_foldVoices_35 hl (k := 1) rfl (by decide) (by decide) rfl (fun ls hl => ?_)
  refine lv_goto (tgt := 14) hx hb dX9_foldVoices_38 (by decide) ?_
  refine lv_iload hx hb dX9_foldVoices_14 (lv_at hl 0 rfl) ?_
  refine lv_bipush (v := 10) hx hb dX9_foldVoices_16 (by decide) ?_
  refine lv_icmp_ge (tgt := 41) hx hb dX9_foldVoices_18 (by decide) (fun c => absurd c (by decide)) (fun _ => ?_)
  refine lv_lload_n hx hb dX9_foldVoices_21 rfl (lv_at hl 1 rfl) ?_
  refine lv_aload_n hx hb dX9_foldVoices_22 rfl (lv_at hl 3 rfl) ?_
  refine lv_iload hx hb dX9_foldVoices_23 (lv_at hl 2 rfl) ?_
  refine lv_iload hx hb dX9_foldVoices_25 (lv_at hl 0 rfl) ?_
  refine g_cVi (As := [.int 0, .int 2]) (rest := [.long (vX9_foldVoices_1 S p1)]) ⟨hx, hb, hml, hown, hts⟩ (c_X9_ofVoice l G cA a ha S L H.size (0 : Int32) (2 : Int32)  (by decide) (by decide) (by decide) (by decide)) (cwV 2 hts gX9_foldVoices_X9_ofVoice rfl rfl rfl (by decide +kernel) ⟨Nat.le_of_ble_eq_true rfl, Nat.le_of_ble_eq_true rfl⟩) (g_recv hK hP (by decide) rfl (C := RX9) (T := TX9) (N := 4) rfl) hK (mA_mono hS.1) hP hS rfl hl.1 rfl (lv_room (Nat.le_of_ble_eq_true rfl)) dX9_foldVoices_27 ⟨Nat.le_of_ble_eq_true rfl, Nat.le_of_ble_eq_true rfl⟩ (fun H locs hP hS _ _ => ?_)
  refine lv_i2l hx hb dX9_foldVoices_30 rfl ?_
  refine g_cSl (As := [.long (vX9_foldVoices_1 S p1), .long ((rX9_ofVoice S (0 : Int32) (2 : Int32)).toInt64)]) (rest := []) ⟨hx, hb, hml, hown, hts⟩ (c_X9_fold l G cA a ha S L H.size (vX9_foldVoices_1 S p1) ((rX9_ofVoice S (0 : Int32) (2 : Int32)).toInt64)  ) (va_cwS 2 hts gX9_foldVoices_X9_fold rfl rfl rfl (by decide +kernel) ⟨Nat.le_of_ble_eq_true rfl, Nat.le_of_ble_eq_true rfl⟩) hK (mA_mono hS.1) hP hS rfl hl.1 rfl (lv_room (Nat.le_of_ble_eq_true rfl)) dX9_foldVoices_31 ⟨Nat.le_of_ble_eq_true rfl, Nat.le_of_ble_eq_true rfl⟩ (fun H locs hP hS _ _ => ?_)
  refine lv_lstore_n (lv' := [(3, .long (rX9_fold (vX9_foldVoices_1 S p1) ((rX9_ofVoice S (0 : Int32) (2 : Int32)).toInt64))), (6, .int 2), (5, .int 0), (0, .ref (a 0)), (1, .long p1)]) hx hb dX9_foldVoices_34 rfl hl (by decide) rfl (fun ls hl => ?_)
  refine lv_iinc (v := 3) (lv' := [(6, .int 3), (3, .long (rX9_fold (vX9_foldVoices_1 S p1) ((rX9_ofVoice S (0 : Int32) (2 : Int32)).toInt64))), (5, .int 0), (0, .ref (a 0)), (1, .long p1)]) hx hb dX9_foldVoices_35 hl (k := 1) rfl (by decide) (by decide) rfl (fun ls hl => ?_)
  refine lv_goto (tgt := 14) hx hb dX9_foldVoices_38 (by decide) ?_
  refine lv_iload hx hb dX9_foldVoices_14 (lv_at hl 0 rfl) ?_
  refine lv_bipush (v := 10) hx hb dX9_foldVoices_16 (by decide) ?_
  refine lv_icmp_ge (tgt := 41) hx hb dX9_foldVoices_18 (by decide) (fun c => absurd c (by decide)) (fun _ => ?_)
  refine lv_lload_n hx hb dX9_foldVoices_21 rfl (lv_at hl 1 rfl) ?_
  refine lv_aload_n hx hb dX9_foldVoices_22 rfl (lv_at hl 3 rfl) ?_
  refine lv_iload hx hb dX9_foldVoices_23 (lv_at hl 2 rfl) ?_
  refine lv_iload hx hb dX9_foldVoices_25 (lv_at hl 0 rfl) ?_
  refine g_cVi (As := [.int 0, .int 3]) (rest := [.long (rX9_fold (vX9_foldVoices_1 S p1) ((rX9_ofVoice S (0 : Int32) (2 : Int32)).toInt64))]) ⟨hx, hb, hml, hown, hts⟩ (c_X9_ofVoice l G cA a ha S L H.size (0 : Int32) (3 : Int32)  (by decide) (by decide) (by decide) (by decide)) (cwV 2 hts gX9_foldVoices_X9_ofVoice rfl rfl rfl (by decide +kernel) ⟨Nat.le_of_ble_eq_true rfl, Nat.le_of_ble_eq_true rfl⟩) (g_recv hK hP (by decide) rfl (C := RX9) (T := TX9) (N := 4) rfl) hK (mA_mono hS.1) hP hS rfl hl.1 rfl (lv_room (Nat.le_of_ble_eq_true rfl)) dX9_foldVoices_27 ⟨Nat.le_of_ble_eq_true rfl, Nat.le_of_ble_eq_true rfl⟩ (fun H locs hP hS _ _ => ?_)
  refine lv_i2l hx hb dX9_foldVoices_30 rfl ?_
  refine g_cSl (As := [.long (rX9_fold (vX9_foldVoices_1 S p1) ((rX9_ofVoice S (0 : Int32) (2 : Int32)).toInt64)), .long ((rX9_ofVoice S (0 : Int32) (3 : Int32)).toInt64)]) (rest := []) ⟨hx, hb, hml, hown, hts⟩ (c_X9_fold l G cA a ha S L H.size (rX9_fold (vX9_foldVoices_1 S p1) ((rX9_ofVoice S (0 : Int32) (2 : Int32)).toInt64)) ((rX9_ofVoice S (0 : Int32) (3 : Int32)).toInt64)  ) (va_cwS 2 hts gX9_foldVoices_X9_fold rfl rfl rfl (by decide +kernel) ⟨Nat.le_of_ble_eq_true rfl, Nat.le_of_ble_eq_true rfl⟩) hK (mA_mono hS.1) hP hS rfl hl.1 rfl (lv_room (Nat.le_of_ble_eq_true rfl)) dX9_foldVoices_31 ⟨Nat.le_of_ble_eq_true rfl, Nat.le_of_ble_eq_true rfl⟩ (fun H locs hP hS _ _ => ?_)
  refine W.eq (g2 := F0 m 34 ls [.long (vX9_foldVoices_2 S p1)]) rfl ?_
  refine lv_lstore_n (lv' := [(3, .long (vX9_foldVoices_2 S p1)), (6, .int 3), (5, .int 0), (0, .ref (a 0)), (1, .long p1)]) hx hb dX9_foldVoices_34 rfl hl (by decide) rfl (fun ls hl => ?_)
  refine lv_iinc (v := 4) (lv' := [(6, .int 4), (3, .long (vX9_foldVoices_2 S p1)), (5, .int 0), (0, .ref (a 0)), (1, .long p1)]) hx hb dX9_foldVoices_35 hl (k := 1) rfl (by decide) (by decide) rfl (fun ls hl => ?_)
  refine lv_goto (tgt := 14) hx hb dX9_foldVoices_38 (by decide) ?_
  refine lv_iload hx hb dX9_foldVoices_14 (lv_at hl 0 rfl) ?_
  refine lv_bipush (v := 10) hx hb dX9_foldVoices_16 (by decide) ?_
  refine lv_icmp_ge (tgt := 41) hx hb dX9_foldVoices_18 (by decide) (fun c => absurd c (by decide)) (fun _ => ?_)
  refine lv_lload_n hx hb dX9_foldVoices_21 rfl (lv_at hl 1 rfl) ?_
  refine lv_aload_n hx hb dX9_foldVoices_22 rfl (lv_at hl 3 rfl) ?_
  refine lv_iload hx hb dX9_foldVoices_23 (lv_at hl 2 rfl) ?_
  refine lv_iload hx hb dX9_foldVoices_25 (lv_at hl 0 rfl) ?_
  refine g_cVi (As := [.int 0, .int 4]) (rest := [.long (vX9_foldVoices_2 S p1)]) ⟨hx, hb, hml, hown, hts⟩ (c_X9_ofVoice l G cA a ha S L H.size (0 : Int32) (4 : Int32)  (by decide) (by decide) (by decide) (by decide)) (cwV 2 hts gX9_foldVoices_X9_ofVoice rfl rfl rfl (by decide +kernel) ⟨Nat.le_of_ble_eq_true rfl, Nat.le_of_ble_eq_true rfl⟩) (g_recv hK hP (by decide) rfl (C := RX9) (T := TX9) (N := 4) rfl) hK (mA_mono hS.1) hP hS rfl hl.1 rfl (lv_room (Nat.le_of_ble_eq_true rfl)) dX9_foldVoices_27 ⟨Nat.le_of_ble_eq_true rfl, Nat.le_of_ble_eq_true rfl⟩ (fun H locs hP hS _ _ => ?_)
  refine lv_i2l hx hb dX9_foldVoices_30 rfl ?_
  refine g_cSl (As := [.long (vX9_foldVoices_2 S p1), .long ((rX9_ofVoice S (0 : Int32) (4 : Int32)).toInt64)]) (rest := []) ⟨hx, hb, hml, hown, hts⟩ (c_X9_fold l G cA a ha S L H.size (vX9_foldVoices_2 S p1) ((rX9_ofVoice S (0 : Int32) (4 : Int32)).toInt64)  ) (va_cwS 2 hts gX9_foldVoices_X9_fold rfl rfl rfl (by decide +kernel) ⟨Nat.le_of_ble_eq_true rfl, Nat.le_of_ble_eq_true rfl⟩) hK (mA_mono hS.1) hP hS rfl hl.1 rfl (lv_room (Nat.le_of_ble_eq_true rfl)) dX9_foldVoices_31 ⟨Nat.le_of_ble_eq_true rfl, Nat.le_of_ble_eq_true rfl⟩ (fun H locs hP hS _ _ => ?_)
  refine lv_lstore_n (lv' := [(3, .long (rX9_fold (vX9_foldVoices_2 S p1) ((rX9_ofVoice S (0 : Int32) (4 : Int32)).toInt64))), (6, .int 4), (5, .int 0), (0, .ref (a 0)), (1, .long p1)]) hx hb dX9_foldVoices_34 rfl hl (by decide) rfl (fun ls hl => ?_)
  refine lv_iinc (v := 5) (lv' := [(6, .int 5), (3, .long (rX9_fold (vX9_foldVoices_2 S p1) ((rX9_ofVoice S (0 : Int32) (4 : Int32)).toInt64))), (5, .int 0), (0, .ref (a 0)), (1, .long p1)]) hx hb dX9_foldVoices_35 hl (k := 1) rfl (by decide) (by decide) rfl (fun ls hl => ?_)
  refine lv_goto (tgt := 14) hx hb dX9_foldVoices_38 (by decide) ?_
  refine lv_iload hx hb dX9_foldVoices_14 (lv_at hl 0 rfl) ?_
  refine lv_bipush (v := 10) hx hb dX9_foldVoices_16 (by decide) ?_
  refine lv_icmp_ge (tgt := 41) hx hb dX9_foldVoices_18 (by decide) (fun c => absurd c (by decide)) (fun _ => ?_)
  refine lv_lload_n hx hb dX9_foldVoices_21 rfl (lv_at hl 1 rfl) ?_
  refine lv_aload_n hx hb dX9_foldVoices_22 rfl (lv_at hl 3 rfl) ?_
  refine lv_iload hx hb dX9_foldVoices_23 (lv_at hl 2 rfl) ?_
  refine lv_iload hx hb dX9_foldVoices_25 (lv_at hl 0 rfl) ?_
  refine g_cVi (As := [.int 0, .int 5]) (rest := [.long (rX9_fold (vX9_foldVoices_2 S p1) ((rX9_ofVoice S (0 : Int32) (4 : Int32)).toInt64))]) ⟨hx, hb, hml, hown, hts⟩ (c_X9_ofVoice l G cA a ha S L H.size (0 : Int32) (5 : Int32)  (by decide) (by decide) (by decide) (by decide)) (cwV 2 hts gX9_foldVoices_X9_ofVoice rfl rfl rfl (by decide +kernel) ⟨Nat.le_of_ble_eq_true rfl, Nat.le_of_ble_eq_true rfl⟩) (g_recv hK hP (by decide) rfl (C := RX9) (T := TX9) (N := 4) rfl) hK (mA_mono hS.1) hP hS rfl hl.1 rfl (lv_room (Nat.le_of_ble_eq_true rfl)) dX9_foldVoices_27 ⟨Nat.le_of_ble_eq_true rfl, Nat.le_of_ble_eq_true rfl⟩ (fun H locs hP hS _ _ => ?_)
  refine lv_i2l hx hb dX9_foldVoices_30 rfl ?_
  refine g_cSl (As := [.long (rX9_fold (vX9_foldVoices_2 S p1) ((rX9_ofVoice S (0 : Int32) (4 : Int32)).toInt64)), .long ((rX9_ofVoice S (0 : Int32) (5 : Int32)).toInt64)]) (rest := []) ⟨hx, hb, hml, hown, hts⟩ (c_X9_fold l G cA a ha S L H.size (rX9_fold (vX9_foldVoices_2 S p1) ((rX9_ofVoice S (0 : Int32) (4 : Int32)).toInt64)) ((rX9_ofVoice S (0 : Int32) (5 : Int32)).toInt64)  ) (va_cwS 2 hts gX9_foldVoices_X9_fold rfl rfl rfl (by decide +kernel) ⟨Nat.le_of_ble_eq_true rfl, Nat.le_of_ble_eq_true rfl⟩) hK (mA_mono hS.1) hP hS rfl hl.1 rfl (lv_room (Nat.le_of_ble_eq_true rfl)) dX9_foldVoices_31 ⟨Nat.le_of_ble_eq_true rfl, Nat.le_of_ble_eq_true rfl⟩ (fun H locs hP hS _ _ => ?_)
  refine W.eq (g2 := F0 m 34 ls [.long (vX9_foldVoices_3 S p1)]) rfl ?_
  refine lv_lstore_n (lv' := [(3, .long (vX9_foldVoices_3 S p1)), (6, .int 5), (5, .int 0), (0, .ref (a 0)), (1, .long p1)]) hx hb dX9_foldVoices_34 rfl hl (by decide) rfl (fun ls hl => ?_)
  refine lv_iinc (v := 6) (lv' := [(6, .int 6), (3, .long (vX9_foldVoices_3 S p1)), (5, .int 0), (0, .ref (a 0)), (1, .long p1)]) hx hb dX9_foldVoices_35 hl (k := 1) rfl (by decide) (by decide) rfl (fun ls hl => ?_)
  refine lv_goto (tgt := 14) hx hb dX9_foldVoices_38 (by decide) ?_
  refine lv_iload hx hb dX9_foldVoices_14 (lv_at hl 0 rfl) ?_
  refine lv_bipush (v := 10) hx hb dX9_foldVoices_16 (by decide) ?_
  refine lv_icmp_ge (tgt := 41) hx hb dX9_foldVoices_18 (by decide) (fun c => absurd c (by decide)) (fun _ => ?_)
  refine lv_lload_n hx hb dX9_foldVoices_21 rfl (lv_at hl 1 rfl) ?_
  refine lv_aload_n hx hb dX9_foldVoices_22 rfl (lv_at hl 3 rfl) ?_
  refine lv_iload hx hb dX9_foldVoices_23 (lv_at hl 2 rfl) ?_
  refine lv_iload hx hb dX9_foldVoices_25 (lv_at hl 0 rfl) ?_
  refine g_cVi (As := [.int 0, .int 6]) (rest := [.long (vX9_foldVoices_3 S p1)]) ⟨hx, hb, hml, hown, hts⟩ (c_X9_ofVoice l G cA a ha S L H.size (0 : Int32) (6 : Int32)  (by decide) (by decide) (by decide) (by decide)) (cwV 2 hts gX9_foldVoices_X9_ofVoice rfl rfl rfl (by decide +kernel) ⟨Nat.le_of_ble_eq_true rfl, Nat.le_of_ble_eq_true rfl⟩) (g_recv hK hP (by decide) rfl (C := RX9) (T := TX9) (N := 4) rfl) hK (mA_mono hS.1) hP hS rfl hl.1 rfl (lv_room (Nat.le_of_ble_eq_true rfl)) dX9_foldVoices_27 ⟨Nat.le_of_ble_eq_true rfl, Nat.le_of_ble_eq_true rfl⟩ (fun H locs hP hS _ _ => ?_)
  refine lv_i2l hx hb dX9_foldVoices_30 rfl ?_
  refine g_cSl (As := [.long (vX9_foldVoices_3 S p1), .long ((rX9_ofVoice S (0 : Int32) (6 : Int32)).toInt64)]) (rest := []) ⟨hx, hb, hml, hown, hts⟩ (c_X9_fold l G cA a ha S L H.size (vX9_foldVoices_3 S p1) ((rX9_ofVoice S (0 : Int32) (6 : Int32)).toInt64)  ) (va_cwS 2 hts gX9_foldVoices_X9_fold rfl rfl rfl (by decide +kernel) ⟨Nat.le_of_ble_eq_true rfl, Nat.le_of_ble_eq_true rfl⟩) hK (mA_mono hS.1) hP hS rfl hl.1 rfl (lv_room (Nat.le_of_ble_eq_true rfl)) dX9_foldVoices_31 ⟨Nat.le_of_ble_eq_true rfl, Nat.le_of_ble_eq_true rfl⟩ (fun H locs hP hS _ _ => ?_)
  refine lv_lstore_n (lv' := [(3, .long (rX9_fold (vX9_foldVoices_3 S p1) ((rX9_ofVoice S (0 : Int32) (6 : Int32)).toInt64))), (6, .int 6), (5, .int 0), (0, .ref (a 0)), (1, .long p1)]) hx hb dX9_foldVoices_34 rfl hl (by decide) rfl (fun ls hl => ?_)
  refine lv_iinc (v := 7) (lv' := [(6, .int 7), (3, .long (rX9_fold (vX9_foldVoices_3 S p1) ((rX9_ofVoice S (0 : Int32) (6 : Int32)).toInt64))), (5, .int 0), (0, .ref (a 0)), (1, .long p1)]) hx hb dX9_foldVoices_35 hl (k := 1) rfl (by decide) (by decide) rfl (fun ls hl => ?_)
  refine lv_goto (tgt := 14) hx hb dX9_foldVoices_38 (by decide) ?_
  refine lv_iload hx hb dX9_foldVoices_14 (lv_at hl 0 rfl) ?_
  refine lv_bipush (v := 10) hx hb dX9_foldVoices_16 (by decide) ?_
  refine lv_icmp_ge (tgt := 41) hx hb dX9_foldVoices_18 (by decide) (fun c => absurd c (by decide)) (fun _ => ?_)
  refine lv_lload_n hx hb dX9_foldVoices_21 rfl (lv_at hl 1 rfl) ?_
  refine lv_aload_n hx hb dX9_foldVoices_22 rfl (lv_at hl 3 rfl) ?_
  refine lv_iload hx hb dX9_foldVoices_23 (lv_at hl 2 rfl) ?_
  refine lv_iload hx hb dX9_foldVoices_25 (lv_at hl 0 rfl) ?_
  refine g_cVi (As := [.int 0, .int 7]) (rest := [.long (rX9_fold (vX9_foldVoices_3 S p1) ((rX9_ofVoice S (0 : Int32) (6 : Int32)).toInt64))]) ⟨hx, hb, hml, hown, hts⟩ (c_X9_ofVoice l G cA a ha S L H.size (0 : Int32) (7 : Int32)  (by decide) (by decide) (by decide) (by decide)) (cwV 2 hts gX9_foldVoices_X9_ofVoice rfl rfl rfl (by decide +kernel) ⟨Nat.le_of_ble_eq_true rfl, Nat.le_of_ble_eq_true rfl⟩) (g_recv hK hP (by decide) rfl (C := RX9) (T := TX9) (N := 4) rfl) hK (mA_mono hS.1) hP hS rfl hl.1 rfl (lv_room (Nat.le_of_ble_eq_true rfl)) dX9_foldVoices_27 ⟨Nat.le_of_ble_eq_true rfl, Nat.le_of_ble_eq_true rfl⟩ (fun H locs hP hS _ _ => ?_)
  refine lv_i2l hx hb dX9_foldVoices_30 rfl ?_
  refine g_cSl (As := [.long (rX9_fold (vX9_foldVoices_3 S p1) ((rX9_ofVoice S (0 : Int32) (6 : Int32)).toInt64)), .long ((rX9_ofVoice S (0 : Int32) (7 : Int32)).toInt64)]) (rest := []) ⟨hx, hb, hml, hown, hts⟩ (c_X9_fold l G cA a ha S L H.size (rX9_fold (vX9_foldVoices_3 S p1) ((rX9_ofVoice S (0 : Int32) (6 : Int32)).toInt64)) ((rX9_ofVoice S (0 : Int32) (7 : Int32)).toInt64)  ) (va_cwS 2 hts gX9_foldVoices_X9_fold rfl rfl rfl (by decide +kernel) ⟨Nat.le_of_ble_eq_true rfl, Nat.le_of_ble_eq_true rfl⟩) hK (mA_mono hS.1) hP hS rfl hl.1 rfl (lv_room (Nat.le_of_ble_eq_true rfl)) dX9_foldVoices_31 ⟨Nat.le_of_ble_eq_true rfl, Nat.le_of_ble_eq_true rfl⟩ (fun H locs hP hS _ _ => ?_)
  refine W.eq (g2 := F0 m 34 ls [.long (vX9_foldVoices_4 S p1)]) rfl ?_
  refine lv_lstore_n (lv' := [(3, .long (vX9_foldVoices_4 S p1)), (6, .int 7), (5, .int 0), (0, .ref (a 0)), (1, .long p1)]) hx hb dX9_foldVoices_34 rfl hl (by decide) rfl (fun ls hl => ?_)
  refine lv_iinc (v := 8) (lv' := [(6, .int 8), (3, .long (vX9_foldVoices_4 S p1)), (5, .int 0), (0, .ref (a 0)), (1, .long p1)]) hx hb dX9_foldVoices_35 hl (k := 1) rfl (by decide) (by decide) rfl (fun ls hl => ?_)
  refine lv_goto (tgt := 14) hx hb dX9_foldVoices_38 (by decide) ?_
  refine lv_iload hx hb dX9_foldVoices_14 (lv_at hl 0 rfl) ?_
  refine lv_bipush (v := 10) hx hb dX9_foldVoices_16 (by decide) ?_
  refine lv_icmp_ge (tgt := 41) hx hb dX9_foldVoices_18 (by decide) (fun c => absurd c (by decide)) (fun _ => ?_)
  refine lv_lload_n hx hb dX9_foldVoices_21 rfl (lv_at hl 1 rfl) ?_
  refine lv_aload_n hx hb dX9_foldVoices_22 rfl (lv_at hl 3 rfl) ?_
  refine lv_iload hx hb dX9_foldVoices_23 (lv_at hl 2 rfl) ?_
  refine lv_iload hx hb dX9_foldVoices_25 (lv_at hl 0 rfl) ?_
  refine g_cVi (As := [.int 0, .int 8]) (rest := [.long (vX9_foldVoices_4 S p1)]) ⟨hx, hb, hml, hown, hts⟩ (c_X9_ofVoice l G cA a ha S L H.size (0 : Int32) (8 : Int32)  (by decide) (by decide) (by decide) (by decide)) (cwV 2 hts gX9_foldVoices_X9_ofVoice rfl rfl rfl (by decide +kernel) ⟨Nat.le_of_ble_eq_true rfl, Nat.le_of_ble_eq_true rfl⟩) (g_recv hK hP (by decide) rfl (C := RX9) (T := TX9) (N := 4) rfl) hK (mA_mono hS.1) hP hS rfl hl.1 rfl (lv_room (Nat.le_of_ble_eq_true rfl)) dX9_foldVoices_27 ⟨Nat.le_of_ble_eq_true rfl, Nat.le_of_ble_eq_true rfl⟩ (fun H locs hP hS _ _ => ?_)
  refine lv_i2l hx hb dX9_foldVoices_30 rfl ?_
  refine g_cSl (As := [.long (vX9_foldVoices_4 S p1), .long ((rX9_ofVoice S (0 : Int32) (8 : Int32)).toInt64)]) (rest := []) ⟨hx, hb, hml, hown, hts⟩ (c_X9_fold l G cA a ha S L H.size (vX9_foldVoices_4 S p1) ((rX9_ofVoice S (0 : Int32) (8 : Int32)).toInt64)  ) (va_cwS 2 hts gX9_foldVoices_X9_fold rfl rfl rfl (by decide +kernel) ⟨Nat.le_of_ble_eq_true rfl, Nat.le_of_ble_eq_true rfl⟩) hK (mA_mono hS.1) hP hS rfl hl.1 rfl (lv_room (Nat.le_of_ble_eq_true rfl)) dX9_foldVoices_31 ⟨Nat.le_of_ble_eq_true rfl, Nat.le_of_ble_eq_true rfl⟩ (fun H locs hP hS _ _ => ?_)
  refine lv_lstore_n (lv' := [(3, .long (rX9_fold (vX9_foldVoices_4 S p1) ((rX9_ofVoice S (0 : Int32) (8 : Int32)).toInt64))), (6, .int 8), (5, .int 0), (0, .ref (a 0)), (1, .long p1)]) hx hb dX9_foldVoices_34 rfl hl (by decide) rfl (fun ls hl => ?_)
  refine lv_iinc (v := 9) (lv' := [(6, .int 9), (3, .long (rX9_fold (vX9_foldVoices_4 S p1) ((rX9_ofVoice S (0 : Int32) (8 : Int32)).toInt64))), (5, .int 0), (0, .ref (a 0)), (1, .long p1)]) hx hb dX9_foldVoices_35 hl (k := 1) rfl (by decide) (by decide) rfl (fun ls hl => ?_)
  refine lv_goto (tgt := 14) hx hb dX9_foldVoices_38 (by decide) ?_
  refine lv_iload hx hb dX9_foldVoices_14 (lv_at hl 0 rfl) ?_
  refine lv_bipush (v := 10) hx hb dX9_foldVoices_16 (by decide) ?_
  refine lv_icmp_ge (tgt := 41) hx hb dX9_foldVoices_18 (by decide) (fun c => absurd c (by decide)) (fun _ => ?_)
  refine lv_lload_n hx hb dX9_foldVoices_21 rfl (lv_at hl 1 rfl) ?_
  refine lv_aload_n hx hb dX9_foldVoices_22 rfl (lv_at hl 3 rfl) ?_
  refine lv_iload hx hb dX9_foldVoices_23 (lv_at hl 2 rfl) ?_
  refine lv_iload hx hb dX9_foldVoices_25 (lv_at hl 0 rfl) ?_
  refine g_cVi (As := [.int 0, .int 9]) (rest := [.long (rX9_fold (vX9_foldVoices_4 S p1) ((rX9_ofVoice S (0 : Int32) (8 : Int32)).toInt64))]) ⟨hx, hb, hml, hown, hts⟩ (c_X9_ofVoice l G cA a ha S L H.size (0 : Int32) (9 : Int32)  (by decide) (by decide) (by decide) (by decide)) (cwV 2 hts gX9_foldVoices_X9_ofVoice rfl rfl rfl (by decide +kernel) ⟨Nat.le_of_ble_eq_true rfl, Nat.le_of_ble_eq_true rfl⟩) (g_recv hK hP (by decide) rfl (C := RX9) (T := TX9) (N := 4) rfl) hK (mA_mono hS.1) hP hS rfl hl.1 rfl (lv_room (Nat.le_of_ble_eq_true rfl)) dX9_foldVoices_27 ⟨Nat.le_of_ble_eq_true rfl, Nat.le_of_ble_eq_true rfl⟩ (fun H locs hP hS _ _ => ?_)
  refine lv_i2l hx hb dX9_foldVoices_30 rfl ?_
  refine g_cSl (As := [.long (rX9_fold (vX9_foldVoices_4 S p1) ((rX9_ofVoice S (0 : Int32) (8 : Int32)).toInt64)), .long ((rX9_ofVoice S (0 : Int32) (9 : Int32)).toInt64)]) (rest := []) ⟨hx, hb, hml, hown, hts⟩ (c_X9_fold l G cA a ha S L H.size (rX9_fold (vX9_foldVoices_4 S p1) ((rX9_ofVoice S (0 : Int32) (8 : Int32)).toInt64)) ((rX9_ofVoice S (0 : Int32) (9 : Int32)).toInt64)  ) (va_cwS 2 hts gX9_foldVoices_X9_fold rfl rfl rfl (by decide +kernel) ⟨Nat.le_of_ble_eq_true rfl, Nat.le_of_ble_eq_true rfl⟩) hK (mA_mono hS.1) hP hS rfl hl.1 rfl (lv_room (Nat.le_of_ble_eq_true rfl)) dX9_foldVoices_31 ⟨Nat.le_of_ble_eq_true rfl, Nat.le_of_ble_eq_true rfl⟩ (fun H locs hP hS _ _ => ?_)
  refine W.eq (g2 := F0 m 34 ls [.long (vX9_foldVoices_5 S p1)]) rfl ?_
  refine lv_lstore_n (lv' := [(3, .long (vX9_foldVoices_5 S p1)), (6, .int 9), (5, .int 0), (0, .ref (a 0)), (1, .long p1)]) hx hb dX9_foldVoices_34 rfl hl (by decide) rfl (fun ls hl => ?_)
  refine lv_iinc (v := 10) (lv' := [(6, .int 10), (3, .long (vX9_foldVoices_5 S p1)), (5, .int 0), (0, .ref (a 0)), (1, .long p1)]) hx hb dX9_foldVoices_35 hl (k := 1) rfl (by decide) (by decide) rfl (fun ls hl => ?_)
  refine lv_goto (tgt := 14) hx hb dX9_foldVoices_38 (by decide) ?_
  refine lv_iload hx hb dX9_foldVoices_14 (lv_at hl 0 rfl) ?_
  refine lv_bipush (v := 10) hx hb dX9_foldVoices_16 (by decide) ?_
  refine lv_icmp_ge (tgt := 41) hx hb dX9_foldVoices_18 (by decide) (fun _ => ?_) (fun c => absurd c (by decide))
  refine lv_iinc (v := 1) (lv' := [(5, .int 1), (6, .int 10), (3, .long (vX9_foldVoices_5 S p1)), (0, .ref (a 0)), (1, .long p1)]) hx hb dX9_foldVoices_41 hl (k := 2) rfl (by decide) (by decide) rfl (fun ls hl => ?_)
  refine lv_goto (tgt := 5) hx hb dX9_foldVoices_44 (by decide) ?_
  refine lv_iload hx hb dX9_foldVoices_5 (lv_at hl 0 rfl) ?_
  refine lv_iconst (v := 4) hx hb dX9_foldVoices_7 (by decide) ?_
  refine lv_icmp_ge (tgt := 47) hx hb dX9_foldVoices_8 (by decide) (fun c => absurd c (by decide)) (fun _ => ?_)
  refine lv_iconst (v := 0) hx hb dX9_foldVoices_11 (by decide) ?_
  refine lv_istore (lv' := [(6, .int 0), (5, .int 1), (3, .long (vX9_foldVoices_5 S p1)), (0, .ref (a 0)), (1, .long p1)]) hx hb dX9_foldVoices_12 hl (by decide) rfl (fun ls hl => ?_)
  refine lv_iload hx hb dX9_foldVoices_14 (lv_at hl 0 rfl) ?_
  refine lv_bipush (v := 10) hx hb dX9_foldVoices_16 (by decide) ?_
  refine lv_icmp_ge (tgt := 41) hx hb dX9_foldVoices_18 (by decide) (fun c => absurd c (by decide)) (fun _ => ?_)
  refine lv_lload_n hx hb dX9_foldVoices_21 rfl (lv_at hl 2 rfl) ?_
  refine lv_aload_n hx hb dX9_foldVoices_22 rfl (lv_at hl 3 rfl) ?_
  refine lv_iload hx hb dX9_foldVoices_23 (lv_at hl 1 rfl) ?_
  refine lv_iload hx hb dX9_foldVoices_25 (lv_at hl 0 rfl) ?_
  refine g_cVi (As := [.int 1, .int 0]) (rest := [.long (vX9_foldVoices_5 S p1)]) ⟨hx, hb, hml, hown, hts⟩ (c_X9_ofVoice l G cA a ha S L H.size (1 : Int32) (0 : Int32)  (by decide) (by decide) (by decide) (by decide)) (cwV 2 hts gX9_foldVoices_X9_ofVoice rfl rfl rfl (by decide +kernel) ⟨Nat.le_of_ble_eq_true rfl, Nat.le_of_ble_eq_true rfl⟩) (g_recv hK hP (by decide) rfl (C := RX9) (T := TX9) (N := 4) rfl) hK (mA_mono hS.1) hP hS rfl hl.1 rfl (lv_room (Nat.le_of_ble_eq_true rfl)) dX9_foldVoices_27 ⟨Nat.le_of_ble_eq_true rfl, Nat.le_of_ble_eq_true rfl⟩ (fun H locs hP hS _ _ => ?_)
  refine lv_i2l hx hb dX9_foldVoices_30 rfl ?_
  refine g_cSl (As := [.long (vX9_foldVoices_5 S p1), .long ((rX9_ofVoice S (1 : Int32) (0 : Int32)).toInt64)]) (rest := []) ⟨hx, hb, hml, hown, hts⟩ (c_X9_fold l G cA a ha S L H.size (vX9_foldVoices_5 S p1) ((rX9_ofVoice S (1 : Int32) (0 : Int32)).toInt64)  ) (va_cwS 2 hts gX9_foldVoices_X9_fold rfl rfl rfl (by decide +kernel) ⟨Nat.le_of_ble_eq_true rfl, Nat.le_of_ble_eq_true rfl⟩) hK (mA_mono hS.1) hP hS rfl hl.1 rfl (lv_room (Nat.le_of_ble_eq_true rfl)) dX9_foldVoices_31 ⟨Nat.le_of_ble_eq_true rfl, Nat.le_of_ble_eq_true rfl⟩ (fun H locs hP hS _ _ => ?_)
  refine lv_lstore_n (lv' := [(3, .long (rX9_fold (vX9_foldVoices_5 S p1) ((rX9_ofVoice S (1 : Int32) (0 : Int32)).toInt64))), (6, .int 0), (5, .int 1), (0, .ref (a 0)), (1, .long p1)]) hx hb dX9_foldVoices_34 rfl hl (by decide) rfl (fun ls hl => ?_)
  refine lv_iinc (v := 1) (lv' := [(6, .int 1), (3, .long (rX9_fold (vX9_foldVoices_5 S p1) ((rX9_ofVoice S (1 : Int32) (0 : Int32)).toInt64))), (5, .int 1), (0, .ref (a 0)), (1, .long p1)]) hx hb dX9_foldVoices_35 hl (k := 1) rfl (by decide) (by decide) rfl (fun ls hl => ?_)
  refine lv_goto (tgt := 14) hx hb dX9_foldVoices_38 (by decide) ?_
  refine lv_iload hx hb dX9_foldVoices_14 (lv_at hl 0 rfl) ?_
  refine lv_bipush (v := 10) hx hb dX9_foldVoices_16 (by decide) ?_
  refine lv_icmp_ge (tgt := 41) hx hb dX9_foldVoices_18 (by decide) (fun c => absurd c (by decide)) (fun _ => ?_)
  refine lv_lload_n hx hb dX9_foldVoices_21 rfl (lv_at hl 1 rfl) ?_
  refine lv_aload_n hx hb dX9_foldVoices_22 rfl (lv_at hl 3 rfl) ?_
  refine lv_iload hx hb dX9_foldVoices_23 (lv_at hl 2 rfl) ?_
  refine lv_iload hx hb dX9_foldVoices_25 (lv_at hl 0 rfl) ?_
  refine g_cVi (As := [.int 1, .int 1]) (rest := [.long (rX9_fold (vX9_foldVoices_5 S p1) ((rX9_ofVoice S (1 : Int32) (0 : Int32)).toInt64))]) ⟨hx, hb, hml, hown, hts⟩ (c_X9_ofVoice l G cA a ha S L H.size (1 : Int32) (1 : Int32)  (by decide) (by decide) (by decide) (by decide)) (cwV 2 hts gX9_foldVoices_X9_ofVoice rfl rfl rfl (by decide +kernel) ⟨Nat.le_of_ble_eq_true rfl, Nat.le_of_ble_eq_true rfl⟩) (g_recv hK hP (by decide) rfl (C := RX9) (T := TX9) (N := 4) rfl) hK (mA_mono hS.1) hP hS rfl hl.1 rfl (lv_room (Nat.le_of_ble_eq_true rfl)) dX9_foldVoices_27 ⟨Nat.le_of_ble_eq_true rfl, Nat.le_of_ble_eq_true rfl⟩ (fun H locs hP hS _ _ => ?_)
  refine lv_i2l hx hb dX9_foldVoices_30 rfl ?_
  refine g_cSl (As := [.long (rX9_fold (vX9_foldVoices_5 S p1) ((rX9_ofVoice S (1 : Int32) (0 : Int32)).toInt64)), .long ((rX9_ofVoice S (1 : Int32) (1 : Int32)).toInt64)]) (rest := []) ⟨hx, hb, hml, hown, hts⟩ (c_X9_fold l G cA a ha S L H.size (rX9_fold (vX9_foldVoices_5 S p1) ((rX9_ofVoice S (1 : Int32) (0 : Int32)).toInt64)) ((rX9_ofVoice S (1 : Int32) (1 : Int32)).toInt64)  ) (va_cwS 2 hts gX9_foldVoices_X9_fold rfl rfl rfl (by decide +kernel) ⟨Nat.le_of_ble_eq_true rfl, Nat.le_of_ble_eq_true rfl⟩) hK (mA_mono hS.1) hP hS rfl hl.1 rfl (lv_room (Nat.le_of_ble_eq_true rfl)) dX9_foldVoices_31 ⟨Nat.le_of_ble_eq_true rfl, Nat.le_of_ble_eq_true rfl⟩ (fun H locs hP hS _ _ => ?_)
  refine W.eq (g2 := F0 m 34 ls [.long (vX9_foldVoices_6 S p1)]) rfl ?_
  refine lv_lstore_n (lv' := [(3, .long (vX9_foldVoices_6 S p1)), (6, .int 1), (5, .int 1), (0, .ref (a 0)), (1, .long p1)]) hx hb dX9_foldVoices_34 rfl hl (by decide) rfl (fun ls hl => ?_)
  refine lv_iinc (v := 2) (lv' := [(6, .int 2), (3, .long (vX9_foldVoices_6 S p1)), (5, .int 1), (0, .ref (a 0)), (1, .long p1)]) hx hb dX9_foldVoices_35 hl (k := 1) rfl (by decide) (by decide) rfl (fun ls hl => ?_)
  refine lv_goto (tgt := 14) hx hb dX9_foldVoices_38 (by decide) ?_
  refine lv_iload hx hb dX9_foldVoices_14 (lv_at hl 0 rfl) ?_
  refine lv_bipush (v := 10) hx hb dX9_foldVoices_16 (by decide) ?_
  refine lv_icmp_ge (tgt := 41) hx hb dX9_foldVoices_18 (by decide) (fun c => absurd c (by decide)) (fun _ => ?_)
  refine lv_lload_n hx hb dX9_foldVoices_21 rfl (lv_at hl 1 rfl) ?_
  refine lv_aload_n hx hb dX9_foldVoices_22 rfl (lv_at hl 3 rfl) ?_
  refine lv_iload hx hb dX9_foldVoices_23 (lv_at hl 2 rfl) ?_
  refine lv_iload hx hb dX9_foldVoices_25 (lv_at hl 0 rfl) ?_
  refine g_cVi (As := [.int 1, .int 2]) (rest := [.long (vX9_foldVoices_6 S p1)]) ⟨hx, hb, hml, hown, hts⟩ (c_X9_ofVoice l G cA a ha S L H.size (1 : Int32) (2 : Int32)  (by decide) (by decide) (by decide) (by decide)) (cwV 2 hts gX9_foldVoices_X9_ofVoice rfl rfl rfl (by decide +kernel) ⟨Nat.le_of_ble_eq_true rfl, Nat.le_of_ble_eq_true rfl⟩) (g_recv hK hP (by decide) rfl (C := RX9) (T := TX9) (N := 4) rfl) hK (mA_mono hS.1) hP hS rfl hl.1 rfl (lv_room (Nat.le_of_ble_eq_true rfl)) dX9_foldVoices_27 ⟨Nat.le_of_ble_eq_true rfl, Nat.le_of_ble_eq_true rfl⟩ (fun H locs hP hS _ _ => ?_)
  refine lv_i2l hx hb dX9_foldVoices_30 rfl ?_
  refine g_cSl (As := [.long (vX9_foldVoices_6 S p1), .long ((rX9_ofVoice S (1 : Int32) (2 : Int32)).toInt64)]) (rest := []) ⟨hx, hb, hml, hown, hts⟩ (c_X9_fold l G cA a ha S L H.size (vX9_foldVoices_6 S p1) ((rX9_ofVoice S (1 : Int32) (2 : Int32)).toInt64)  ) (va_cwS 2 hts gX9_foldVoices_X9_fold rfl rfl rfl (by decide +kernel) ⟨Nat.le_of_ble_eq_true rfl, Nat.le_of_ble_eq_true rfl⟩) hK (mA_mono hS.1) hP hS rfl hl.1 rfl (lv_room (Nat.le_of_ble_eq_true rfl)) dX9_foldVoices_31 ⟨Nat.le_of_ble_eq_true rfl, Nat.le_of_ble_eq_true rfl⟩ (fun H locs hP hS _ _ => ?_)
  refine lv_lstore_n (lv' := [(3, .long (rX9_fold (vX9_foldVoices_6 S p1) ((rX9_ofVoice S (1 : Int32) (2 : Int32)).toInt64))), (6, .int 2), (5, .int 1), (0, .ref (a 0)), (1, .long p1)]) hx hb dX9_foldVoices_34 rfl hl (by decide) rfl (fun ls hl => ?_)
  refine lv_iinc (v := 3) (lv' := [(6, .int 3), (3, .long (rX9_fold (vX9_foldVoices_6 S p1) ((rX9_ofVoice S (1 : Int32) (2 : Int32)).toInt64))), (5, .int 1), (0, .ref (a 0)), (1, .long p1)]) hx hb dX9_foldVoices_35 hl (k := 1) rfl (by decide) (by decide) rfl (fun ls hl => ?_)
  refine lv_goto (tgt := 14) hx hb dX9_foldVoices_38 (by decide) ?_
  refine lv_iload hx hb dX9_foldVoices_14 (lv_at hl 0 rfl) ?_
  refine lv_bipush (v := 10) hx hb dX9_foldVoices_16 (by decide) ?_
  refine lv_icmp_ge (tgt := 41) hx hb dX9_foldVoices_18 (by decide) (fun c => absurd c (by decide)) (fun _ => ?_)
  refine lv_lload_n hx hb dX9_foldVoices_21 rfl (lv_at hl 1 rfl) ?_
  refine lv_aload_n hx hb dX9_foldVoices_22 rfl (lv_at hl 3 rfl) ?_
  refine lv_iload hx hb dX9_foldVoices_23 (lv_at hl 2 rfl) ?_
  refine lv_iload hx hb dX9_foldVoices_25 (lv_at hl 0 rfl) ?_
  refine g_cVi (As := [.int 1, .int 3]) (rest := [.long (rX9_fold (vX9_foldVoices_6 S p1) ((rX9_ofVoice S (1 : Int32) (2 : Int32)).toInt64))]) ⟨hx, hb, hml, hown, hts⟩ (c_X9_ofVoice l G cA a ha S L H.size (1 : Int32) (3 : Int32)  (by decide) (by decide) (by decide) (by decide)) (cwV 2 hts gX9_foldVoices_X9_ofVoice rfl rfl rfl (by decide +kernel) ⟨Nat.le_of_ble_eq_true rfl, Nat.le_of_ble_eq_true rfl⟩) (g_recv hK hP (by decide) rfl (C := RX9) (T := TX9) (N := 4) rfl) hK (mA_mono hS.1) hP hS rfl hl.1 rfl (lv_room (Nat.le_of_ble_eq_true rfl)) dX9_foldVoices_27 ⟨Nat.le_of_ble_eq_true rfl, Nat.le_of_ble_eq_true rfl⟩ (fun H locs hP hS _ _ => ?_)
  refine lv_i2l hx hb dX9_foldVoices_30 rfl ?_
  refine g_cSl (As := [.long (rX9_fold (vX9_foldVoices_6 S p1) ((rX9_ofVoice S (1 : Int32) (2 : Int32)).toInt64)), .long ((rX9_ofVoice S (1 : Int32) (3 : Int32)).toInt64)]) (rest := []) ⟨hx, hb, hml, hown, hts⟩ (c_X9_fold l G cA a ha S L H.size (rX9_fold (vX9_foldVoices_6 S p1) ((rX9_ofVoice S (1 : Int32) (2 : Int32)).toInt64)) ((rX9_ofVoice S (1 : Int32) (3 : Int32)).toInt64)  ) (va_cwS 2 hts gX9_foldVoices_X9_fold rfl rfl rfl (by decide +kernel) ⟨Nat.le_of_ble_eq_true rfl, Nat.le_of_ble_eq_true rfl⟩) hK (mA_mono hS.1) hP hS rfl hl.1 rfl (lv_room (Nat.le_of_ble_eq_true rfl)) dX9_foldVoices_31 ⟨Nat.le_of_ble_eq_true rfl, Nat.le_of_ble_eq_true rfl⟩ (fun H locs hP hS _ _ => ?_)
  refine W.eq (g2 := F0 m 34 ls [.long (vX9_foldVoices_7 S p1)]) rfl ?_
  refine lv_lstore_n (lv' := [(3, .long (vX9_foldVoices_7 S p1)), (6, .int 3), (5, .int 1), (0, .ref (a 0)), (1, .long p1)]) hx hb dX9_foldVoices_34 rfl hl (by decide) rfl (fun ls hl => ?_)
  refine lv_iinc (v := 4) (lv' := [(6, .int 4), (3, .long (vX9_foldVoices_7 S p1)), (5, .int 1), (0, .ref (a 0)), (1, .long p1)]) hx hb dX9_foldVoices_35 hl (k := 1) rfl (by decide) (by decide) rfl (fun ls hl => ?_)
  refine lv_goto (tgt := 14) hx hb dX9_foldVoices_38 (by decide) ?_
  refine lv_iload hx hb dX9_foldVoices_14 (lv_at hl 0 rfl) ?_
  refine lv_bipush (v := 10) hx hb dX9_foldVoices_16 (by decide) ?_
  refine lv_icmp_ge (tgt := 41) hx hb dX9_foldVoices_18 (by decide) (fun c => absurd c (by decide)) (fun _ => ?_)
  refine lv_lload_n hx hb dX9_foldVoices_21 rfl (lv_at hl 1 rfl) ?_
  refine lv_aload_n hx hb dX9_foldVoices_22 rfl (lv_at hl 3 rfl) ?_
  refine lv_iload hx hb dX9_foldVoices_23 (lv_at hl 2 rfl) ?_
  refine lv_iload hx hb dX9_foldVoices_25 (lv_at hl 0 rfl) ?_
  refine g_cVi (As := [.int 1, .int 4]) (rest := [.long (vX9_foldVoices_7 S p1)]) ⟨hx, hb, hml, hown, hts⟩ (c_X9_ofVoice l G cA a ha S L H.size (1 : Int32) (4 : Int32)  (by decide) (by decide) (by decide) (by decide)) (cwV 2 hts gX9_foldVoices_X9_ofVoice rfl rfl rfl (by decide +kernel) ⟨Nat.le_of_ble_eq_true rfl, Nat.le_of_ble_eq_true rfl⟩) (g_recv hK hP (by decide) rfl (C := RX9) (T := TX9) (N := 4) rfl) hK (mA_mono hS.1) hP hS rfl hl.1 rfl (lv_room (Nat.le_of_ble_eq_true rfl)) dX9_foldVoices_27 ⟨Nat.le_of_ble_eq_true rfl, Nat.le_of_ble_eq_true rfl⟩ (fun H locs hP hS _ _ => ?_)
  refine lv_i2l hx hb dX9_foldVoices_30 rfl ?_
  refine g_cSl (As := [.long (vX9_foldVoices_7 S p1), .long ((rX9_ofVoice S (1 : Int32) (4 : Int32)).toInt64)]) (rest := []) ⟨hx, hb, hml, hown, hts⟩ (c_X9_fold l G cA a ha S L H.size (vX9_foldVoices_7 S p1) ((rX9_ofVoice S (1 : Int32) (4 : Int32)).toInt64)  ) (va_cwS 2 hts gX9_foldVoices_X9_fold rfl rfl rfl (by decide +kernel) ⟨Nat.le_of_ble_eq_true rfl, Nat.le_of_ble_eq_true rfl⟩) hK (mA_mono hS.1) hP hS rfl hl.1 rfl (lv_room (Nat.le_of_ble_eq_true rfl)) dX9_foldVoices_31 ⟨Nat.le_of_ble_eq_true rfl, Nat.le_of_ble_eq_true rfl⟩ (fun H locs hP hS _ _ => ?_)
  refine lv_lstore_n (lv' := [(3, .long (rX9_fold (vX9_foldVoices_7 S p1) ((rX9_ofVoice S (1 : Int32) (4 : Int32)).toInt64))), (6, .int 4), (5, .int 1), (0, .ref (a 0)), (1, .long p1)]) hx hb dX9_foldVoices_34 rfl hl (by decide) rfl (fun ls hl => ?_)
  refine lv_iinc (v := 5) (lv' := [(6, .int 5), (3, .long (rX9_fold (vX9_foldVoices_7 S p1) ((rX9_ofVoice S (1 : Int32) (4 : Int32)).toInt64))), (5, .int 1), (0, .ref (a 0)), (1, .long p1)]) hx hb dX9_foldVoices_35 hl (k := 1) rfl (by decide) (by decide) rfl (fun ls hl => ?_)
  refine lv_goto (tgt := 14) hx hb dX9_foldVoices_38 (by decide) ?_
  refine lv_iload hx hb dX9_foldVoices_14 (lv_at hl 0 rfl) ?_
  refine lv_bipush (v := 10) hx hb dX9_foldVoices_16 (by decide) ?_
  refine lv_icmp_ge (tgt := 41) hx hb dX9_foldVoices_18 (by decide) (fun c => absurd c (by decide)) (fun _ => ?_)
  refine lv_lload_n hx hb dX9_foldVoices_21 rfl (lv_at hl 1 rfl) ?_
  refine lv_aload_n hx hb dX9_foldVoices_22 rfl (lv_at hl 3 rfl) ?_
  refine lv_iload hx hb dX9_foldVoices_23 (lv_at hl 2 rfl) ?_
  refine lv_iload hx hb dX9_foldVoices_25 (lv_at hl 0 rfl) ?_
  refine g_cVi (As := [.int 1, .int 5]) (rest := [.long (rX9_fold (vX9_foldVoices_7 S p1) ((rX9_ofVoice S (1 : Int32) (4 : Int32)).toInt64))]) ⟨hx, hb, hml, hown, hts⟩ (c_X9_ofVoice l G cA a ha S L H.size (1 : Int32) (5 : Int32)  (by decide) (by decide) (by decide) (by decide)) (cwV 2 hts gX9_foldVoices_X9_ofVoice rfl rfl rfl (by decide +kernel) ⟨Nat.le_of_ble_eq_true rfl, Nat.le_of_ble_eq_true rfl⟩) (g_recv hK hP (by decide) rfl (C := RX9) (T := TX9) (N := 4) rfl) hK (mA_mono hS.1) hP hS rfl hl.1 rfl (lv_room (Nat.le_of_ble_eq_true rfl)) dX9_foldVoices_27 ⟨Nat.le_of_ble_eq_true rfl, Nat.le_of_ble_eq_true rfl⟩ (fun H locs hP hS _ _ => ?_)
  refine lv_i2l hx hb dX9_foldVoices_30 rfl ?_
  refine g_cSl (As := [.long (rX9_fold (vX9_foldVoices_7 S p1) ((rX9_ofVoice S (1 : Int32) (4 : Int32)).toInt64)), .long ((rX9_ofVoice S (1 : Int32) (5 : Int32)).toInt64)]) (rest := []) ⟨hx, hb, hml, hown, hts⟩ (c_X9_fold l G cA a ha S L H.size (rX9_fold (vX9_foldVoices_7 S p1) ((rX9_ofVoice S (1 : Int32) (4 : Int32)).toInt64)) ((rX9_ofVoice S (1 : Int32) (5 : Int32)).toInt64)  ) (va_cwS 2 hts gX9_foldVoices_X9_fold rfl rfl rfl (by decide +kernel) ⟨Nat.le_of_ble_eq_true rfl, Nat.le_of_ble_eq_true rfl⟩) hK (mA_mono hS.1) hP hS rfl hl.1 rfl (lv_room (Nat.le_of_ble_eq_true rfl)) dX9_foldVoices_31 ⟨Nat.le_of_ble_eq_true rfl, Nat.le_of_ble_eq_true rfl⟩ (fun H locs hP hS _ _ => ?_)
  refine W.eq (g2 := F0 m 34 ls [.long (vX9_foldVoices_8 S p1)]) rfl ?_
  refine lv_lstore_n (lv' := [(3, .long (vX9_foldVoices_8 S p1)), (6, .int 5), (5, .int 1), (0, .ref (a 0)), (1, .long p1)]) hx hb dX9_foldVoices_34 rfl hl (by decide) rfl (fun ls hl => ?_)
  refine lv_iinc (v := 6) (lv' := [(6, .int 6), (3, .long (vX9_foldVoices_8 S p1)), (5, .int 1), (0, .ref (a 0)), (1, .long p1)]) hx hb dX9_foldVoices_35 hl (k := 1) rfl (by decide) (by decide) rfl (fun ls hl => ?_)
  refine lv_goto (tgt := 14) hx hb dX9_foldVoices_38 (by decide) ?_
  refine lv_iload hx hb dX9_foldVoices_14 (lv_at hl 0 rfl) ?_
  refine lv_bipush (v := 10) hx hb dX9_foldVoices_16 (by decide) ?_
  refine lv_icmp_ge (tgt := 41) hx hb dX9_foldVoices_18 (by decide) (fun c => absurd c (by decide)) (fun _ => ?_)
  refine lv_lload_n hx hb dX9_foldVoices_21 rfl (lv_at hl 1 rfl) ?_
  refine lv_aload_n hx hb dX9_foldVoices_22 rfl (lv_at hl 3 rfl) ?_
  refine lv_iload hx hb dX9_foldVoices_23 (lv_at hl 2 rfl) ?_
  refine lv_iload hx hb dX9_foldVoices_25 (lv_at hl 0 rfl) ?_
  refine g_cVi (As := [.int 1, .int 6]) (rest := [.long (vX9_foldVoices_8 S p1)]) ⟨hx, hb, hml, hown, hts⟩ (c_X9_ofVoice l G cA a ha S L H.size (1 : Int32) (6 : Int32)  (by decide) (by decide) (by decide) (by decide)) (cwV 2 hts gX9_foldVoices_X9_ofVoice rfl rfl rfl (by decide +kernel) ⟨Nat.le_of_ble_eq_true rfl, Nat.le_of_ble_eq_true rfl⟩) (g_recv hK hP (by decide) rfl (C := RX9) (T := TX9) (N := 4) rfl) hK (mA_mono hS.1) hP hS rfl hl.1 rfl (lv_room (Nat.le_of_ble_eq_true rfl)) dX9_foldVoices_27 ⟨Nat.le_of_ble_eq_true rfl, Nat.le_of_ble_eq_true rfl⟩ (fun H locs hP hS _ _ => ?_)
  refine lv_i2l hx hb dX9_foldVoices_30 rfl ?_
  refine g_cSl (As := [.long (vX9_foldVoices_8 S p1), .long ((rX9_ofVoice S (1 : Int32) (6 : Int32)).toInt64)]) (rest := []) ⟨hx, hb, hml, hown, hts⟩ (c_X9_fold l G cA a ha S L H.size (vX9_foldVoices_8 S p1) ((rX9_ofVoice S (1 : Int32) (6 : Int32)).toInt64)  ) (va_cwS 2 hts gX9_foldVoices_X9_fold rfl rfl rfl (by decide +kernel) ⟨Nat.le_of_ble_eq_true rfl, Nat.le_of_ble_eq_true rfl⟩) hK (mA_mono hS.1) hP hS rfl hl.1 rfl (lv_room (Nat.le_of_ble_eq_true rfl)) dX9_foldVoices_31 ⟨Nat.le_of_ble_eq_true rfl, Nat.le_of_ble_eq_true rfl⟩ (fun H locs hP hS _ _ => ?_)
  refine lv_lstore_n (lv' := [(3, .long (rX9_fold (vX9_foldVoices_8 S p1) ((rX9_ofVoice S (1 : Int32) (6 : Int32)).toInt64))), (6, .int 6), (5, .int 1), (0, .ref (a 0)), (1, .long p1)]) hx hb dX9_foldVoices_34 rfl hl (by decide) rfl (fun ls hl => ?_)
  refine lv_iinc (v := 7) (lv' := [(6, .int 7), (3, .long (rX9_fold (vX9_foldVoices_8 S p1) ((rX9_ofVoice S (1 : Int32) (6 : Int32)).toInt64))), (5, .int 1), (0, .ref (a 0)), (1, .long p1)]) hx hb dX9_foldVoices_35 hl (k := 1) rfl (by decide) (by decide) rfl (fun ls hl => ?_)
  refine lv_goto (tgt := 14) hx hb dX9_foldVoices_38 (by decide) ?_
  refine lv_iload hx hb dX9_foldVoices_14 (lv_at hl 0 rfl) ?_
  refine lv_bipush (v := 10) hx hb dX9_foldVoices_16 (by decide) ?_
  refine lv_icmp_ge (tgt := 41) hx hb dX9_foldVoices_18 (by decide) (fun c => absurd c (by decide)) (fun _ => ?_)
  refine lv_lload_n hx hb dX9_foldVoices_21 rfl (lv_at hl 1 rfl) ?_
  refine lv_aload_n hx hb dX9_foldVoices_22 rfl (lv_at hl 3 rfl) ?_
  refine lv_iload hx hb dX9_foldVoices_23 (lv_at hl 2 rfl) ?_
  refine lv_iload hx hb dX9_foldVoices_25 (lv_at hl 0 rfl) ?_
  refine g_cVi (As := [.int 1, .int 7]) (rest := [.long (rX9_fold (vX9_foldVoices_8 S p1) ((rX9_ofVoice S (1 : Int32) (6 : Int32)).toInt64))]) ⟨hx, hb, hml, hown, hts⟩ (c_X9_ofVoice l G cA a ha S L H.size (1 : Int32) (7 : Int32)  (by decide) (by decide) (by decide) (by decide)) (cwV 2 hts gX9_foldVoices_X9_ofVoice rfl rfl rfl (by decide +kernel) ⟨Nat.le_of_ble_eq_true rfl, Nat.le_of_ble_eq_true rfl⟩) (g_recv hK hP (by decide) rfl (C := RX9) (T := TX9) (N := 4) rfl) hK (mA_mono hS.1) hP hS rfl hl.1 rfl (lv_room (Nat.le_of_ble_eq_true rfl)) dX9_foldVoices_27 ⟨Nat.le_of_ble_eq_true rfl, Nat.le_of_ble_eq_true rfl⟩ (fun H locs hP hS _ _ => ?_)
  refine lv_i2l hx hb dX9_foldVoices_30 rfl ?_
  refine g_cSl (As := [.long (rX9_fold (vX9_foldVoices_8 S p1) ((rX9_ofVoice S (1 : Int32) (6 : Int32)).toInt64)), .long ((rX9_ofVoice S (1 : Int32) (7 : Int32)).toInt64)]) (rest := []) ⟨hx, hb, hml, hown, hts⟩ (c_X9_fold l G cA a ha S L H.size (rX9_fold (vX9_foldVoices_8 S p1) ((rX9_ofVoice S (1 : Int32) (6 : Int32)).toInt64)) ((rX9_ofVoice S (1 : Int32) (7 : Int32)).toInt64)  ) (va_cwS 2 hts gX9_foldVoices_X9_fold rfl rfl rfl (by decide +kernel) ⟨Nat.le_of_ble_eq_true rfl, Nat.le_of_ble_eq_true rfl⟩) hK (mA_mono hS.1) hP hS rfl hl.1 rfl (lv_room (Nat.le_of_ble_eq_true rfl)) dX9_foldVoices_31 ⟨Nat.le_of_ble_eq_true rfl, Nat.le_of_ble_eq_true rfl⟩ (fun H locs hP hS _ _ => ?_)
  refine W.eq (g2 := F0 m 34 ls [.long (vX9_foldVoices_9 S p1)]) rfl ?_
  refine lv_lstore_n (lv' := [(3, .long (vX9_foldVoices_9 S p1)), (6, .int 7), (5, .int 1), (0, .ref (a 0)), (1, .long p1)]) hx hb dX9_foldVoices_34 rfl hl (by decide) rfl (fun ls hl => ?_)
  refine lv_iinc (v := 8) (lv' := [(6, .int 8), (3, .long (vX9_foldVoices_9 S p1)), (5, .int 1), (0, .ref (a 0)), (1, .long p1)]) hx hb dX9_foldVoices_35 hl (k := 1) rfl (by decide) (by decide) rfl (fun ls hl => ?_)
  refine lv_goto (tgt := 14) hx hb dX9_foldVoices_38 (by decide) ?_
  refine lv_iload hx hb dX9_foldVoices_14 (lv_at hl 0 rfl) ?_
  refine lv_bipush (v := 10) hx hb dX9_foldVoices_16 (by decide) ?_
  refine lv_icmp_ge (tgt := 41) hx hb dX9_foldVoices_18 (by decide) (fun c => absurd c (by decide)) (fun _ => ?_)
  refine lv_lload_n hx hb dX9_foldVoices_21 rfl (lv_at hl 1 rfl) ?_
  refine lv_aload_n hx hb dX9_foldVoices_22 rfl (lv_at hl 3 rfl) ?_
  refine lv_iload hx hb dX9_foldVoices_23 (lv_at hl 2 rfl) ?_
  refine lv_iload hx hb dX9_foldVoices_25 (lv_at hl 0 rfl) ?_
  refine g_cVi (As := [.int 1, .int 8]) (rest := [.long (vX9_foldVoices_9 S p1)]) ⟨hx, hb, hml, hown, hts⟩ (c_X9_ofVoice l G cA a ha S L H.size (1 : Int32) (8 : Int32)  (by decide) (by decide) (by decide) (by decide)) (cwV 2 hts gX9_foldVoices_X9_ofVoice rfl rfl rfl (by decide +kernel) ⟨Nat.le_of_ble_eq_true rfl, Nat.le_of_ble_eq_true rfl⟩) (g_recv hK hP (by decide) rfl (C := RX9) (T := TX9) (N := 4) rfl) hK (mA_mono hS.1) hP hS rfl hl.1 rfl (lv_room (Nat.le_of_ble_eq_true rfl)) dX9_foldVoices_27 ⟨Nat.le_of_ble_eq_true rfl, Nat.le_of_ble_eq_true rfl⟩ (fun H locs hP hS _ _ => ?_)
  refine lv_i2l hx hb dX9_foldVoices_30 rfl ?_
  refine g_cSl (As := [.long (vX9_foldVoices_9 S p1), .long ((rX9_ofVoice S (1 : Int32) (8 : Int32)).toInt64)]) (rest := []) ⟨hx, hb, hml, hown, hts⟩ (c_X9_fold l G cA a ha S L H.size (vX9_foldVoices_9 S p1) ((rX9_ofVoice S (1 : Int32) (8 : Int32)).toInt64)  ) (va_cwS 2 hts gX9_foldVoices_X9_fold rfl rfl rfl (by decide +kernel) ⟨Nat.le_of_ble_eq_true rfl, Nat.le_of_ble_eq_true rfl⟩) hK (mA_mono hS.1) hP hS rfl hl.1 rfl (lv_room (Nat.le_of_ble_eq_true rfl)) dX9_foldVoices_31 ⟨Nat.le_of_ble_eq_true rfl, Nat.le_of_ble_eq_true rfl⟩ (fun H locs hP hS _ _ => ?_)
  refine lv_lstore_n (lv' := [(3, .long (rX9_fold (vX9_foldVoices_9 S p1) ((rX9_ofVoice S (1 : Int32) (8 : Int32)).toInt64))), (6, .int 8), (5, .int 1), (0, .ref (a 0)), (1, .long p1)]) hx hb dX9_foldVoices_34 rfl hl (by decide) rfl (fun ls hl => ?_)
  refine lv_iinc (v := 9) (lv' := [(6, .int 9), (3, .long (rX9_fold (vX9_foldVoices_9 S p1) ((rX9_ofVoice S (1 : Int32) (8 : Int32)).toInt64))), (5, .int 1), (0, .ref (a 0)), (1, .long p1)]) hx hb dX9_foldVoices_35 hl (k := 1) rfl (by decide) (by decide) rfl (fun ls hl => ?_)
  refine lv_goto (tgt := 14) hx hb dX9_foldVoices_38 (by decide) ?_
  refine lv_iload hx hb dX9_foldVoices_14 (lv_at hl 0 rfl) ?_
  refine lv_bipush (v := 10) hx hb dX9_foldVoices_16 (by decide) ?_
  refine lv_icmp_ge (tgt := 41) hx hb dX9_foldVoices_18 (by decide) (fun c => absurd c (by decide)) (fun _ => ?_)
  refine lv_lload_n hx hb dX9_foldVoices_21 rfl (lv_at hl 1 rfl) ?_
  refine lv_aload_n hx hb dX9_foldVoices_22 rfl (lv_at hl 3 rfl) ?_
  refine lv_iload hx hb dX9_foldVoices_23 (lv_at hl 2 rfl) ?_
  refine lv_iload hx hb dX9_foldVoices_25 (lv_at hl 0 rfl) ?_
  refine g_cVi (As := [.int 1, .int 9]) (rest := [.long (rX9_fold (vX9_foldVoices_9 S p1) ((rX9_ofVoice S (1 : Int32) (8 : Int32)).toInt64))]) ⟨hx, hb, hml, hown, hts⟩ (c_X9_ofVoice l G cA a ha S L H.size (1 : Int32) (9 : Int32)  (by decide) (by decide) (by decide) (by decide)) (cwV 2 hts gX9_foldVoices_X9_ofVoice rfl rfl rfl (by decide +kernel) ⟨Nat.le_of_ble_eq_true rfl, Nat.le_of_ble_eq_true rfl⟩) (g_recv hK hP (by decide) rfl (C := RX9) (T := TX9) (N := 4) rfl) hK (mA_mono hS.1) hP hS rfl hl.1 rfl (lv_room (Nat.le_of_ble_eq_true rfl)) dX9_foldVoices_27 ⟨Nat.le_of_ble_eq_true rfl, Nat.le_of_ble_eq_true rfl⟩ (fun H locs hP hS _ _ => ?_)
  refine lv_i2l hx hb dX9_foldVoices_30 rfl ?_
  refine g_cSl (As := [.long (rX9_fold (vX9_foldVoices_9 S p1) ((rX9_ofVoice S (1 : Int32) (8 : Int32)).toInt64)), .long ((rX9_ofVoice S (1 : Int32) (9 : Int32)).toInt64)]) (rest := []) ⟨hx, hb, hml, hown, hts⟩ (c_X9_fold l G cA a ha S L H.size (rX9_fold (vX9_foldVoices_9 S p1) ((rX9_ofVoice S (1 : Int32) (8 : Int32)).toInt64)) ((rX9_ofVoice S (1 : Int32) (9 : Int32)).toInt64)  ) (va_cwS 2 hts gX9_foldVoices_X9_fold rfl rfl rfl (by decide +kernel) ⟨Nat.le_of_ble_eq_true rfl, Nat.le_of_ble_eq_true rfl⟩) hK (mA_mono hS.1) hP hS rfl hl.1 rfl (lv_room (Nat.le_of_ble_eq_true rfl)) dX9_foldVoices_31 ⟨Nat.le_of_ble_eq_true rfl, Nat.le_of_ble_eq_true rfl⟩ (fun H locs hP hS _ _ => ?_)
  refine W.eq (g2 := F0 m 34 ls [.long (vX9_foldVoices_10 S p1)]) rfl ?_
  refine lv_lstore_n (lv' := [(3, .long (vX9_foldVoices_10 S p1)), (6, .int 9), (5, .int 1), (0, .ref (a 0)), (1, .long p1)]) hx hb dX9_foldVoices_34 rfl hl (by decide) rfl (fun ls hl => ?_)
  refine lv_iinc (v := 10) (lv' := [(6, .int 10), (3, .long (vX9_foldVoices_10 S p1)), (5, .int 1), (0, .ref (a 0)), (1, .long p1)]) hx hb dX9_foldVoices_35 hl (k := 1) rfl (by decide) (by decide) rfl (fun ls hl => ?_)
  refine lv_goto (tgt := 14) hx hb dX9_foldVoices_38 (by decide) ?_
  refine lv_iload hx hb dX9_foldVoices_14 (lv_at hl 0 rfl) ?_
  refine lv_bipush (v := 10) hx hb dX9_foldVoices_16 (by decide) ?_
  refine lv_icmp_ge (tgt := 41) hx hb dX9_foldVoices_18 (by decide) (fun _ => ?_) (fun c => absurd c (by decide))
  refine lv_iinc (v := 2) (lv' := [(5, .int 2), (6, .int 10), (3, .long (vX9_foldVoices_10 S p1)), (0, .ref (a 0)), (1, .long p1)]) hx hb dX9_foldVoices_41 hl (k := 2) rfl (by decide) (by decide) rfl (fun ls hl => ?_)
  refine lv_goto (tgt := 5) hx hb dX9_foldVoices_44 (by decide) ?_
  refine lv_iload hx hb dX9_foldVoices_5 (lv_at hl 0 rfl) ?_
  refine lv_iconst (v := 4) hx hb dX9_foldVoices_7 (by decide) ?_
  refine lv_icmp_ge (tgt := 47) hx hb dX9_foldVoices_8 (by decide) (fun c => absurd c (by decide)) (fun _ => ?_)
  refine lv_iconst (v := 0) hx hb dX9_foldVoices_11 (by decide) ?_
  refine lv_istore (lv' := [(6, .int 0), (5, .int 2), (3, .long (vX9_foldVoices_10 S p1)), (0, .ref (a 0)), (1, .long p1)]) hx hb dX9_foldVoices_12 hl (by decide) rfl (fun ls hl => ?_)
  refine lv_iload hx hb dX9_foldVoices_14 (lv_at hl 0 rfl) ?_
  refine lv_bipush (v := 10) hx hb dX9_foldVoices_16 (by decide) ?_
  refine lv_icmp_ge (tgt := 41) hx hb dX9_foldVoices_18 (by decide) (fun c => absurd c (by decide)) (fun _ => ?_)
  refine lv_lload_n hx hb dX9_foldVoices_21 rfl (lv_at hl 2 rfl) ?_
  refine lv_aload_n hx hb dX9_foldVoices_22 rfl (lv_at hl 3 rfl) ?_
  refine lv_iload hx hb dX9_foldVoices_23 (lv_at hl 1 rfl) ?_
  refine lv_iload hx hb dX9_foldVoices_25 (lv_at hl 0 rfl) ?_
  refine g_cVi (As := [.int 2, .int 0]) (rest := [.long (vX9_foldVoices_10 S p1)]) ⟨hx, hb, hml, hown, hts⟩ (c_X9_ofVoice l G cA a ha S L H.size (2 : Int32) (0 : Int32)  (by decide) (by decide) (by decide) (by decide)) (cwV 2 hts gX9_foldVoices_X9_ofVoice rfl rfl rfl (by decide +kernel) ⟨Nat.le_of_ble_eq_true rfl, Nat.le_of_ble_eq_true rfl⟩) (g_recv hK hP (by decide) rfl (C := RX9) (T := TX9) (N := 4) rfl) hK (mA_mono hS.1) hP hS rfl hl.1 rfl (lv_room (Nat.le_of_ble_eq_true rfl)) dX9_foldVoices_27 ⟨Nat.le_of_ble_eq_true rfl, Nat.le_of_ble_eq_true rfl⟩ (fun H locs hP hS _ _ => ?_)
  refine lv_i2l hx hb dX9_foldVoices_30 rfl ?_
  refine g_cSl (As := [.long (vX9_foldVoices_10 S p1), .long ((rX9_ofVoice S (2 : Int32) (0 : Int32)).toInt64)]) (rest := []) ⟨hx, hb, hml, hown, hts⟩ (c_X9_fold l G cA a ha S L H.size (vX9_foldVoices_10 S p1) ((rX9_ofVoice S (2 : Int32) (0 : Int32)).toInt64)  ) (va_cwS 2 hts gX9_foldVoices_X9_fold rfl rfl rfl (by decide +kernel) ⟨Nat.le_of_ble_eq_true rfl, Nat.le_of_ble_eq_true rfl⟩) hK (mA_mono hS.1) hP hS rfl hl.1 rfl (lv_room (Nat.le_of_ble_eq_true rfl)) dX9_foldVoices_31 ⟨Nat.le_of_ble_eq_true rfl, Nat.le_of_ble_eq_true rfl⟩ (fun H locs hP hS _ _ => ?_)
  refine lv_lstore_n (lv' := [(3, .long (rX9_fold (vX9_foldVoices_10 S p1) ((rX9_ofVoice S (2 : Int32) (0 : Int32)).toInt64))), (6, .int 0), (5, .int 2), (0, .ref (a 0)), (1, .long p1)]) hx hb dX9_foldVoices_34 rfl hl (by decide) rfl (fun ls hl => ?_)
  refine lv_iinc (v := 1) (lv' := [(6, .int 1), (3, .long (rX9_fold (vX9_foldVoices_10 S p1) ((rX9_ofVoice S (2 : Int32) (0 : Int32)).toInt64))), (5, .int 2), (0, .ref (a 0)), (1, .long p1)]) hx hb dX9_foldVoices_35 hl (k := 1) rfl (by decide) (by decide) rfl (fun ls hl => ?_)
  refine lv_goto (tgt := 14) hx hb dX9_foldVoices_38 (by decide) ?_
  refine lv_iload hx hb dX9_foldVoices_14 (lv_at hl 0 rfl) ?_
  refine lv_bipush (v := 10) hx hb dX9_foldVoices_16 (by decide) ?_
  refine lv_icmp_ge (tgt := 41) hx hb dX9_foldVoices_18 (by decide) (fun c => absurd c (by decide)) (fun _ => ?_)
  refine lv_lload_n hx hb dX9_foldVoices_21 rfl (lv_at hl 1 rfl) ?_
  refine lv_aload_n hx hb dX9_foldVoices_22 rfl (lv_at hl 3 rfl) ?_
  refine lv_iload hx hb dX9_foldVoices_23 (lv_at hl 2 rfl) ?_
  refine lv_iload hx hb dX9_foldVoices_25 (lv_at hl 0 rfl) ?_
  refine g_cVi (As := [.int 2, .int 1]) (rest := [.long (rX9_fold (vX9_foldVoices_10 S p1) ((rX9_ofVoice S (2 : Int32) (0 : Int32)).toInt64))]) ⟨hx, hb, hml, hown, hts⟩ (c_X9_ofVoice l G cA a ha S L H.size (2 : Int32) (1 : Int32)  (by decide) (by decide) (by decide) (by decide)) (cwV 2 hts gX9_foldVoices_X9_ofVoice rfl rfl rfl (by decide +kernel) ⟨Nat.le_of_ble_eq_true rfl, Nat.le_of_ble_eq_true rfl⟩) (g_recv hK hP (by decide) rfl (C := RX9) (T := TX9) (N := 4) rfl) hK (mA_mono hS.1) hP hS rfl hl.1 rfl (lv_room (Nat.le_of_ble_eq_true rfl)) dX9_foldVoices_27 ⟨Nat.le_of_ble_eq_true rfl, Nat.le_of_ble_eq_true rfl⟩ (fun H locs hP hS _ _ => ?_)
  refine lv_i2l hx hb dX9_foldVoices_30 rfl ?_
  refine g_cSl (As := [.long (rX9_fold (vX9_foldVoices_10 S p1) ((rX9_ofVoice S (2 : Int32) (0 : Int32)).toInt64)), .long ((rX9_ofVoice S (2 : Int32) (1 : Int32)).toInt64)]) (rest := []) ⟨hx, hb, hml, hown, hts⟩ (c_X9_fold l G cA a ha S L H.size (rX9_fold (vX9_foldVoices_10 S p1) ((rX9_ofVoice S (2 : Int32) (0 : Int32)).toInt64)) ((rX9_ofVoice S (2 : Int32) (1 : Int32)).toInt64)  ) (va_cwS 2 hts gX9_foldVoices_X9_fold rfl rfl rfl (by decide +kernel) ⟨Nat.le_of_ble_eq_true rfl, Nat.le_of_ble_eq_true rfl⟩) hK (mA_mono hS.1) hP hS rfl hl.1 rfl (lv_room (Nat.le_of_ble_eq_true rfl)) dX9_foldVoices_31 ⟨Nat.le_of_ble_eq_true rfl, Nat.le_of_ble_eq_true rfl⟩ (fun H locs hP hS _ _ => ?_)
  refine W.eq (g2 := F0 m 34 ls [.long (vX9_foldVoices_11 S p1)]) rfl ?_
  refine lv_lstore_n (lv' := [(3, .long (vX9_foldVoices_11 S p1)), (6, .int 1), (5, .int 2), (0, .ref (a 0)), (1, .long p1)]) hx hb dX9_foldVoices_34 rfl hl (by decide) rfl (fun ls hl => ?_)
  refine lv_iinc (v := 2) (lv' := [(6, .int 2), (3, .long (vX9_foldVoices_11 S p1)), (5, .int 2), (0, .ref (a 0)), (1, .long p1)]) hx hb dX9_foldVoices_35 hl (k := 1) rfl (by decide) (by decide) rfl (fun ls hl => ?_)
  refine lv_goto (tgt := 14) hx hb dX9_foldVoices_38 (by decide) ?_
  refine lv_iload hx hb dX9_foldVoices_14 (lv_at hl 0 rfl) ?_
  refine lv_bipush (v := 10) hx hb dX9_foldVoices_16 (by decide) ?_
  refine lv_icmp_ge (tgt := 41) hx hb dX9_foldVoices_18 (by decide) (fun c => absurd c (by decide)) (fun _ => ?_)
  refine lv_lload_n hx hb dX9_foldVoices_21 rfl (lv_at hl 1 rfl) ?_
  refine lv_aload_n hx hb dX9_foldVoices_22 rfl (lv_at hl 3 rfl) ?_
  refine lv_iload hx hb dX9_foldVoices_23 (lv_at hl 2 rfl) ?_
  refine lv_iload hx hb dX9_foldVoices_25 (lv_at hl 0 rfl) ?_
  refine g_cVi (As := [.int 2, .int 2]) (rest := [.long (vX9_foldVoices_11 S p1)]) ⟨hx, hb, hml, hown, hts⟩ (c_X9_ofVoice l G cA a ha S L H.size (2 : Int32) (2 : Int32)  (by decide) (by decide) (by decide) (by decide)) (cwV 2 hts gX9_foldVoices_X9_ofVoice rfl rfl rfl (by decide +kernel) ⟨Nat.le_of_ble_eq_true rfl, Nat.le_of_ble_eq_true rfl⟩) (g_recv hK hP (by decide) rfl (C := RX9) (T := TX9) (N := 4) rfl) hK (mA_mono hS.1) hP hS rfl hl.1 rfl (lv_room (Nat.le_of_ble_eq_true rfl)) dX9_foldVoices_27 ⟨Nat.le_of_ble_eq_true rfl, Nat.le_of_ble_eq_true rfl⟩ (fun H locs hP hS _ _ => ?_)
  refine lv_i2l hx hb dX9_foldVoices_30 rfl ?_
  refine g_cSl (As := [.long (vX9_foldVoices_11 S p1), .long ((rX9_ofVoice S (2 : Int32) (2 : Int32)).toInt64)]) (rest := []) ⟨hx, hb, hml, hown, hts⟩ (c_X9_fold l G cA a ha S L H.size (vX9_foldVoices_11 S p1) ((rX9_ofVoice S (2 : Int32) (2 : Int32)).toInt64)  ) (va_cwS 2 hts gX9_foldVoices_X9_fold rfl rfl rfl (by decide +kernel) ⟨Nat.le_of_ble_eq_true rfl, Nat.le_of_ble_eq_true rfl⟩) hK (mA_mono hS.1) hP hS rfl hl.1 rfl (lv_room (Nat.le_of_ble_eq_true rfl)) dX9_foldVoices_31 ⟨Nat.le_of_ble_eq_true rfl, Nat.le_of_ble_eq_true rfl⟩ (fun H locs hP hS _ _ => ?_)
  refine lv_lstore_n (lv' := [(3, .long (rX9_fold (vX9_foldVoices_11 S p1) ((rX9_ofVoice S (2 : Int32) (2 : Int32)).toInt64))), (6, .int 2), (5, .int 2), (0, .ref (a 0)), (1, .long p1)]) hx hb dX9_foldVoices_34 rfl hl (by decide) rfl (fun ls hl => ?_)
  refine lv_iinc (v := 3) (lv' := [(6, .int 3), (3, .long (rX9_fold (vX9_foldVoices_11 S p1) ((rX9_ofVoice S (2 : Int32) (2 : Int32)).toInt64))), (5, .int 2), (0, .ref (a 0)), (1, .long p1)]) hx hb dX9_foldVoices_35 hl (k := 1) rfl (by decide) (by decide) rfl (fun ls hl => ?_)
  refine lv_goto (tgt := 14) hx hb dX9_foldVoices_38 (by decide) ?_
  refine lv_iload hx hb dX9_foldVoices_14 (lv_at hl 0 rfl) ?_
  refine lv_bipush (v := 10) hx hb dX9_foldVoices_16 (by decide) ?_
  refine lv_icmp_ge (tgt := 41) hx hb dX9_foldVoices_18 (by decide) (fun c => absurd c (by decide)) (fun _ => ?_)
  refine lv_lload_n hx hb dX9_foldVoices_21 rfl (lv_at hl 1 rfl) ?_
  refine lv_aload_n hx hb dX9_foldVoices_22 rfl (lv_at hl 3 rfl) ?_
  refine lv_iload hx hb dX9_foldVoices_23 (lv_at hl 2 rfl) ?_
  refine lv_iload hx hb dX9_foldVoices_25 (lv_at hl 0 rfl) ?_
  refine g_cVi (As := [.int 2, .int 3]) (rest := [.long (rX9_fold (vX9_foldVoices_11 S p1) ((rX9_ofVoice S (2 : Int32) (2 : Int32)).toInt64))]) ⟨hx, hb, hml, hown, hts⟩ (c_X9_ofVoice l G cA a ha S L H.size (2 : Int32) (3 : Int32)  (by decide) (by decide) (by decide) (by decide)) (cwV 2 hts gX9_foldVoices_X9_ofVoice rfl rfl rfl (by decide +kernel) ⟨Nat.le_of_ble_eq_true rfl, Nat.le_of_ble_eq_true rfl⟩) (g_recv hK hP (by decide) rfl (C := RX9) (T := TX9) (N := 4) rfl) hK (mA_mono hS.1) hP hS rfl hl.1 rfl (lv_room (Nat.le_of_ble_eq_true rfl)) dX9_foldVoices_27 ⟨Nat.le_of_ble_eq_true rfl, Nat.le_of_ble_eq_true rfl⟩ (fun H locs hP hS _ _ => ?_)
  refine lv_i2l hx hb dX9_foldVoices_30 rfl ?_
  refine g_cSl (As := [.long (rX9_fold (vX9_foldVoices_11 S p1) ((rX9_ofVoice S (2 : Int32) (2 : Int32)).toInt64)), .long ((rX9_ofVoice S (2 : Int32) (3 : Int32)).toInt64)]) (rest := []) ⟨hx, hb, hml, hown, hts⟩ (c_X9_fold l G cA a ha S L H.size (rX9_fold (vX9_foldVoices_11 S p1) ((rX9_ofVoice S (2 : Int32) (2 : Int32)).toInt64)) ((rX9_ofVoice S (2 : Int32) (3 : Int32)).toInt64)  ) (va_cwS 2 hts gX9_foldVoices_X9_fold rfl rfl rfl (by decide +kernel) ⟨Nat.le_of_ble_eq_true rfl, Nat.le_of_ble_eq_true rfl⟩) hK (mA_mono hS.1) hP hS rfl hl.1 rfl (lv_room (Nat.le_of_ble_eq_true rfl)) dX9_foldVoices_31 ⟨Nat.le_of_ble_eq_true rfl, Nat.le_of_ble_eq_true rfl⟩ (fun H locs hP hS _ _ => ?_)
  refine W.eq (g2 := F0 m 34 ls [.long (vX9_foldVoices_12 S p1)]) rfl ?_
  refine lv_lstore_n (lv' := [(3, .long (vX9_foldVoices_12 S p1)), (6, .int 3), (5, .int 2), (0, .ref (a 0)), (1, .long p1)]) hx hb dX9_foldVoices_34 rfl hl (by decide) rfl (fun ls hl => ?_)
  refine lv_iinc (v := 4) (lv' := [(6, .int 4), (3, .long (vX9_foldVoices_12 S p1)), (5, .int 2), (0, .ref (a 0)), (1, .long p1)]) hx hb dX9_foldVoices_35 hl (k := 1) rfl (by decide) (by decide) rfl (fun ls hl => ?_)
  refine lv_goto (tgt := 14) hx hb dX9_foldVoices_38 (by decide) ?_
  refine lv_iload hx hb dX9_foldVoices_14 (lv_at hl 0 rfl) ?_
  refine lv_bipush (v := 10) hx hb dX9_foldVoices_16 (by decide) ?_
  refine lv_icmp_ge (tgt := 41) hx hb dX9_foldVoices_18 (by decide) (fun c => absurd c (by decide)) (fun _ => ?_)
  refine lv_lload_n hx hb dX9_foldVoices_21 rfl (lv_at hl 1 rfl) ?_
  refine lv_aload_n hx hb dX9_foldVoices_22 rfl (lv_at hl 3 rfl) ?_
  refine lv_iload hx hb dX9_foldVoices_23 (lv_at hl 2 rfl) ?_
  refine lv_iload hx hb dX9_foldVoices_25 (lv_at hl 0 rfl) ?_
  refine g_cVi (As := [.int 2, .int 4]) (rest := [.long (vX9_foldVoices_12 S p1)]) ⟨hx, hb, hml, hown, hts⟩ (c_X9_ofVoice l G cA a ha S L H.size (2 : Int32) (4 : Int32)  (by decide) (by decide) (by decide) (by decide)) (cwV 2 hts gX9_foldVoices_X9_ofVoice rfl rfl rfl (by decide +kernel) ⟨Nat.le_of_ble_eq_true rfl, Nat.le_of_ble_eq_true rfl⟩) (g_recv hK hP (by decide) rfl (C := RX9) (T := TX9) (N := 4) rfl) hK (mA_mono hS.1) hP hS rfl hl.1 rfl (lv_room (Nat.le_of_ble_eq_true rfl)) dX9_foldVoices_27 ⟨Nat.le_of_ble_eq_true rfl, Nat.le_of_ble_eq_true rfl⟩ (fun H locs hP hS _ _ => ?_)
  refine lv_i2l hx hb dX9_foldVoices_30 rfl ?_
  refine g_cSl (As := [.long (vX9_foldVoices_12 S p1), .long ((rX9_ofVoice S (2 : Int32) (4 : Int32)).toInt64)]) (rest := []) ⟨hx, hb, hml, hown, hts⟩ (c_X9_fold l G cA a ha S L H.size (vX9_foldVoices_12 S p1) ((rX9_ofVoice S (2 : Int32) (4 : Int32)).toInt64)  ) (va_cwS 2 hts gX9_foldVoices_X9_fold rfl rfl rfl (by decide +kernel) ⟨Nat.le_of_ble_eq_true rfl, Nat.le_of_ble_eq_true rfl⟩) hK (mA_mono hS.1) hP hS rfl hl.1 rfl (lv_room (Nat.le_of_ble_eq_true rfl)) dX9_foldVoices_31 ⟨Nat.le_of_ble_eq_true rfl, Nat.le_of_ble_eq_true rfl⟩ (fun H locs hP hS _ _ => ?_)
  refine lv_lstore_n (lv' := [(3, .long (rX9_fold (vX9_foldVoices_12 S p1) ((rX9_ofVoice S (2 : Int32) (4 : Int32)).toInt64))), (6, .int 4), (5, .int 2), (0, .ref (a 0)), (1, .long p1)]) hx hb dX9_foldVoices_34 rfl hl (by decide) rfl (fun ls hl => ?_)
  refine lv_iinc (v := 5) (lv' := [(6, .int 5), (3, .long (rX9_fold (vX9_foldVoices_12 S p1) ((rX9_ofVoice S (2 : Int32) (4 : Int32)).toInt64))), (5, .int 2), (0, .ref (a 0)), (1, .long p1)]) hx hb dX9_foldVoices_35 hl (k := 1) rfl (by decide) (by decide) rfl (fun ls hl => ?_)
  refine lv_goto (tgt := 14) hx hb dX9_foldVoices_38 (by decide) ?_
  refine lv_iload hx hb dX9_foldVoices_14 (lv_at hl 0 rfl) ?_
  refine lv_bipush (v := 10) hx hb dX9_foldVoices_16 (by decide) ?_
  refine lv_icmp_ge (tgt := 41) hx hb dX9_foldVoices_18 (by decide) (fun c => absurd c (by decide)) (fun _ => ?_)
  refine lv_lload_n hx hb dX9_foldVoices_21 rfl (lv_at hl 1 rfl) ?_
  refine lv_aload_n hx hb dX9_foldVoices_22 rfl (lv_at hl 3 rfl) ?_
  refine lv_iload hx hb dX9_foldVoices_23 (lv_at hl 2 rfl) ?_
  refine lv_iload hx hb dX9_foldVoices_25 (lv_at hl 0 rfl) ?_
  refine g_cVi (As := [.int 2, .int 5]) (rest := [.long (rX9_fold (vX9_foldVoices_12 S p1) ((rX9_ofVoice S (2 : Int32) (4 : Int32)).toInt64))]) ⟨hx, hb, hml, hown, hts⟩ (c_X9_ofVoice l G cA a ha S L H.size (2 : Int32) (5 : Int32)  (by decide) (by decide) (by decide) (by decide)) (cwV 2 hts gX9_foldVoices_X9_ofVoice rfl rfl rfl (by decide +kernel) ⟨Nat.le_of_ble_eq_true rfl, Nat.le_of_ble_eq_true rfl⟩) (g_recv hK hP (by decide) rfl (C := RX9) (T := TX9) (N := 4) rfl) hK (mA_mono hS.1) hP hS rfl hl.1 rfl (lv_room (Nat.le_of_ble_eq_true rfl)) dX9_foldVoices_27 ⟨Nat.le_of_ble_eq_true rfl, Nat.le_of_ble_eq_true rfl⟩ (fun H locs hP hS _ _ => ?_)
  refine lv_i2l hx hb dX9_foldVoices_30 rfl ?_
  refine g_cSl (As := [.long (rX9_fold (vX9_foldVoices_12 S p1) ((rX9_ofVoice S (2 : Int32) (4 : Int32)).toInt64)), .long ((rX9_ofVoice S (2 : Int32) (5 : Int32)).toInt64)]) (rest := []) ⟨hx, hb, hml, hown, hts⟩ (c_X9_fold l G cA a ha S L H.size (rX9_fold (vX9_foldVoices_12 S p1) ((rX9_ofVoice S (2 : Int32) (4 : Int32)).toInt64)) ((rX9_ofVoice S (2 : Int32) (5 : Int32)).toInt64)  ) (va_cwS 2 hts gX9_foldVoices_X9_fold rfl rfl rfl (by decide +kernel) ⟨Nat.le_of_ble_eq_true rfl, Nat.le_of_ble_eq_true rfl⟩) hK (mA_mono hS.1) hP hS rfl hl.1 rfl (lv_room (Nat.le_of_ble_eq_true rfl)) dX9_foldVoices_31 ⟨Nat.le_of_ble_eq_true rfl, Nat.le_of_ble_eq_true rfl⟩ (fun H locs hP hS _ _ => ?_)
  refine W.eq (g2 := F0 m 34 ls [.long (vX9_foldVoices_13 S p1)]) rfl ?_
  refine lv_lstore_n (lv' := [(3, .long (vX9_foldVoices_13 S p1)), (6, .int 5), (5, .int 2), (0, .ref (a 0)), (1, .long p1)]) hx hb dX9_foldVoices_34 rfl hl (by decide) rfl (fun ls hl => ?_)
  refine lv_iinc (v := 6) (lv' := [(6, .int 6), (3, .long (vX9_foldVoices_13 S p1)), (5, .int 2), (0, .ref (a 0)), (1, .long p1)]) hx hb dX9_foldVoices_35 hl (k := 1) rfl (by decide) (by decide) rfl (fun ls hl => ?_)
  refine lv_goto (tgt := 14) hx hb dX9_foldVoices_38 (by decide) ?_
  refine lv_iload hx hb dX9_foldVoices_14 (lv_at hl 0 rfl) ?_
  refine lv_bipush (v := 10) hx hb dX9_foldVoices_16 (by decide) ?_
  refine lv_icmp_ge (tgt := 41) hx hb dX9_foldVoices_18 (by decide) (fun c => absurd c (by decide)) (fun _ => ?_)
  refine lv_lload_n hx hb dX9_foldVoices_21 rfl (lv_at hl 1 rfl) ?_
  refine lv_aload_n hx hb dX9_foldVoices_22 rfl (lv_at hl 3 rfl) ?_
  refine lv_iload hx hb dX9_foldVoices_23 (lv_at hl 2 rfl) ?_
  refine lv_iload hx hb dX9_foldVoices_25 (lv_at hl 0 rfl) ?_
  refine g_cVi (As := [.int 2, .int 6]) (rest := [.long (vX9_foldVoices_13 S p1)]) ⟨hx, hb, hml, hown, hts⟩ (c_X9_ofVoice l G cA a ha S L H.size (2 : Int32) (6 : Int32)  (by decide) (by decide) (by decide) (by decide)) (cwV 2 hts gX9_foldVoices_X9_ofVoice rfl rfl rfl (by decide +kernel) ⟨Nat.le_of_ble_eq_true rfl, Nat.le_of_ble_eq_true rfl⟩) (g_recv hK hP (by decide) rfl (C := RX9) (T := TX9) (N := 4) rfl) hK (mA_mono hS.1) hP hS rfl hl.1 rfl (lv_room (Nat.le_of_ble_eq_true rfl)) dX9_foldVoices_27 ⟨Nat.le_of_ble_eq_true rfl, Nat.le_of_ble_eq_true rfl⟩ (fun H locs hP hS _ _ => ?_)
  refine lv_i2l hx hb dX9_foldVoices_30 rfl ?_
  refine g_cSl (As := [.long (vX9_foldVoices_13 S p1), .long ((rX9_ofVoice S (2 : Int32) (6 : Int32)).toInt64)]) (rest := []) ⟨hx, hb, hml, hown, hts⟩ (c_X9_fold l G cA a ha S L H.size (vX9_foldVoices_13 S p1) ((rX9_ofVoice S (2 : Int32) (6 : Int32)).toInt64)  ) (va_cwS 2 hts gX9_foldVoices_X9_fold rfl rfl rfl (by decide +kernel) ⟨Nat.le_of_ble_eq_true rfl, Nat.le_of_ble_eq_true rfl⟩) hK (mA_mono hS.1) hP hS rfl hl.1 rfl (lv_room (Nat.le_of_ble_eq_true rfl)) dX9_foldVoices_31 ⟨Nat.le_of_ble_eq_true rfl, Nat.le_of_ble_eq_true rfl⟩ (fun H locs hP hS _ _ => ?_)
  refine lv_lstore_n (lv' := [(3, .long (rX9_fold (vX9_foldVoices_13 S p1) ((rX9_ofVoice S (2 : Int32) (6 : Int32)).toInt64))), (6, .int 6), (5, .int 2), (0, .ref (a 0)), (1, .long p1)]) hx hb dX9_foldVoices_34 rfl hl (by decide) rfl (fun ls hl => ?_)
  refine lv_iinc (v := 7) (lv' := [(6, .int 7), (3, .long (rX9_fold (vX9_foldVoices_13 S p1) ((rX9_ofVoice S (2 : Int32) (6 : Int32)).toInt64))), (5, .int 2), (0, .ref (a 0)), (1, .long p1)]) hx hb dX9_foldVoices_35 hl (k := 1) rfl (by decide) (by decide) rfl (fun ls hl => ?_)
  refine lv_goto (tgt := 14) hx hb dX9_foldVoices_38 (by decide) ?_
  refine lv_iload hx hb dX9_foldVoices_14 (lv_at hl 0 rfl) ?_
  refine lv_bipush (v := 10) hx hb dX9_foldVoices_16 (by decide) ?_
  refine lv_icmp_ge (tgt := 41) hx hb dX9_foldVoices_18 (by decide) (fun c => absurd c (by decide)) (fun _ => ?_)
  refine lv_lload_n hx hb dX9_foldVoices_21 rfl (lv_at hl 1 rfl) ?_
  refine lv_aload_n hx hb dX9_foldVoices_22 rfl (lv_at hl 3 rfl) ?_
  refine lv_iload hx hb dX9_foldVoices_23 (lv_at hl 2 rfl) ?_
  refine lv_iload hx hb dX9_foldVoices_25 (lv_at hl 0 rfl) ?_
  refine g_cVi (As := [.int 2, .int 7]) (rest := [.long (rX9_fold (vX9_foldVoices_13 S p1) ((rX9_ofVoice S (2 : Int32) (6 : Int32)).toInt64))]) ⟨hx, hb, hml, hown, hts⟩ (c_X9_ofVoice l G cA a ha S L H.size (2 : Int32) (7 : Int32)  (by decide) (by decide) (by decide) (by decide)) (cwV 2 hts gX9_foldVoices_X9_ofVoice rfl rfl rfl (by decide +kernel) ⟨Nat.le_of_ble_eq_true rfl, Nat.le_of_ble_eq_true rfl⟩) (g_recv hK hP (by decide) rfl (C := RX9) (T := TX9) (N := 4) rfl) hK (mA_mono hS.1) hP hS rfl hl.1 rfl (lv_room (Nat.le_of_ble_eq_true rfl)) dX9_foldVoices_27 ⟨Nat.le_of_ble_eq_true rfl, Nat.le_of_ble_eq_true rfl⟩ (fun H locs hP hS _ _ => ?_)
  refine lv_i2l hx hb dX9_foldVoices_30 rfl ?_
  refine g_cSl (As := [.long (rX9_fold (vX9_foldVoices_13 S p1) ((rX9_ofVoice S (2 : Int32) (6 : Int32)).toInt64)), .long ((rX9_ofVoice S (2 : Int32) (7 : Int32)).toInt64)]) (rest := []) ⟨hx, hb, hml, hown, hts⟩ (c_X9_fold l G cA a ha S L H.size (rX9_fold (vX9_foldVoices_13 S p1) ((rX9_ofVoice S (2 : Int32) (6 : Int32)).toInt64)) ((rX9_ofVoice S (2 : Int32) (7 : Int32)).toInt64)  ) (va_cwS 2 hts gX9_foldVoices_X9_fold rfl rfl rfl (by decide +kernel) ⟨Nat.le_of_ble_eq_true rfl, Nat.le_of_ble_eq_true rfl⟩) hK (mA_mono hS.1) hP hS rfl hl.1 rfl (lv_room (Nat.le_of_ble_eq_true rfl)) dX9_foldVoices_31 ⟨Nat.le_of_ble_eq_true rfl, Nat.le_of_ble_eq_true rfl⟩ (fun H locs hP hS _ _ => ?_)
  refine W.eq (g2 := F0 m 34 ls [.long (vX9_foldVoices_14 S p1)]) rfl ?_
  refine lv_lstore_n (lv' := [(3, .long (vX9_foldVoices_14 S p1)), (6, .int 7), (5, .int 2), (0, .ref (a 0)), (1, .long p1)]) hx hb dX9_foldVoices_34 rfl hl (by decide) rfl (fun ls hl => ?_)
  refine lv_iinc (v := 8) (lv' := [(6, .int 8), (3, .long (vX9_foldVoices_14 S p1)), (5, .int 2), (0, .ref (a 0)), (1, .long p1)]) hx hb dX9_foldVoices_35 hl (k := 1) rfl (by decide) (by decide) rfl (fun ls hl => ?_)
  refine lv_goto (tgt := 14) hx hb dX9_foldVoices_38 (by decide) ?_
  refine lv_iload hx hb dX9_foldVoices_14 (lv_at hl 0 rfl) ?_
  refine lv_bipush (v := 10) hx hb dX9_foldVoices_16 (by decide) ?_
  refine lv_icmp_ge (tgt := 41) hx hb dX9_foldVoices_18 (by decide) (fun c => absurd c (by decide)) (fun _ => ?_)
  refine lv_lload_n hx hb dX9_foldVoices_21 rfl (lv_at hl 1 rfl) ?_
  refine lv_aload_n hx hb dX9_foldVoices_22 rfl (lv_at hl 3 rfl) ?_
  refine lv_iload hx hb dX9_foldVoices_23 (lv_at hl 2 rfl) ?_
  refine lv_iload hx hb dX9_foldVoices_25 (lv_at hl 0 rfl) ?_
  refine g_cVi (As := [.int 2, .int 8]) (rest := [.long (vX9_foldVoices_14 S p1)]) ⟨hx, hb, hml, hown, hts⟩ (c_X9_ofVoice l G cA a ha S L H.size (2 : Int32) (8 : Int32)  (by decide) (by decide) (by decide) (by decide)) (cwV 2 hts gX9_foldVoices_X9_ofVoice rfl rfl rfl (by decide +kernel) ⟨Nat.le_of_ble_eq_true rfl, Nat.le_of_ble_eq_true rfl⟩) (g_recv hK hP (by decide) rfl (C := RX9) (T := TX9) (N := 4) rfl) hK (mA_mono hS.1) hP hS rfl hl.1 rfl (lv_room (Nat.le_of_ble_eq_true rfl)) dX9_foldVoices_27 ⟨Nat.le_of_ble_eq_true rfl, Nat.le_of_ble_eq_true rfl⟩ (fun H locs hP hS _ _ => ?_)
  refine lv_i2l hx hb dX9_foldVoices_30 rfl ?_
  refine g_cSl (As := [.long (vX9_foldVoices_14 S p1), .long ((rX9_ofVoice S (2 : Int32) (8 : Int32)).toInt64)]) (rest := []) ⟨hx, hb, hml, hown, hts⟩ (c_X9_fold l G cA a ha S L H.size (vX9_foldVoices_14 S p1) ((rX9_ofVoice S (2 : Int32) (8 : Int32)).toInt64)  ) (va_cwS 2 hts gX9_foldVoices_X9_fold rfl rfl rfl (by decide +kernel) ⟨Nat.le_of_ble_eq_true rfl, Nat.le_of_ble_eq_true rfl⟩) hK (mA_mono hS.1) hP hS rfl hl.1 rfl (lv_room (Nat.le_of_ble_eq_true rfl)) dX9_foldVoices_31 ⟨Nat.le_of_ble_eq_true rfl, Nat.le_of_ble_eq_true rfl⟩ (fun H locs hP hS _ _ => ?_)
  refine lv_lstore_n (lv' := [(3, .long (rX9_fold (vX9_foldVoices_14 S p1) ((rX9_ofVoice S (2 : Int32) (8 : Int32)).toInt64))), (6, .int 8), (5, .int 2), (0, .ref (a 0)), (1, .long p1)]) hx hb dX9_foldVoices_34 rfl hl (by decide) rfl (fun ls hl => ?_)
  refine lv_iinc (v := 9) (lv' := [(6, .int 9), (3, .long (rX9_fold (vX9_foldVoices_14 S p1) ((rX9_ofVoice S (2 : Int32) (8 : Int32)).toInt64))), (5, .int 2), (0, .ref (a 0)), (1, .long p1)]) hx hb dX9_foldVoices_35 hl (k := 1) rfl (by decide) (by decide) rfl (fun ls hl => ?_)
  refine lv_goto (tgt := 14) hx hb dX9_foldVoices_38 (by decide) ?_
  refine lv_iload hx hb dX9_foldVoices_14 (lv_at hl 0 rfl) ?_
  refine lv_bipush (v := 10) hx hb dX9_foldVoices_16 (by decide) ?_
  refine lv_icmp_ge (tgt := 41) hx hb dX9_foldVoices_18 (by decide) (fun c => absurd c (by decide)) (fun _ => ?_)
  refine lv_lload_n hx hb dX9_foldVoices_21 rfl (lv_at hl 1 rfl) ?_
  refine lv_aload_n hx hb dX9_foldVoices_22 rfl (lv_at hl 3 rfl) ?_
  refine lv_iload hx hb dX9_foldVoices_23 (lv_at hl 2 rfl) ?_
  refine lv_iload hx hb dX9_foldVoices_25 (lv_at hl 0 rfl) ?_
  refine g_cVi (As := [.int 2, .int 9]) (rest := [.long (rX9_fold (vX9_foldVoices_14 S p1) ((rX9_ofVoice S (2 : Int32) (8 : Int32)).toInt64))]) ⟨hx, hb, hml, hown, hts⟩ (c_X9_ofVoice l G cA a ha S L H.size (2 : Int32) (9 : Int32)  (by decide) (by decide) (by decide) (by decide)) (cwV 2 hts gX9_foldVoices_X9_ofVoice rfl rfl rfl (by decide +kernel) ⟨Nat.le_of_ble_eq_true rfl, Nat.le_of_ble_eq_true rfl⟩) (g_recv hK hP (by decide) rfl (C := RX9) (T := TX9) (N := 4) rfl) hK (mA_mono hS.1) hP hS rfl hl.1 rfl (lv_room (Nat.le_of_ble_eq_true rfl)) dX9_foldVoices_27 ⟨Nat.le_of_ble_eq_true rfl, Nat.le_of_ble_eq_true rfl⟩ (fun H locs hP hS _ _ => ?_)
  refine lv_i2l hx hb dX9_foldVoices_30 rfl ?_
  refine g_cSl (As := [.long (rX9_fold (vX9_foldVoices_14 S p1) ((rX9_ofVoice S (2 : Int32) (8 : Int32)).toInt64)), .long ((rX9_ofVoice S (2 : Int32) (9 : Int32)).toInt64)]) (rest := []) ⟨hx, hb, hml, hown, hts⟩ (c_X9_fold l G cA a ha S L H.size (rX9_fold (vX9_foldVoices_14 S p1) ((rX9_ofVoice S (2 : Int32) (8 : Int32)).toInt64)) ((rX9_ofVoice S (2 : Int32) (9 : Int32)).toInt64)  ) (va_cwS 2 hts gX9_foldVoices_X9_fold rfl rfl rfl (by decide +kernel) ⟨Nat.le_of_ble_eq_true rfl, Nat.le_of_ble_eq_true rfl⟩) hK (mA_mono hS.1) hP hS rfl hl.1 rfl (lv_room (Nat.le_of_ble_eq_true rfl)) dX9_foldVoices_31 ⟨Nat.le_of_ble_eq_true rfl, Nat.le_of_ble_eq_true rfl⟩ (fun H locs hP hS _ _ => ?_)
  refine W.eq (g2 := F0 m 34 ls [.long (vX9_foldVoices_15 S p1)]) rfl ?_
  refine lv_lstore_n (lv' := [(3, .long (vX9_foldVoices_15 S p1)), (6, .int 9), (5, .int 2), (0, .ref (a 0)), (1, .long p1)]) hx hb dX9_foldVoices_34 rfl hl (by decide) rfl (fun ls hl => ?_)
  refine lv_iinc (v := 10) (lv' := [(6, .int 10), (3, .long (vX9_foldVoices_15 S p1)), (5, .int 2), (0, .ref (a 0)), (1, .long p1)]) hx hb dX9_foldVoices_35 hl (k := 1) rfl (by decide) (by decide) rfl (fun ls hl => ?_)
  refine lv_goto (tgt := 14) hx hb dX9_foldVoices_38 (by decide) ?_
  refine lv_iload hx hb dX9_foldVoices_14 (lv_at hl 0 rfl) ?_
  refine lv_bipush (v := 10) hx hb dX9_foldVoices_16 (by decide) ?_
  refine lv_icmp_ge (tgt := 41) hx hb dX9_foldVoices_18 (by decide) (fun _ => ?_) (fun c => absurd c (by decide))
  refine lv_iinc (v := 3) (lv' := [(5, .int 3), (6, .int 10), (3, .long (vX9_foldVoices_15 S p1)), (0, .ref (a 0)), (1, .long p1)]) hx hb dX9_foldVoices_41 hl (k := 2) rfl (by decide) (by decide) rfl (fun ls hl => ?_)
  refine lv_goto (tgt := 5) hx hb dX9_foldVoices_44 (by decide) ?_
  refine lv_iload hx hb dX9_foldVoices_5 (lv_at hl 0 rfl) ?_
  refine lv_iconst (v := 4) hx hb dX9_foldVoices_7 (by decide) ?_
  refine lv_icmp_ge (tgt := 47) hx hb dX9_foldVoices_8 (by decide) (fun c => absurd c (by decide)) (fun _ => ?_)
  refine lv_iconst (v := 0) hx hb dX9_foldVoices_11 (by decide) ?_
  refine lv_istore (lv' := [(6, .int 0), (5, .int 3), (3, .long (vX9_foldVoices_15 S p1)), (0, .ref (a 0)), (1, .long p1)]) hx hb dX9_foldVoices_12 hl (by decide) rfl (fun ls hl => ?_)
  refine lv_iload hx hb dX9_foldVoices_14 (lv_at hl 0 rfl) ?_
  refine lv_bipush (v := 10) hx hb dX9_foldVoices_16 (by decide) ?_
  refine lv_icmp_ge (tgt := 41) hx hb dX9_foldVoices_18 (by decide) (fun c => absurd c (by decide)) (fun _ => ?_)
  refine lv_lload_n hx hb dX9_foldVoices_21 rfl (lv_at hl 2 rfl) ?_
  refine lv_aload_n hx hb dX9_foldVoices_22 rfl (lv_at hl 3 rfl) ?_
  refine lv_iload hx hb dX9_foldVoices_23 (lv_at hl 1 rfl) ?_
  refine lv_iload hx hb dX9_foldVoices_25 (lv_at hl 0 rfl) ?_
  refine g_cVi (As := [.int 3, .int 0]) (rest := [.long (vX9_foldVoices_15 S p1)]) ⟨hx, hb, hml, hown, hts⟩ (c_X9_ofVoice l G cA a ha S L H.size (3 : Int32) (0 : Int32)  (by decide) (by decide) (by decide) (by decide)) (cwV 2 hts gX9_foldVoices_X9_ofVoice rfl rfl rfl (by decide +kernel) ⟨Nat.le_of_ble_eq_true rfl, Nat.le_of_ble_eq_true rfl⟩) (g_recv hK hP (by decide) rfl (C := RX9) (T := TX9) (N := 4) rfl) hK (mA_mono hS.1) hP hS rfl hl.1 rfl (lv_room (Nat.le_of_ble_eq_true rfl)) dX9_foldVoices_27 ⟨Nat.le_of_ble_eq_true rfl, Nat.le_of_ble_eq_true rfl⟩ (fun H locs hP hS _ _ => ?_)
  refine lv_i2l hx hb dX9_foldVoices_30 rfl ?_
  refine g_cSl (As := [.long (vX9_foldVoices_15 S p1), .long ((rX9_ofVoice S (3 : Int32) (0 : Int32)).toInt64)]) (rest := []) ⟨hx, hb, hml, hown, hts⟩ (c_X9_fold l G cA a ha S L H.size (vX9_foldVoices_15 S p1) ((rX9_ofVoice S (3 : Int32) (0 : Int32)).toInt64)  ) (va_cwS 2 hts gX9_foldVoices_X9_fold rfl rfl rfl (by decide +kernel) ⟨Nat.le_of_ble_eq_true rfl, Nat.le_of_ble_eq_true rfl⟩) hK (mA_mono hS.1) hP hS rfl hl.1 rfl (lv_room (Nat.le_of_ble_eq_true rfl)) dX9_foldVoices_31 ⟨Nat.le_of_ble_eq_true rfl, Nat.le_of_ble_eq_true rfl⟩ (fun H locs hP hS _ _ => ?_)
  refine lv_lstore_n (lv' := [(3, .long (rX9_fold (vX9_foldVoices_15 S p1) ((rX9_ofVoice S (3 : Int32) (0 : Int32)).toInt64))), (6, .int 0), (5, .int 3), (0, .ref (a 0)), (1, .long p1)]) hx hb dX9_foldVoices_34 rfl hl (by decide) rfl (fun ls hl => ?_)
  refine lv_iinc (v := 1) (lv' := [(6, .int 1), (3, .long (rX9_fold (vX9_foldVoices_15 S p1) ((rX9_ofVoice S (3 : Int32) (0 : Int32)).toInt64))), (5, .int 3), (0, .ref (a 0)), (1, .long p1)]) hx hb dX9_foldVoices_35 hl (k := 1) rfl (by decide) (by decide) rfl (fun ls hl => ?_)
  refine lv_goto (tgt := 14) hx hb dX9_foldVoices_38 (by decide) ?_
  refine lv_iload hx hb dX9_foldVoices_14 (lv_at hl 0 rfl) ?_
  refine lv_bipush (v := 10) hx hb dX9_foldVoices_16 (by decide) ?_
  refine lv_icmp_ge (tgt := 41) hx hb dX9_foldVoices_18 (by decide) (fun c => absurd c (by decide)) (fun _ => ?_)
  refine lv_lload_n hx hb dX9_foldVoices_21 rfl (lv_at hl 1 rfl) ?_
  refine lv_aload_n hx hb dX9_foldVoices_22 rfl (lv_at hl 3 rfl) ?_
  refine lv_iload hx hb dX9_foldVoices_23 (lv_at hl 2 rfl) ?_
  refine lv_iload hx hb dX9_foldVoices_25 (lv_at hl 0 rfl) ?_
  refine g_cVi (As := [.int 3, .int 1]) (rest := [.long (rX9_fold (vX9_foldVoices_15 S p1) ((rX9_ofVoice S (3 : Int32) (0 : Int32)).toInt64))]) ⟨hx, hb, hml, hown, hts⟩ (c_X9_ofVoice l G cA a ha S L H.size (3 : Int32) (1 : Int32)  (by decide) (by decide) (by decide) (by decide)) (cwV 2 hts gX9_foldVoices_X9_ofVoice rfl rfl rfl (by decide +kernel) ⟨Nat.le_of_ble_eq_true rfl, Nat.le_of_ble_eq_true rfl⟩) (g_recv hK hP (by decide) rfl (C := RX9) (T := TX9) (N := 4) rfl) hK (mA_mono hS.1) hP hS rfl hl.1 rfl (lv_room (Nat.le_of_ble_eq_true rfl)) dX9_foldVoices_27 ⟨Nat.le_of_ble_eq_true rfl, Nat.le_of_ble_eq_true rfl⟩ (fun H locs hP hS _ _ => ?_)
  refine lv_i2l hx hb dX9_foldVoices_30 rfl ?_
  refine g_cSl (As := [.long (rX9_fold (vX9_foldVoices_15 S p1) ((rX9_ofVoice S (3 : Int32) (0 : Int32)).toInt64)), .long ((rX9_ofVoice S (3 : Int32) (1 : Int32)).toInt64)]) (rest := []) ⟨hx, hb, hml, hown, hts⟩ (c_X9_fold l G cA a ha S L H.size (rX9_fold (vX9_foldVoices_15 S p1) ((rX9_ofVoice S (3 : Int32) (0 : Int32)).toInt64)) ((rX9_ofVoice S (3 : Int32) (1 : Int32)).toInt64)  ) (va_cwS 2 hts gX9_foldVoices_X9_fold rfl rfl rfl (by decide +kernel) ⟨Nat.le_of_ble_eq_true rfl, Nat.le_of_ble_eq_true rfl⟩) hK (mA_mono hS.1) hP hS rfl hl.1 rfl (lv_room (Nat.le_of_ble_eq_true rfl)) dX9_foldVoices_31 ⟨Nat.le_of_ble_eq_true rfl, Nat.le_of_ble_eq_true rfl⟩ (fun H locs hP hS _ _ => ?_)
  refine W.eq (g2 := F0 m 34 ls [.long (vX9_foldVoices_16 S p1)]) rfl ?_
  refine lv_lstore_n (lv' := [(3, .long (vX9_foldVoices_16 S p1)), (6, .int 1), (5, .int 3), (0, .ref (a 0)), (1, .long p1)]) hx hb dX9_foldVoices_34 rfl hl (by decide) rfl (fun ls hl => ?_)
  refine lv_iinc (v := 2) (lv' := [(6, .int 2), (3, .long (vX9_foldVoices_16 S p1)), (5, .int 3), (0, .ref (a 0)), (1, .long p1)]) hx hb dX9_foldVoices_35 hl (k := 1) rfl (by decide) (by decide) rfl (fun ls hl => ?_)
  refine lv_goto (tgt := 14) hx hb dX9_foldVoices_38 (by decide) ?_
  refine lv_iload hx hb dX9_foldVoices_14 (lv_at hl 0 rfl) ?_
  refine lv_bipush (v := 10) hx hb dX9_foldVoices_16 (by decide) ?_
  refine lv_icmp_ge (tgt := 41) hx hb dX9_foldVoices_18 (by decide) (fun c => absurd c (by decide)) (fun _ => ?_)
  refine lv_lload_n hx hb dX9_foldVoices_21 rfl (lv_at hl 1 rfl) ?_
  refine lv_aload_n hx hb dX9_foldVoices_22 rfl (lv_at hl 3 rfl) ?_
  refine lv_iload hx hb dX9_foldVoices_23 (lv_at hl 2 rfl) ?_
  refine lv_iload hx hb dX9_foldVoices_25 (lv_at hl 0 rfl) ?_
  refine g_cVi (As := [.int 3, .int 2]) (rest := [.long (vX9_foldVoices_16 S p1)]) ⟨hx, hb, hml, hown, hts⟩ (c_X9_ofVoice l G cA a ha S L H.size (3 : Int32) (2 : Int32)  (by decide) (by decide) (by decide) (by decide)) (cwV 2 hts gX9_foldVoices_X9_ofVoice rfl rfl rfl (by decide +kernel) ⟨Nat.le_of_ble_eq_true rfl, Nat.le_of_ble_eq_true rfl⟩) (g_recv hK hP (by decide) rfl (C := RX9) (T := TX9) (N := 4) rfl) hK (mA_mono hS.1) hP hS rfl hl.1 rfl (lv_room (Nat.le_of_ble_eq_true rfl)) dX9_foldVoices_27 ⟨Nat.le_of_ble_eq_true rfl, Nat.le_of_ble_eq_true rfl⟩ (fun H locs hP hS _ _ => ?_)
  refine lv_i2l hx hb dX9_foldVoices_30 rfl ?_
  refine g_cSl (As := [.long (vX9_foldVoices_16 S p1), .long ((rX9_ofVoice S (3 : Int32) (2 : Int32)).toInt64)]) (rest := []) ⟨hx, hb, hml, hown, hts⟩ (c_X9_fold l G cA a ha S L H.size (vX9_foldVoices_16 S p1) ((rX9_ofVoice S (3 : Int32) (2 : Int32)).toInt64)  ) (va_cwS 2 hts gX9_foldVoices_X9_fold rfl rfl rfl (by decide +kernel) ⟨Nat.le_of_ble_eq_true rfl, Nat.le_of_ble_eq_true rfl⟩) hK (mA_mono hS.1) hP hS rfl hl.1 rfl (lv_room (Nat.le_of_ble_eq_true rfl)) dX9_foldVoices_31 ⟨Nat.le_of_ble_eq_true rfl, Nat.le_of_ble_eq_true rfl⟩ (fun H locs hP hS _ _ => ?_)
  refine lv_lstore_n (lv' := [(3, .long (rX9_fold (vX9_foldVoices_16 S p1) ((rX9_ofVoice S (3 : Int32) (2 : Int32)).toInt64))), (6, .int 2), (5, .int 3), (0, .ref (a 0)), (1, .long p1)]) hx hb dX9_foldVoices_34 rfl hl (by decide) rfl (fun ls hl => ?_)
  refine lv_iinc (v := 3) (lv' := [(6, .int 3), (3, .long (rX9_fold (vX9_foldVoices_16 S p1) ((rX9_ofVoice S (3 : Int32) (2 : Int32)).toInt64))), (5, .int 3), (0, .ref (a 0)), (1, .long p1)]) hx hb dX9_foldVoices_35 hl (k := 1) rfl (by decide) (by decide) rfl (fun ls hl => ?_)
  refine lv_goto (tgt := 14) hx hb dX9_foldVoices_38 (by decide) ?_
  refine lv_iload hx hb dX9_foldVoices_14 (lv_at hl 0 rfl) ?_
  refine lv_bipush (v := 10) hx hb dX9_foldVoices_16 (by decide) ?_
  refine lv_icmp_ge (tgt := 41) hx hb dX9_foldVoices_18 (by decide) (fun c => absurd c (by decide)) (fun _ => ?_)
  refine lv_lload_n hx hb dX9_foldVoices_21 rfl (lv_at hl 1 rfl) ?_
  refine lv_aload_n hx hb dX9_foldVoices_22 rfl (lv_at hl 3 rfl) ?_
  refine lv_iload hx hb dX9_foldVoices_23 (lv_at hl 2 rfl) ?_
  refine lv_iload hx hb dX9_foldVoices_25 (lv_at hl 0 rfl) ?_
  refine g_cVi (As := [.int 3, .int 3]) (rest := [.long (rX9_fold (vX9_foldVoices_16 S p1) ((rX9_ofVoice S (3 : Int32) (2 : Int32)).toInt64))]) ⟨hx, hb, hml, hown, hts⟩ (c_X9_ofVoice l G cA a ha S L H.size (3 : Int32) (3 : Int32)  (by decide) (by decide) (by decide) (by decide)) (cwV 2 hts gX9_foldVoices_X9_ofVoice rfl rfl rfl (by decide +kernel) ⟨Nat.le_of_ble_eq_true rfl, Nat.le_of_ble_eq_true rfl⟩) (g_recv hK hP (by decide) rfl (C := RX9) (T := TX9) (N := 4) rfl) hK (mA_mono hS.1) hP hS rfl hl.1 rfl (lv_room (Nat.le_of_ble_eq_true rfl)) dX9_foldVoices_27 ⟨Nat.le_of_ble_eq_true rfl, Nat.le_of_ble_eq_true rfl⟩ (fun H locs hP hS _ _ => ?_)
  refine lv_i2l hx hb dX9_foldVoices_30 rfl ?_
  refine g_cSl (As := [.long (rX9_fold (vX9_foldVoices_16 S p1) ((rX9_ofVoice S (3 : Int32) (2 : Int32)).toInt64)), .long ((rX9_ofVoice S (3 : Int32) (3 : Int32)).toInt64)]) (rest := []) ⟨hx, hb, hml, hown, hts⟩ (c_X9_fold l G cA a ha S L H.size (rX9_fold (vX9_foldVoices_16 S p1) ((rX9_ofVoice S (3 : Int32) (2 : Int32)).toInt64)) ((rX9_ofVoice S (3 : Int32) (3 : Int32)).toInt64)  ) (va_cwS 2 hts gX9_foldVoices_X9_fold rfl rfl rfl (by decide +kernel) ⟨Nat.le_of_ble_eq_true rfl, Nat.le_of_ble_eq_true rfl⟩) hK (mA_mono hS.1) hP hS rfl hl.1 rfl (lv_room (Nat.le_of_ble_eq_true rfl)) dX9_foldVoices_31 ⟨Nat.le_of_ble_eq_true rfl, Nat.le_of_ble_eq_true rfl⟩ (fun H locs hP hS _ _ => ?_)
  refine W.eq (g2 := F0 m 34 ls [.long (vX9_foldVoices_17 S p1)]) rfl ?_
  refine lv_lstore_n (lv' := [(3, .long (vX9_foldVoices_17 S p1)), (6, .int 3), (5, .int 3), (0, .ref (a 0)), (1, .long p1)]) hx hb dX9_foldVoices_34 rfl hl (by decide) rfl (fun ls hl => ?_)
  refine lv_iinc (v := 4) (lv' := [(6, .int 4), (3, .long (vX9_foldVoices_17 S p1)), (5, .int 3), (0, .ref (a 0)), (1, .long p1)]) hx hb dX9_foldVoices_35 hl (k := 1) rfl (by decide) (by decide) rfl (fun ls hl => ?_)
  refine lv_goto (tgt := 14) hx hb dX9_foldVoices_38 (by decide) ?_
  refine lv_iload hx hb dX9_foldVoices_14 (lv_at hl 0 rfl) ?_
  refine lv_bipush (v := 10) hx hb dX9_foldVoices_16 (by decide) ?_
  refine lv_icmp_ge (tgt := 41) hx hb dX9_foldVoices_18 (by decide) (fun c => absurd c (by decide)) (fun _ => ?_)
  refine lv_lload_n hx hb dX9_foldVoices_21 rfl (lv_at hl 1 rfl) ?_
  refine lv_aload_n hx hb dX9_foldVoices_22 rfl (lv_at hl 3 rfl) ?_
  refine lv_iload hx hb dX9_foldVoices_23 (lv_at hl 2 rfl) ?_
  refine lv_iload hx hb dX9_foldVoices_25 (lv_at hl 0 rfl) ?_
  refine g_cVi (As := [.int 3, .int 4]) (rest := [.long (vX9_foldVoices_17 S p1)]) ⟨hx, hb, hml, hown, hts⟩ (c_X9_ofVoice l G cA a ha S L H.size (3 : Int32) (4 : Int32)  (by decide) (by decide) (by decide) (by decide)) (cwV 2 hts gX9_foldVoices_X9_ofVoice rfl rfl rfl (by decide +kernel) ⟨Nat.le_of_ble_eq_true rfl, Nat.le_of_ble_eq_true rfl⟩) (g_recv hK hP (by decide) rfl (C := RX9) (T := TX9) (N := 4) rfl) hK (mA_mono hS.1) hP hS rfl hl.1 rfl (lv_room (Nat.le_of_ble_eq_true rfl)) dX9_foldVoices_27 ⟨Nat.le_of_ble_eq_true rfl, Nat.le_of_ble_eq_true rfl⟩ (fun H locs hP hS _ _ => ?_)
  refine lv_i2l hx hb dX9_foldVoices_30 rfl ?_
  refine g_cSl (As := [.long (vX9_foldVoices_17 S p1), .long ((rX9_ofVoice S (3 : Int32) (4 : Int32)).toInt64)]) (rest := []) ⟨hx, hb, hml, hown, hts⟩ (c_X9_fold l G cA a ha S L H.size (vX9_foldVoices_17 S p1) ((rX9_ofVoice S (3 : Int32) (4 : Int32)).toInt64)  ) (va_cwS 2 hts gX9_foldVoices_X9_fold rfl rfl rfl (by decide +kernel) ⟨Nat.le_of_ble_eq_true rfl, Nat.le_of_ble_eq_true rfl⟩) hK (mA_mono hS.1) hP hS rfl hl.1 rfl (lv_room (Nat.le_of_ble_eq_true rfl)) dX9_foldVoices_31 ⟨Nat.le_of_ble_eq_true rfl, Nat.le_of_ble_eq_true rfl⟩ (fun H locs hP hS _ _ => ?_)
  refine lv_lstore_n (lv' := [(3, .long (rX9_fold (vX9_foldVoices_17 S p1) ((rX9_ofVoice S (3 : Int32) (4 : Int32)).toInt64))), (6, .int 4), (5, .int 3), (0, .ref (a 0)), (1, .long p1)]) hx hb dX9_foldVoices_34 rfl hl (by decide) rfl (fun ls hl => ?_)
  refine lv_iinc (v := 5) (lv' := [(6, .int 5), (3, .long (rX9_fold (vX9_foldVoices_17 S p1) ((rX9_ofVoice S (3 : Int32) (4 : Int32)).toInt64))), (5, .int 3), (0, .ref (a 0)), (1, .long p1)]) hx hb dX9_foldVoices_35 hl (k := 1) rfl (by decide) (by decide) rfl (fun ls hl => ?_)
  refine lv_goto (tgt := 14) hx hb dX9_foldVoices_38 (by decide) ?_
  refine lv_iload hx hb dX9_foldVoices_14 (lv_at hl 0 rfl) ?_
  refine lv_bipush (v := 10) hx hb dX9_foldVoices_16 (by decide) ?_
  refine lv_icmp_ge (tgt := 41) hx hb dX9_foldVoices_18 (by decide) (fun c => absurd c (by decide)) (fun _ => ?_)
  refine lv_lload_n hx hb dX9_foldVoices_21 rfl (lv_at hl 1 rfl) ?_
  refine lv_aload_n hx hb dX9_foldVoices_22 rfl (lv_at hl 3 rfl) ?_
  refine lv_iload hx hb dX9_foldVoices_23 (lv_at hl 2 rfl) ?_
  refine lv_iload hx hb dX9_foldVoices_25 (lv_at hl 0 rfl) ?_
  refine g_cVi (As := [.int 3, .int 5]) (rest := [.long (rX9_fold (vX9_foldVoices_17 S p1) ((rX9_ofVoice S (3 : Int32) (4 : Int32)).toInt64))]) ⟨hx, hb, hml, hown, hts⟩ (c_X9_ofVoice l G cA a ha S L H.size (3 : Int32) (5 : Int32)  (by decide) (by decide) (by decide) (by decide)) (cwV 2 hts gX9_foldVoices_X9_ofVoice rfl rfl rfl (by decide +kernel) ⟨Nat.le_of_ble_eq_true rfl, Nat.le_of_ble_eq_true rfl⟩) (g_recv hK hP (by decide) rfl (C := RX9) (T := TX9) (N := 4) rfl) hK (mA_mono hS.1) hP hS rfl hl.1 rfl (lv_room (Nat.le_of_ble_eq_true rfl)) dX9_foldVoices_27 ⟨Nat.le_of_ble_eq_true rfl, Nat.le_of_ble_eq_true rfl⟩ (fun H locs hP hS _ _ => ?_)
  refine lv_i2l hx hb dX9_foldVoices_30 rfl ?_
  refine g_cSl (As := [.long (rX9_fold (vX9_foldVoices_17 S p1) ((rX9_ofVoice S (3 : Int32) (4 : Int32)).toInt64)), .long ((rX9_ofVoice S (3 : Int32) (5 : Int32)).toInt64)]) (rest := []) ⟨hx, hb, hml, hown, hts⟩ (c_X9_fold l G cA a ha S L H.size (rX9_fold (vX9_foldVoices_17 S p1) ((rX9_ofVoice S (3 : Int32) (4 : Int32)).toInt64)) ((rX9_ofVoice S (3 : Int32) (5 : Int32)).toInt64)  ) (va_cwS 2 hts gX9_foldVoices_X9_fold rfl rfl rfl (by decide +kernel) ⟨Nat.le_of_ble_eq_true rfl, Nat.le_of_ble_eq_true rfl⟩) hK (mA_mono hS.1) hP hS rfl hl.1 rfl (lv_room (Nat.le_of_ble_eq_true rfl)) dX9_foldVoices_31 ⟨Nat.le_of_ble_eq_true rfl, Nat.le_of_ble_eq_true rfl⟩ (fun H locs hP hS _ _ => ?_)
  refine W.eq (g2 := F0 m 34 ls [.long (vX9_foldVoices_18 S p1)]) rfl ?_
  refine lv_lstore_n (lv' := [(3, .long (vX9_foldVoices_18 S p1)), (6, .int 5), (5, .int 3), (0, .ref (a 0)), (1, .long p1)]) hx hb dX9_foldVoices_34 rfl hl (by decide) rfl (fun ls hl => ?_)
  refine lv_iinc (v := 6) (lv' := [(6, .int 6), (3, .long (vX9_foldVoices_18 S p1)), (5, .int 3), (0, .ref (a 0)), (1, .long p1)]) hx hb dX9_foldVoices_35 hl (k := 1) rfl (by decide) (by decide) rfl (fun ls hl => ?_)
  refine lv_goto (tgt := 14) hx hb dX9_foldVoices_38 (by decide) ?_
  refine lv_iload hx hb dX9_foldVoices_14 (lv_at hl 0 rfl) ?_
  refine lv_bipush (v := 10) hx hb dX9_foldVoices_16 (by decide) ?_
  refine lv_icmp_ge (tgt := 41) hx hb dX9_foldVoices_18 (by decide) (fun c => absurd c (by decide)) (fun _ => ?_)
  refine lv_lload_n hx hb dX9_foldVoices_21 rfl (lv_at hl 1 rfl) ?_
  refine lv_aload_n hx hb dX9_foldVoices_22 rfl (lv_at hl 3 rfl) ?_
  refine lv_iload hx hb dX9_foldVoices_23 (lv_at hl 2 rfl) ?_
  refine lv_iload hx hb dX9_foldVoices_25 (lv_at hl 0 rfl) ?_
  refine g_cVi (As := [.int 3, .int 6]) (rest := [.long (vX9_foldVoices_18 S p1)]) ⟨hx, hb, hml, hown, hts⟩ (c_X9_ofVoice l G cA a ha S L H.size (3 : Int32) (6 : Int32)  (by decide) (by decide) (by decide) (by decide)) (cwV 2 hts gX9_foldVoices_X9_ofVoice rfl rfl rfl (by decide +kernel) ⟨Nat.le_of_ble_eq_true rfl, Nat.le_of_ble_eq_true rfl⟩) (g_recv hK hP (by decide) rfl (C := RX9) (T := TX9) (N := 4) rfl) hK (mA_mono hS.1) hP hS rfl hl.1 rfl (lv_room (Nat.le_of_ble_eq_true rfl)) dX9_foldVoices_27 ⟨Nat.le_of_ble_eq_true rfl, Nat.le_of_ble_eq_true rfl⟩ (fun H locs hP hS _ _ => ?_)
  refine lv_i2l hx hb dX9_foldVoices_30 rfl ?_
  refine g_cSl (As := [.long (vX9_foldVoices_18 S p1), .long ((rX9_ofVoice S (3 : Int32) (6 : Int32)).toInt64)]) (rest := []) ⟨hx, hb, hml, hown, hts⟩ (c_X9_fold l G cA a ha S L H.size (vX9_foldVoices_18 S p1) ((rX9_ofVoice S (3 : Int32) (6 : Int32)).toInt64)  ) (va_cwS 2 hts gX9_foldVoices_X9_fold rfl rfl rfl (by decide +kernel) ⟨Nat.le_of_ble_eq_true rfl, Nat.le_of_ble_eq_true rfl⟩) hK (mA_mono hS.1) hP hS rfl hl.1 rfl (lv_room (Nat.le_of_ble_eq_true rfl)) dX9_foldVoices_31 ⟨Nat.le_of_ble_eq_true rfl, Nat.le_of_ble_eq_true rfl⟩ (fun H locs hP hS _ _ => ?_)
  refine lv_lstore_n (lv' := [(3, .long (rX9_fold (vX9_foldVoices_18 S p1) ((rX9_ofVoice S (3 : Int32) (6 : Int32)).toInt64))), (6, .int 6), (5, .int 3), (0, .ref (a 0)), (1, .long p1)]) hx hb dX9_foldVoices_34 rfl hl (by decide) rfl (fun ls hl => ?_)
  refine lv_iinc (v := 7) (lv' := [(6, .int 7), (3, .long (rX9_fold (vX9_foldVoices_18 S p1) ((rX9_ofVoice S (3 : Int32) (6 : Int32)).toInt64))), (5, .int 3), (0, .ref (a 0)), (1, .long p1)]) hx hb dX9_foldVoices_35 hl (k := 1) rfl (by decide) (by decide) rfl (fun ls hl => ?_)
  refine lv_goto (tgt := 14) hx hb dX9_foldVoices_38 (by decide) ?_
  refine lv_iload hx hb dX9_foldVoices_14 (lv_at hl 0 rfl) ?_
  refine lv_bipush (v := 10) hx hb dX9_foldVoices_16 (by decide) ?_
  refine lv_icmp_ge (tgt := 41) hx hb dX9_foldVoices_18 (by decide) (fun c => absurd c (by decide)) (fun _ => ?_)
  refine lv_lload_n hx hb dX9_foldVoices_21 rfl (lv_at hl 1 rfl) ?_
  refine lv_aload_n hx hb dX9_foldVoices_22 rfl (lv_at hl 3 rfl) ?_
  refine lv_iload hx hb dX9_foldVoices_23 (lv_at hl 2 rfl) ?_
  refine lv_iload hx hb dX9_foldVoices_25 (lv_at hl 0 rfl) ?_
  refine g_cVi (As := [.int 3, .int 7]) (rest := [.long (rX9_fold (vX9_foldVoices_18 S p1) ((rX9_ofVoice S (3 : Int32) (6 : Int32)).toInt64))]) ⟨hx, hb, hml, hown, hts⟩ (c_X9_ofVoice l G cA a ha S L H.size (3 : Int32) (7 : Int32)  (by decide) (by decide) (by decide) (by decide)) (cwV 2 hts gX9_foldVoices_X9_ofVoice rfl rfl rfl (by decide +kernel) ⟨Nat.le_of_ble_eq_true rfl, Nat.le_of_ble_eq_true rfl⟩) (g_recv hK hP (by decide) rfl (C := RX9) (T := TX9) (N := 4) rfl) hK (mA_mono hS.1) hP hS rfl hl.1 rfl (lv_room (Nat.le_of_ble_eq_true rfl)) dX9_foldVoices_27 ⟨Nat.le_of_ble_eq_true rfl, Nat.le_of_ble_eq_true rfl⟩ (fun H locs hP hS _ _ => ?_)
  refine lv_i2l hx hb dX9_foldVoices_30 rfl ?_
  refine g_cSl (As := [.long (rX9_fold (vX9_foldVoices_18 S p1) ((rX9_ofVoice S (3 : Int32) (6 : Int32)).toInt64)), .long ((rX9_ofVoice S (3 : Int32) (7 : Int32)).toInt64)]) (rest := []) ⟨hx, hb, hml, hown, hts⟩ (c_X9_fold l G cA a ha S L H.size (rX9_fold (vX9_foldVoices_18 S p1) ((rX9_ofVoice S (3 : Int32) (6 : Int32)).toInt64)) ((rX9_ofVoice S (3 : Int32) (7 : Int32)).toInt64)  ) (va_cwS 2 hts gX9_foldVoices_X9_fold rfl rfl rfl (by decide +kernel) ⟨Nat.le_of_ble_eq_true rfl, Nat.le_of_ble_eq_true rfl⟩) hK (mA_mono hS.1) hP hS rfl hl.1 rfl (lv_room (Nat.le_of_ble_eq_true rfl)) dX9_foldVoices_31 ⟨Nat.le_of_ble_eq_true rfl, Nat.le_of_ble_eq_true rfl⟩ (fun H locs hP hS _ _ => ?_)
  refine W.eq (g2 := F0 m 34 ls [.long (vX9_foldVoices_19 S p1)]) rfl ?_
  refine lv_lstore_n (lv' := [(3, .long (vX9_foldVoices_19 S p1)), (6, .int 7), (5, .int 3), (0, .ref (a 0)), (1, .long p1)]) hx hb dX9_foldVoices_34 rfl hl (by decide) rfl (fun ls hl => ?_)
  refine lv_iinc (v := 8) (lv' := [(6, .int 8), (3, .long (vX9_foldVoices_19 S p1)), (5, .int 3), (0, .ref (a 0)), (1, .long p1)]) hx hb dX9_foldVoices_35 hl (k := 1) rfl (by decide) (by decide) rfl (fun ls hl => ?_)
  refine lv_goto (tgt := 14) hx hb dX9_foldVoices_38 (by decide) ?_
  refine lv_iload hx hb dX9_foldVoices_14 (lv_at hl 0 rfl) ?_
  refine lv_bipush (v := 10) hx hb dX9_foldVoices_16 (by decide) ?_
  refine lv_icmp_ge (tgt := 41) hx hb dX9_foldVoices_18 (by decide) (fun c => absurd c (by decide)) (fun _ => ?_)
  refine lv_lload_n hx hb dX9_foldVoices_21 rfl (lv_at hl 1 rfl) ?_
  refine lv_aload_n hx hb dX9_foldVoices_22 rfl (lv_at hl 3 rfl) ?_
  refine lv_iload hx hb dX9_foldVoices_23 (lv_at hl 2 rfl) ?_
  refine lv_iload hx hb dX9_foldVoices_25 (lv_at hl 0 rfl) ?_
  refine g_cVi (As := [.int 3, .int 8]) (rest := [.long (vX9_foldVoices_19 S p1)]) ⟨hx, hb, hml, hown, hts⟩ (c_X9_ofVoice l G cA a ha S L H.size (3 : Int32) (8 : Int32)  (by decide) (by decide) (by decide) (by decide)) (cwV 2 hts gX9_foldVoices_X9_ofVoice rfl rfl rfl (by decide +kernel) ⟨Nat.le_of_ble_eq_true rfl, Nat.le_of_ble_eq_true rfl⟩) (g_recv hK hP (by decide) rfl (C := RX9) (T := TX9) (N := 4) rfl) hK (mA_mono hS.1) hP hS rfl hl.1 rfl (lv_room (Nat.le_of_ble_eq_true rfl)) dX9_foldVoices_27 ⟨Nat.le_of_ble_eq_true rfl, Nat.le_of_ble_eq_true rfl⟩ (fun H locs hP hS _ _ => ?_)
  refine lv_i2l hx hb dX9_foldVoices_30 rfl ?_
  refine g_cSl (As := [.long (vX9_foldVoices_19 S p1), .long ((rX9_ofVoice S (3 : Int32) (8 : Int32)).toInt64)]) (rest := []) ⟨hx, hb, hml, hown, hts⟩ (c_X9_fold l G cA a ha S L H.size (vX9_foldVoices_19 S p1) ((rX9_ofVoice S (3 : Int32) (8 : Int32)).toInt64)  ) (va_cwS 2 hts gX9_foldVoices_X9_fold rfl rfl rfl (by decide +kernel) ⟨Nat.le_of_ble_eq_true rfl, Nat.le_of_ble_eq_true rfl⟩) hK (mA_mono hS.1) hP hS rfl hl.1 rfl (lv_room (Nat.le_of_ble_eq_true rfl)) dX9_foldVoices_31 ⟨Nat.le_of_ble_eq_true rfl, Nat.le_of_ble_eq_true rfl⟩ (fun H locs hP hS _ _ => ?_)
  refine lv_lstore_n (lv' := [(3, .long (rX9_fold (vX9_foldVoices_19 S p1) ((rX9_ofVoice S (3 : Int32) (8 : Int32)).toInt64))), (6, .int 8), (5, .int 3), (0, .ref (a 0)), (1, .long p1)]) hx hb dX9_foldVoices_34 rfl hl (by decide) rfl (fun ls hl => ?_)
  refine lv_iinc (v := 9) (lv' := [(6, .int 9), (3, .long (rX9_fold (vX9_foldVoices_19 S p1) ((rX9_ofVoice S (3 : Int32) (8 : Int32)).toInt64))), (5, .int 3), (0, .ref (a 0)), (1, .long p1)]) hx hb dX9_foldVoices_35 hl (k := 1) rfl (by decide) (by decide) rfl (fun ls hl => ?_)
  refine lv_goto (tgt := 14) hx hb dX9_foldVoices_38 (by decide) ?_
  refine lv_iload hx hb dX9_foldVoices_14 (lv_at hl 0 rfl) ?_
  refine lv_bipush (v := 10) hx hb dX9_foldVoices_16 (by decide) ?_
  refine lv_icmp_ge (tgt := 41) hx hb dX9_foldVoices_18 (by decide) (fun c => absurd c (by decide)) (fun _ => ?_)
  refine lv_lload_n hx hb dX9_foldVoices_21 rfl (lv_at hl 1 rfl) ?_
  refine lv_aload_n hx hb dX9_foldVoices_22 rfl (lv_at hl 3 rfl) ?_
  refine lv_iload hx hb dX9_foldVoices_23 (lv_at hl 2 rfl) ?_
  refine lv_iload hx hb dX9_foldVoices_25 (lv_at hl 0 rfl) ?_
  refine g_cVi (As := [.int 3, .int 9]) (rest := [.long (rX9_fold (vX9_foldVoices_19 S p1) ((rX9_ofVoice S (3 : Int32) (8 : Int32)).toInt64))]) ⟨hx, hb, hml, hown, hts⟩ (c_X9_ofVoice l G cA a ha S L H.size (3 : Int32) (9 : Int32)  (by decide) (by decide) (by decide) (by decide)) (cwV 2 hts gX9_foldVoices_X9_ofVoice rfl rfl rfl (by decide +kernel) ⟨Nat.le_of_ble_eq_true rfl, Nat.le_of_ble_eq_true rfl⟩) (g_recv hK hP (by decide) rfl (C := RX9) (T := TX9) (N := 4) rfl) hK (mA_mono hS.1) hP hS rfl hl.1 rfl (lv_room (Nat.le_of_ble_eq_true rfl)) dX9_foldVoices_27 ⟨Nat.le_of_ble_eq_true rfl, Nat.le_of_ble_eq_true rfl⟩ (fun H locs hP hS _ _ => ?_)
  refine lv_i2l hx hb dX9_foldVoices_30 rfl ?_
  refine g_cSl (As := [.long (rX9_fold (vX9_foldVoices_19 S p1) ((rX9_ofVoice S (3 : Int32) (8 : Int32)).toInt64)), .long ((rX9_ofVoice S (3 : Int32) (9 : Int32)).toInt64)]) (rest := []) ⟨hx, hb, hml, hown, hts⟩ (c_X9_fold l G cA a ha S L H.size (rX9_fold (vX9_foldVoices_19 S p1) ((rX9_ofVoice S (3 : Int32) (8 : Int32)).toInt64)) ((rX9_ofVoice S (3 : Int32) (9 : Int32)).toInt64)  ) (va_cwS 2 hts gX9_foldVoices_X9_fold rfl rfl rfl (by decide +kernel) ⟨Nat.le_of_ble_eq_true rfl, Nat.le_of_ble_eq_true rfl⟩) hK (mA_mono hS.1) hP hS rfl hl.1 rfl (lv_room (Nat.le_of_ble_eq_true rfl)) dX9_foldVoices_31 ⟨Nat.le_of_ble_eq_true rfl, Nat.le_of_ble_eq_true rfl⟩ (fun H locs hP hS _ _ => ?_)
  refine W.eq (g2 := F0 m 34 ls [.long (vX9_foldVoices_20 S p1)]) rfl ?_
  refine lv_lstore_n (lv' := [(3, .long (vX9_foldVoices_20 S p1)), (6, .int 9), (5, .int 3), (0, .ref (a 0)), (1, .long p1)]) hx hb dX9_foldVoices_34 rfl hl (by decide) rfl (fun ls hl => ?_)
  refine lv_iinc (v := 10) (lv' := [(6, .int 10), (3, .long (vX9_foldVoices_20 S p1)), (5, .int 3), (0, .ref (a 0)), (1, .long p1)]) hx hb dX9_foldVoices_35 hl (k := 1) rfl (by decide) (by decide) rfl (fun ls hl => ?_)
  refine lv_goto (tgt := 14) hx hb dX9_foldVoices_38 (by decide) ?_
  refine lv_iload hx hb dX9_foldVoices_14 (lv_at hl 0 rfl) ?_
  refine lv_bipush (v := 10) hx hb dX9_foldVoices_16 (by decide) ?_
  refine lv_icmp_ge (tgt := 41) hx hb dX9_foldVoices_18 (by decide) (fun _ => ?_) (fun c => absurd c (by decide))
  refine lv_iinc (v := 4) (lv' := [(5, .int 4), (6, .int 10), (3, .long (vX9_foldVoices_20 S p1)), (0, .ref (a 0)), (1, .long p1)]) hx hb dX9_foldVoices_41 hl (k := 2) rfl (by decide) (by decide) rfl (fun ls hl => ?_)
  refine lv_goto (tgt := 5) hx hb dX9_foldVoices_44 (by decide) ?_
  refine lv_iload hx hb dX9_foldVoices_5 (lv_at hl 0 rfl) ?_
  refine lv_iconst (v := 4) hx hb dX9_foldVoices_7 (by decide) ?_
  refine lv_icmp_ge (tgt := 47) hx hb dX9_foldVoices_8 (by decide) (fun _ => ?_) (fun c => absurd c (by decide))
  refine lv_lload_n hx hb dX9_foldVoices_47 rfl (lv_at hl 2 rfl) ?_
  exact g_lret hx hb hr hlocks (by unfold rX9_foldVoices; rfl) rfl rfl hP hS dX9_foldVoices_48

def vX9_foldSteps_1 (S : Mm) (p1 : Int64) : Int64 := rX9_fold (rX9_fold p1 ((rX9_ofStep S (0 : Int32) (0 : Int32) (0 : Int32)).toInt64)) ((rX9_ofStep S (0 : Int32) (0 : Int32) (1 : Int32)).toInt64)
def vX9_foldSteps_2 (S : Mm) (p1 : Int64) : Int64 := rX9_fold (rX9_fold (vX9_foldSteps_1 S p1) ((rX9_ofStep S (0 : Int32) (0 : Int32) (2 : Int32)).toInt64)) ((rX9_ofStep S (0 : Int32) (1 : Int32) (0 : Int32)).toInt64)
def vX9_foldSteps_3 (S : Mm) (p1 : Int64) : Int64 := rX9_fold (rX9_fold (vX9_foldSteps_2 S p1) ((rX9_ofStep S (0 : Int32) (1 : Int32) (1 : Int32)).toInt64)) ((rX9_ofStep S (0 : Int32) (1 : Int32) (2 : Int32)).toInt64)
def vX9_foldSteps_4 (S : Mm) (p1 : Int64) : Int64 := rX9_fold (rX9_fold (vX9_foldSteps_3 S p1) ((rX9_ofStep S (0 : Int32) (2 : Int32) (0 : Int32)).toInt64)) ((rX9_ofStep S (0 : Int32) (2 : Int32) (1 : Int32)).toInt64)
def vX9_foldSteps_5 (S : Mm) (p1 : Int64) : Int64 := rX9_fold (rX9_fold (vX9_foldSteps_4 S p1) ((rX9_ofStep S (0 : Int32) (2 : Int32) (2 : Int32)).toInt64)) ((rX9_ofStep S (0 : Int32) (3 : Int32) (0 : Int32)).toInt64)
def vX9_foldSteps_6 (S : Mm) (p1 : Int64) : Int64 := rX9_fold (rX9_fold (vX9_foldSteps_5 S p1) ((rX9_ofStep S (0 : Int32) (3 : Int32) (1 : Int32)).toInt64)) ((rX9_ofStep S (0 : Int32) (3 : Int32) (2 : Int32)).toInt64)
def vX9_foldSteps_7 (S : Mm) (p1 : Int64) : Int64 := rX9_fold (rX9_fold (vX9_foldSteps_6 S p1) ((rX9_ofStep S (0 : Int32) (4 : Int32) (0 : Int32)).toInt64)) ((rX9_ofStep S (0 : Int32) (4 : Int32) (1 : Int32)).toInt64)
def vX9_foldSteps_8 (S : Mm) (p1 : Int64) : Int64 := rX9_fold (rX9_fold (vX9_foldSteps_7 S p1) ((rX9_ofStep S (0 : Int32) (4 : Int32) (2 : Int32)).toInt64)) ((rX9_ofStep S (0 : Int32) (5 : Int32) (0 : Int32)).toInt64)
def vX9_foldSteps_9 (S : Mm) (p1 : Int64) : Int64 := rX9_fold (rX9_fold (vX9_foldSteps_8 S p1) ((rX9_ofStep S (0 : Int32) (5 : Int32) (1 : Int32)).toInt64)) ((rX9_ofStep S (0 : Int32) (5 : Int32) (2 : Int32)).toInt64)
def vX9_foldSteps_10 (S : Mm) (p1 : Int64) : Int64 := rX9_fold (rX9_fold (vX9_foldSteps_9 S p1) ((rX9_ofStep S (0 : Int32) (6 : Int32) (0 : Int32)).toInt64)) ((rX9_ofStep S (0 : Int32) (6 : Int32) (1 : Int32)).toInt64)
def vX9_foldSteps_11 (S : Mm) (p1 : Int64) : Int64 := rX9_fold (rX9_fold (vX9_foldSteps_10 S p1) ((rX9_ofStep S (0 : Int32) (6 : Int32) (2 : Int32)).toInt64)) ((rX9_ofStep S (0 : Int32) (7 : Int32) (0 : Int32)).toInt64)
def vX9_foldSteps_12 (S : Mm) (p1 : Int64) : Int64 := rX9_fold (rX9_fold (vX9_foldSteps_11 S p1) ((rX9_ofStep S (0 : Int32) (7 : Int32) (1 : Int32)).toInt64)) ((rX9_ofStep S (0 : Int32) (7 : Int32) (2 : Int32)).toInt64)
def vX9_foldSteps_13 (S : Mm) (p1 : Int64) : Int64 := rX9_fold (rX9_fold (vX9_foldSteps_12 S p1) ((rX9_ofStep S (1 : Int32) (0 : Int32) (0 : Int32)).toInt64)) ((rX9_ofStep S (1 : Int32) (0 : Int32) (1 : Int32)).toInt64)
def vX9_foldSteps_14 (S : Mm) (p1 : Int64) : Int64 := rX9_fold (rX9_fold (vX9_foldSteps_13 S p1) ((rX9_ofStep S (1 : Int32) (0 : Int32) (2 : Int32)).toInt64)) ((rX9_ofStep S (1 : Int32) (1 : Int32) (0 : Int32)).toInt64)
def vX9_foldSteps_15 (S : Mm) (p1 : Int64) : Int64 := rX9_fold (rX9_fold (vX9_foldSteps_14 S p1) ((rX9_ofStep S (1 : Int32) (1 : Int32) (1 : Int32)).toInt64)) ((rX9_ofStep S (1 : Int32) (1 : Int32) (2 : Int32)).toInt64)
def vX9_foldSteps_16 (S : Mm) (p1 : Int64) : Int64 := rX9_fold (rX9_fold (vX9_foldSteps_15 S p1) ((rX9_ofStep S (1 : Int32) (2 : Int32) (0 : Int32)).toInt64)) ((rX9_ofStep S (1 : Int32) (2 : Int32) (1 : Int32)).toInt64)
def vX9_foldSteps_17 (S : Mm) (p1 : Int64) : Int64 := rX9_fold (rX9_fold (vX9_foldSteps_16 S p1) ((rX9_ofStep S (1 : Int32) (2 : Int32) (2 : Int32)).toInt64)) ((rX9_ofStep S (1 : Int32) (3 : Int32) (0 : Int32)).toInt64)
def vX9_foldSteps_18 (S : Mm) (p1 : Int64) : Int64 := rX9_fold (rX9_fold (vX9_foldSteps_17 S p1) ((rX9_ofStep S (1 : Int32) (3 : Int32) (1 : Int32)).toInt64)) ((rX9_ofStep S (1 : Int32) (3 : Int32) (2 : Int32)).toInt64)
def vX9_foldSteps_19 (S : Mm) (p1 : Int64) : Int64 := rX9_fold (rX9_fold (vX9_foldSteps_18 S p1) ((rX9_ofStep S (1 : Int32) (4 : Int32) (0 : Int32)).toInt64)) ((rX9_ofStep S (1 : Int32) (4 : Int32) (1 : Int32)).toInt64)
def vX9_foldSteps_20 (S : Mm) (p1 : Int64) : Int64 := rX9_fold (rX9_fold (vX9_foldSteps_19 S p1) ((rX9_ofStep S (1 : Int32) (4 : Int32) (2 : Int32)).toInt64)) ((rX9_ofStep S (1 : Int32) (5 : Int32) (0 : Int32)).toInt64)
def vX9_foldSteps_21 (S : Mm) (p1 : Int64) : Int64 := rX9_fold (rX9_fold (vX9_foldSteps_20 S p1) ((rX9_ofStep S (1 : Int32) (5 : Int32) (1 : Int32)).toInt64)) ((rX9_ofStep S (1 : Int32) (5 : Int32) (2 : Int32)).toInt64)
def vX9_foldSteps_22 (S : Mm) (p1 : Int64) : Int64 := rX9_fold (rX9_fold (vX9_foldSteps_21 S p1) ((rX9_ofStep S (1 : Int32) (6 : Int32) (0 : Int32)).toInt64)) ((rX9_ofStep S (1 : Int32) (6 : Int32) (1 : Int32)).toInt64)
def vX9_foldSteps_23 (S : Mm) (p1 : Int64) : Int64 := rX9_fold (rX9_fold (vX9_foldSteps_22 S p1) ((rX9_ofStep S (1 : Int32) (6 : Int32) (2 : Int32)).toInt64)) ((rX9_ofStep S (1 : Int32) (7 : Int32) (0 : Int32)).toInt64)
def vX9_foldSteps_24 (S : Mm) (p1 : Int64) : Int64 := rX9_fold (rX9_fold (vX9_foldSteps_23 S p1) ((rX9_ofStep S (1 : Int32) (7 : Int32) (1 : Int32)).toInt64)) ((rX9_ofStep S (1 : Int32) (7 : Int32) (2 : Int32)).toInt64)
def vX9_foldSteps_25 (S : Mm) (p1 : Int64) : Int64 := rX9_fold (rX9_fold (vX9_foldSteps_24 S p1) ((rX9_ofStep S (2 : Int32) (0 : Int32) (0 : Int32)).toInt64)) ((rX9_ofStep S (2 : Int32) (0 : Int32) (1 : Int32)).toInt64)
def vX9_foldSteps_26 (S : Mm) (p1 : Int64) : Int64 := rX9_fold (rX9_fold (vX9_foldSteps_25 S p1) ((rX9_ofStep S (2 : Int32) (0 : Int32) (2 : Int32)).toInt64)) ((rX9_ofStep S (2 : Int32) (1 : Int32) (0 : Int32)).toInt64)
def vX9_foldSteps_27 (S : Mm) (p1 : Int64) : Int64 := rX9_fold (rX9_fold (vX9_foldSteps_26 S p1) ((rX9_ofStep S (2 : Int32) (1 : Int32) (1 : Int32)).toInt64)) ((rX9_ofStep S (2 : Int32) (1 : Int32) (2 : Int32)).toInt64)
def vX9_foldSteps_28 (S : Mm) (p1 : Int64) : Int64 := rX9_fold (rX9_fold (vX9_foldSteps_27 S p1) ((rX9_ofStep S (2 : Int32) (2 : Int32) (0 : Int32)).toInt64)) ((rX9_ofStep S (2 : Int32) (2 : Int32) (1 : Int32)).toInt64)
def vX9_foldSteps_29 (S : Mm) (p1 : Int64) : Int64 := rX9_fold (rX9_fold (vX9_foldSteps_28 S p1) ((rX9_ofStep S (2 : Int32) (2 : Int32) (2 : Int32)).toInt64)) ((rX9_ofStep S (2 : Int32) (3 : Int32) (0 : Int32)).toInt64)
def vX9_foldSteps_30 (S : Mm) (p1 : Int64) : Int64 := rX9_fold (rX9_fold (vX9_foldSteps_29 S p1) ((rX9_ofStep S (2 : Int32) (3 : Int32) (1 : Int32)).toInt64)) ((rX9_ofStep S (2 : Int32) (3 : Int32) (2 : Int32)).toInt64)
def vX9_foldSteps_31 (S : Mm) (p1 : Int64) : Int64 := rX9_fold (rX9_fold (vX9_foldSteps_30 S p1) ((rX9_ofStep S (2 : Int32) (4 : Int32) (0 : Int32)).toInt64)) ((rX9_ofStep S (2 : Int32) (4 : Int32) (1 : Int32)).toInt64)
def vX9_foldSteps_32 (S : Mm) (p1 : Int64) : Int64 := rX9_fold (rX9_fold (vX9_foldSteps_31 S p1) ((rX9_ofStep S (2 : Int32) (4 : Int32) (2 : Int32)).toInt64)) ((rX9_ofStep S (2 : Int32) (5 : Int32) (0 : Int32)).toInt64)
def vX9_foldSteps_33 (S : Mm) (p1 : Int64) : Int64 := rX9_fold (rX9_fold (vX9_foldSteps_32 S p1) ((rX9_ofStep S (2 : Int32) (5 : Int32) (1 : Int32)).toInt64)) ((rX9_ofStep S (2 : Int32) (5 : Int32) (2 : Int32)).toInt64)
def vX9_foldSteps_34 (S : Mm) (p1 : Int64) : Int64 := rX9_fold (rX9_fold (vX9_foldSteps_33 S p1) ((rX9_ofStep S (2 : Int32) (6 : Int32) (0 : Int32)).toInt64)) ((rX9_ofStep S (2 : Int32) (6 : Int32) (1 : Int32)).toInt64)
def vX9_foldSteps_35 (S : Mm) (p1 : Int64) : Int64 := rX9_fold (rX9_fold (vX9_foldSteps_34 S p1) ((rX9_ofStep S (2 : Int32) (6 : Int32) (2 : Int32)).toInt64)) ((rX9_ofStep S (2 : Int32) (7 : Int32) (0 : Int32)).toInt64)
def vX9_foldSteps_36 (S : Mm) (p1 : Int64) : Int64 := rX9_fold (rX9_fold (vX9_foldSteps_35 S p1) ((rX9_ofStep S (2 : Int32) (7 : Int32) (1 : Int32)).toInt64)) ((rX9_ofStep S (2 : Int32) (7 : Int32) (2 : Int32)).toInt64)
def rX9_foldSteps (S : Mm) (p1 : Int64) : Int64 := (vX9_foldSteps_36 S p1)
set_option maxHeartbeats 4000000 in
set_option maxRecDepth 100000 in
theorem c_X9_foldSteps (l : Launch) (G : va_G) (cA : ClassId) (a : Nat → Nat) (ha : apart 37 a) (S : Mm) (L : Int64) (sz : Nat) (p1 : Int64)  : Met l yX9_foldSteps wsX9_foldSteps ({ frames := 4, cells := 0, slots := 0, locals := 89 } : Room) (va_Pc [.ref (a 0), .long p1] (gI G cA (a 37) 37 a (cM a cA) S L sz)) (gQl (rX9_foldSteps S p1) G 37 a (cM a cA) S L sz) 0 0 (mA 37 a sz) := by
  refine g_met (cc := cX9_foldSteps) (maxL := 8) (ret := (some .long)) (by decide) rfl (Nat.le_of_ble_eq_true rfl) ?_
  intro p e s m below meth c ls hx hb hr hlocks hml hts hown hnm hsz hK hP hS hl
  subst hsz
  have hl : lv_has ls 8 [(0, .ref (a 0)), (1, .long p1)] := hl
  refine lv_lload_n hx hb dX9_foldSteps_0 rfl (lv_at hl 1 rfl) ?_
  refine lv_lstore_n (lv' := [(3, .long p1), (0, .ref (a 0)), (1, .long p1)]) hx hb dX9_foldSteps_1 rfl hl (by decide) rfl (fun ls hl => ?_)
  refine lv_iconst (v := 0) hx hb dX9_foldSteps_2 (by decide) ?_
  refine lv_istore (lv' := [(5, .int 0), (3, .long p1), (0, .ref (a 0)), (1, .long p1)]) hx hb dX9_foldSteps_3 hl (by decide) rfl (fun ls hl => ?_)
  refine lv_iload hx hb dX9_foldSteps_5 (lv_at hl 0 rfl) ?_
  refine lv_iconst (v := 3) hx hb dX9_foldSteps_7 (by decide) ?_
  refine lv_icmp_ge (tgt := 64) hx hb dX9_foldSteps_8 (by decide) (fun c => absurd c (by decide)) (fun _ => ?_)
  refine lv_iconst (v := 0) hx hb dX9_foldSteps_11 (by decide) ?_
  refine lv_istore (lv' := [(6, .int 0), (5, .int 0), (3, .long p1), (0, .ref (a 0)), (1, .long p1)]) hx hb dX9_foldSteps_12 hl (by decide) rfl (fun ls hl => ?_)
  refine lv_iload hx hb dX9_foldSteps_14 (lv_at hl 0 rfl) ?_
  refine lv_bipush (v := 8) hx hb dX9_foldSteps_16 (by decide) ?_
  refine lv_icmp_ge (tgt := 58) hx hb dX9_foldSteps_18 (by decide) (fun c => absurd c (by decide)) (fun _ => ?_)
  refine lv_iconst (v := 0) hx hb dX9_foldSteps_21 (by decide) ?_
  refine lv_istore (lv' := [(7, .int 0), (6, .int 0), (5, .int 0), (3, .long p1), (0, .ref (a 0)), (1, .long p1)]) hx hb dX9_foldSteps_22 hl (by decide) rfl (fun ls hl => ?_)
  refine lv_iload hx hb dX9_foldSteps_24 (lv_at hl 0 rfl) ?_
  refine lv_iconst (v := 3) hx hb dX9_foldSteps_26 (by decide) ?_
  refine lv_icmp_ge (tgt := 52) hx hb dX9_foldSteps_27 (by decide) (fun c => absurd c (by decide)) (fun _ => ?_)
  refine lv_lload_n hx hb dX9_foldSteps_30 rfl (lv_at hl 3 rfl) ?_
  refine lv_aload_n hx hb dX9_foldSteps_31 rfl (lv_at hl 4 rfl) ?_
  refine lv_iload hx hb dX9_foldSteps_32 (lv_at hl 2 rfl) ?_
  refine lv_iload hx hb dX9_foldSteps_34 (lv_at hl 1 rfl) ?_
  refine lv_iload hx hb dX9_foldSteps_36 (lv_at hl 0 rfl) ?_
  refine g_cVi (As := [.int 0, .int 0, .int 0]) (rest := [.long p1]) ⟨hx, hb, hml, hown, hts⟩ (c_X9_ofStep l G cA a ha S L s.heap.size (0 : Int32) (0 : Int32) (0 : Int32)  (by decide) (by decide) (by decide) (by decide) (by decide) (by decide)) (cwV 3 hts gX9_foldSteps_X9_ofStep rfl rfl rfl (by decide +kernel) ⟨Nat.le_of_ble_eq_true rfl, Nat.le_of_ble_eq_true rfl⟩) (g_recv hK hP (by decide) rfl (C := RX9) (T := TX9) (N := 4) rfl) hK (mA_mono hS.1) hP hS rfl hl.1 rfl (lv_room (Nat.le_of_ble_eq_true rfl)) dX9_foldSteps_38 ⟨Nat.le_of_ble_eq_true rfl, Nat.le_of_ble_eq_true rfl⟩ (fun H locs hP hS _ _ => ?_)
  refine lv_i2l hx hb dX9_foldSteps_41 rfl ?_
  refine g_cSl (As := [.long p1, .long ((rX9_ofStep S (0 : Int32) (0 : Int32) (0 : Int32)).toInt64)]) (rest := []) ⟨hx, hb, hml, hown, hts⟩ (c_X9_fold l G cA a ha S L H.size p1 ((rX9_ofStep S (0 : Int32) (0 : Int32) (0 : Int32)).toInt64)  ) (va_cwS 2 hts gX9_foldSteps_X9_fold rfl rfl rfl (by decide +kernel) ⟨Nat.le_of_ble_eq_true rfl, Nat.le_of_ble_eq_true rfl⟩) hK (mA_mono hS.1) hP hS rfl hl.1 rfl (lv_room (Nat.le_of_ble_eq_true rfl)) dX9_foldSteps_42 ⟨Nat.le_of_ble_eq_true rfl, Nat.le_of_ble_eq_true rfl⟩ (fun H locs hP hS _ _ => ?_)
  refine lv_lstore_n (lv' := [(3, .long (rX9_fold p1 ((rX9_ofStep S (0 : Int32) (0 : Int32) (0 : Int32)).toInt64))), (7, .int 0), (6, .int 0), (5, .int 0), (0, .ref (a 0)), (1, .long p1)]) hx hb dX9_foldSteps_45 rfl hl (by decide) rfl (fun ls hl => ?_)
  refine lv_iinc (v := 1) (lv' := [(7, .int 1), (3, .long (rX9_fold p1 ((rX9_ofStep S (0 : Int32) (0 : Int32) (0 : Int32)).toInt64))), (6, .int 0), (5, .int 0), (0, .ref (a 0)), (1, .long p1)]) hx hb dX9_foldSteps_46 hl (k := 1) rfl (by decide) (by decide) rfl (fun ls hl => ?_)
  refine lv_goto (tgt := 24) hx hb dX9_foldSteps_49 (by decide) ?_
  refine lv_iload hx hb dX9_foldSteps_24 (lv_at hl 0 rfl) ?_
  refine lv_iconst (v := 3) hx hb dX9_foldSteps_26 (by decide) ?_
  refine lv_icmp_ge (tgt := 52) hx hb dX9_foldSteps_27 (by decide) (fun c => absurd c (by decide)) (fun _ => ?_)
  refine lv_lload_n hx hb dX9_foldSteps_30 rfl (lv_at hl 1 rfl) ?_
  refine lv_aload_n hx hb dX9_foldSteps_31 rfl (lv_at hl 4 rfl) ?_
  refine lv_iload hx hb dX9_foldSteps_32 (lv_at hl 3 rfl) ?_
  refine lv_iload hx hb dX9_foldSteps_34 (lv_at hl 2 rfl) ?_
  refine lv_iload hx hb dX9_foldSteps_36 (lv_at hl 0 rfl) ?_
  refine g_cVi (As := [.int 0, .int 0, .int 1]) (rest := [.long (rX9_fold p1 ((rX9_ofStep S (0 : Int32) (0 : Int32) (0 : Int32)).toInt64))]) ⟨hx, hb, hml, hown, hts⟩ (c_X9_ofStep l G cA a ha S L H.size (0 : Int32) (0 : Int32) (1 : Int32)  (by decide) (by decide) (by decide) (by decide) (by decide) (by decide)) (cwV 3 hts gX9_foldSteps_X9_ofStep rfl rfl rfl (by decide +kernel) ⟨Nat.le_of_ble_eq_true rfl, Nat.le_of_ble_eq_true rfl⟩) (g_recv hK hP (by decide) rfl (C := RX9) (T := TX9) (N := 4) rfl) hK (mA_mono hS.1) hP hS rfl hl.1 rfl (lv_room (Nat.le_of_ble_eq_true rfl)) dX9_foldSteps_38 ⟨Nat.le_of_ble_eq_true rfl, Nat.le_of_ble_eq_true rfl⟩ (fun H locs hP hS _ _ => ?_)
  refine lv_i2l hx hb dX9_foldSteps_41 rfl ?_
  refine g_cSl (As := [.long (rX9_fold p1 ((rX9_ofStep S (0 : Int32) (0 : Int32) (0 : Int32)).toInt64)), .long ((rX9_ofStep S (0 : Int32) (0 : Int32) (1 : Int32)).toInt64)]) (rest := []) ⟨hx, hb, hml, hown, hts⟩ (c_X9_fold l G cA a ha S L H.size (rX9_fold p1 ((rX9_ofStep S (0 : Int32) (0 : Int32) (0 : Int32)).toInt64)) ((rX9_ofStep S (0 : Int32) (0 : Int32) (1 : Int32)).toInt64)  ) (va_cwS 2 hts gX9_foldSteps_X9_fold rfl rfl rfl (by decide +kernel) ⟨Nat.le_of_ble_eq_true rfl, Nat.le_of_ble_eq_true rfl⟩) hK (mA_mono hS.1) hP hS rfl hl.1 rfl (lv_room (Nat.le_of_ble_eq_true rfl)) dX9_foldSteps_42 ⟨Nat.le_of_ble_eq_true rfl, Nat.le_of_ble_eq_true rfl⟩ (fun H locs hP hS _ _ => ?_)
  refine W.eq (g2 := F0 m 45 ls [.long (vX9_foldSteps_1 S p1)]) rfl ?_
  refine lv_lstore_n (lv' := [(3, .long (vX9_foldSteps_1 S p1)), (7, .int 1), (6, .int 0), (5, .int 0), (0, .ref (a 0)), (1, .long p1)]) hx hb dX9_foldSteps_45 rfl hl (by decide) rfl (fun ls hl => ?_)
  refine lv_iinc (v := 2) (lv' := [(7, .int 2), (3, .long (vX9_foldSteps_1 S p1)), (6, .int 0), (5, .int 0), (0, .ref (a 0)), (1, .long p1)]) hx hb dX9_foldSteps_46 hl (k := 1) rfl (by decide) (by decide) rfl (fun ls hl => ?_)
  refine lv_goto (tgt := 24) hx hb dX9_foldSteps_49 (by decide) ?_
  refine lv_iload hx hb dX9_foldSteps_24 (lv_at hl 0 rfl) ?_
  refine lv_iconst (v := 3) hx hb dX9_foldSteps_26 (by decide) ?_
  refine lv_icmp_ge (tgt := 52) hx hb dX9_foldSteps_27 (by decide) (fun c => absurd c (by decide)) (fun _ => ?_)
  refine lv_lload_n hx hb dX9_foldSteps_30 rfl (lv_at hl 1 rfl) ?_
  refine lv_aload_n hx hb dX9_foldSteps_31 rfl (lv_at hl 4 rfl) ?_
  refine lv_iload hx hb dX9_foldSteps_32 (lv_at hl 3 rfl) ?_
  refine lv_iload hx hb dX9_foldSteps_34 (lv_at hl 2 rfl) ?_
  refine lv_iload hx hb dX9_foldSteps_36 (lv_at hl 0 rfl) ?_
  refine g_cVi (As := [.int 0, .int 0, .int 2]) (rest := [.long (vX9_foldSteps_1 S p1)]) ⟨hx, hb, hml, hown, hts⟩ (c_X9_ofStep l G cA a ha S L H.size (0 : Int32) (0 : Int32) (2 : Int32)  (by decide) (by decide) (by decide) (by decide) (by decide) (by decide)) (cwV 3 hts gX9_foldSteps_X9_ofStep rfl rfl rfl (by decide +kernel) ⟨Nat.le_of_ble_eq_true rfl, Nat.le_of_ble_eq_true rfl⟩) (g_recv hK hP (by decide) rfl (C := RX9) (T := TX9) (N := 4) rfl) hK (mA_mono hS.1) hP hS rfl hl.1 rfl (lv_room (Nat.le_of_ble_eq_true rfl)) dX9_foldSteps_38 ⟨Nat.le_of_ble_eq_true rfl, Nat.le_of_ble_eq_true rfl⟩ (fun H locs hP hS _ _ => ?_)
  refine lv_i2l hx hb dX9_foldSteps_41 rfl ?_
  refine g_cSl (As := [.long (vX9_foldSteps_1 S p1), .long ((rX9_ofStep S (0 : Int32) (0 : Int32) (2 : Int32)).toInt64)]) (rest := []) ⟨hx, hb, hml, hown, hts⟩ (c_X9_fold l G cA a ha S L H.size (vX9_foldSteps_1 S p1) ((rX9_ofStep S (0 : Int32) (0 : Int32) (2 : Int32)).toInt64)  ) (va_cwS 2 hts gX9_foldSteps_X9_fold rfl rfl rfl (by decide +kernel) ⟨Nat.le_of_ble_eq_true rfl, Nat.le_of_ble_eq_true rfl⟩) hK (mA_mono hS.1) hP hS rfl hl.1 rfl (lv_room (Nat.le_of_ble_eq_true rfl)) dX9_foldSteps_42 ⟨Nat.le_of_ble_eq_true rfl, Nat.le_of_ble_eq_true rfl⟩ (fun H locs hP hS _ _ => ?_)
  refine lv_lstore_n (lv' := [(3, .long (rX9_fold (vX9_foldSteps_1 S p1) ((rX9_ofStep S (0 : Int32) (0 : Int32) (2 : Int32)).toInt64))), (7, .int 2), (6, .int 0), (5, .int 0), (0, .ref (a 0)), (1, .long p1)]) hx hb dX9_foldSteps_45 rfl hl (by decide) rfl (fun ls hl => ?_)
  refine lv_iinc (v := 3) (lv' := [(7, .int 3), (3, .long (rX9_fold (vX9_foldSteps_1 S p1) ((rX9_ofStep S (0 : Int32) (0 : Int32) (2 : Int32)).toInt64))), (6, .int 0), (5, .int 0), (0, .ref (a 0)), (1, .long p1)]) hx hb dX9_foldSteps_46 hl (k := 1) rfl (by decide) (by decide) rfl (fun ls hl => ?_)
  refine lv_goto (tgt := 24) hx hb dX9_foldSteps_49 (by decide) ?_
  refine lv_iload hx hb dX9_foldSteps_24 (lv_at hl 0 rfl) ?_
  refine lv_iconst (v := 3) hx hb dX9_foldSteps_26 (by decide) ?_
  refine lv_icmp_ge (tgt := 52) hx hb dX9_foldSteps_27 (by decide) (fun _ => ?_) (fun c => absurd c (by decide))
  refine lv_iinc (v := 1) (lv' := [(6, .int 1), (7, .int 3), (3, .long (rX9_fold (vX9_foldSteps_1 S p1) ((rX9_ofStep S (0 : Int32) (0 : Int32) (2 : Int32)).toInt64))), (5, .int 0), (0, .ref (a 0)), (1, .long p1)]) hx hb dX9_foldSteps_52 hl (k := 2) rfl (by decide) (by decide) rfl (fun ls hl => ?_)
  refine lv_goto (tgt := 14) hx hb dX9_foldSteps_55 (by decide) ?_
  refine lv_iload hx hb dX9_foldSteps_14 (lv_at hl 0 rfl) ?_
  refine lv_bipush (v := 8) hx hb dX9_foldSteps_16 (by decide) ?_
  refine lv_icmp_ge (tgt := 58) hx hb dX9_foldSteps_18 (by decide) (fun c => absurd c (by decide)) (fun _ => ?_)
  refine lv_iconst (v := 0) hx hb dX9_foldSteps_21 (by decide) ?_
  refine lv_istore (lv' := [(7, .int 0), (6, .int 1), (3, .long (rX9_fold (vX9_foldSteps_1 S p1) ((rX9_ofStep S (0 : Int32) (0 : Int32) (2 : Int32)).toInt64))), (5, .int 0), (0, .ref (a 0)), (1, .long p1)]) hx hb dX9_foldSteps_22 hl (by decide) rfl (fun ls hl => ?_)
  refine lv_iload hx hb dX9_foldSteps_24 (lv_at hl 0 rfl) ?_
  refine lv_iconst (v := 3) hx hb dX9_foldSteps_26 (by decide) ?_
  refine lv_icmp_ge (tgt := 52) hx hb dX9_foldSteps_27 (by decide) (fun c => absurd c (by decide)) (fun _ => ?_)
  refine lv_lload_n hx hb dX9_foldSteps_30 rfl (lv_at hl 2 rfl) ?_
  refine lv_aload_n hx hb dX9_foldSteps_31 rfl (lv_at hl 4 rfl) ?_
  refine lv_iload hx hb dX9_foldSteps_32 (lv_at hl 3 rfl) ?_
  refine lv_iload hx hb dX9_foldSteps_34 (lv_at hl 1 rfl) ?_
  refine lv_iload hx hb dX9_foldSteps_36 (lv_at hl 0 rfl) ?_
  refine g_cVi (As := [.int 0, .int 1, .int 0]) (rest := [.long (rX9_fold (vX9_foldSteps_1 S p1) ((rX9_ofStep S (0 : Int32) (0 : Int32) (2 : Int32)).toInt64))]) ⟨hx, hb, hml, hown, hts⟩ (c_X9_ofStep l G cA a ha S L H.size (0 : Int32) (1 : Int32) (0 : Int32)  (by decide) (by decide) (by decide) (by decide) (by decide) (by decide)) (cwV 3 hts gX9_foldSteps_X9_ofStep rfl rfl rfl (by decide +kernel) ⟨Nat.le_of_ble_eq_true rfl, Nat.le_of_ble_eq_true rfl⟩) (g_recv hK hP (by decide) rfl (C := RX9) (T := TX9) (N := 4) rfl) hK (mA_mono hS.1) hP hS rfl hl.1 rfl (lv_room (Nat.le_of_ble_eq_true rfl)) dX9_foldSteps_38 ⟨Nat.le_of_ble_eq_true rfl, Nat.le_of_ble_eq_true rfl⟩ (fun H locs hP hS _ _ => ?_)
  refine lv_i2l hx hb dX9_foldSteps_41 rfl ?_
  refine g_cSl (As := [.long (rX9_fold (vX9_foldSteps_1 S p1) ((rX9_ofStep S (0 : Int32) (0 : Int32) (2 : Int32)).toInt64)), .long ((rX9_ofStep S (0 : Int32) (1 : Int32) (0 : Int32)).toInt64)]) (rest := []) ⟨hx, hb, hml, hown, hts⟩ (c_X9_fold l G cA a ha S L H.size (rX9_fold (vX9_foldSteps_1 S p1) ((rX9_ofStep S (0 : Int32) (0 : Int32) (2 : Int32)).toInt64)) ((rX9_ofStep S (0 : Int32) (1 : Int32) (0 : Int32)).toInt64)  ) (va_cwS 2 hts gX9_foldSteps_X9_fold rfl rfl rfl (by decide +kernel) ⟨Nat.le_of_ble_eq_true rfl, Nat.le_of_ble_eq_true rfl⟩) hK (mA_mono hS.1) hP hS rfl hl.1 rfl (lv_room (Nat.le_of_ble_eq_true rfl)) dX9_foldSteps_42 ⟨Nat.le_of_ble_eq_true rfl, Nat.le_of_ble_eq_true rfl⟩ (fun H locs hP hS _ _ => ?_)
  refine W.eq (g2 := F0 m 45 ls [.long (vX9_foldSteps_2 S p1)]) rfl ?_
  refine lv_lstore_n (lv' := [(3, .long (vX9_foldSteps_2 S p1)), (7, .int 0), (6, .int 1), (5, .int 0), (0, .ref (a 0)), (1, .long p1)]) hx hb dX9_foldSteps_45 rfl hl (by decide) rfl (fun ls hl => ?_)
  refine lv_iinc (v := 1) (lv' := [(7, .int 1), (3, .long (vX9_foldSteps_2 S p1)), (6, .int 1), (5, .int 0), (0, .ref (a 0)), (1, .long p1)]) hx hb dX9_foldSteps_46 hl (k := 1) rfl (by decide) (by decide) rfl (fun ls hl => ?_)
  refine lv_goto (tgt := 24) hx hb dX9_foldSteps_49 (by decide) ?_
  refine lv_iload hx hb dX9_foldSteps_24 (lv_at hl 0 rfl) ?_
  refine lv_iconst (v := 3) hx hb dX9_foldSteps_26 (by decide) ?_
  refine lv_icmp_ge (tgt := 52) hx hb dX9_foldSteps_27 (by decide) (fun c => absurd c (by decide)) (fun _ => ?_)
  refine lv_lload_n hx hb dX9_foldSteps_30 rfl (lv_at hl 1 rfl) ?_
  refine lv_aload_n hx hb dX9_foldSteps_31 rfl (lv_at hl 4 rfl) ?_
  refine lv_iload hx hb dX9_foldSteps_32 (lv_at hl 3 rfl) ?_
  refine lv_iload hx hb dX9_foldSteps_34 (lv_at hl 2 rfl) ?_
  refine lv_iload hx hb dX9_foldSteps_36 (lv_at hl 0 rfl) ?_
  refine g_cVi (As := [.int 0, .int 1, .int 1]) (rest := [.long (vX9_foldSteps_2 S p1)]) ⟨hx, hb, hml, hown, hts⟩ (c_X9_ofStep l G cA a ha S L H.size (0 : Int32) (1 : Int32) (1 : Int32)  (by decide) (by decide) (by decide) (by decide) (by decide) (by decide)) (cwV 3 hts gX9_foldSteps_X9_ofStep rfl rfl rfl (by decide +kernel) ⟨Nat.le_of_ble_eq_true rfl, Nat.le_of_ble_eq_true rfl⟩) (g_recv hK hP (by decide) rfl (C := RX9) (T := TX9) (N := 4) rfl) hK (mA_mono hS.1) hP hS rfl hl.1 rfl (lv_room (Nat.le_of_ble_eq_true rfl)) dX9_foldSteps_38 ⟨Nat.le_of_ble_eq_true rfl, Nat.le_of_ble_eq_true rfl⟩ (fun H locs hP hS _ _ => ?_)
  refine lv_i2l hx hb dX9_foldSteps_41 rfl ?_
  refine g_cSl (As := [.long (vX9_foldSteps_2 S p1), .long ((rX9_ofStep S (0 : Int32) (1 : Int32) (1 : Int32)).toInt64)]) (rest := []) ⟨hx, hb, hml, hown, hts⟩ (c_X9_fold l G cA a ha S L H.size (vX9_foldSteps_2 S p1) ((rX9_ofStep S (0 : Int32) (1 : Int32) (1 : Int32)).toInt64)  ) (va_cwS 2 hts gX9_foldSteps_X9_fold rfl rfl rfl (by decide +kernel) ⟨Nat.le_of_ble_eq_true rfl, Nat.le_of_ble_eq_true rfl⟩) hK (mA_mono hS.1) hP hS rfl hl.1 rfl (lv_room (Nat.le_of_ble_eq_true rfl)) dX9_foldSteps_42 ⟨Nat.le_of_ble_eq_true rfl, Nat.le_of_ble_eq_true rfl⟩ (fun H locs hP hS _ _ => ?_)
  refine lv_lstore_n (lv' := [(3, .long (rX9_fold (vX9_foldSteps_2 S p1) ((rX9_ofStep S (0 : Int32) (1 : Int32) (1 : Int32)).toInt64))), (7, .int 1), (6, .int 1), (5, .int 0), (0, .ref (a 0)), (1, .long p1)]) hx hb dX9_foldSteps_45 rfl hl (by decide) rfl (fun ls hl => ?_)
  refine lv_iinc (v := 2) (lv' := [(7, .int 2), (3, .long (rX9_fold (vX9_foldSteps_2 S p1) ((rX9_ofStep S (0 : Int32) (1 : Int32) (1 : Int32)).toInt64))), (6, .int 1), (5, .int 0), (0, .ref (a 0)), (1, .long p1)]) hx hb dX9_foldSteps_46 hl (k := 1) rfl (by decide) (by decide) rfl (fun ls hl => ?_)
  refine lv_goto (tgt := 24) hx hb dX9_foldSteps_49 (by decide) ?_
  refine lv_iload hx hb dX9_foldSteps_24 (lv_at hl 0 rfl) ?_
  refine lv_iconst (v := 3) hx hb dX9_foldSteps_26 (by decide) ?_
  refine lv_icmp_ge (tgt := 52) hx hb dX9_foldSteps_27 (by decide) (fun c => absurd c (by decide)) (fun _ => ?_)
  refine lv_lload_n hx hb dX9_foldSteps_30 rfl (lv_at hl 1 rfl) ?_
  refine lv_aload_n hx hb dX9_foldSteps_31 rfl (lv_at hl 4 rfl) ?_
  refine lv_iload hx hb dX9_foldSteps_32 (lv_at hl 3 rfl) ?_
  refine lv_iload hx hb dX9_foldSteps_34 (lv_at hl 2 rfl) ?_
  refine lv_iload hx hb dX9_foldSteps_36 (lv_at hl 0 rfl) ?_
  refine g_cVi (As := [.int 0, .int 1, .int 2]) (rest := [.long (rX9_fold (vX9_foldSteps_2 S p1) ((rX9_ofStep S (0 : Int32) (1 : Int32) (1 : Int32)).toInt64))]) ⟨hx, hb, hml, hown, hts⟩ (c_X9_ofStep l G cA a ha S L H.size (0 : Int32) (1 : Int32) (2 : Int32)  (by decide) (by decide) (by decide) (by decide) (by decide) (by decide)) (cwV 3 hts gX9_foldSteps_X9_ofStep rfl rfl rfl (by decide +kernel) ⟨Nat.le_of_ble_eq_true rfl, Nat.le_of_ble_eq_true rfl⟩) (g_recv hK hP (by decide) rfl (C := RX9) (T := TX9) (N := 4) rfl) hK (mA_mono hS.1) hP hS rfl hl.1 rfl (lv_room (Nat.le_of_ble_eq_true rfl)) dX9_foldSteps_38 ⟨Nat.le_of_ble_eq_true rfl, Nat.le_of_ble_eq_true rfl⟩ (fun H locs hP hS _ _ => ?_)
  refine lv_i2l hx hb dX9_foldSteps_41 rfl ?_
  refine g_cSl (As := [.long (rX9_fold (vX9_foldSteps_2 S p1) ((rX9_ofStep S (0 : Int32) (1 : Int32) (1 : Int32)).toInt64)), .long ((rX9_ofStep S (0 : Int32) (1 : Int32) (2 : Int32)).toInt64)]) (rest := []) ⟨hx, hb, hml, hown, hts⟩ (c_X9_fold l G cA a ha S L H.size (rX9_fold (vX9_foldSteps_2 S p1) ((rX9_ofStep S (0 : Int32) (1 : Int32) (1 : Int32)).toInt64)) ((rX9_ofStep S (0 : Int32) (1 : Int32) (2 : Int32)).toInt64)  ) (va_cwS 2 hts gX9_foldSteps_X9_fold rfl rfl rfl (by decide +kernel) ⟨Nat.le_of_ble_eq_true rfl, Nat.le_of_ble_eq_true rfl⟩) hK (mA_mono hS.1) hP hS rfl hl.1 rfl (lv_room (Nat.le_of_ble_eq_true rfl)) dX9_foldSteps_42 ⟨Nat.le_of_ble_eq_true rfl, Nat.le_of_ble_eq_true rfl⟩ (fun H locs hP hS _ _ => ?_)
  refine W.eq (g2 := F0 m 45 ls [.long (vX9_foldSteps_3 S p1)]) rfl ?_
  refine lv_lstore_n (lv' := [(3, .long (vX9_foldSteps_3 S p1)), (7, .int 2), (6, .int 1), (5, .int 0), (0, .ref (a 0)), (1, .long p1)]) hx hb dX9_foldSteps_45 rfl hl (by decide) rfl (fun ls hl => ?_)
  refine lv_iinc (v := 3) (lv' := [(7, .int 3), (3, .long (vX9_foldSteps_3 S p1)), (6, .int 1), (5, .int 0), (0, .ref (a 0)), (1, .long p1)]) hx hb dX9_foldSteps_46 hl (k := 1) rfl (by decide) (by decide) rfl (fun ls hl => ?_)
  refine lv_goto (tgt := 24) hx hb dX9_foldSteps_49 (by decide) ?_
  refine lv_iload hx hb dX9_foldSteps_24 (lv_at hl 0 rfl) ?_
  refine lv_iconst (v := 3) hx hb dX9_foldSteps_26 (by decide) ?_
  refine lv_icmp_ge (tgt := 52) hx hb dX9_foldSteps_27 (by decide) (fun _ => ?_) (fun c => absurd c (by decide))
  refine lv_iinc (v := 2) (lv' := [(6, .int 2), (7, .int 3), (3, .long (vX9_foldSteps_3 S p1)), (5, .int 0), (0, .ref (a 0)), (1, .long p1)]) hx hb dX9_foldSteps_52 hl (k := 2) rfl (by decide) (by decide) rfl (fun ls hl => ?_)
  refine lv_goto (tgt := 14) hx hb dX9_foldSteps_55 (by decide) ?_
  refine lv_iload hx hb dX9_foldSteps_14 (lv_at hl 0 rfl) ?_
  refine lv_bipush (v := 8) hx hb dX9_foldSteps_16 (by decide) ?_
  refine lv_icmp_ge (tgt := 58) hx hb dX9_foldSteps_18 (by decide) (fun c => absurd c (by decide)) (fun _ => ?_)
  refine lv_iconst (v := 0) hx hb dX9_foldSteps_21 (by decide) ?_
  refine lv_istore (lv' := [(7, .int 0), (6, .int 2), (3, .long (vX9_foldSteps_3 S p1)), (5, .int 0), (0, .ref (a 0)), (1, .long p1)]) hx hb dX9_foldSteps_22 hl (by decide) rfl (fun ls hl => ?_)
  refine lv_iload hx hb dX9_foldSteps_24 (lv_at hl 0 rfl) ?_
  refine lv_iconst (v := 3) hx hb dX9_foldSteps_26 (by decide) ?_
  refine lv_icmp_ge (tgt := 52) hx hb dX9_foldSteps_27 (by decide) (fun c => absurd c (by decide)) (fun _ => ?_)
  refine lv_lload_n hx hb dX9_foldSteps_30 rfl (lv_at hl 2 rfl) ?_
  refine lv_aload_n hx hb dX9_foldSteps_31 rfl (lv_at hl 4 rfl) ?_
  refine lv_iload hx hb dX9_foldSteps_32 (lv_at hl 3 rfl) ?_
  refine lv_iload hx hb dX9_foldSteps_34 (lv_at hl 1 rfl) ?_
  refine lv_iload hx hb dX9_foldSteps_36 (lv_at hl 0 rfl) ?_
  refine g_cVi (As := [.int 0, .int 2, .int 0]) (rest := [.long (vX9_foldSteps_3 S p1)]) ⟨hx, hb, hml, hown, hts⟩ (c_X9_ofStep l G cA a ha S L H.size (0 : Int32) (2 : Int32) (0 : Int32)  (by decide) (by decide) (by decide) (by decide) (by decide) (by decide)) (cwV 3 hts gX9_foldSteps_X9_ofStep rfl rfl rfl (by decide +kernel) ⟨Nat.le_of_ble_eq_true rfl, Nat.le_of_ble_eq_true rfl⟩) (g_recv hK hP (by decide) rfl (C := RX9) (T := TX9) (N := 4) rfl) hK (mA_mono hS.1) hP hS rfl hl.1 rfl (lv_room (Nat.le_of_ble_eq_true rfl)) dX9_foldSteps_38 ⟨Nat.le_of_ble_eq_true rfl, Nat.le_of_ble_eq_true rfl⟩ (fun H locs hP hS _ _ => ?_)
  refine lv_i2l hx hb dX9_foldSteps_41 rfl ?_
  refine g_cSl (As := [.long (vX9_foldSteps_3 S p1), .long ((rX9_ofStep S (0 : Int32) (2 : Int32) (0 : Int32)).toInt64)]) (rest := []) ⟨hx, hb, hml, hown, hts⟩ (c_X9_fold l G cA a ha S L H.size (vX9_foldSteps_3 S p1) ((rX9_ofStep S (0 : Int32) (2 : Int32) (0 : Int32)).toInt64)  ) (va_cwS 2 hts gX9_foldSteps_X9_fold rfl rfl rfl (by decide +kernel) ⟨Nat.le_of_ble_eq_true rfl, Nat.le_of_ble_eq_true rfl⟩) hK (mA_mono hS.1) hP hS rfl hl.1 rfl (lv_room (Nat.le_of_ble_eq_true rfl)) dX9_foldSteps_42 ⟨Nat.le_of_ble_eq_true rfl, Nat.le_of_ble_eq_true rfl⟩ (fun H locs hP hS _ _ => ?_)
  refine lv_lstore_n (lv' := [(3, .long (rX9_fold (vX9_foldSteps_3 S p1) ((rX9_ofStep S (0 : Int32) (2 : Int32) (0 : Int32)).toInt64))), (7, .int 0), (6, .int 2), (5, .int 0), (0, .ref (a 0)), (1, .long p1)]) hx hb dX9_foldSteps_45 rfl hl (by decide) rfl (fun ls hl => ?_)
  refine lv_iinc (v := 1) (lv' := [(7, .int 1), (3, .long (rX9_fold (vX9_foldSteps_3 S p1) ((rX9_ofStep S (0 : Int32) (2 : Int32) (0 : Int32)).toInt64))), (6, .int 2), (5, .int 0), (0, .ref (a 0)), (1, .long p1)]) hx hb dX9_foldSteps_46 hl (k := 1) rfl (by decide) (by decide) rfl (fun ls hl => ?_)
  refine lv_goto (tgt := 24) hx hb dX9_foldSteps_49 (by decide) ?_
  refine lv_iload hx hb dX9_foldSteps_24 (lv_at hl 0 rfl) ?_
  refine lv_iconst (v := 3) hx hb dX9_foldSteps_26 (by decide) ?_
  refine lv_icmp_ge (tgt := 52) hx hb dX9_foldSteps_27 (by decide) (fun c => absurd c (by decide)) (fun _ => ?_)
  refine lv_lload_n hx hb dX9_foldSteps_30 rfl (lv_at hl 1 rfl) ?_
  refine lv_aload_n hx hb dX9_foldSteps_31 rfl (lv_at hl 4 rfl) ?_
  refine lv_iload hx hb dX9_foldSteps_32 (lv_at hl 3 rfl) ?_
  refine lv_iload hx hb dX9_foldSteps_34 (lv_at hl 2 rfl) ?_
  refine lv_iload hx hb dX9_foldSteps_36 (lv_at hl 0 rfl) ?_
  refine g_cVi (As := [.int 0, .int 2, .int 1]) (rest := [.long (rX9_fold (vX9_foldSteps_3 S p1) ((rX9_ofStep S (0 : Int32) (2 : Int32) (0 : Int32)).toInt64))]) ⟨hx, hb, hml, hown, hts⟩ (c_X9_ofStep l G cA a ha S L H.size (0 : Int32) (2 : Int32) (1 : Int32)  (by decide) (by decide) (by decide) (by decide) (by decide) (by decide)) (cwV 3 hts gX9_foldSteps_X9_ofStep rfl rfl rfl (by decide +kernel) ⟨Nat.le_of_ble_eq_true rfl, Nat.le_of_ble_eq_true rfl⟩) (g_recv hK hP (by decide) rfl (C := RX9) (T := TX9) (N := 4) rfl) hK (mA_mono hS.1) hP hS rfl hl.1 rfl (lv_room (Nat.le_of_ble_eq_true rfl)) dX9_foldSteps_38 ⟨Nat.le_of_ble_eq_true rfl, Nat.le_of_ble_eq_true rfl⟩ (fun H locs hP hS _ _ => ?_)
  refine lv_i2l hx hb dX9_foldSteps_41 rfl ?_
  refine g_cSl (As := [.long (rX9_fold (vX9_foldSteps_3 S p1) ((rX9_ofStep S (0 : Int32) (2 : Int32) (0 : Int32)).toInt64)), .long ((rX9_ofStep S (0 : Int32) (2 : Int32) (1 : Int32)).toInt64)]) (rest := []) ⟨hx, hb, hml, hown, hts⟩ (c_X9_fold l G cA a ha S L H.size (rX9_fold (vX9_foldSteps_3 S p1) ((rX9_ofStep S (0 : Int32) (2 : Int32) (0 : Int32)).toInt64)) ((rX9_ofStep S (0 : Int32) (2 : Int32) (1 : Int32)).toInt64)  ) (va_cwS 2 hts gX9_foldSteps_X9_fold rfl rfl rfl (by decide +kernel) ⟨Nat.le_of_ble_eq_true rfl, Nat.le_of_ble_eq_true rfl⟩) hK (mA_mono hS.1) hP hS rfl hl.1 rfl (lv_room (Nat.le_of_ble_eq_true rfl)) dX9_foldSteps_42 ⟨Nat.le_of_ble_eq_true rfl, Nat.le_of_ble_eq_true rfl⟩ (fun H locs hP hS _ _ => ?_)
  refine W.eq (g2 := F0 m 45 ls [.long (vX9_foldSteps_4 S p1)]) rfl ?_
  refine lv_lstore_n (lv' := [(3, .long (vX9_foldSteps_4 S p1)), (7, .int 1), (6, .int 2), (5, .int 0), (0, .ref (a 0)), (1, .long p1)]) hx hb dX9_foldSteps_45 rfl hl (by decide) rfl (fun ls hl => ?_)
  refine lv_iinc (v := 2) (lv' := [(7, .int 2), (3, .long (vX9_foldSteps_4 S p1)), (6, .int 2), (5, .int 0), (0, .ref (a 0)), (1, .long p1)]) hx hb dX9_foldSteps_46 hl (k := 1) rfl (by decide) (by decide) rfl (fun ls hl => ?_)
  refine lv_goto (tgt := 24) hx hb dX9_foldSteps_49 (by decide) ?_
  refine lv_iload hx hb dX9_foldSteps_24 (lv_at hl 0 rfl) ?_
  refine lv_iconst (v := 3) hx hb dX9_foldSteps_26 (by decide) ?_
  refine lv_icmp_ge (tgt := 52) hx hb dX9_foldSteps_27 (by decide) (fun c => absurd c (by decide)) (fun _ => ?_)
  refine lv_lload_n hx hb dX9_foldSteps_30 rfl (lv_at hl 1 rfl) ?_
  refine lv_aload_n hx hb dX9_foldSteps_31 rfl (lv_at hl 4 rfl) ?_
  refine lv_iload hx hb dX9_foldSteps_32 (lv_at hl 3 rfl) ?_
  refine lv_iload hx hb dX9_foldSteps_34 (lv_at hl 2 rfl) ?_
  refine lv_iload hx hb dX9_foldSteps_36 (lv_at hl 0 rfl) ?_
  refine g_cVi (As := [.int 0, .int 2, .int 2]) (rest := [.long (vX9_foldSteps_4 S p1)]) ⟨hx, hb, hml, hown, hts⟩ (c_X9_ofStep l G cA a ha S L H.size (0 : Int32) (2 : Int32) (2 : Int32)  (by decide) (by decide) (by decide) (by decide) (by decide) (by decide)) (cwV 3 hts gX9_foldSteps_X9_ofStep rfl rfl rfl (by decide +kernel) ⟨Nat.le_of_ble_eq_true rfl, Nat.le_of_ble_eq_true rfl⟩) (g_recv hK hP (by decide) rfl (C := RX9) (T := TX9) (N := 4) rfl) hK (mA_mono hS.1) hP hS rfl hl.1 rfl (lv_room (Nat.le_of_ble_eq_true rfl)) dX9_foldSteps_38 ⟨Nat.le_of_ble_eq_true rfl, Nat.le_of_ble_eq_true rfl⟩ (fun H locs hP hS _ _ => ?_)
  refine lv_i2l hx hb dX9_foldSteps_41 rfl ?_
  refine g_cSl (As := [.long (vX9_foldSteps_4 S p1), .long ((rX9_ofStep S (0 : Int32) (2 : Int32) (2 : Int32)).toInt64)]) (rest := []) ⟨hx, hb, hml, hown, hts⟩ (c_X9_fold l G cA a ha S L H.size (vX9_foldSteps_4 S p1) ((rX9_ofStep S (0 : Int32) (2 : Int32) (2 : Int32)).toInt64)  ) (va_cwS 2 hts gX9_foldSteps_X9_fold rfl rfl rfl (by decide +kernel) ⟨Nat.le_of_ble_eq_true rfl, Nat.le_of_ble_eq_true rfl⟩) hK (mA_mono hS.1) hP hS rfl hl.1 rfl (lv_room (Nat.le_of_ble_eq_true rfl)) dX9_foldSteps_42 ⟨Nat.le_of_ble_eq_true rfl, Nat.le_of_ble_eq_true rfl⟩ (fun H locs hP hS _ _ => ?_)
  refine lv_lstore_n (lv' := [(3, .long (rX9_fold (vX9_foldSteps_4 S p1) ((rX9_ofStep S (0 : Int32) (2 : Int32) (2 : Int32)).toInt64))), (7, .int 2), (6, .int 2), (5, .int 0), (0, .ref (a 0)), (1, .long p1)]) hx hb dX9_foldSteps_45 rfl hl (by decide) rfl (fun ls hl => ?_)
  refine lv_iinc (v := 3) (lv' := [(7, .int 3), (3, .long (rX9_fold (vX9_foldSteps_4 S p1) ((rX9_ofStep S (0 : Int32) (2 : Int32) (2 : Int32)).toInt64))), (6, .int 2), (5, .int 0), (0, .ref (a 0)), (1, .long p1)]) hx hb dX9_foldSteps_46 hl (k := 1) rfl (by decide) (by decide) rfl (fun ls hl => ?_)
  refine lv_goto (tgt := 24) hx hb dX9_foldSteps_49 (by decide) ?_
  refine lv_iload hx hb dX9_foldSteps_24 (lv_at hl 0 rfl) ?_
  refine lv_iconst (v := 3) hx hb dX9_foldSteps_26 (by decide) ?_
  refine lv_icmp_ge (tgt := 52) hx hb dX9_foldSteps_27 (by decide) (fun _ => ?_) (fun c => absurd c (by decide))
  refine lv_iinc (v := 3) (lv' := [(6, .int 3), (7, .int 3), (3, .long (rX9_fold (vX9_foldSteps_4 S p1) ((rX9_ofStep S (0 : Int32) (2 : Int32) (2 : Int32)).toInt64))), (5, .int 0), (0, .ref (a 0)), (1, .long p1)]) hx hb dX9_foldSteps_52 hl (k := 2) rfl (by decide) (by decide) rfl (fun ls hl => ?_)
  refine lv_goto (tgt := 14) hx hb dX9_foldSteps_55 (by decide) ?_
  refine lv_iload hx hb dX9_foldSteps_14 (lv_at hl 0 rfl) ?_
  refine lv_bipush (v := 8) hx hb dX9_foldSteps_16 (by decide) ?_
  refine lv_icmp_ge (tgt := 58) hx hb dX9_foldSteps_18 (by decide) (fun c => absurd c (by decide)) (fun _ => ?_)
  refine lv_iconst (v := 0) hx hb dX9_foldSteps_21 (by decide) ?_
  refine lv_istore (lv' := [(7, .int 0), (6, .int 3), (3, .long (rX9_fold (vX9_foldSteps_4 S p1) ((rX9_ofStep S (0 : Int32) (2 : Int32) (2 : Int32)).toInt64))), (5, .int 0), (0, .ref (a 0)), (1, .long p1)]) hx hb dX9_foldSteps_22 hl (by decide) rfl (fun ls hl => ?_)
  refine lv_iload hx hb dX9_foldSteps_24 (lv_at hl 0 rfl) ?_
  refine lv_iconst (v := 3) hx hb dX9_foldSteps_26 (by decide) ?_
  refine lv_icmp_ge (tgt := 52) hx hb dX9_foldSteps_27 (by decide) (fun c => absurd c (by decide)) (fun _ => ?_)
  refine lv_lload_n hx hb dX9_foldSteps_30 rfl (lv_at hl 2 rfl) ?_
  refine lv_aload_n hx hb dX9_foldSteps_31 rfl (lv_at hl 4 rfl) ?_
  refine lv_iload hx hb dX9_foldSteps_32 (lv_at hl 3 rfl) ?_
  refine lv_iload hx hb dX9_foldSteps_34 (lv_at hl 1 rfl) ?_
  refine lv_iload hx hb dX9_foldSteps_36 (lv_at hl 0 rfl) ?_
  refine g_cVi (As := [.int 0, .int 3, .int 0]) (rest := [.long (rX9_fold (vX9_foldSteps_4 S p1) ((rX9_ofStep S (0 : Int32) (2 : Int32) (2 : Int32)).toInt64))]) ⟨hx, hb, hml, hown, hts⟩ (c_X9_ofStep l G cA a ha S L H.size (0 : Int32) (3 : Int32) (0 : Int32)  (by decide) (by decide) (by decide) (by decide) (by decide) (by decide)) (cwV 3 hts gX9_foldSteps_X9_ofStep rfl rfl rfl (by decide +kernel) ⟨Nat.le_of_ble_eq_true rfl, Nat.le_of_ble_eq_true rfl⟩) (g_recv hK hP (by decide) rfl (C := RX9) (T := TX9) (N := 4) rfl) hK (mA_mono hS.1) hP hS rfl hl.1 rfl (lv_room (Nat.le_of_ble_eq_true rfl)) dX9_foldSteps_38 ⟨Nat.le_of_ble_eq_true rfl, Nat.le_of_ble_eq_true rfl⟩ (fun H locs hP hS _ _ => ?_)
  refine lv_i2l hx hb dX9_foldSteps_41 rfl ?_
  refine g_cSl (As := [.long (rX9_fold (vX9_foldSteps_4 S p1) ((rX9_ofStep S (0 : Int32) (2 : Int32) (2 : Int32)).toInt64)), .long ((rX9_ofStep S (0 : Int32) (3 : Int32) (0 : Int32)).toInt64)]) (rest := []) ⟨hx, hb, hml, hown, hts⟩ (c_X9_fold l G cA a ha S L H.size (rX9_fold (vX9_foldSteps_4 S p1) ((rX9_ofStep S (0 : Int32) (2 : Int32) (2 : Int32)).toInt64)) ((rX9_ofStep S (0 : Int32) (3 : Int32) (0 : Int32)).toInt64)  ) (va_cwS 2 hts gX9_foldSteps_X9_fold rfl rfl rfl (by decide +kernel) ⟨Nat.le_of_ble_eq_true rfl, Nat.le_of_ble_eq_true rfl⟩) hK (mA_mono hS.1) hP hS rfl hl.1 rfl (lv_room (Nat.le_of_ble_eq_true rfl)) dX9_foldSteps_42 ⟨Nat.le_of_ble_eq_true rfl, Nat.le_of_ble_eq_true rfl⟩ (fun H locs hP hS _ _ => ?_)
  refine W.eq (g2 := F0 m 45 ls [.long (vX9_foldSteps_5 S p1)]) rfl ?_
  refine lv_lstore_n (lv' := [(3, .long (vX9_foldSteps_5 S p1)), (7, .int 0), (6, .int 3), (5, .int 0), (0, .ref (a 0)), (1, .long p1)]) hx hb dX9_foldSteps_45 rfl hl (by decide) rfl (fun ls hl => ?_)
  refine lv_iinc (v := 1) (lv' := [(7, .int 1), (3, .long (vX9_foldSteps_5 S p1)), (6, .int 3), (5, .int 0), (0, .ref (a 0)), (1, .long p1)]) hx hb dX9_foldSteps_46 hl (k := 1) rfl (by decide) (by decide) rfl (fun ls hl => ?_)
  refine lv_goto (tgt := 24) hx hb dX9_foldSteps_49 (by decide) ?_
  refine lv_iload hx hb dX9_foldSteps_24 (lv_at hl 0 rfl) ?_
  refine lv_iconst (v := 3) hx hb dX9_foldSteps_26 (by decide) ?_
  refine lv_icmp_ge (tgt := 52) hx hb dX9_foldSteps_27 (by decide) (fun c => absurd c (by decide)) (fun _ => ?_)
  refine lv_lload_n hx hb dX9_foldSteps_30 rfl (lv_at hl 1 rfl) ?_
  refine lv_aload_n hx hb dX9_foldSteps_31 rfl (lv_at hl 4 rfl) ?_
  refine lv_iload hx hb dX9_foldSteps_32 (lv_at hl 3 rfl) ?_
  refine lv_iload hx hb dX9_foldSteps_34 (lv_at hl 2 rfl) ?_
  refine lv_iload hx hb dX9_foldSteps_36 (lv_at hl 0 rfl) ?_
  refine g_cVi (As := [.int 0, .int 3, .int 1]) (rest := [.long (vX9_foldSteps_5 S p1)]) ⟨hx, hb, hml, hown, hts⟩ (c_X9_ofStep l G cA a ha S L H.size (0 : Int32) (3 : Int32) (1 : Int32)  (by decide) (by decide) (by decide) (by decide) (by decide) (by decide)) (cwV 3 hts gX9_foldSteps_X9_ofStep rfl rfl rfl (by decide +kernel) ⟨Nat.le_of_ble_eq_true rfl, Nat.le_of_ble_eq_true rfl⟩) (g_recv hK hP (by decide) rfl (C := RX9) (T := TX9) (N := 4) rfl) hK (mA_mono hS.1) hP hS rfl hl.1 rfl (lv_room (Nat.le_of_ble_eq_true rfl)) dX9_foldSteps_38 ⟨Nat.le_of_ble_eq_true rfl, Nat.le_of_ble_eq_true rfl⟩ (fun H locs hP hS _ _ => ?_)
  refine lv_i2l hx hb dX9_foldSteps_41 rfl ?_
  refine g_cSl (As := [.long (vX9_foldSteps_5 S p1), .long ((rX9_ofStep S (0 : Int32) (3 : Int32) (1 : Int32)).toInt64)]) (rest := []) ⟨hx, hb, hml, hown, hts⟩ (c_X9_fold l G cA a ha S L H.size (vX9_foldSteps_5 S p1) ((rX9_ofStep S (0 : Int32) (3 : Int32) (1 : Int32)).toInt64)  ) (va_cwS 2 hts gX9_foldSteps_X9_fold rfl rfl rfl (by decide +kernel) ⟨Nat.le_of_ble_eq_true rfl, Nat.le_of_ble_eq_true rfl⟩) hK (mA_mono hS.1) hP hS rfl hl.1 rfl (lv_room (Nat.le_of_ble_eq_true rfl)) dX9_foldSteps_42 ⟨Nat.le_of_ble_eq_true rfl, Nat.le_of_ble_eq_true rfl⟩ (fun H locs hP hS _ _ => ?_)
  refine lv_lstore_n (lv' := [(3, .long (rX9_fold (vX9_foldSteps_5 S p1) ((rX9_ofStep S (0 : Int32) (3 : Int32) (1 : Int32)).toInt64))), (7, .int 1), (6, .int 3), (5, .int 0), (0, .ref (a 0)), (1, .long p1)]) hx hb dX9_foldSteps_45 rfl hl (by decide) rfl (fun ls hl => ?_)
  refine lv_iinc (v := 2) (lv' := [(7, .int 2), (3, .long (rX9_fold (vX9_foldSteps_5 S p1) ((rX9_ofStep S (0 : Int32) (3 : Int32) (1 : Int32)).toInt64))), (6, .int 3), (5, .int 0), (0, .ref (a 0)), (1, .long p1)]) hx hb dX9_foldSteps_46 hl (k := 1) rfl (by decide) (by decide) rfl (fun ls hl => ?_)
  refine lv_goto (tgt := 24) hx hb dX9_foldSteps_49 (by decide) ?_
  refine lv_iload hx hb dX9_foldSteps_24 (lv_at hl 0 rfl) ?_
  refine lv_iconst (v := 3) hx hb dX9_foldSteps_26 (by decide) ?_
  refine lv_icmp_ge (tgt := 52) hx hb dX9_foldSteps_27 (by decide) (fun c => absurd c (by decide)) (fun _ => ?_)
  refine lv_lload_n hx hb dX9_foldSteps_30 rfl (lv_at hl 1 rfl) ?_
  refine lv_aload_n hx hb dX9_foldSteps_31 rfl (lv_at hl 4 rfl) ?_
  refine lv_iload hx hb dX9_foldSteps_32 (lv_at hl 3 rfl) ?_
  refine lv_iload hx hb dX9_foldSteps_34 (lv_at hl 2 rfl) ?_
  refine lv_iload hx hb dX9_foldSteps_36 (lv_at hl 0 rfl) ?_
  refine g_cVi (As := [.int 0, .int 3, .int 2]) (rest := [.long (rX9_fold (vX9_foldSteps_5 S p1) ((rX9_ofStep S (0 : Int32) (3 : Int32) (1 : Int32)).toInt64))]) ⟨hx, hb, hml, hown, hts⟩ (c_X9_ofStep l G cA a ha S L H.size (0 : Int32) (3 : Int32) (2 : Int32)  (by decide) (by decide) (by decide) (by decide) (by decide) (by decide)) (cwV 3 hts gX9_foldSteps_X9_ofStep rfl rfl rfl (by decide +kernel) ⟨Nat.le_of_ble_eq_true rfl, Nat.le_of_ble_eq_true rfl⟩) (g_recv hK hP (by decide) rfl (C := RX9) (T := TX9) (N := 4) rfl) hK (mA_mono hS.1) hP hS rfl hl.1 rfl (lv_room (Nat.le_of_ble_eq_true rfl)) dX9_foldSteps_38 ⟨Nat.le_of_ble_eq_true rfl, Nat.le_of_ble_eq_true rfl⟩ (fun H locs hP hS _ _ => ?_)
  refine lv_i2l hx hb dX9_foldSteps_41 rfl ?_
  refine g_cSl (As := [.long (rX9_fold (vX9_foldSteps_5 S p1) ((rX9_ofStep S (0 : Int32) (3 : Int32) (1 : Int32)).toInt64)), .long ((rX9_ofStep S (0 : Int32) (3 : Int32) (2 : Int32)).toInt64)]) (rest := []) ⟨hx, hb, hml, hown, hts⟩ (c_X9_fold l G cA a ha S L H.size (rX9_fold (vX9_foldSteps_5 S p1) ((rX9_ofStep S (0 : Int32) (3 : Int32) (1 : Int32)).toInt64)) ((rX9_ofStep S (0 : Int32) (3 : Int32) (2 : Int32)).toInt64)  ) (va_cwS 2 hts gX9_foldSteps_X9_fold rfl rfl rfl (by decide +kernel) ⟨Nat.le_of_ble_eq_true rfl, Nat.le_of_ble_eq_true rfl⟩) hK (mA_mono hS.1) hP hS rfl hl.1 rfl (lv_room (Nat.le_of_ble_eq_true rfl)) dX9_foldSteps_42 ⟨Nat.le_of_ble_eq_true rfl, Nat.le_of_ble_eq_true rfl⟩ (fun H locs hP hS _ _ => ?_)
  refine W.eq (g2 := F0 m 45 ls [.long (vX9_foldSteps_6 S p1)]) rfl ?_
  refine lv_lstore_n (lv' := [(3, .long (vX9_foldSteps_6 S p1)), (7, .int 2), (6, .int 3), (5, .int 0), (0, .ref (a 0)), (1, .long p1)]) hx hb dX9_foldSteps_45 rfl hl (by decide) rfl (fun ls hl => ?_)
  refine lv_iinc (v := 3) (lv' := [(7, .int 3), (3, .long (vX9_foldSteps_6 S p1)), (6, .int 3), (5, .int 0), (0, .ref (a 0)), (1, .long p1)]) hx hb dX9_foldSteps_46 hl (k := 1) rfl (by decide) (by decide) rfl (fun ls hl => ?_)
  refine lv_goto (tgt := 24) hx hb dX9_foldSteps_49 (by decide) ?_
  refine lv_iload hx hb dX9_foldSteps_24 (lv_at hl 0 rfl) ?_
  refine lv_iconst (v := 3) hx hb dX9_foldSteps_26 (by decide) ?_
  refine lv_icmp_ge (tgt := 52) hx hb dX9_foldSteps_27 (by decide) (fun _ => ?_) (fun c => absurd c (by decide))
  refine lv_iinc (v := 4) (lv' := [(6, .int 4), (7, .int 3), (3, .long (vX9_foldSteps_6 S p1)), (5, .int 0), (0, .ref (a 0)), (1, .long p1)]) hx hb dX9_foldSteps_52 hl (k := 2) rfl (by decide) (by decide) rfl (fun ls hl => ?_)
  refine lv_goto (tgt := 14) hx hb dX9_foldSteps_55 (by decide) ?_
  refine lv_iload hx hb dX9_foldSteps_14 (lv_at hl 0 rfl) ?_
  refine lv_bipush (v := 8) hx hb dX9_foldSteps_16 (by decide) ?_
  refine lv_icmp_ge (tgt := 58) hx hb dX9_foldSteps_18 (by decide) (fun c => absurd c (by decide)) (fun _ => ?_)
  refine lv_iconst (v := 0) hx hb dX9_foldSteps_21 (by decide) ?_
  refine lv_istore (lv' := [(7, .int 0), (6, .int 4), (3, .long (vX9_foldSteps_6 S p1)), (5, .int 0), (0, .ref (a 0)), (1, .long p1)]) hx hb dX9_foldSteps_22 hl (by decide) rfl (fun ls hl => ?_)
  refine lv_iload hx hb dX9_foldSteps_24 (lv_at hl 0 rfl) ?_
  refine lv_iconst (v := 3) hx hb dX9_foldSteps_26 (by decide) ?_
  refine lv_icmp_ge (tgt := 52) hx hb dX9_foldSteps_27 (by decide) (fun c => absurd c (by decide)) (fun _ => ?_)
  refine lv_lload_n hx hb dX9_foldSteps_30 rfl (lv_at hl 2 rfl) ?_
  refine lv_aload_n hx hb dX9_foldSteps_31 rfl (lv_at hl 4 rfl) ?_
  refine lv_iload hx hb dX9_foldSteps_32 (lv_at hl 3 rfl) ?_
  refine lv_iload hx hb dX9_foldSteps_34 (lv_at hl 1 rfl) ?_
  refine lv_iload hx hb dX9_foldSteps_36 (lv_at hl 0 rfl) ?_
  refine g_cVi (As := [.int 0, .int 4, .int 0]) (rest := [.long (vX9_foldSteps_6 S p1)]) ⟨hx, hb, hml, hown, hts⟩ (c_X9_ofStep l G cA a ha S L H.size (0 : Int32) (4 : Int32) (0 : Int32)  (by decide) (by decide) (by decide) (by decide) (by decide) (by decide)) (cwV 3 hts gX9_foldSteps_X9_ofStep rfl rfl rfl (by decide +kernel) ⟨Nat.le_of_ble_eq_true rfl, Nat.le_of_ble_eq_true rfl⟩) (g_recv hK hP (by decide) rfl (C := RX9) (T := TX9) (N := 4) rfl) hK (mA_mono hS.1) hP hS rfl hl.1 rfl (lv_room (Nat.le_of_ble_eq_true rfl)) dX9_foldSteps_38 ⟨Nat.le_of_ble_eq_true rfl, Nat.le_of_ble_eq_true rfl⟩ (fun H locs hP hS _ _ => ?_)
  refine lv_i2l hx hb dX9_foldSteps_41 rfl ?_
  refine g_cSl (As := [.long (vX9_foldSteps_6 S p1), .long ((rX9_ofStep S (0 : Int32) (4 : Int32) (0 : Int32)).toInt64)]) (rest := []) ⟨hx, hb, hml, hown, hts⟩ (c_X9_fold l G cA a ha S L H.size (vX9_foldSteps_6 S p1) ((rX9_ofStep S (0 : Int32) (4 : Int32) (0 : Int32)).toInt64)  ) (va_cwS 2 hts gX9_foldSteps_X9_fold rfl rfl rfl (by decide +kernel) ⟨Nat.le_of_ble_eq_true rfl, Nat.le_of_ble_eq_true rfl⟩) hK (mA_mono hS.1) hP hS rfl hl.1 rfl (lv_room (Nat.le_of_ble_eq_true rfl)) dX9_foldSteps_42 ⟨Nat.le_of_ble_eq_true rfl, Nat.le_of_ble_eq_true rfl⟩ (fun H locs hP hS _ _ => ?_)
  refine lv_lstore_n (lv' := [(3, .long (rX9_fold (vX9_foldSteps_6 S p1) ((rX9_ofStep S (0 : Int32) (4 : Int32) (0 : Int32)).toInt64))), (7, .int 0), (6, .int 4), (5, .int 0), (0, .ref (a 0)), (1, .long p1)]) hx hb dX9_foldSteps_45 rfl hl (by decide) rfl (fun ls hl => ?_)
  refine lv_iinc (v := 1) (lv' := [(7, .int 1), (3, .long (rX9_fold (vX9_foldSteps_6 S p1) ((rX9_ofStep S (0 : Int32) (4 : Int32) (0 : Int32)).toInt64))), (6, .int 4), (5, .int 0), (0, .ref (a 0)), (1, .long p1)]) hx hb dX9_foldSteps_46 hl (k := 1) rfl (by decide) (by decide) rfl (fun ls hl => ?_)
  refine lv_goto (tgt := 24) hx hb dX9_foldSteps_49 (by decide) ?_
  refine lv_iload hx hb dX9_foldSteps_24 (lv_at hl 0 rfl) ?_
  refine lv_iconst (v := 3) hx hb dX9_foldSteps_26 (by decide) ?_
  refine lv_icmp_ge (tgt := 52) hx hb dX9_foldSteps_27 (by decide) (fun c => absurd c (by decide)) (fun _ => ?_)
  refine lv_lload_n hx hb dX9_foldSteps_30 rfl (lv_at hl 1 rfl) ?_
  refine lv_aload_n hx hb dX9_foldSteps_31 rfl (lv_at hl 4 rfl) ?_
  refine lv_iload hx hb dX9_foldSteps_32 (lv_at hl 3 rfl) ?_
  refine lv_iload hx hb dX9_foldSteps_34 (lv_at hl 2 rfl) ?_
  refine lv_iload hx hb dX9_foldSteps_36 (lv_at hl 0 rfl) ?_
  refine g_cVi (As := [.int 0, .int 4, .int 1]) (rest := [.long (rX9_fold (vX9_foldSteps_6 S p1) ((rX9_ofStep S (0 : Int32) (4 : Int32) (0 : Int32)).toInt64))]) ⟨hx, hb, hml, hown, hts⟩ (c_X9_ofStep l G cA a ha S L H.size (0 : Int32) (4 : Int32) (1 : Int32)  (by decide) (by decide) (by decide) (by decide) (by decide) (by decide)) (cwV 3 hts gX9_foldSteps_X9_ofStep rfl rfl rfl (by decide +kernel) ⟨Nat.le_of_ble_eq_true rfl, Nat.le_of_ble_eq_true rfl⟩) (g_recv hK hP (by decide) rfl (C := RX9) (T := TX9) (N := 4) rfl) hK (mA_mono hS.1) hP hS rfl hl.1 rfl (lv_room (Nat.le_of_ble_eq_true rfl)) dX9_foldSteps_38 ⟨Nat.le_of_ble_eq_true rfl, Nat.le_of_ble_eq_true rfl⟩ (fun H locs hP hS _ _ => ?_)
  refine lv_i2l hx hb dX9_foldSteps_41 rfl ?_
  refine g_cSl (As := [.long (rX9_fold (vX9_foldSteps_6 S p1) ((rX9_ofStep S (0 : Int32) (4 : Int32) (0 : Int32)).toInt64)), .long ((rX9_ofStep S (0 : Int32) (4 : Int32) (1 : Int32)).toInt64)]) (rest := []) ⟨hx, hb, hml, hown, hts⟩ (c_X9_fold l G cA a ha S L H.size (rX9_fold (vX9_foldSteps_6 S p1) ((rX9_ofStep S (0 : Int32) (4 : Int32) (0 : Int32)).toInt64)) ((rX9_ofStep S (0 : Int32) (4 : Int32) (1 : Int32)).toInt64)  ) (va_cwS 2 hts gX9_foldSteps_X9_fold rfl rfl rfl (by decide +kernel) ⟨Nat.le_of_ble_eq_true rfl, Nat.le_of_ble_eq_true rfl⟩) hK (mA_mono hS.1) hP hS rfl hl.1 rfl (lv_room (Nat.le_of_ble_eq_true rfl)) dX9_foldSteps_42 ⟨Nat.le_of_ble_eq_true rfl, Nat.le_of_ble_eq_true rfl⟩ (fun H locs hP hS _ _ => ?_)
  refine W.eq (g2 := F0 m 45 ls [.long (vX9_foldSteps_7 S p1)]) rfl ?_
  refine lv_lstore_n (lv' := [(3, .long (vX9_foldSteps_7 S p1)), (7, .int 1), (6, .int 4), (5, .int 0), (0, .ref (a 0)), (1, .long p1)]) hx hb dX9_foldSteps_45 rfl hl (by decide) rfl (fun ls hl => ?_)
  refine lv_iinc (v := 2) (lv' := [(7, .int 2), (3, .long (vX9_foldSteps_7 S p1)), (6, .int 4), (5, .int 0), (0, .ref (a 0)), (1, .long p1)]) hx hb dX9_foldSteps_46 hl (k := 1) rfl (by decide) (by decide) rfl (fun ls hl => ?_)
  refine lv_goto (tgt := 24) hx hb dX9_foldSteps_49 (by decide) ?_
  refine lv_iload hx hb dX9_foldSteps_24 (lv_at hl 0 rfl) ?_
  refine lv_iconst (v := 3) hx hb dX9_foldSteps_26 (by decide) ?_
  refine lv_icmp_ge (tgt := 52) hx hb dX9_foldSteps_27 (by decide) (fun c => absurd c (by decide)) (fun _ => ?_)
  refine lv_lload_n hx hb dX9_foldSteps_30 rfl (lv_at hl 1 rfl) ?_
  refine lv_aload_n hx hb dX9_foldSteps_31 rfl (lv_at hl 4 rfl) ?_
  refine lv_iload hx hb dX9_foldSteps_32 (lv_at hl 3 rfl) ?_
  refine lv_iload hx hb dX9_foldSteps_34 (lv_at hl 2 rfl) ?_
  refine lv_iload hx hb dX9_foldSteps_36 (lv_at hl 0 rfl) ?_
  refine g_cVi (As := [.int 0, .int 4, .int 2]) (rest := [.long (vX9_foldSteps_7 S p1)]) ⟨hx, hb, hml, hown, hts⟩ (c_X9_ofStep l G cA a ha S L H.size (0 : Int32) (4 : Int32) (2 : Int32)  (by decide) (by decide) (by decide) (by decide) (by decide) (by decide)) (cwV 3 hts gX9_foldSteps_X9_ofStep rfl rfl rfl (by decide +kernel) ⟨Nat.le_of_ble_eq_true rfl, Nat.le_of_ble_eq_true rfl⟩) (g_recv hK hP (by decide) rfl (C := RX9) (T := TX9) (N := 4) rfl) hK (mA_mono hS.1) hP hS rfl hl.1 rfl (lv_room (Nat.le_of_ble_eq_true rfl)) dX9_foldSteps_38 ⟨Nat.le_of_ble_eq_true rfl, Nat.le_of_ble_eq_true rfl⟩ (fun H locs hP hS _ _ => ?_)
  refine lv_i2l hx hb dX9_foldSteps_41 rfl ?_
  refine g_cSl (As := [.long (vX9_foldSteps_7 S p1), .long ((rX9_ofStep S (0 : Int32) (4 : Int32) (2 : Int32)).toInt64)]) (rest := []) ⟨hx, hb, hml, hown, hts⟩ (c_X9_fold l G cA a ha S L H.size (vX9_foldSteps_7 S p1) ((rX9_ofStep S (0 : Int32) (4 : Int32) (2 : Int32)).toInt64)  ) (va_cwS 2 hts gX9_foldSteps_X9_fold rfl rfl rfl (by decide +kernel) ⟨Nat.le_of_ble_eq_true rfl, Nat.le_of_ble_eq_true rfl⟩) hK (mA_mono hS.1) hP hS rfl hl.1 rfl (lv_room (Nat.le_of_ble_eq_true rfl)) dX9_foldSteps_42 ⟨Nat.le_of_ble_eq_true rfl, Nat.le_of_ble_eq_true rfl⟩ (fun H locs hP hS _ _ => ?_)
  refine lv_lstore_n (lv' := [(3, .long (rX9_fold (vX9_foldSteps_7 S p1) ((rX9_ofStep S (0 : Int32) (4 : Int32) (2 : Int32)).toInt64))), (7, .int 2), (6, .int 4), (5, .int 0), (0, .ref (a 0)), (1, .long p1)]) hx hb dX9_foldSteps_45 rfl hl (by decide) rfl (fun ls hl => ?_)
  refine lv_iinc (v := 3) (lv' := [(7, .int 3), (3, .long (rX9_fold (vX9_foldSteps_7 S p1) ((rX9_ofStep S (0 : Int32) (4 : Int32) (2 : Int32)).toInt64))), (6, .int 4), (5, .int 0), (0, .ref (a 0)), (1, .long p1)]) hx hb dX9_foldSteps_46 hl (k := 1) rfl (by decide) (by decide) rfl (fun ls hl => ?_)
  refine lv_goto (tgt := 24) hx hb dX9_foldSteps_49 (by decide) ?_
  refine lv_iload hx hb dX9_foldSteps_24 (lv_at hl 0 rfl) ?_
  refine lv_iconst (v := 3) hx hb dX9_foldSteps_26 (by decide) ?_
  refine lv_icmp_ge (tgt := 52) hx hb dX9_foldSteps_27 (by decide) (fun _ => ?_) (fun c => absurd c (by decide))
  refine lv_iinc (v := 5) (lv' := [(6, .int 5), (7, .int 3), (3, .long (rX9_fold (vX9_foldSteps_7 S p1) ((rX9_ofStep S (0 : Int32) (4 : Int32) (2 : Int32)).toInt64))), (5, .int 0), (0, .ref (a 0)), (1, .long p1)]) hx hb dX9_foldSteps_52 hl (k := 2) rfl (by decide) (by decide) rfl (fun ls hl => ?_)
  refine lv_goto (tgt := 14) hx hb dX9_foldSteps_55 (by decide) ?_
  refine lv_iload hx hb dX9_foldSteps_14 (lv_at hl 0 rfl) ?_
  refine lv_bipush (v := 8) hx hb dX9_foldSteps_16 (by decide) ?_
  refine lv_icmp_ge (tgt := 58) hx hb dX9_foldSteps_18 (by decide) (fun c => absurd c (by decide)) (fun _ => ?_)
  refine lv_iconst (v := 0) hx hb dX9_foldSteps_21 (by decide) ?_
  refine lv_istore (lv' := [(7, .int 0), (6, .int 5), (3, .long (rX9_fold (vX9_foldSteps_7 S p1) ((rX9_ofStep S (0 : Int32) (4 : Int32) (2 : Int32)).toInt64))), (5, .int 0), (0, .ref (a 0)), (1, .long p1)]) hx hb dX9_foldSteps_22 hl (by decide) rfl (fun ls hl => ?_)
  refine lv_iload hx hb dX9_foldSteps_24 (lv_at hl 0 rfl) ?_
  refine lv_iconst (v := 3) hx hb dX9_foldSteps_26 (by decide) ?_
  refine lv_icmp_ge (tgt := 52) hx hb dX9_foldSteps_27 (by decide) (fun c => absurd c (by decide)) (fun _ => ?_)
  refine lv_lload_n hx hb dX9_foldSteps_30 rfl (lv_at hl 2 rfl) ?_
  refine lv_aload_n hx hb dX9_foldSteps_31 rfl (lv_at hl 4 rfl) ?_
  refine lv_iload hx hb dX9_foldSteps_32 (lv_at hl 3 rfl) ?_
  refine lv_iload hx hb dX9_foldSteps_34 (lv_at hl 1 rfl) ?_
  refine lv_iload hx hb dX9_foldSteps_36 (lv_at hl 0 rfl) ?_
  refine g_cVi (As := [.int 0, .int 5, .int 0]) (rest := [.long (rX9_fold (vX9_foldSteps_7 S p1) ((rX9_ofStep S (0 : Int32) (4 : Int32) (2 : Int32)).toInt64))]) ⟨hx, hb, hml, hown, hts⟩ (c_X9_ofStep l G cA a ha S L H.size (0 : Int32) (5 : Int32) (0 : Int32)  (by decide) (by decide) (by decide) (by decide) (by decide) (by decide)) (cwV 3 hts gX9_foldSteps_X9_ofStep rfl rfl rfl (by decide +kernel) ⟨Nat.le_of_ble_eq_true rfl, Nat.le_of_ble_eq_true rfl⟩) (g_recv hK hP (by decide) rfl (C := RX9) (T := TX9) (N := 4) rfl) hK (mA_mono hS.1) hP hS rfl hl.1 rfl (lv_room (Nat.le_of_ble_eq_true rfl)) dX9_foldSteps_38 ⟨Nat.le_of_ble_eq_true rfl, Nat.le_of_ble_eq_true rfl⟩ (fun H locs hP hS _ _ => ?_)
  refine lv_i2l hx hb dX9_foldSteps_41 rfl ?_
  refine g_cSl (As := [.long (rX9_fold (vX9_foldSteps_7 S p1) ((rX9_ofStep S (0 : Int32) (4 : Int32) (2 : Int32)).toInt64)), .long ((rX9_ofStep S (0 : Int32) (5 : Int32) (0 : Int32)).toInt64)]) (rest := []) ⟨hx, hb, hml, hown, hts⟩ (c_X9_fold l G cA a ha S L H.size (rX9_fold (vX9_foldSteps_7 S p1) ((rX9_ofStep S (0 : Int32) (4 : Int32) (2 : Int32)).toInt64)) ((rX9_ofStep S (0 : Int32) (5 : Int32) (0 : Int32)).toInt64)  ) (va_cwS 2 hts gX9_foldSteps_X9_fold rfl rfl rfl (by decide +kernel) ⟨Nat.le_of_ble_eq_true rfl, Nat.le_of_ble_eq_true rfl⟩) hK (mA_mono hS.1) hP hS rfl hl.1 rfl (lv_room (Nat.le_of_ble_eq_true rfl)) dX9_foldSteps_42 ⟨Nat.le_of_ble_eq_true rfl, Nat.le_of_ble_eq_true rfl⟩ (fun H locs hP hS _ _ => ?_)
  refine W.eq (g2 := F0 m 45 ls [.long (vX9_foldSteps_8 S p1)]) rfl ?_
  refine lv_lstore_n (lv' := [(3, .long (vX9_foldSteps_8 S p1)), (7, .int 0), (6, .int 5), (5, .int 0), (0, .ref (a 0)), (1, .long p1)]) hx hb dX9_foldSteps_45 rfl hl (by decide) rfl (fun ls hl => ?_)
  refine lv_iinc (v := 1) (lv' := [(7, .int 1), (3, .long (vX9_foldSteps_8 S p1)), (6, .int 5), (5, .int 0), (0, .ref (a 0)), (1, .long p1)]) hx hb dX9_foldSteps_46 hl (k := 1) rfl (by decide) (by decide) rfl (fun ls hl => ?_)
  refine lv_goto (tgt := 24) hx hb dX9_foldSteps_49 (by decide) ?_
  refine lv_iload hx hb dX9_foldSteps_24 (lv_at hl 0 rfl) ?_
  refine lv_iconst (v := 3) hx hb dX9_foldSteps_26 (by decide) ?_
  refine lv_icmp_ge (tgt := 52) hx hb dX9_foldSteps_27 (by decide) (fun c => absurd c (by decide)) (fun _ => ?_)
  refine lv_lload_n hx hb dX9_foldSteps_30 rfl (lv_at hl 1 rfl) ?_
  refine lv_aload_n hx hb dX9_foldSteps_31 rfl (lv_at hl 4 rfl) ?_
  refine lv_iload hx hb dX9_foldSteps_32 (lv_at hl 3 rfl) ?_
  refine lv_iload hx hb dX9_foldSteps_34 (lv_at hl 2 rfl) ?_
  refine lv_iload hx hb dX9_foldSteps_36 (lv_at hl 0 rfl) ?_
  refine g_cVi (As := [.int 0, .int 5, .int 1]) (rest := [.long (vX9_foldSteps_8 S p1)]) ⟨hx, hb, hml, hown, hts⟩ (c_X9_ofStep l G cA a ha S L H.size (0 : Int32) (5 : Int32) (1 : Int32)  (by decide) (by decide) (by decide) (by decide) (by decide) (by decide)) (cwV 3 hts gX9_foldSteps_X9_ofStep rfl rfl rfl (by decide +kernel) ⟨Nat.le_of_ble_eq_true rfl, Nat.le_of_ble_eq_true rfl⟩) (g_recv hK hP (by decide) rfl (C := RX9) (T := TX9) (N := 4) rfl) hK (mA_mono hS.1) hP hS rfl hl.1 rfl (lv_room (Nat.le_of_ble_eq_true rfl)) dX9_foldSteps_38 ⟨Nat.le_of_ble_eq_true rfl, Nat.le_of_ble_eq_true rfl⟩ (fun H locs hP hS _ _ => ?_)
  refine lv_i2l hx hb dX9_foldSteps_41 rfl ?_
  refine g_cSl (As := [.long (vX9_foldSteps_8 S p1), .long ((rX9_ofStep S (0 : Int32) (5 : Int32) (1 : Int32)).toInt64)]) (rest := []) ⟨hx, hb, hml, hown, hts⟩ (c_X9_fold l G cA a ha S L H.size (vX9_foldSteps_8 S p1) ((rX9_ofStep S (0 : Int32) (5 : Int32) (1 : Int32)).toInt64)  ) (va_cwS 2 hts gX9_foldSteps_X9_fold rfl rfl rfl (by decide +kernel) ⟨Nat.le_of_ble_eq_true rfl, Nat.le_of_ble_eq_true rfl⟩) hK (mA_mono hS.1) hP hS rfl hl.1 rfl (lv_room (Nat.le_of_ble_eq_true rfl)) dX9_foldSteps_42 ⟨Nat.le_of_ble_eq_true rfl, Nat.le_of_ble_eq_true rfl⟩ (fun H locs hP hS _ _ => ?_)
  refine lv_lstore_n (lv' := [(3, .long (rX9_fold (vX9_foldSteps_8 S p1) ((rX9_ofStep S (0 : Int32) (5 : Int32) (1 : Int32)).toInt64))), (7, .int 1), (6, .int 5), (5, .int 0), (0, .ref (a 0)), (1, .long p1)]) hx hb dX9_foldSteps_45 rfl hl (by decide) rfl (fun ls hl => ?_)
  refine lv_iinc (v := 2) (lv' := [(7, .int 2), (3, .long (rX9_fold (vX9_foldSteps_8 S p1) ((rX9_ofStep S (0 : Int32) (5 : Int32) (1 : Int32)).toInt64))), (6, .int 5), (5, .int 0), (0, .ref (a 0)), (1, .long p1)]) hx hb dX9_foldSteps_46 hl (k := 1) rfl (by decide) (by decide) rfl (fun ls hl => ?_)
  refine lv_goto (tgt := 24) hx hb dX9_foldSteps_49 (by decide) ?_
  refine lv_iload hx hb dX9_foldSteps_24 (lv_at hl 0 rfl) ?_
  refine lv_iconst (v := 3) hx hb dX9_foldSteps_26 (by decide) ?_
  refine lv_icmp_ge (tgt := 52) hx hb dX9_foldSteps_27 (by decide) (fun c => absurd c (by decide)) (fun _ => ?_)
  refine lv_lload_n hx hb dX9_foldSteps_30 rfl (lv_at hl 1 rfl) ?_
  refine lv_aload_n hx hb dX9_foldSteps_31 rfl (lv_at hl 4 rfl) ?_
  refine lv_iload hx hb dX9_foldSteps_32 (lv_at hl 3 rfl) ?_
  refine lv_iload hx hb dX9_foldSteps_34 (lv_at hl 2 rfl) ?_
  refine lv_iload hx hb dX9_foldSteps_36 (lv_at hl 0 rfl) ?_
  refine g_cVi (As := [.int 0, .int 5, .int 2]) (rest := [.long (rX9_fold (vX9_foldSteps_8 S p1) ((rX9_ofStep S (0 : Int32) (5 : Int32) (1 : Int32)).toInt64))]) ⟨hx, hb, hml, hown, hts⟩ (c_X9_ofStep l G cA a ha S L H.size (0 : Int32) (5 : Int32) (2 : Int32)  (by decide) (by decide) (by decide) (by decide) (by decide) (by decide)) (cwV 3 hts gX9_foldSteps_X9_ofStep rfl rfl rfl (by decide +kernel) ⟨Nat.le_of_ble_eq_true rfl, Nat.le_of_ble_eq_true rfl⟩) (g_recv hK hP (by decide) rfl (C := RX9) (T := TX9) (N := 4) rfl) hK (mA_mono hS.1) hP hS rfl hl.1 rfl (lv_room (Nat.le_of_ble_eq_true rfl)) dX9_foldSteps_38 ⟨Nat.le_of_ble_eq_true rfl, Nat.le_of_ble_eq_true rfl⟩ (fun H locs hP hS _ _ => ?_)
  refine lv_i2l hx hb dX9_foldSteps_41 rfl ?_
  refine g_cSl (As := [.long (rX9_fold (vX9_foldSteps_8 S p1) ((rX9_ofStep S (0 : Int32) (5 : Int32) (1 : Int32)).toInt64)), .long ((rX9_ofStep S (0 : Int32) (5 : Int32) (2 : Int32)).toInt64)]) (rest := []) ⟨hx, hb, hml, hown, hts⟩ (c_X9_fold l G cA a ha S L H.size (rX9_fold (vX9_foldSteps_8 S p1) ((rX9_ofStep S (0 : Int32) (5 : Int32) (1 : Int32)).toInt64)) ((rX9_ofStep S (0 : Int32) (5 : Int32) (2 : Int32)).toInt64)  ) (va_cwS 2 hts gX9_foldSteps_X9_fold rfl rfl rfl (by decide +kernel) ⟨Nat.le_of_ble_eq_true rfl, Nat.le_of_ble_eq_true rfl⟩) hK (mA_mono hS.1) hP hS rfl hl.1 rfl (lv_room (Nat.le_of_ble_eq_true rfl)) dX9_foldSteps_42 ⟨Nat.le_of_ble_eq_true rfl, Nat.le_of_ble_eq_true rfl⟩ (fun H locs hP hS _ _ => ?_)
  refine W.eq (g2 := F0 m 45 ls [.long (vX9_foldSteps_9 S p1)]) rfl ?_
  refine lv_lstore_n (lv' := [(3, .long (vX9_foldSteps_9 S p1)), (7, .int 2), (6, .int 5), (5, .int 0), (0, .ref (a 0)), (1, .long p1)]) hx hb dX9_foldSteps_45 rfl hl (by decide) rfl (fun ls hl => ?_)
  refine lv_iinc (v := 3) (lv' := [(7, .int 3), (3, .long (vX9_foldSteps_9 S p1)), (6, .int 5), (5, .int 0), (0, .ref (a 0)), (1, .long p1)]) hx hb dX9_foldSteps_46 hl (k := 1) rfl (by decide) (by decide) rfl (fun ls hl => ?_)
  refine lv_goto (tgt := 24) hx hb dX9_foldSteps_49 (by decide) ?_
  refine lv_iload hx hb dX9_foldSteps_24 (lv_at hl 0 rfl) ?_
  refine lv_iconst (v := 3) hx hb dX9_foldSteps_26 (by decide) ?_
  refine lv_icmp_ge (tgt := 52) hx hb dX9_foldSteps_27 (by decide) (fun _ => ?_) (fun c => absurd c (by decide))
  refine lv_iinc (v := 6) (lv' := [(6, .int 6), (7, .int 3), (3, .long (vX9_foldSteps_9 S p1)), (5, .int 0), (0, .ref (a 0)), (1, .long p1)]) hx hb dX9_foldSteps_52 hl (k := 2) rfl (by decide) (by decide) rfl (fun ls hl => ?_)
  refine lv_goto (tgt := 14) hx hb dX9_foldSteps_55 (by decide) ?_
  refine lv_iload hx hb dX9_foldSteps_14 (lv_at hl 0 rfl) ?_
  refine lv_bipush (v := 8) hx hb dX9_foldSteps_16 (by decide) ?_
  refine lv_icmp_ge (tgt := 58) hx hb dX9_foldSteps_18 (by decide) (fun c => absurd c (by decide)) (fun _ => ?_)
  refine lv_iconst (v := 0) hx hb dX9_foldSteps_21 (by decide) ?_
  refine lv_istore (lv' := [(7, .int 0), (6, .int 6), (3, .long (vX9_foldSteps_9 S p1)), (5, .int 0), (0, .ref (a 0)), (1, .long p1)]) hx hb dX9_foldSteps_22 hl (by decide) rfl (fun ls hl => ?_)
  refine lv_iload hx hb dX9_foldSteps_24 (lv_at hl 0 rfl) ?_
  refine lv_iconst (v := 3) hx hb dX9_foldSteps_26 (by decide) ?_
  refine lv_icmp_ge (tgt := 52) hx hb dX9_foldSteps_27 (by decide) (fun c => absurd c (by decide)) (fun _ => ?_)
  refine lv_lload_n hx hb dX9_foldSteps_30 rfl (lv_at hl 2 rfl) ?_
  refine lv_aload_n hx hb dX9_foldSteps_31 rfl (lv_at hl 4 rfl) ?_
  refine lv_iload hx hb dX9_foldSteps_32 (lv_at hl 3 rfl) ?_
  refine lv_iload hx hb dX9_foldSteps_34 (lv_at hl 1 rfl) ?_
  refine lv_iload hx hb dX9_foldSteps_36 (lv_at hl 0 rfl) ?_
  refine g_cVi (As := [.int 0, .int 6, .int 0]) (rest := [.long (vX9_foldSteps_9 S p1)]) ⟨hx, hb, hml, hown, hts⟩ (c_X9_ofStep l G cA a ha S L H.size (0 : Int32) (6 : Int32) (0 : Int32)  (by decide) (by decide) (by decide) (by decide) (by decide) (by decide)) (cwV 3 hts gX9_foldSteps_X9_ofStep rfl rfl rfl (by decide +kernel) ⟨Nat.le_of_ble_eq_true rfl, Nat.le_of_ble_eq_true rfl⟩) (g_recv hK hP (by decide) rfl (C := RX9) (T := TX9) (N := 4) rfl) hK (mA_mono hS.1) hP hS rfl hl.1 rfl (lv_room (Nat.le_of_ble_eq_true rfl)) dX9_foldSteps_38 ⟨Nat.le_of_ble_eq_true rfl, Nat.le_of_ble_eq_true rfl⟩ (fun H locs hP hS _ _ => ?_)
  refine lv_i2l hx hb dX9_foldSteps_41 rfl ?_
  refine g_cSl (As := [.long (vX9_foldSteps_9 S p1), .long ((rX9_ofStep S (0 : Int32) (6 : Int32) (0 : Int32)).toInt64)]) (rest := []) ⟨hx, hb, hml, hown, hts⟩ (c_X9_fold l G cA a ha S L H.size (vX9_foldSteps_9 S p1) ((rX9_ofStep S (0 : Int32) (6 : Int32) (0 : Int32)).toInt64)  ) (va_cwS 2 hts gX9_foldSteps_X9_fold rfl rfl rfl (by decide +kernel) ⟨Nat.le_of_ble_eq_true rfl, Nat.le_of_ble_eq_true rfl⟩) hK (mA_mono hS.1) hP hS rfl hl.1 rfl (lv_room (Nat.le_of_ble_eq_true rfl)) dX9_foldSteps_42 ⟨Nat.le_of_ble_eq_true rfl, Nat.le_of_ble_eq_true rfl⟩ (fun H locs hP hS _ _ => ?_)
  refine lv_lstore_n (lv' := [(3, .long (rX9_fold (vX9_foldSteps_9 S p1) ((rX9_ofStep S (0 : Int32) (6 : Int32) (0 : Int32)).toInt64))), (7, .int 0), (6, .int 6), (5, .int 0), (0, .ref (a 0)), (1, .long p1)]) hx hb dX9_foldSteps_45 rfl hl (by decide) rfl (fun ls hl => ?_)
  refine lv_iinc (v := 1) (lv' := [(7, .int 1), (3, .long (rX9_fold (vX9_foldSteps_9 S p1) ((rX9_ofStep S (0 : Int32) (6 : Int32) (0 : Int32)).toInt64))), (6, .int 6), (5, .int 0), (0, .ref (a 0)), (1, .long p1)]) hx hb dX9_foldSteps_46 hl (k := 1) rfl (by decide) (by decide) rfl (fun ls hl => ?_)
  refine lv_goto (tgt := 24) hx hb dX9_foldSteps_49 (by decide) ?_
  refine lv_iload hx hb dX9_foldSteps_24 (lv_at hl 0 rfl) ?_
  refine lv_iconst (v := 3) hx hb dX9_foldSteps_26 (by decide) ?_
  refine lv_icmp_ge (tgt := 52) hx hb dX9_foldSteps_27 (by decide) (fun c => absurd c (by decide)) (fun _ => ?_)
  refine lv_lload_n hx hb dX9_foldSteps_30 rfl (lv_at hl 1 rfl) ?_
  refine lv_aload_n hx hb dX9_foldSteps_31 rfl (lv_at hl 4 rfl) ?_
  refine lv_iload hx hb dX9_foldSteps_32 (lv_at hl 3 rfl) ?_
  refine lv_iload hx hb dX9_foldSteps_34 (lv_at hl 2 rfl) ?_
  refine lv_iload hx hb dX9_foldSteps_36 (lv_at hl 0 rfl) ?_
  refine g_cVi (As := [.int 0, .int 6, .int 1]) (rest := [.long (rX9_fold (vX9_foldSteps_9 S p1) ((rX9_ofStep S (0 : Int32) (6 : Int32) (0 : Int32)).toInt64))]) ⟨hx, hb, hml, hown, hts⟩ (c_X9_ofStep l G cA a ha S L H.size (0 : Int32) (6 : Int32) (1 : Int32)  (by decide) (by decide) (by decide) (by decide) (by decide) (by decide)) (cwV 3 hts gX9_foldSteps_X9_ofStep rfl rfl rfl (by decide +kernel) ⟨Nat.le_of_ble_eq_true rfl, Nat.le_of_ble_eq_true rfl⟩) (g_recv hK hP (by decide) rfl (C := RX9) (T := TX9) (N := 4) rfl) hK (mA_mono hS.1) hP hS rfl hl.1 rfl (lv_room (Nat.le_of_ble_eq_true rfl)) dX9_foldSteps_38 ⟨Nat.le_of_ble_eq_true rfl, Nat.le_of_ble_eq_true rfl⟩ (fun H locs hP hS _ _ => ?_)
  refine lv_i2l hx hb dX9_foldSteps_41 rfl ?_
  refine g_cSl (As := [.long (rX9_fold (vX9_foldSteps_9 S p1) ((rX9_ofStep S (0 : Int32) (6 : Int32) (0 : Int32)).toInt64)), .long ((rX9_ofStep S (0 : Int32) (6 : Int32) (1 : Int32)).toInt64)]) (rest := []) ⟨hx, hb, hml, hown, hts⟩ (c_X9_fold l G cA a ha S L H.size (rX9_fold (vX9_foldSteps_9 S p1) ((rX9_ofStep S (0 : Int32) (6 : Int32) (0 : Int32)).toInt64)) ((rX9_ofStep S (0 : Int32) (6 : Int32) (1 : Int32)).toInt64)  ) (va_cwS 2 hts gX9_foldSteps_X9_fold rfl rfl rfl (by decide +kernel) ⟨Nat.le_of_ble_eq_true rfl, Nat.le_of_ble_eq_true rfl⟩) hK (mA_mono hS.1) hP hS rfl hl.1 rfl (lv_room (Nat.le_of_ble_eq_true rfl)) dX9_foldSteps_42 ⟨Nat.le_of_ble_eq_true rfl, Nat.le_of_ble_eq_true rfl⟩ (fun H locs hP hS _ _ => ?_)
  refine W.eq (g2 := F0 m 45 ls [.long (vX9_foldSteps_10 S p1)]) rfl ?_
  refine lv_lstore_n (lv' := [(3, .long (vX9_foldSteps_10 S p1)), (7, .int 1), (6, .int 6), (5, .int 0), (0, .ref (a 0)), (1, .long p1)]) hx hb dX9_foldSteps_45 rfl hl (by decide) rfl (fun ls hl => ?_)
  refine lv_iinc (v := 2) (lv' := [(7, .int 2), (3, .long (vX9_foldSteps_10 S p1)), (6, .int 6), (5, .int 0), (0, .ref (a 0)), (1, .long p1)]) hx hb dX9_foldSteps_46 hl (k := 1) rfl (by decide) (by decide) rfl (fun ls hl => ?_)
  refine lv_goto (tgt := 24) hx hb dX9_foldSteps_49 (by decide) ?_
  refine lv_iload hx hb dX9_foldSteps_24 (lv_at hl 0 rfl) ?_
  refine lv_iconst (v := 3) hx hb dX9_foldSteps_26 (by decide) ?_
  refine lv_icmp_ge (tgt := 52) hx hb dX9_foldSteps_27 (by decide) (fun c => absurd c (by decide)) (fun _ => ?_)
  refine lv_lload_n hx hb dX9_foldSteps_30 rfl (lv_at hl 1 rfl) ?_
  refine lv_aload_n hx hb dX9_foldSteps_31 rfl (lv_at hl 4 rfl) ?_
  refine lv_iload hx hb dX9_foldSteps_32 (lv_at hl 3 rfl) ?_
  refine lv_iload hx hb dX9_foldSteps_34 (lv_at hl 2 rfl) ?_
  refine lv_iload hx hb dX9_foldSteps_36 (lv_at hl 0 rfl) ?_
  refine g_cVi (As := [.int 0, .int 6, .int 2]) (rest := [.long (vX9_foldSteps_10 S p1)]) ⟨hx, hb, hml, hown, hts⟩ (c_X9_ofStep l G cA a ha S L H.size (0 : Int32) (6 : Int32) (2 : Int32)  (by decide) (by decide) (by decide) (by decide) (by decide) (by decide)) (cwV 3 hts gX9_foldSteps_X9_ofStep rfl rfl rfl (by decide +kernel) ⟨Nat.le_of_ble_eq_true rfl, Nat.le_of_ble_eq_true rfl⟩) (g_recv hK hP (by decide) rfl (C := RX9) (T := TX9) (N := 4) rfl) hK (mA_mono hS.1) hP hS rfl hl.1 rfl (lv_room (Nat.le_of_ble_eq_true rfl)) dX9_foldSteps_38 ⟨Nat.le_of_ble_eq_true rfl, Nat.le_of_ble_eq_true rfl⟩ (fun H locs hP hS _ _ => ?_)
  refine lv_i2l hx hb dX9_foldSteps_41 rfl ?_
  refine g_cSl (As := [.long (vX9_foldSteps_10 S p1), .long ((rX9_ofStep S (0 : Int32) (6 : Int32) (2 : Int32)).toInt64)]) (rest := []) ⟨hx, hb, hml, hown, hts⟩ (c_X9_fold l G cA a ha S L H.size (vX9_foldSteps_10 S p1) ((rX9_ofStep S (0 : Int32) (6 : Int32) (2 : Int32)).toInt64)  ) (va_cwS 2 hts gX9_foldSteps_X9_fold rfl rfl rfl (by decide +kernel) ⟨Nat.le_of_ble_eq_true rfl, Nat.le_of_ble_eq_true rfl⟩) hK (mA_mono hS.1) hP hS rfl hl.1 rfl (lv_room (Nat.le_of_ble_eq_true rfl)) dX9_foldSteps_42 ⟨Nat.le_of_ble_eq_true rfl, Nat.le_of_ble_eq_true rfl⟩ (fun H locs hP hS _ _ => ?_)
  refine lv_lstore_n (lv' := [(3, .long (rX9_fold (vX9_foldSteps_10 S p1) ((rX9_ofStep S (0 : Int32) (6 : Int32) (2 : Int32)).toInt64))), (7, .int 2), (6, .int 6), (5, .int 0), (0, .ref (a 0)), (1, .long p1)]) hx hb dX9_foldSteps_45 rfl hl (by decide) rfl (fun ls hl => ?_)
  refine lv_iinc (v := 3) (lv' := [(7, .int 3), (3, .long (rX9_fold (vX9_foldSteps_10 S p1) ((rX9_ofStep S (0 : Int32) (6 : Int32) (2 : Int32)).toInt64))), (6, .int 6), (5, .int 0), (0, .ref (a 0)), (1, .long p1)]) hx hb dX9_foldSteps_46 hl (k := 1) rfl (by decide) (by decide) rfl (fun ls hl => ?_)
  refine lv_goto (tgt := 24) hx hb dX9_foldSteps_49 (by decide) ?_
  refine lv_iload hx hb dX9_foldSteps_24 (lv_at hl 0 rfl) ?_
  refine lv_iconst (v := 3) hx hb dX9_foldSteps_26 (by decide) ?_
  refine lv_icmp_ge (tgt := 52) hx hb dX9_foldSteps_27 (by decide) (fun _ => ?_) (fun c => absurd c (by decide))
  refine lv_iinc (v := 7) (lv' := [(6, .int 7), (7, .int 3), (3, .long (rX9_fold (vX9_foldSteps_10 S p1) ((rX9_ofStep S (0 : Int32) (6 : Int32) (2 : Int32)).toInt64))), (5, .int 0), (0, .ref (a 0)), (1, .long p1)]) hx hb dX9_foldSteps_52 hl (k := 2) rfl (by decide) (by decide) rfl (fun ls hl => ?_)
  refine lv_goto (tgt := 14) hx hb dX9_foldSteps_55 (by decide) ?_
  refine lv_iload hx hb dX9_foldSteps_14 (lv_at hl 0 rfl) ?_
  refine lv_bipush (v := 8) hx hb dX9_foldSteps_16 (by decide) ?_
  refine lv_icmp_ge (tgt := 58) hx hb dX9_foldSteps_18 (by decide) (fun c => absurd c (by decide)) (fun _ => ?_)
  refine lv_iconst (v := 0) hx hb dX9_foldSteps_21 (by decide) ?_
  refine lv_istore (lv' := [(7, .int 0), (6, .int 7), (3, .long (rX9_fold (vX9_foldSteps_10 S p1) ((rX9_ofStep S (0 : Int32) (6 : Int32) (2 : Int32)).toInt64))), (5, .int 0), (0, .ref (a 0)), (1, .long p1)]) hx hb dX9_foldSteps_22 hl (by decide) rfl (fun ls hl => ?_)
  refine lv_iload hx hb dX9_foldSteps_24 (lv_at hl 0 rfl) ?_
  refine lv_iconst (v := 3) hx hb dX9_foldSteps_26 (by decide) ?_
  refine lv_icmp_ge (tgt := 52) hx hb dX9_foldSteps_27 (by decide) (fun c => absurd c (by decide)) (fun _ => ?_)
  refine lv_lload_n hx hb dX9_foldSteps_30 rfl (lv_at hl 2 rfl) ?_
  refine lv_aload_n hx hb dX9_foldSteps_31 rfl (lv_at hl 4 rfl) ?_
  refine lv_iload hx hb dX9_foldSteps_32 (lv_at hl 3 rfl) ?_
  refine lv_iload hx hb dX9_foldSteps_34 (lv_at hl 1 rfl) ?_
  refine lv_iload hx hb dX9_foldSteps_36 (lv_at hl 0 rfl) ?_
  refine g_cVi (As := [.int 0, .int 7, .int 0]) (rest := [.long (rX9_fold (vX9_foldSteps_10 S p1) ((rX9_ofStep S (0 : Int32) (6 : Int32) (2 : Int32)).toInt64))]) ⟨hx, hb, hml, hown, hts⟩ (c_X9_ofStep l G cA a ha S L H.size (0 : Int32) (7 : Int32) (0 : Int32)  (by decide) (by decide) (by decide) (by decide) (by decide) (by decide)) (cwV 3 hts gX9_foldSteps_X9_ofStep rfl rfl rfl (by decide +kernel) ⟨Nat.le_of_ble_eq_true rfl, Nat.le_of_ble_eq_true rfl⟩) (g_recv hK hP (by decide) rfl (C := RX9) (T := TX9) (N := 4) rfl) hK (mA_mono hS.1) hP hS rfl hl.1 rfl (lv_room (Nat.le_of_ble_eq_true rfl)) dX9_foldSteps_38 ⟨Nat.le_of_ble_eq_true rfl, Nat.le_of_ble_eq_true rfl⟩ (fun H locs hP hS _ _ => ?_)
  refine lv_i2l hx hb dX9_foldSteps_41 rfl ?_
  refine g_cSl (As := [.long (rX9_fold (vX9_foldSteps_10 S p1) ((rX9_ofStep S (0 : Int32) (6 : Int32) (2 : Int32)).toInt64)), .long ((rX9_ofStep S (0 : Int32) (7 : Int32) (0 : Int32)).toInt64)]) (rest := []) ⟨hx, hb, hml, hown, hts⟩ (c_X9_fold l G cA a ha S L H.size (rX9_fold (vX9_foldSteps_10 S p1) ((rX9_ofStep S (0 : Int32) (6 : Int32) (2 : Int32)).toInt64)) ((rX9_ofStep S (0 : Int32) (7 : Int32) (0 : Int32)).toInt64)  ) (va_cwS 2 hts gX9_foldSteps_X9_fold rfl rfl rfl (by decide +kernel) ⟨Nat.le_of_ble_eq_true rfl, Nat.le_of_ble_eq_true rfl⟩) hK (mA_mono hS.1) hP hS rfl hl.1 rfl (lv_room (Nat.le_of_ble_eq_true rfl)) dX9_foldSteps_42 ⟨Nat.le_of_ble_eq_true rfl, Nat.le_of_ble_eq_true rfl⟩ (fun H locs hP hS _ _ => ?_)
  refine W.eq (g2 := F0 m 45 ls [.long (vX9_foldSteps_11 S p1)]) rfl ?_
  refine lv_lstore_n (lv' := [(3, .long (vX9_foldSteps_11 S p1)), (7, .int 0), (6, .int 7), (5, .int 0), (0, .ref (a 0)), (1, .long p1)]) hx hb dX9_foldSteps_45 rfl hl (by decide) rfl (fun ls hl => ?_)
  refine lv_iinc (v := 1) (lv' := [(7, .int 1), (3, .long (vX9_foldSteps_11 S p1)), (6, .int 7), (5, .int 0), (0, .ref (a 0)), (1, .long p1)]) hx hb dX9_foldSteps_46 hl (k := 1) rfl (by decide) (by decide) rfl (fun ls hl => ?_)
  refine lv_goto (tgt := 24) hx hb dX9_foldSteps_49 (by decide) ?_
  refine lv_iload hx hb dX9_foldSteps_24 (lv_at hl 0 rfl) ?_
  refine lv_iconst (v := 3) hx hb dX9_foldSteps_26 (by decide) ?_
  refine lv_icmp_ge (tgt := 52) hx hb dX9_foldSteps_27 (by decide) (fun c => absurd c (by decide)) (fun _ => ?_)
  refine lv_lload_n hx hb dX9_foldSteps_30 rfl (lv_at hl 1 rfl) ?_
  refine lv_aload_n hx hb dX9_foldSteps_31 rfl (lv_at hl 4 rfl) ?_
  refine lv_iload hx hb dX9_foldSteps_32 (lv_at hl 3 rfl) ?_
  refine lv_iload hx hb dX9_foldSteps_34 (lv_at hl 2 rfl) ?_
  refine lv_iload hx hb dX9_foldSteps_36 (lv_at hl 0 rfl) ?_
  refine g_cVi (As := [.int 0, .int 7, .int 1]) (rest := [.long (vX9_foldSteps_11 S p1)]) ⟨hx, hb, hml, hown, hts⟩ (c_X9_ofStep l G cA a ha S L H.size (0 : Int32) (7 : Int32) (1 : Int32)  (by decide) (by decide) (by decide) (by decide) (by decide) (by decide)) (cwV 3 hts gX9_foldSteps_X9_ofStep rfl rfl rfl (by decide +kernel) ⟨Nat.le_of_ble_eq_true rfl, Nat.le_of_ble_eq_true rfl⟩) (g_recv hK hP (by decide) rfl (C := RX9) (T := TX9) (N := 4) rfl) hK (mA_mono hS.1) hP hS rfl hl.1 rfl (lv_room (Nat.le_of_ble_eq_true rfl)) dX9_foldSteps_38 ⟨Nat.le_of_ble_eq_true rfl, Nat.le_of_ble_eq_true rfl⟩ (fun H locs hP hS _ _ => ?_)
  refine lv_i2l hx hb dX9_foldSteps_41 rfl ?_
  refine g_cSl (As := [.long (vX9_foldSteps_11 S p1), .long ((rX9_ofStep S (0 : Int32) (7 : Int32) (1 : Int32)).toInt64)]) (rest := []) ⟨hx, hb, hml, hown, hts⟩ (c_X9_fold l G cA a ha S L H.size (vX9_foldSteps_11 S p1) ((rX9_ofStep S (0 : Int32) (7 : Int32) (1 : Int32)).toInt64)  ) (va_cwS 2 hts gX9_foldSteps_X9_fold rfl rfl rfl (by decide +kernel) ⟨Nat.le_of_ble_eq_true rfl, Nat.le_of_ble_eq_true rfl⟩) hK (mA_mono hS.1) hP hS rfl hl.1 rfl (lv_room (Nat.le_of_ble_eq_true rfl)) dX9_foldSteps_42 ⟨Nat.le_of_ble_eq_true rfl, Nat.le_of_ble_eq_true rfl⟩ (fun H locs hP hS _ _ => ?_)
  refine lv_lstore_n (lv' := [(3, .long (rX9_fold (vX9_foldSteps_11 S p1) ((rX9_ofStep S (0 : Int32) (7 : Int32) (1 : Int32)).toInt64))), (7, .int 1), (6, .int 7), (5, .int 0), (0, .ref (a 0)), (1, .long p1)]) hx hb dX9_foldSteps_45 rfl hl (by decide) rfl (fun ls hl => ?_)
  refine lv_iinc (v := 2) (lv' := [(7, .int 2), (3, .long (rX9_fold (vX9_foldSteps_11 S p1) ((rX9_ofStep S (0 : Int32) (7 : Int32) (1 : Int32)).toInt64))), (6, .int 7), (5, .int 0), (0, .ref (a 0)), (1, .long p1)]) hx hb dX9_foldSteps_46 hl (k := 1) rfl (by decide) (by decide) rfl (fun ls hl => ?_)
  refine lv_goto (tgt := 24) hx hb dX9_foldSteps_49 (by decide) ?_
  refine lv_iload hx hb dX9_foldSteps_24 (lv_at hl 0 rfl) ?_
  refine lv_iconst (v := 3) hx hb dX9_foldSteps_26 (by decide) ?_
  refine lv_icmp_ge (tgt := 52) hx hb dX9_foldSteps_27 (by decide) (fun c => absurd c (by decide)) (fun _ => ?_)
  refine lv_lload_n hx hb dX9_foldSteps_30 rfl (lv_at hl 1 rfl) ?_
  refine lv_aload_n hx hb dX9_foldSteps_31 rfl (lv_at hl 4 rfl) ?_
  refine lv_iload hx hb dX9_foldSteps_32 (lv_at hl 3 rfl) ?_
  refine lv_iload hx hb dX9_foldSteps_34 (lv_at hl 2 rfl) ?_
  refine lv_iload hx hb dX9_foldSteps_36 (lv_at hl 0 rfl) ?_
  refine g_cVi (As := [.int 0, .int 7, .int 2]) (rest := [.long (rX9_fold (vX9_foldSteps_11 S p1) ((rX9_ofStep S (0 : Int32) (7 : Int32) (1 : Int32)).toInt64))]) ⟨hx, hb, hml, hown, hts⟩ (c_X9_ofStep l G cA a ha S L H.size (0 : Int32) (7 : Int32) (2 : Int32)  (by decide) (by decide) (by decide) (by decide) (by decide) (by decide)) (cwV 3 hts gX9_foldSteps_X9_ofStep rfl rfl rfl (by decide +kernel) ⟨Nat.le_of_ble_eq_true rfl, Nat.le_of_ble_eq_true rfl⟩) (g_recv hK hP (by decide) rfl (C := RX9) (T := TX9) (N := 4) rfl) hK (mA_mono hS.1) hP hS rfl hl.1 rfl (lv_room (Nat.le_of_ble_eq_true rfl)) dX9_foldSteps_38 ⟨Nat.le_of_ble_eq_true rfl, Nat.le_of_ble_eq_true rfl⟩ (fun H locs hP hS _ _ => ?_)
  refine lv_i2l hx hb dX9_foldSteps_41 rfl ?_
  refine g_cSl (As := [.long (rX9_fold (vX9_foldSteps_11 S p1) ((rX9_ofStep S (0 : Int32) (7 : Int32) (1 : Int32)).toInt64)), .long ((rX9_ofStep S (0 : Int32) (7 : Int32) (2 : Int32)).toInt64)]) (rest := []) ⟨hx, hb, hml, hown, hts⟩ (c_X9_fold l G cA a ha S L H.size (rX9_fold (vX9_foldSteps_11 S p1) ((rX9_ofStep S (0 : Int32) (7 : Int32) (1 : Int32)).toInt64)) ((rX9_ofStep S (0 : Int32) (7 : Int32) (2 : Int32)).toInt64)  ) (va_cwS 2 hts gX9_foldSteps_X9_fold rfl rfl rfl (by decide +kernel) ⟨Nat.le_of_ble_eq_true rfl, Nat.le_of_ble_eq_true rfl⟩) hK (mA_mono hS.1) hP hS rfl hl.1 rfl (lv_room (Nat.le_of_ble_eq_true rfl)) dX9_foldSteps_42 ⟨Nat.le_of_ble_eq_true rfl, Nat.le_of_ble_eq_true rfl⟩ (fun H locs hP hS _ _ => ?_)
  refine W.eq (g2 := F0 m 45 ls [.long (vX9_foldSteps_12 S p1)]) rfl ?_
  refine lv_lstore_n (lv' := [(3, .long (vX9_foldSteps_12 S p1)), (7, .int 2), (6, .int 7), (5, .int 0), (0, .ref (a 0)), (1, .long p1)]) hx hb dX9_foldSteps_45 rfl hl (by decide) rfl (fun ls hl => ?_)
  refine lv_iinc (v := 3) (lv' := [(7, .int 3), (3, .long (vX9_foldSteps_12 S p1)), (6, .int 7), (5, .int 0), (0, .ref (a 0)), (1, .long p1)]) hx hb dX9_foldSteps_46 hl (k := 1) rfl (by decide) (by decide) rfl (fun ls hl => ?_)
  refine lv_goto (tgt := 24) hx hb dX9_foldSteps_49 (by decide) ?_
  refine lv_iload hx hb dX9_foldSteps_24 (lv_at hl 0 rfl) ?_
  refine lv_iconst (v := 3) hx hb dX9_foldSteps_26 (by decide) ?_
  refine lv_icmp_ge (tgt := 52) hx hb dX9_foldSteps_27 (by decide) (fun _ => ?_) (fun c => absurd c (by decide))
  refine lv_iinc (v := 8) (lv' := [(6, .int 8), (7, .int 3), (3, .long (vX9_foldSteps_12 S p1)), (5, .int 0), (0, .ref (a 0)), (1, .long p1)]) hx hb dX9_foldSteps_52 hl (k := 2) rfl (by decide) (by decide) rfl (fun ls hl => ?_)
  refine lv_goto (tgt := 14) hx hb dX9_foldSteps_55 (by decide) ?_
  refine lv_iload hx hb dX9_foldSteps_14 (lv_at hl 0 rfl) ?_
  refine lv_bipush (v := 8) hx hb dX9_foldSteps_16 (by decide) ?_
  refine lv_icmp_ge (tgt := 58) hx hb dX9_foldSteps_18 (by decide) (fun _ => ?_) (fun c => absurd c (by decide))
  refine lv_iinc (v := 1) (lv' := [(5, .int 1), (6, .int 8), (7, .int 3), (3, .long (vX9_foldSteps_12 S p1)), (0, .ref (a 0)), (1, .long p1)]) hx hb dX9_foldSteps_58 hl (k := 3) rfl (by decide) (by decide) rfl (fun ls hl => ?_)
  refine lv_goto (tgt := 5) hx hb dX9_foldSteps_61 (by decide) ?_
  refine lv_iload hx hb dX9_foldSteps_5 (lv_at hl 0 rfl) ?_
  refine lv_iconst (v := 3) hx hb dX9_foldSteps_7 (by decide) ?_
  refine lv_icmp_ge (tgt := 64) hx hb dX9_foldSteps_8 (by decide) (fun c => absurd c (by decide)) (fun _ => ?_)
  refine lv_iconst (v := 0) hx hb dX9_foldSteps_11 (by decide) ?_
  refine lv_istore (lv' := [(6, .int 0), (5, .int 1), (7, .int 3), (3, .long (vX9_foldSteps_12 S p1)), (0, .ref (a 0)), (1, .long p1)]) hx hb dX9_foldSteps_12 hl (by decide) rfl (fun ls hl => ?_)
  refine lv_iload hx hb dX9_foldSteps_14 (lv_at hl 0 rfl) ?_
  refine lv_bipush (v := 8) hx hb dX9_foldSteps_16 (by decide) ?_
  refine lv_icmp_ge (tgt := 58) hx hb dX9_foldSteps_18 (by decide) (fun c => absurd c (by decide)) (fun _ => ?_)
  refine lv_iconst (v := 0) hx hb dX9_foldSteps_21 (by decide) ?_
  refine lv_istore (lv' := [(7, .int 0), (6, .int 0), (5, .int 1), (3, .long (vX9_foldSteps_12 S p1)), (0, .ref (a 0)), (1, .long p1)]) hx hb dX9_foldSteps_22 hl (by decide) rfl (fun ls hl => ?_)
  refine lv_iload hx hb dX9_foldSteps_24 (lv_at hl 0 rfl) ?_
  refine lv_iconst (v := 3) hx hb dX9_foldSteps_26 (by decide) ?_
  refine lv_icmp_ge (tgt := 52) hx hb dX9_foldSteps_27 (by decide) (fun c => absurd c (by decide)) (fun _ => ?_)
  refine lv_lload_n hx hb dX9_foldSteps_30 rfl (lv_at hl 3 rfl) ?_
  refine lv_aload_n hx hb dX9_foldSteps_31 rfl (lv_at hl 4 rfl) ?_
  refine lv_iload hx hb dX9_foldSteps_32 (lv_at hl 2 rfl) ?_
  refine lv_iload hx hb dX9_foldSteps_34 (lv_at hl 1 rfl) ?_
  refine lv_iload hx hb dX9_foldSteps_36 (lv_at hl 0 rfl) ?_
  refine g_cVi (As := [.int 1, .int 0, .int 0]) (rest := [.long (vX9_foldSteps_12 S p1)]) ⟨hx, hb, hml, hown, hts⟩ (c_X9_ofStep l G cA a ha S L H.size (1 : Int32) (0 : Int32) (0 : Int32)  (by decide) (by decide) (by decide) (by decide) (by decide) (by decide)) (cwV 3 hts gX9_foldSteps_X9_ofStep rfl rfl rfl (by decide +kernel) ⟨Nat.le_of_ble_eq_true rfl, Nat.le_of_ble_eq_true rfl⟩) (g_recv hK hP (by decide) rfl (C := RX9) (T := TX9) (N := 4) rfl) hK (mA_mono hS.1) hP hS rfl hl.1 rfl (lv_room (Nat.le_of_ble_eq_true rfl)) dX9_foldSteps_38 ⟨Nat.le_of_ble_eq_true rfl, Nat.le_of_ble_eq_true rfl⟩ (fun H locs hP hS _ _ => ?_)
  refine lv_i2l hx hb dX9_foldSteps_41 rfl ?_
  refine g_cSl (As := [.long (vX9_foldSteps_12 S p1), .long ((rX9_ofStep S (1 : Int32) (0 : Int32) (0 : Int32)).toInt64)]) (rest := []) ⟨hx, hb, hml, hown, hts⟩ (c_X9_fold l G cA a ha S L H.size (vX9_foldSteps_12 S p1) ((rX9_ofStep S (1 : Int32) (0 : Int32) (0 : Int32)).toInt64)  ) (va_cwS 2 hts gX9_foldSteps_X9_fold rfl rfl rfl (by decide +kernel) ⟨Nat.le_of_ble_eq_true rfl, Nat.le_of_ble_eq_true rfl⟩) hK (mA_mono hS.1) hP hS rfl hl.1 rfl (lv_room (Nat.le_of_ble_eq_true rfl)) dX9_foldSteps_42 ⟨Nat.le_of_ble_eq_true rfl, Nat.le_of_ble_eq_true rfl⟩ (fun H locs hP hS _ _ => ?_)
  refine lv_lstore_n (lv' := [(3, .long (rX9_fold (vX9_foldSteps_12 S p1) ((rX9_ofStep S (1 : Int32) (0 : Int32) (0 : Int32)).toInt64))), (7, .int 0), (6, .int 0), (5, .int 1), (0, .ref (a 0)), (1, .long p1)]) hx hb dX9_foldSteps_45 rfl hl (by decide) rfl (fun ls hl => ?_)
  refine lv_iinc (v := 1) (lv' := [(7, .int 1), (3, .long (rX9_fold (vX9_foldSteps_12 S p1) ((rX9_ofStep S (1 : Int32) (0 : Int32) (0 : Int32)).toInt64))), (6, .int 0), (5, .int 1), (0, .ref (a 0)), (1, .long p1)]) hx hb dX9_foldSteps_46 hl (k := 1) rfl (by decide) (by decide) rfl (fun ls hl => ?_)
  refine lv_goto (tgt := 24) hx hb dX9_foldSteps_49 (by decide) ?_
  refine lv_iload hx hb dX9_foldSteps_24 (lv_at hl 0 rfl) ?_
  refine lv_iconst (v := 3) hx hb dX9_foldSteps_26 (by decide) ?_
  refine lv_icmp_ge (tgt := 52) hx hb dX9_foldSteps_27 (by decide) (fun c => absurd c (by decide)) (fun _ => ?_)
  refine lv_lload_n hx hb dX9_foldSteps_30 rfl (lv_at hl 1 rfl) ?_
  refine lv_aload_n hx hb dX9_foldSteps_31 rfl (lv_at hl 4 rfl) ?_
  refine lv_iload hx hb dX9_foldSteps_32 (lv_at hl 3 rfl) ?_
  refine lv_iload hx hb dX9_foldSteps_34 (lv_at hl 2 rfl) ?_
  refine lv_iload hx hb dX9_foldSteps_36 (lv_at hl 0 rfl) ?_
  refine g_cVi (As := [.int 1, .int 0, .int 1]) (rest := [.long (rX9_fold (vX9_foldSteps_12 S p1) ((rX9_ofStep S (1 : Int32) (0 : Int32) (0 : Int32)).toInt64))]) ⟨hx, hb, hml, hown, hts⟩ (c_X9_ofStep l G cA a ha S L H.size (1 : Int32) (0 : Int32) (1 : Int32)  (by decide) (by decide) (by decide) (by decide) (by decide) (by decide)) (cwV 3 hts gX9_foldSteps_X9_ofStep rfl rfl rfl (by decide +kernel) ⟨Nat.le_of_ble_eq_true rfl, Nat.le_of_ble_eq_true rfl⟩) (g_recv hK hP (by decide) rfl (C := RX9) (T := TX9) (N := 4) rfl) hK (mA_mono hS.1) hP hS rfl hl.1 rfl (lv_room (Nat.le_of_ble_eq_true rfl)) dX9_foldSteps_38 ⟨Nat.le_of_ble_eq_true rfl, Nat.le_of_ble_eq_true rfl⟩ (fun H locs hP hS _ _ => ?_)
  refine lv_i2l hx hb dX9_foldSteps_41 rfl ?_
  refine g_cSl (As := [.long (rX9_fold (vX9_foldSteps_12 S p1) ((rX9_ofStep S (1 : Int32) (0 : Int32) (0 : Int32)).toInt64)), .long ((rX9_ofStep S (1 : Int32) (0 : Int32) (1 : Int32)).toInt64)]) (rest := []) ⟨hx, hb, hml, hown, hts⟩ (c_X9_fold l G cA a ha S L H.size (rX9_fold (vX9_foldSteps_12 S p1) ((rX9_ofStep S (1 : Int32) (0 : Int32) (0 : Int32)).toInt64)) ((rX9_ofStep S (1 : Int32) (0 : Int32) (1 : Int32)).toInt64)  ) (va_cwS 2 hts gX9_foldSteps_X9_fold rfl rfl rfl (by decide +kernel) ⟨Nat.le_of_ble_eq_true rfl, Nat.le_of_ble_eq_true rfl⟩) hK (mA_mono hS.1) hP hS rfl hl.1 rfl (lv_room (Nat.le_of_ble_eq_true rfl)) dX9_foldSteps_42 ⟨Nat.le_of_ble_eq_true rfl, Nat.le_of_ble_eq_true rfl⟩ (fun H locs hP hS _ _ => ?_)
  refine W.eq (g2 := F0 m 45 ls [.long (vX9_foldSteps_13 S p1)]) rfl ?_
  refine lv_lstore_n (lv' := [(3, .long (vX9_foldSteps_13 S p1)), (7, .int 1), (6, .int 0), (5, .int 1), (0, .ref (a 0)), (1, .long p1)]) hx hb dX9_foldSteps_45 rfl hl (by decide) rfl (fun ls hl => ?_)
  refine lv_iinc (v := 2) (lv' := [(7, .int 2), (3, .long (vX9_foldSteps_13 S p1)), (6, .int 0), (5, .int 1), (0, .ref (a 0)), (1, .long p1)]) hx hb dX9_foldSteps_46 hl (k := 1) rfl (by decide) (by decide) rfl (fun ls hl => ?_)
  refine lv_goto (tgt := 24) hx hb dX9_foldSteps_49 (by decide) ?_
  refine lv_iload hx hb dX9_foldSteps_24 (lv_at hl 0 rfl) ?_
  refine lv_iconst (v := 3) hx hb dX9_foldSteps_26 (by decide) ?_
  refine lv_icmp_ge (tgt := 52) hx hb dX9_foldSteps_27 (by decide) (fun c => absurd c (by decide)) (fun _ => ?_)
  refine lv_lload_n hx hb dX9_foldSteps_30 rfl (lv_at hl 1 rfl) ?_
  refine lv_aload_n hx hb dX9_foldSteps_31 rfl (lv_at hl 4 rfl) ?_
  refine lv_iload hx hb dX9_foldSteps_32 (lv_at hl 3 rfl) ?_
  refine lv_iload hx hb dX9_foldSteps_34 (lv_at hl 2 rfl) ?_
  refine lv_iload hx hb dX9_foldSteps_36 (lv_at hl 0 rfl) ?_
  refine g_cVi (As := [.int 1, .int 0, .int 2]) (rest := [.long (vX9_foldSteps_13 S p1)]) ⟨hx, hb, hml, hown, hts⟩ (c_X9_ofStep l G cA a ha S L H.size (1 : Int32) (0 : Int32) (2 : Int32)  (by decide) (by decide) (by decide) (by decide) (by decide) (by decide)) (cwV 3 hts gX9_foldSteps_X9_ofStep rfl rfl rfl (by decide +kernel) ⟨Nat.le_of_ble_eq_true rfl, Nat.le_of_ble_eq_true rfl⟩) (g_recv hK hP (by decide) rfl (C := RX9) (T := TX9) (N := 4) rfl) hK (mA_mono hS.1) hP hS rfl hl.1 rfl (lv_room (Nat.le_of_ble_eq_true rfl)) dX9_foldSteps_38 ⟨Nat.le_of_ble_eq_true rfl, Nat.le_of_ble_eq_true rfl⟩ (fun H locs hP hS _ _ => ?_)
  refine lv_i2l hx hb dX9_foldSteps_41 rfl ?_
  refine g_cSl (As := [.long (vX9_foldSteps_13 S p1), .long ((rX9_ofStep S (1 : Int32) (0 : Int32) (2 : Int32)).toInt64)]) (rest := []) ⟨hx, hb, hml, hown, hts⟩ (c_X9_fold l G cA a ha S L H.size (vX9_foldSteps_13 S p1) ((rX9_ofStep S (1 : Int32) (0 : Int32) (2 : Int32)).toInt64)  ) (va_cwS 2 hts gX9_foldSteps_X9_fold rfl rfl rfl (by decide +kernel) ⟨Nat.le_of_ble_eq_true rfl, Nat.le_of_ble_eq_true rfl⟩) hK (mA_mono hS.1) hP hS rfl hl.1 rfl (lv_room (Nat.le_of_ble_eq_true rfl)) dX9_foldSteps_42 ⟨Nat.le_of_ble_eq_true rfl, Nat.le_of_ble_eq_true rfl⟩ (fun H locs hP hS _ _ => ?_)
  refine lv_lstore_n (lv' := [(3, .long (rX9_fold (vX9_foldSteps_13 S p1) ((rX9_ofStep S (1 : Int32) (0 : Int32) (2 : Int32)).toInt64))), (7, .int 2), (6, .int 0), (5, .int 1), (0, .ref (a 0)), (1, .long p1)]) hx hb dX9_foldSteps_45 rfl hl (by decide) rfl (fun ls hl => ?_)
  refine lv_iinc (v := 3) (lv' := [(7, .int 3), (3, .long (rX9_fold (vX9_foldSteps_13 S p1) ((rX9_ofStep S (1 : Int32) (0 : Int32) (2 : Int32)).toInt64))), (6, .int 0), (5, .int 1), (0, .ref (a 0)), (1, .long p1)]) hx hb dX9_foldSteps_46 hl (k := 1) rfl (by decide) (by decide) rfl (fun ls hl => ?_)
  refine lv_goto (tgt := 24) hx hb dX9_foldSteps_49 (by decide) ?_
  refine lv_iload hx hb dX9_foldSteps_24 (lv_at hl 0 rfl) ?_
  refine lv_iconst (v := 3) hx hb dX9_foldSteps_26 (by decide) ?_
  refine lv_icmp_ge (tgt := 52) hx hb dX9_foldSteps_27 (by decide) (fun _ => ?_) (fun c => absurd c (by decide))
  refine lv_iinc (v := 1) (lv' := [(6, .int 1), (7, .int 3), (3, .long (rX9_fold (vX9_foldSteps_13 S p1) ((rX9_ofStep S (1 : Int32) (0 : Int32) (2 : Int32)).toInt64))), (5, .int 1), (0, .ref (a 0)), (1, .long p1)]) hx hb dX9_foldSteps_52 hl (k := 2) rfl (by decide) (by decide) rfl (fun ls hl => ?_)
  refine lv_goto (tgt := 14) hx hb dX9_foldSteps_55 (by decide) ?_
  refine lv_iload hx hb dX9_foldSteps_14 (lv_at hl 0 rfl) ?_
  refine lv_bipush (v := 8) hx hb dX9_foldSteps_16 (by decide) ?_
  refine lv_icmp_ge (tgt := 58) hx hb dX9_foldSteps_18 (by decide) (fun c => absurd c (by decide)) (fun _ => ?_)
  refine lv_iconst (v := 0) hx hb dX9_foldSteps_21 (by decide) ?_
  refine lv_istore (lv' := [(7, .int 0), (6, .int 1), (3, .long (rX9_fold (vX9_foldSteps_13 S p1) ((rX9_ofStep S (1 : Int32) (0 : Int32) (2 : Int32)).toInt64))), (5, .int 1), (0, .ref (a 0)), (1, .long p1)]) hx hb dX9_foldSteps_22 hl (by decide) rfl (fun ls hl => ?_)
  refine lv_iload hx hb dX9_foldSteps_24 (lv_at hl 0 rfl) ?_
  refine lv_iconst (v := 3) hx hb dX9_foldSteps_26 (by decide) ?_
  refine lv_icmp_ge (tgt := 52) hx hb dX9_foldSteps_27 (by decide) (fun c => absurd c (by decide)) (fun _ => ?_)
  refine lv_lload_n hx hb dX9_foldSteps_30 rfl (lv_at hl 2 rfl) ?_
  refine lv_aload_n hx hb dX9_foldSteps_31 rfl (lv_at hl 4 rfl) ?_
  refine lv_iload hx hb dX9_foldSteps_32 (lv_at hl 3 rfl) ?_
  refine lv_iload hx hb dX9_foldSteps_34 (lv_at hl 1 rfl) ?_
  refine lv_iload hx hb dX9_foldSteps_36 (lv_at hl 0 rfl) ?_
  refine g_cVi (As := [.int 1, .int 1, .int 0]) (rest := [.long (rX9_fold (vX9_foldSteps_13 S p1) ((rX9_ofStep S (1 : Int32) (0 : Int32) (2 : Int32)).toInt64))]) ⟨hx, hb, hml, hown, hts⟩ (c_X9_ofStep l G cA a ha S L H.size (1 : Int32) (1 : Int32) (0 : Int32)  (by decide) (by decide) (by decide) (by decide) (by decide) (by decide)) (cwV 3 hts gX9_foldSteps_X9_ofStep rfl rfl rfl (by decide +kernel) ⟨Nat.le_of_ble_eq_true rfl, Nat.le_of_ble_eq_true rfl⟩) (g_recv hK hP (by decide) rfl (C := RX9) (T := TX9) (N := 4) rfl) hK (mA_mono hS.1) hP hS rfl hl.1 rfl (lv_room (Nat.le_of_ble_eq_true rfl)) dX9_foldSteps_38 ⟨Nat.le_of_ble_eq_true rfl, Nat.le_of_ble_eq_true rfl⟩ (fun H locs hP hS _ _ => ?_)
  refine lv_i2l hx hb dX9_foldSteps_41 rfl ?_
  refine g_cSl (As := [.long (rX9_fold (vX9_foldSteps_13 S p1) ((rX9_ofStep S (1 : Int32) (0 : Int32) (2 : Int32)).toInt64)), .long ((rX9_ofStep S (1 : Int32) (1 : Int32) (0 : Int32)).toInt64)]) (rest := []) ⟨hx, hb, hml, hown, hts⟩ (c_X9_fold l G cA a ha S L H.size (rX9_fold (vX9_foldSteps_13 S p1) ((rX9_ofStep S (1 : Int32) (0 : Int32) (2 : Int32)).toInt64)) ((rX9_ofStep S (1 : Int32) (1 : Int32) (0 : Int32)).toInt64)  ) (va_cwS 2 hts gX9_foldSteps_X9_fold rfl rfl rfl (by decide +kernel) ⟨Nat.le_of_ble_eq_true rfl, Nat.le_of_ble_eq_true rfl⟩) hK (mA_mono hS.1) hP hS rfl hl.1 rfl (lv_room (Nat.le_of_ble_eq_true rfl)) dX9_foldSteps_42 ⟨Nat.le_of_ble_eq_true rfl, Nat.le_of_ble_eq_true rfl⟩ (fun H locs hP hS _ _ => ?_)
  refine W.eq (g2 := F0 m 45 ls [.long (vX9_foldSteps_14 S p1)]) rfl ?_
  refine lv_lstore_n (lv' := [(3, .long (vX9_foldSteps_14 S p1)), (7, .int 0), (6, .int 1), (5, .int 1), (0, .ref (a 0)), (1, .long p1)]) hx hb dX9_foldSteps_45 rfl hl (by decide) rfl (fun ls hl => ?_)
  refine lv_iinc (v := 1) (lv' := [(7, .int 1), (3, .long (vX9_foldSteps_14 S p1)), (6, .int 1), (5, .int 1), (0, .ref (a 0)), (1, .long p1)]) hx hb dX9_foldSteps_46 hl (k := 1) rfl (by decide) (by decide) rfl (fun ls hl => ?_)
  refine lv_goto (tgt := 24) hx hb dX9_foldSteps_49 (by decide) ?_
  refine lv_iload hx hb dX9_foldSteps_24 (lv_at hl 0 rfl) ?_
  refine lv_iconst (v := 3) hx hb dX9_foldSteps_26 (by decide) ?_
  refine lv_icmp_ge (tgt := 52) hx hb dX9_foldSteps_27 (by decide) (fun c => absurd c (by decide)) (fun _ => ?_)
  refine lv_lload_n hx hb dX9_foldSteps_30 rfl (lv_at hl 1 rfl) ?_
  refine lv_aload_n hx hb dX9_foldSteps_31 rfl (lv_at hl 4 rfl) ?_
  refine lv_iload hx hb dX9_foldSteps_32 (lv_at hl 3 rfl) ?_
  refine lv_iload hx hb dX9_foldSteps_34 (lv_at hl 2 rfl) ?_
  refine lv_iload hx hb dX9_foldSteps_36 (lv_at hl 0 rfl) ?_
  refine g_cVi (As := [.int 1, .int 1, .int 1]) (rest := [.long (vX9_foldSteps_14 S p1)]) ⟨hx, hb, hml, hown, hts⟩ (c_X9_ofStep l G cA a ha S L H.size (1 : Int32) (1 : Int32) (1 : Int32)  (by decide) (by decide) (by decide) (by decide) (by decide) (by decide)) (cwV 3 hts gX9_foldSteps_X9_ofStep rfl rfl rfl (by decide +kernel) ⟨Nat.le_of_ble_eq_true rfl, Nat.le_of_ble_eq_true rfl⟩) (g_recv hK hP (by decide) rfl (C := RX9) (T := TX9) (N := 4) rfl) hK (mA_mono hS.1) hP hS rfl hl.1 rfl (lv_room (Nat.le_of_ble_eq_true rfl)) dX9_foldSteps_38 ⟨Nat.le_of_ble_eq_true rfl, Nat.le_of_ble_eq_true rfl⟩ (fun H locs hP hS _ _ => ?_)
  refine lv_i2l hx hb dX9_foldSteps_41 rfl ?_
  refine g_cSl (As := [.long (vX9_foldSteps_14 S p1), .long ((rX9_ofStep S (1 : Int32) (1 : Int32) (1 : Int32)).toInt64)]) (rest := []) ⟨hx, hb, hml, hown, hts⟩ (c_X9_fold l G cA a ha S L H.size (vX9_foldSteps_14 S p1) ((rX9_ofStep S (1 : Int32) (1 : Int32) (1 : Int32)).toInt64)  ) (va_cwS 2 hts gX9_foldSteps_X9_fold rfl rfl rfl (by decide +kernel) ⟨Nat.le_of_ble_eq_true rfl, Nat.le_of_ble_eq_true rfl⟩) hK (mA_mono hS.1) hP hS rfl hl.1 rfl (lv_room (Nat.le_of_ble_eq_true rfl)) dX9_foldSteps_42 ⟨Nat.le_of_ble_eq_true rfl, Nat.le_of_ble_eq_true rfl⟩ (fun H locs hP hS _ _ => ?_)
  refine lv_lstore_n (lv' := [(3, .long (rX9_fold (vX9_foldSteps_14 S p1) ((rX9_ofStep S (1 : Int32) (1 : Int32) (1 : Int32)).toInt64))), (7, .int 1), (6, .int 1), (5, .int 1), (0, .ref (a 0)), (1, .long p1)]) hx hb dX9_foldSteps_45 rfl hl (by decide) rfl (fun ls hl => ?_)
  refine lv_iinc (v := 2) (lv' := [(7, .int 2), (3, .long (rX9_fold (vX9_foldSteps_14 S p1) ((rX9_ofStep S (1 : Int32) (1 : Int32) (1 : Int32)).toInt64))), (6, .int 1), (5, .int 1), (0, .ref (a 0)), (1, .long p1)]) hx hb dX9_foldSteps_46 hl (k := 1) rfl (by decide) (by decide) rfl (fun ls hl => ?_)
  refine lv_goto (tgt := 24) hx hb dX9_foldSteps_49 (by decide) ?_
  refine lv_iload hx hb dX9_foldSteps_24 (lv_at hl 0 rfl) ?_
  refine lv_iconst (v := 3) hx hb dX9_foldSteps_26 (by decide) ?_
  refine lv_icmp_ge (tgt := 52) hx hb dX9_foldSteps_27 (by decide) (fun c => absurd c (by decide)) (fun _ => ?_)
  refine lv_lload_n hx hb dX9_foldSteps_30 rfl (lv_at hl 1 rfl) ?_
  refine lv_aload_n hx hb dX9_foldSteps_31 rfl (lv_at hl 4 rfl) ?_
  refine lv_iload hx hb dX9_foldSteps_32 (lv_at hl 3 rfl) ?_
  refine lv_iload hx hb dX9_foldSteps_34 (lv_at hl 2 rfl) ?_
  refine lv_iload hx hb dX9_foldSteps_36 (lv_at hl 0 rfl) ?_
  refine g_cVi (As := [.int 1, .int 1, .int 2]) (rest := [.long (rX9_fold (vX9_foldSteps_14 S p1) ((rX9_ofStep S (1 : Int32) (1 : Int32) (1 : Int32)).toInt64))]) ⟨hx, hb, hml, hown, hts⟩ (c_X9_ofStep l G cA a ha S L H.size (1 : Int32) (1 : Int32) (2 : Int32)  (by decide) (by decide) (by decide) (by decide) (by decide) (by decide)) (cwV 3 hts gX9_foldSteps_X9_ofStep rfl rfl rfl (by decide +kernel) ⟨Nat.le_of_ble_eq_true rfl, Nat.le_of_ble_eq_true rfl⟩) (g_recv hK hP (by decide) rfl (C := RX9) (T := TX9) (N := 4) rfl) hK (mA_mono hS.1) hP hS rfl hl.1 rfl (lv_room (Nat.le_of_ble_eq_true rfl)) dX9_foldSteps_38 ⟨Nat.le_of_ble_eq_true rfl, Nat.le_of_ble_eq_true rfl⟩ (fun H locs hP hS _ _ => ?_)
  refine lv_i2l hx hb dX9_foldSteps_41 rfl ?_
  refine g_cSl (As := [.long (rX9_fold (vX9_foldSteps_14 S p1) ((rX9_ofStep S (1 : Int32) (1 : Int32) (1 : Int32)).toInt64)), .long ((rX9_ofStep S (1 : Int32) (1 : Int32) (2 : Int32)).toInt64)]) (rest := []) ⟨hx, hb, hml, hown, hts⟩ (c_X9_fold l G cA a ha S L H.size (rX9_fold (vX9_foldSteps_14 S p1) ((rX9_ofStep S (1 : Int32) (1 : Int32) (1 : Int32)).toInt64)) ((rX9_ofStep S (1 : Int32) (1 : Int32) (2 : Int32)).toInt64)  ) (va_cwS 2 hts gX9_foldSteps_X9_fold rfl rfl rfl (by decide +kernel) ⟨Nat.le_of_ble_eq_true rfl, Nat.le_of_ble_eq_true rfl⟩) hK (mA_mono hS.1) hP hS rfl hl.1 rfl (lv_room (Nat.le_of_ble_eq_true rfl)) dX9_foldSteps_42 ⟨Nat.le_of_ble_eq_true rfl, Nat.le_of_ble_eq_true rfl⟩ (fun H locs hP hS _ _ => ?_)
  refine W.eq (g2 := F0 m 45 ls [.long (vX9_foldSteps_15 S p1)]) rfl ?_
  refine lv_lstore_n (lv' := [(3, .long (vX9_foldSteps_15 S p1)), (7, .int 2), (6, .int 1), (5, .int 1), (0, .ref (a 0)), (1, .long p1)]) hx hb dX9_foldSteps_45 rfl hl (by decide) rfl (fun ls hl => ?_)
  refine lv_iinc (v := 3) (lv' := [(7, .int 3), (3, .long (vX9_foldSteps_15 S p1)), (6, .int 1), (5, .int 1), (0, .ref (a 0)), (1, .long p1)]) hx hb dX9_foldSteps_46 hl (k := 1) rfl (by decide) (by decide) rfl (fun ls hl => ?_)
  refine lv_goto (tgt := 24) hx hb dX9_foldSteps_49 (by decide) ?_
  refine lv_iload hx hb dX9_foldSteps_24 (lv_at hl 0 rfl) ?_
  refine lv_iconst (v := 3) hx hb dX9_foldSteps_26 (by decide) ?_
  refine lv_icmp_ge (tgt := 52) hx hb dX9_foldSteps_27 (by decide) (fun _ => ?_) (fun c => absurd c (by decide))
  refine lv_iinc (v := 2) (lv' := [(6, .int 2), (7, .int 3), (3, .long (vX9_foldSteps_15 S p1)), (5, .int 1), (0, .ref (a 0)), (1, .long p1)]) hx hb dX9_foldSteps_52 hl (k := 2) rfl (by decide) (by decide) rfl (fun ls hl => ?_)
  refine lv_goto (tgt := 14) hx hb dX9_foldSteps_55 (by decide) ?_
  refine lv_iload hx hb dX9_foldSteps_14 (lv_at hl 0 rfl) ?_
  refine lv_bipush (v := 8) hx hb dX9_foldSteps_16 (by decide) ?_
  refine lv_icmp_ge (tgt := 58) hx hb dX9_foldSteps_18 (by decide) (fun c => absurd c (by decide)) (fun _ => ?_)
  refine lv_iconst (v := 0) hx hb dX9_foldSteps_21 (by decide) ?_
  refine lv_istore (lv' := [(7, .int 0), (6, .int 2), (3, .long (vX9_foldSteps_15 S p1)), (5, .int 1), (0, .ref (a 0)), (1, .long p1)]) hx hb dX9_foldSteps_22 hl (by decide) rfl (fun ls hl => ?_)
  refine lv_iload hx hb dX9_foldSteps_24 (lv_at hl 0 rfl) ?_
  refine lv_iconst (v := 3) hx hb dX9_foldSteps_26 (by decide) ?_
  refine lv_icmp_ge (tgt := 52) hx hb dX9_foldSteps_27 (by decide) (fun c => absurd c (by decide)) (fun _ => ?_)
  refine lv_lload_n hx hb dX9_foldSteps_30 rfl (lv_at hl 2 rfl) ?_
  refine lv_aload_n hx hb dX9_foldSteps_31 rfl (lv_at hl 4 rfl) ?_
  refine lv_iload hx hb dX9_foldSteps_32 (lv_at hl 3 rfl) ?_
  refine lv_iload hx hb dX9_foldSteps_34 (lv_at hl 1 rfl) ?_
  refine lv_iload hx hb dX9_foldSteps_36 (lv_at hl 0 rfl) ?_
  refine g_cVi (As := [.int 1, .int 2, .int 0]) (rest := [.long (vX9_foldSteps_15 S p1)]) ⟨hx, hb, hml, hown, hts⟩ (c_X9_ofStep l G cA a ha S L H.size (1 : Int32) (2 : Int32) (0 : Int32)  (by decide) (by decide) (by decide) (by decide) (by decide) (by decide)) (cwV 3 hts gX9_foldSteps_X9_ofStep rfl rfl rfl (by decide +kernel) ⟨Nat.le_of_ble_eq_true rfl, Nat.le_of_ble_eq_true rfl⟩) (g_recv hK hP (by decide) rfl (C := RX9) (T := TX9) (N := 4) rfl) hK (mA_mono hS.1) hP hS rfl hl.1 rfl (lv_room (Nat.le_of_ble_eq_true rfl)) dX9_foldSteps_38 ⟨Nat.le_of_ble_eq_true rfl, Nat.le_of_ble_eq_true rfl⟩ (fun H locs hP hS _ _ => ?_)
  refine lv_i2l hx hb dX9_foldSteps_41 rfl ?_
  refine g_cSl (As := [.long (vX9_foldSteps_15 S p1), .long ((rX9_ofStep S (1 : Int32) (2 : Int32) (0 : Int32)).toInt64)]) (rest := []) ⟨hx, hb, hml, hown, hts⟩ (c_X9_fold l G cA a ha S L H.size (vX9_foldSteps_15 S p1) ((rX9_ofStep S (1 : Int32) (2 : Int32) (0 : Int32)).toInt64)  ) (va_cwS 2 hts gX9_foldSteps_X9_fold rfl rfl rfl (by decide +kernel) ⟨Nat.le_of_ble_eq_true rfl, Nat.le_of_ble_eq_true rfl⟩) hK (mA_mono hS.1) hP hS rfl hl.1 rfl (lv_room (Nat.le_of_ble_eq_true rfl)) dX9_foldSteps_42 ⟨Nat.le_of_ble_eq_true rfl, Nat.le_of_ble_eq_true rfl⟩ (fun H locs hP hS _ _ => ?_)
  refine lv_lstore_n (lv' := [(3, .long (rX9_fold (vX9_foldSteps_15 S p1) ((rX9_ofStep S (1 : Int32) (2 : Int32) (0 : Int32)).toInt64))), (7, .int 0), (6, .int 2), (5, .int 1), (0, .ref (a 0)), (1, .long p1)]) hx hb dX9_foldSteps_45 rfl hl (by decide) rfl (fun ls hl => ?_)
  refine lv_iinc (v := 1) (lv' := [(7, .int 1), (3, .long (rX9_fold (vX9_foldSteps_15 S p1) ((rX9_ofStep S (1 : Int32) (2 : Int32) (0 : Int32)).toInt64))), (6, .int 2), (5, .int 1), (0, .ref (a 0)), (1, .long p1)]) hx hb dX9_foldSteps_46 hl (k := 1) rfl (by decide) (by decide) rfl (fun ls hl => ?_)
  refine lv_goto (tgt := 24) hx hb dX9_foldSteps_49 (by decide) ?_
  refine lv_iload hx hb dX9_foldSteps_24 (lv_at hl 0 rfl) ?_
  refine lv_iconst (v := 3) hx hb dX9_foldSteps_26 (by decide) ?_
  refine lv_icmp_ge (tgt := 52) hx hb dX9_foldSteps_27 (by decide) (fun c => absurd c (by decide)) (fun _ => ?_)
  refine lv_lload_n hx hb dX9_foldSteps_30 rfl (lv_at hl 1 rfl) ?_
  refine lv_aload_n hx hb dX9_foldSteps_31 rfl (lv_at hl 4 rfl) ?_
  refine lv_iload hx hb dX9_foldSteps_32 (lv_at hl 3 rfl) ?_
  refine lv_iload hx hb dX9_foldSteps_34 (lv_at hl 2 rfl) ?_
  refine lv_iload hx hb dX9_foldSteps_36 (lv_at hl 0 rfl) ?_
  refine g_cVi (As := [.int 1, .int 2, .int 1]) (rest := [.long (rX9_fold (vX9_foldSteps_15 S p1) ((rX9_ofStep S (1 : Int32) (2 : Int32) (0 : Int32)).toInt64))]) ⟨hx, hb, hml, hown, hts⟩ (c_X9_ofStep l G cA a ha S L H.size (1 : Int32) (2 : Int32) (1 : Int32)  (by decide) (by decide) (by decide) (by decide) (by decide) (by decide)) (cwV 3 hts gX9_foldSteps_X9_ofStep rfl rfl rfl (by decide +kernel) ⟨Nat.le_of_ble_eq_true rfl, Nat.le_of_ble_eq_true rfl⟩) (g_recv hK hP (by decide) rfl (C := RX9) (T := TX9) (N := 4) rfl) hK (mA_mono hS.1) hP hS rfl hl.1 rfl (lv_room (Nat.le_of_ble_eq_true rfl)) dX9_foldSteps_38 ⟨Nat.le_of_ble_eq_true rfl, Nat.le_of_ble_eq_true rfl⟩ (fun H locs hP hS _ _ => ?_)
  refine lv_i2l hx hb dX9_foldSteps_41 rfl ?_
  refine g_cSl (As := [.long (rX9_fold (vX9_foldSteps_15 S p1) ((rX9_ofStep S (1 : Int32) (2 : Int32) (0 : Int32)).toInt64)), .long ((rX9_ofStep S (1 : Int32) (2 : Int32) (1 : Int32)).toInt64)]) (rest := []) ⟨hx, hb, hml, hown, hts⟩ (c_X9_fold l G cA a ha S L H.size (rX9_fold (vX9_foldSteps_15 S p1) ((rX9_ofStep S (1 : Int32) (2 : Int32) (0 : Int32)).toInt64)) ((rX9_ofStep S (1 : Int32) (2 : Int32) (1 : Int32)).toInt64)  ) (va_cwS 2 hts gX9_foldSteps_X9_fold rfl rfl rfl (by decide +kernel) ⟨Nat.le_of_ble_eq_true rfl, Nat.le_of_ble_eq_true rfl⟩) hK (mA_mono hS.1) hP hS rfl hl.1 rfl (lv_room (Nat.le_of_ble_eq_true rfl)) dX9_foldSteps_42 ⟨Nat.le_of_ble_eq_true rfl, Nat.le_of_ble_eq_true rfl⟩ (fun H locs hP hS _ _ => ?_)
  refine W.eq (g2 := F0 m 45 ls [.long (vX9_foldSteps_16 S p1)]) rfl ?_
  refine lv_lstore_n (lv' := [(3, .long (vX9_foldSteps_16 S p1)), (7, .int 1), (6, .int 2), (5, .int 1), (0, .ref (a 0)), (1, .long p1)]) hx hb dX9_foldSteps_45 rfl hl (by decide) rfl (fun ls hl => ?_)
  refine lv_iinc (v := 2) (lv' := [(7, .int 2), (3, .long (vX9_foldSteps_16 S p1)), (6, .int 2), (5, .int 1), (0, .ref (a 0)), (1, .long p1)]) hx hb dX9_foldSteps_46 hl (k := 1) rfl (by decide) (by decide) rfl (fun ls hl => ?_)
  refine lv_goto (tgt := 24) hx hb dX9_foldSteps_49 (by decide) ?_
  refine lv_iload hx hb dX9_foldSteps_24 (lv_at hl 0 rfl) ?_
  refine lv_iconst (v := 3) hx hb dX9_foldSteps_26 (by decide) ?_
  refine lv_icmp_ge (tgt := 52) hx hb dX9_foldSteps_27 (by decide) (fun c => absurd c (by decide)) (fun _ => ?_)
  refine lv_lload_n hx hb dX9_foldSteps_30 rfl (lv_at hl 1 rfl) ?_
  refine lv_aload_n hx hb dX9_foldSteps_31 rfl (lv_at hl 4 rfl) ?_
  refine lv_iload hx hb dX9_foldSteps_32 (lv_at hl 3 rfl) ?_
  refine lv_iload hx hb dX9_foldSteps_34 (lv_at hl 2 rfl) ?_
  refine lv_iload hx hb dX9_foldSteps_36 (lv_at hl 0 rfl) ?_
  refine g_cVi (As := [.int 1, .int 2, .int 2]) (rest := [.long (vX9_foldSteps_16 S p1)]) ⟨hx, hb, hml, hown, hts⟩ (c_X9_ofStep l G cA a ha S L H.size (1 : Int32) (2 : Int32) (2 : Int32)  (by decide) (by decide) (by decide) (by decide) (by decide) (by decide)) (cwV 3 hts gX9_foldSteps_X9_ofStep rfl rfl rfl (by decide +kernel) ⟨Nat.le_of_ble_eq_true rfl, Nat.le_of_ble_eq_true rfl⟩) (g_recv hK hP (by decide) rfl (C := RX9) (T := TX9) (N := 4) rfl) hK (mA_mono hS.1) hP hS rfl hl.1 rfl (lv_room (Nat.le_of_ble_eq_true rfl)) dX9_foldSteps_38 ⟨Nat.le_of_ble_eq_true rfl, Nat.le_of_ble_eq_true rfl⟩ (fun H locs hP hS _ _ => ?_)
  refine lv_i2l hx hb dX9_foldSteps_41 rfl ?_
  refine g_cSl (As := [.long (vX9_foldSteps_16 S p1), .long ((rX9_ofStep S (1 : Int32) (2 : Int32) (2 : Int32)).toInt64)]) (rest := []) ⟨hx, hb, hml, hown, hts⟩ (c_X9_fold l G cA a ha S L H.size (vX9_foldSteps_16 S p1) ((rX9_ofStep S (1 : Int32) (2 : Int32) (2 : Int32)).toInt64)  ) (va_cwS 2 hts gX9_foldSteps_X9_fold rfl rfl rfl (by decide +kernel) ⟨Nat.le_of_ble_eq_true rfl, Nat.le_of_ble_eq_true rfl⟩) hK (mA_mono hS.1) hP hS rfl hl.1 rfl (lv_room (Nat.le_of_ble_eq_true rfl)) dX9_foldSteps_42 ⟨Nat.le_of_ble_eq_true rfl, Nat.le_of_ble_eq_true rfl⟩ (fun H locs hP hS _ _ => ?_)
  refine lv_lstore_n (lv' := [(3, .long (rX9_fold (vX9_foldSteps_16 S p1) ((rX9_ofStep S (1 : Int32) (2 : Int32) (2 : Int32)).toInt64))), (7, .int 2), (6, .int 2), (5, .int 1), (0, .ref (a 0)), (1, .long p1)]) hx hb dX9_foldSteps_45 rfl hl (by decide) rfl (fun ls hl => ?_)
  refine lv_iinc (v := 3) (lv' := [(7, .int 3), (3, .long (rX9_fold (vX9_foldSteps_16 S p1) ((rX9_ofStep S (1 : Int32) (2 : Int32) (2 : Int32)).toInt64))), (6, .int 2), (5, .int 1), (0, .ref (a 0)), (1, .long p1)]) hx hb dX9_foldSteps_46 hl (k := 1) rfl (by decide) (by decide) rfl (fun ls hl => ?_)
  refine lv_goto (tgt := 24) hx hb dX9_foldSteps_49 (by decide) ?_
  refine lv_iload hx hb dX9_foldSteps_24 (lv_at hl 0 rfl) ?_
  refine lv_iconst (v := 3) hx hb dX9_foldSteps_26 (by decide) ?_
  refine lv_icmp_ge (tgt := 52) hx hb dX9_foldSteps_27 (by decide) (fun _ => ?_) (fun c => absurd c (by decide))
  refine lv_iinc (v := 3) (lv' := [(6, .int 3), (7, .int 3), (3, .long (rX9_fold (vX9_foldSteps_16 S p1) ((rX9_ofStep S (1 : Int32) (2 : Int32) (2 : Int32)).toInt64))), (5, .int 1), (0, .ref (a 0)), (1, .long p1)]) hx hb dX9_foldSteps_52 hl (k := 2) rfl (by decide) (by decide) rfl (fun ls hl => ?_)
  refine lv_goto (tgt := 14) hx hb dX9_foldSteps_55 (by decide) ?_
  refine lv_iload hx hb dX9_foldSteps_14 (lv_at hl 0 rfl) ?_
  refine lv_bipush (v := 8) hx hb dX9_foldSteps_16 (by decide) ?_
  refine lv_icmp_ge (tgt := 58) hx hb dX9_foldSteps_18 (by decide) (fun c => absurd c (by decide)) (fun _ => ?_)
  refine lv_iconst (v := 0) hx hb dX9_foldSteps_21 (by decide) ?_
  refine lv_istore (lv' := [(7, .int 0), (6, .int 3), (3, .long (rX9_fold (vX9_foldSteps_16 S p1) ((rX9_ofStep S (1 : Int32) (2 : Int32) (2 : Int32)).toInt64))), (5, .int 1), (0, .ref (a 0)), (1, .long p1)]) hx hb dX9_foldSteps_22 hl (by decide) rfl (fun ls hl => ?_)
  refine lv_iload hx hb dX9_foldSteps_24 (lv_at hl 0 rfl) ?_
  refine lv_iconst (v := 3) hx hb dX9_foldSteps_26 (by decide) ?_
  refine lv_icmp_ge (tgt := 52) hx hb dX9_foldSteps_27 (by decide) (fun c => absurd c (by decide)) (fun _ => ?_)
  refine lv_lload_n hx hb dX9_foldSteps_30 rfl (lv_at hl 2 rfl) ?_
  refine lv_aload_n hx hb dX9_foldSteps_31 rfl (lv_at hl 4 rfl) ?_
  refine lv_iload hx hb dX9_foldSteps_32 (lv_at hl 3 rfl) ?_
  refine lv_iload hx hb dX9_foldSteps_34 (lv_at hl 1 rfl) ?_
  refine lv_iload hx hb dX9_foldSteps_36 (lv_at hl 0 rfl) ?_
  refine g_cVi (As := [.int 1, .int 3, .int 0]) (rest := [.long (rX9_fold (vX9_foldSteps_16 S p1) ((rX9_ofStep S (1 : Int32) (2 : Int32) (2 : Int32)).toInt64))]) ⟨hx, hb, hml, hown, hts⟩ (c_X9_ofStep l G cA a ha S L H.size (1 : Int32) (3 : Int32) (0 : Int32)  (by decide) (by decide) (by decide) (by decide) (by decide) (by decide)) (cwV 3 hts gX9_foldSteps_X9_ofStep rfl rfl rfl (by decide +kernel) ⟨Nat.le_of_ble_eq_true rfl, Nat.le_of_ble_eq_true rfl⟩) (g_recv hK hP (by decide) rfl (C := RX9) (T := TX9) (N := 4) rfl) hK (mA_mono hS.1) hP hS rfl hl.1 rfl (lv_room (Nat.le_of_ble_eq_true rfl)) dX9_foldSteps_38 ⟨Nat.le_of_ble_eq_true rfl, Nat.le_of_ble_eq_true rfl⟩ (fun H locs hP hS _ _ => ?_)
  refine lv_i2l hx hb dX9_foldSteps_41 rfl ?_
  refine g_cSl (As := [.long (rX9_fold (vX9_foldSteps_16 S p1) ((rX9_ofStep S (1 : Int32) (2 : Int32) (2 : Int32)).toInt64)), .long ((rX9_ofStep S (1 : Int32) (3 : Int32) (0 : Int32)).toInt64)]) (rest := []) ⟨hx, hb, hml, hown, hts⟩ (c_X9_fold l G cA a ha S L H.size (rX9_fold (vX9_foldSteps_16 S p1) ((rX9_ofStep S (1 : Int32) (2 : Int32) (2 : Int32)).toInt64)) ((rX9_ofStep S (1 : Int32) (3 : Int32) (0 : Int32)).toInt64)  ) (va_cwS 2 hts gX9_foldSteps_X9_fold rfl rfl rfl (by decide +kernel) ⟨Nat.le_of_ble_eq_true rfl, Nat.le_of_ble_eq_true rfl⟩) hK (mA_mono hS.1) hP hS rfl hl.1 rfl (lv_room (Nat.le_of_ble_eq_true rfl)) dX9_foldSteps_42 ⟨Nat.le_of_ble_eq_true rfl, Nat.le_of_ble_eq_true rfl⟩ (fun H locs hP hS _ _ => ?_)
  refine W.eq (g2 := F0 m 45 ls [.long (vX9_foldSteps_17 S p1)]) rfl ?_
  refine lv_lstore_n (lv' := [(3, .long (vX9_foldSteps_17 S p1)), (7, .int 0), (6, .int 3), (5, .int 1), (0, .ref (a 0)), (1, .long p1)]) hx hb dX9_foldSteps_45 rfl hl (by decide) rfl (fun ls hl => ?_)
  refine lv_iinc (v := 1) (lv' := [(7, .int 1), (3, .long (vX9_foldSteps_17 S p1)), (6, .int 3), (5, .int 1), (0, .ref (a 0)), (1, .long p1)]) hx hb dX9_foldSteps_46 hl (k := 1) rfl (by decide) (by decide) rfl (fun ls hl => ?_)
  refine lv_goto (tgt := 24) hx hb dX9_foldSteps_49 (by decide) ?_
  refine lv_iload hx hb dX9_foldSteps_24 (lv_at hl 0 rfl) ?_
  refine lv_iconst (v := 3) hx hb dX9_foldSteps_26 (by decide) ?_
  refine lv_icmp_ge (tgt := 52) hx hb dX9_foldSteps_27 (by decide) (fun c => absurd c (by decide)) (fun _ => ?_)
  refine lv_lload_n hx hb dX9_foldSteps_30 rfl (lv_at hl 1 rfl) ?_
  refine lv_aload_n hx hb dX9_foldSteps_31 rfl (lv_at hl 4 rfl) ?_
  refine lv_iload hx hb dX9_foldSteps_32 (lv_at hl 3 rfl) ?_
  refine lv_iload hx hb dX9_foldSteps_34 (lv_at hl 2 rfl) ?_
  refine lv_iload hx hb dX9_foldSteps_36 (lv_at hl 0 rfl) ?_
  refine g_cVi (As := [.int 1, .int 3, .int 1]) (rest := [.long (vX9_foldSteps_17 S p1)]) ⟨hx, hb, hml, hown, hts⟩ (c_X9_ofStep l G cA a ha S L H.size (1 : Int32) (3 : Int32) (1 : Int32)  (by decide) (by decide) (by decide) (by decide) (by decide) (by decide)) (cwV 3 hts gX9_foldSteps_X9_ofStep rfl rfl rfl (by decide +kernel) ⟨Nat.le_of_ble_eq_true rfl, Nat.le_of_ble_eq_true rfl⟩) (g_recv hK hP (by decide) rfl (C := RX9) (T := TX9) (N := 4) rfl) hK (mA_mono hS.1) hP hS rfl hl.1 rfl (lv_room (Nat.le_of_ble_eq_true rfl)) dX9_foldSteps_38 ⟨Nat.le_of_ble_eq_true rfl, Nat.le_of_ble_eq_true rfl⟩ (fun H locs hP hS _ _ => ?_)
  refine lv_i2l hx hb dX9_foldSteps_41 rfl ?_
  refine g_cSl (As := [.long (vX9_foldSteps_17 S p1), .long ((rX9_ofStep S (1 : Int32) (3 : Int32) (1 : Int32)).toInt64)]) (rest := []) ⟨hx, hb, hml, hown, hts⟩ (c_X9_fold l G cA a ha S L H.size (vX9_foldSteps_17 S p1) ((rX9_ofStep S (1 : Int32) (3 : Int32) (1 : Int32)).toInt64)  ) (va_cwS 2 hts gX9_foldSteps_X9_fold rfl rfl rfl (by decide +kernel) ⟨Nat.le_of_ble_eq_true rfl, Nat.le_of_ble_eq_true rfl⟩) hK (mA_mono hS.1) hP hS rfl hl.1 rfl (lv_room (Nat.le_of_ble_eq_true rfl)) dX9_foldSteps_42 ⟨Nat.le_of_ble_eq_true rfl, Nat.le_of_ble_eq_true rfl⟩ (fun H locs hP hS _ _ => ?_)
  refine lv_lstore_n (lv' := [(3, .long (rX9_fold (vX9_foldSteps_17 S p1) ((rX9_ofStep S (1 : Int32) (3 : Int32) (1 : Int32)).toInt64))), (7, .int 1), (6, .int 3), (5, .int 1), (0, .ref (a 0)), (1, .long p1)]) hx hb dX9_foldSteps_45 rfl hl (by decide) rfl (fun ls hl => ?_)
  refine lv_iinc (v := 2) (lv' := [(7, .int 2), (3, .long (rX9_fold (vX9_foldSteps_17 S p1) ((rX9_ofStep S (1 : Int32) (3 : Int32) (1 : Int32)).toInt64))), (6, .int 3), (5, .int 1), (0, .ref (a 0)), (1, .long p1)]) hx hb dX9_foldSteps_46 hl (k := 1) rfl (by decide) (by decide) rfl (fun ls hl => ?_)
  refine lv_goto (tgt := 24) hx hb dX9_foldSteps_49 (by decide) ?_
  refine lv_iload hx hb dX9_foldSteps_24 (lv_at hl 0 rfl) ?_
  refine lv_iconst (v := 3) hx hb dX9_foldSteps_26 (by decide) ?_
  refine lv_icmp_ge (tgt := 52) hx hb dX9_foldSteps_27 (by decide) (fun c => absurd c (by decide)) (fun _ => ?_)
  refine lv_lload_n hx hb dX9_foldSteps_30 rfl (lv_at hl 1 rfl) ?_
  refine lv_aload_n hx hb dX9_foldSteps_31 rfl (lv_at hl 4 rfl) ?_
  refine lv_iload hx hb dX9_foldSteps_32 (lv_at hl 3 rfl) ?_
  refine lv_iload hx hb dX9_foldSteps_34 (lv_at hl 2 rfl) ?_
  refine lv_iload hx hb dX9_foldSteps_36 (lv_at hl 0 rfl) ?_
  refine g_cVi (As := [.int 1, .int 3, .int 2]) (rest := [.long (rX9_fold (vX9_foldSteps_17 S p1) ((rX9_ofStep S (1 : Int32) (3 : Int32) (1 : Int32)).toInt64))]) ⟨hx, hb, hml, hown, hts⟩ (c_X9_ofStep l G cA a ha S L H.size (1 : Int32) (3 : Int32) (2 : Int32)  (by decide) (by decide) (by decide) (by decide) (by decide) (by decide)) (cwV 3 hts gX9_foldSteps_X9_ofStep rfl rfl rfl (by decide +kernel) ⟨Nat.le_of_ble_eq_true rfl, Nat.le_of_ble_eq_true rfl⟩) (g_recv hK hP (by decide) rfl (C := RX9) (T := TX9) (N := 4) rfl) hK (mA_mono hS.1) hP hS rfl hl.1 rfl (lv_room (Nat.le_of_ble_eq_true rfl)) dX9_foldSteps_38 ⟨Nat.le_of_ble_eq_true rfl, Nat.le_of_ble_eq_true rfl⟩ (fun H locs hP hS _ _ => ?_)
  refine lv_i2l hx hb dX9_foldSteps_41 rfl ?_
  refine g_cSl (As := [.long (rX9_fold (vX9_foldSteps_17 S p1) ((rX9_ofStep S (1 : Int32) (3 : Int32) (1 : Int32)).toInt64)), .long ((rX9_ofStep S (1 : Int32) (3 : Int32) (2 : Int32)).toInt64)]) (rest := []) ⟨hx, hb, hml, hown, hts⟩ (c_X9_fold l G cA a ha S L H.size (rX9_fold (vX9_foldSteps_17 S p1) ((rX9_ofStep S (1 : Int32) (3 : Int32) (1 : Int32)).toInt64)) ((rX9_ofStep S (1 : Int32) (3 : Int32) (2 : Int32)).toInt64)  ) (va_cwS 2 hts gX9_foldSteps_X9_fold rfl rfl rfl (by decide +kernel) ⟨Nat.le_of_ble_eq_true rfl, Nat.le_of_ble_eq_true rfl⟩) hK (mA_mono hS.1) hP hS rfl hl.1 rfl (lv_room (Nat.le_of_ble_eq_true rfl)) dX9_foldSteps_42 ⟨Nat.le_of_ble_eq_true rfl, Nat.le_of_ble_eq_true rfl⟩ (fun H locs hP hS _ _ => ?_)
  refine W.eq (g2 := F0 m 45 ls [.long (vX9_foldSteps_18 S p1)]) rfl ?_
  refine lv_lstore_n (lv' := [(3, .long (vX9_foldSteps_18 S p1)), (7, .int 2), (6, .int 3), (5, .int 1), (0, .ref (a 0)), (1, .long p1)]) hx hb dX9_foldSteps_45 rfl hl (by decide) rfl (fun ls hl => ?_)
  refine lv_iinc (v := 3) (lv' := [(7, .int 3), (3, .long (vX9_foldSteps_18 S p1)), (6, .int 3), (5, .int 1), (0, .ref (a 0)), (1, .long p1)]) hx hb dX9_foldSteps_46 hl (k := 1) rfl (by decide) (by decide) rfl (fun ls hl => ?_)
  refine lv_goto (tgt := 24) hx hb dX9_foldSteps_49 (by decide) ?_
  refine lv_iload hx hb dX9_foldSteps_24 (lv_at hl 0 rfl) ?_
  refine lv_iconst (v := 3) hx hb dX9_foldSteps_26 (by decide) ?_
  refine lv_icmp_ge (tgt := 52) hx hb dX9_foldSteps_27 (by decide) (fun _ => ?_) (fun c => absurd c (by decide))
  refine lv_iinc (v := 4) (lv' := [(6, .int 4), (7, .int 3), (3, .long (vX9_foldSteps_18 S p1)), (5, .int 1), (0, .ref (a 0)), (1, .long p1)]) hx hb dX9_foldSteps_52 hl (k := 2) rfl (by decide) (by decide) rfl (fun ls hl => ?_)
  refine lv_goto (tgt := 14) hx hb dX9_foldSteps_55 (by decide) ?_
  refine lv_iload hx hb dX9_foldSteps_14 (lv_at hl 0 rfl) ?_
  refine lv_bipush (v := 8) hx hb dX9_foldSteps_16 (by decide) ?_
  refine lv_icmp_ge (tgt := 58) hx hb dX9_foldSteps_18 (by decide) (fun c => absurd c (by decide)) (fun _ => ?_)
  refine lv_iconst (v := 0) hx hb dX9_foldSteps_21 (by decide) ?_
  refine lv_istore (lv' := [(7, .int 0), (6, .int 4), (3, .long (vX9_foldSteps_18 S p1)), (5, .int 1), (0, .ref (a 0)), (1, .long p1)]) hx hb dX9_foldSteps_22 hl (by decide) rfl (fun ls hl => ?_)
  refine lv_iload hx hb dX9_foldSteps_24 (lv_at hl 0 rfl) ?_
  refine lv_iconst (v := 3) hx hb dX9_foldSteps_26 (by decide) ?_
  refine lv_icmp_ge (tgt := 52) hx hb dX9_foldSteps_27 (by decide) (fun c => absurd c (by decide)) (fun _ => ?_)
  refine lv_lload_n hx hb dX9_foldSteps_30 rfl (lv_at hl 2 rfl) ?_
  refine lv_aload_n hx hb dX9_foldSteps_31 rfl (lv_at hl 4 rfl) ?_
  refine lv_iload hx hb dX9_foldSteps_32 (lv_at hl 3 rfl) ?_
  refine lv_iload hx hb dX9_foldSteps_34 (lv_at hl 1 rfl) ?_
  refine lv_iload hx hb dX9_foldSteps_36 (lv_at hl 0 rfl) ?_
  refine g_cVi (As := [.int 1, .int 4, .int 0]) (rest := [.long (vX9_foldSteps_18 S p1)]) ⟨hx, hb, hml, hown, hts⟩ (c_X9_ofStep l G cA a ha S L H.size (1 : Int32) (4 : Int32) (0 : Int32)  (by decide) (by decide) (by decide) (by decide) (by decide) (by decide)) (cwV 3 hts gX9_foldSteps_X9_ofStep rfl rfl rfl (by decide +kernel) ⟨Nat.le_of_ble_eq_true rfl, Nat.le_of_ble_eq_true rfl⟩) (g_recv hK hP (by decide) rfl (C := RX9) (T := TX9) (N := 4) rfl) hK (mA_mono hS.1) hP hS rfl hl.1 rfl (lv_room (Nat.le_of_ble_eq_true rfl)) dX9_foldSteps_38 ⟨Nat.le_of_ble_eq_true rfl, Nat.le_of_ble_eq_true rfl⟩ (fun H locs hP hS _ _ => ?_)
  refine lv_i2l hx hb dX9_foldSteps_41 rfl ?_
  refine g_cSl (As := [.long (vX9_foldSteps_18 S p1), .long ((rX9_ofStep S (1 : Int32) (4 : Int32) (0 : Int32)).toInt64)]) (rest := []) ⟨hx, hb, hml, hown, hts⟩ (c_X9_fold l G cA a ha S L H.size (vX9_foldSteps_18 S p1) ((rX9_ofStep S (1 : Int32) (4 : Int32) (0 : Int32)).toInt64)  ) (va_cwS 2 hts gX9_foldSteps_X9_fold rfl rfl rfl (by decide +kernel) ⟨Nat.le_of_ble_eq_true rfl, Nat.le_of_ble_eq_true rfl⟩) hK (mA_mono hS.1) hP hS rfl hl.1 rfl (lv_room (Nat.le_of_ble_eq_true rfl)) dX9_foldSteps_42 ⟨Nat.le_of_ble_eq_true rfl, Nat.le_of_ble_eq_true rfl⟩ (fun H locs hP hS _ _ => ?_)
  refine lv_lstore_n (lv' := [(3, .long (rX9_fold (vX9_foldSteps_18 S p1) ((rX9_ofStep S (1 : Int32) (4 : Int32) (0 : Int32)).toInt64))), (7, .int 0), (6, .int 4), (5, .int 1), (0, .ref (a 0)), (1, .long p1)]) hx hb dX9_foldSteps_45 rfl hl (by decide) rfl (fun ls hl => ?_)
  refine lv_iinc (v := 1) (lv' := [(7, .int 1), (3, .long (rX9_fold (vX9_foldSteps_18 S p1) ((rX9_ofStep S (1 : Int32) (4 : Int32) (0 : Int32)).toInt64))), (6, .int 4), (5, .int 1), (0, .ref (a 0)), (1, .long p1)]) hx hb dX9_foldSteps_46 hl (k := 1) rfl (by decide) (by decide) rfl (fun ls hl => ?_)
  refine lv_goto (tgt := 24) hx hb dX9_foldSteps_49 (by decide) ?_
  refine lv_iload hx hb dX9_foldSteps_24 (lv_at hl 0 rfl) ?_
  refine lv_iconst (v := 3) hx hb dX9_foldSteps_26 (by decide) ?_
  refine lv_icmp_ge (tgt := 52) hx hb dX9_foldSteps_27 (by decide) (fun c => absurd c (by decide)) (fun _ => ?_)
  refine lv_lload_n hx hb dX9_foldSteps_30 rfl (lv_at hl 1 rfl) ?_
  refine lv_aload_n hx hb dX9_foldSteps_31 rfl (lv_at hl 4 rfl) ?_
  refine lv_iload hx hb dX9_foldSteps_32 (lv_at hl 3 rfl) ?_
  refine lv_iload hx hb dX9_foldSteps_34 (lv_at hl 2 rfl) ?_
  refine lv_iload hx hb dX9_foldSteps_36 (lv_at hl 0 rfl) ?_
  refine g_cVi (As := [.int 1, .int 4, .int 1]) (rest := [.long (rX9_fold (vX9_foldSteps_18 S p1) ((rX9_ofStep S (1 : Int32) (4 : Int32) (0 : Int32)).toInt64))]) ⟨hx, hb, hml, hown, hts⟩ (c_X9_ofStep l G cA a ha S L H.size (1 : Int32) (4 : Int32) (1 : Int32)  (by decide) (by decide) (by decide) (by decide) (by decide) (by decide)) (cwV 3 hts gX9_foldSteps_X9_ofStep rfl rfl rfl (by decide +kernel) ⟨Nat.le_of_ble_eq_true rfl, Nat.le_of_ble_eq_true rfl⟩) (g_recv hK hP (by decide) rfl (C := RX9) (T := TX9) (N := 4) rfl) hK (mA_mono hS.1) hP hS rfl hl.1 rfl (lv_room (Nat.le_of_ble_eq_true rfl)) dX9_foldSteps_38 ⟨Nat.le_of_ble_eq_true rfl, Nat.le_of_ble_eq_true rfl⟩ (fun H locs hP hS _ _ => ?_)
  refine lv_i2l hx hb dX9_foldSteps_41 rfl ?_
  refine g_cSl (As := [.long (rX9_fold (vX9_foldSteps_18 S p1) ((rX9_ofStep S (1 : Int32) (4 : Int32) (0 : Int32)).toInt64)), .long ((rX9_ofStep S (1 : Int32) (4 : Int32) (1 : Int32)).toInt64)]) (rest := []) ⟨hx, hb, hml, hown, hts⟩ (c_X9_fold l G cA a ha S L H.size (rX9_fold (vX9_foldSteps_18 S p1) ((rX9_ofStep S (1 : Int32) (4 : Int32) (0 : Int32)).toInt64)) ((rX9_ofStep S (1 : Int32) (4 : Int32) (1 : Int32)).toInt64)  ) (va_cwS 2 hts gX9_foldSteps_X9_fold rfl rfl rfl (by decide +kernel) ⟨Nat.le_of_ble_eq_true rfl, Nat.le_of_ble_eq_true rfl⟩) hK (mA_mono hS.1) hP hS rfl hl.1 rfl (lv_room (Nat.le_of_ble_eq_true rfl)) dX9_foldSteps_42 ⟨Nat.le_of_ble_eq_true rfl, Nat.le_of_ble_eq_true rfl⟩ (fun H locs hP hS _ _ => ?_)
  refine W.eq (g2 := F0 m 45 ls [.long (vX9_foldSteps_19 S p1)]) rfl ?_
  refine lv_lstore_n (lv' := [(3, .long (vX9_foldSteps_19 S p1)), (7, .int 1), (6, .int 4), (5, .int 1), (0, .ref (a 0)), (1, .long p1)]) hx hb dX9_foldSteps_45 rfl hl (by decide) rfl (fun ls hl => ?_)
  refine lv_iinc (v := 2) (lv' := [(7, .int 2), (3, .long (vX9_foldSteps_19 S p1)), (6, .int 4), (5, .int 1), (0, .ref (a 0)), (1, .long p1)]) hx hb dX9_foldSteps_46 hl (k := 1) rfl (by decide) (by decide) rfl (fun ls hl => ?_)
  refine lv_goto (tgt := 24) hx hb dX9_foldSteps_49 (by decide) ?_
  refine lv_iload hx hb dX9_foldSteps_24 (lv_at hl 0 rfl) ?_
  refine lv_iconst (v := 3) hx hb dX9_foldSteps_26 (by decide) ?_
  refine lv_icmp_ge (tgt := 52) hx hb dX9_foldSteps_27 (by decide) (fun c => absurd c (by decide)) (fun _ => ?_)
  refine lv_lload_n hx hb dX9_foldSteps_30 rfl (lv_at hl 1 rfl) ?_
  refine lv_aload_n hx hb dX9_foldSteps_31 rfl (lv_at hl 4 rfl) ?_
  refine lv_iload hx hb dX9_foldSteps_32 (lv_at hl 3 rfl) ?_
  refine lv_iload hx hb dX9_foldSteps_34 (lv_at hl 2 rfl) ?_
  refine lv_iload hx hb dX9_foldSteps_36 (lv_at hl 0 rfl) ?_
  refine g_cVi (As := [.int 1, .int 4, .int 2]) (rest := [.long (vX9_foldSteps_19 S p1)]) ⟨hx, hb, hml, hown, hts⟩ (c_X9_ofStep l G cA a ha S L H.size (1 : Int32) (4 : Int32) (2 : Int32)  (by decide) (by decide) (by decide) (by decide) (by decide) (by decide)) (cwV 3 hts gX9_foldSteps_X9_ofStep rfl rfl rfl (by decide +kernel) ⟨Nat.le_of_ble_eq_true rfl, Nat.le_of_ble_eq_true rfl⟩) (g_recv hK hP (by decide) rfl (C := RX9) (T := TX9) (N := 4) rfl) hK (mA_mono hS.1) hP hS rfl hl.1 rfl (lv_room (Nat.le_of_ble_eq_true rfl)) dX9_foldSteps_38 ⟨Nat.le_of_ble_eq_true rfl, Nat.le_of_ble_eq_true rfl⟩ (fun H locs hP hS _ _ => ?_)
  refine lv_i2l hx hb dX9_foldSteps_41 rfl ?_
  refine g_cSl (As := [.long (vX9_foldSteps_19 S p1), .long ((rX9_ofStep S (1 : Int32) (4 : Int32) (2 : Int32)).toInt64)]) (rest := []) ⟨hx, hb, hml, hown, hts⟩ (c_X9_fold l G cA a ha S L H.size (vX9_foldSteps_19 S p1) ((rX9_ofStep S (1 : Int32) (4 : Int32) (2 : Int32)).toInt64)  ) (va_cwS 2 hts gX9_foldSteps_X9_fold rfl rfl rfl (by decide +kernel) ⟨Nat.le_of_ble_eq_true rfl, Nat.le_of_ble_eq_true rfl⟩) hK (mA_mono hS.1) hP hS rfl hl.1 rfl (lv_room (Nat.le_of_ble_eq_true rfl)) dX9_foldSteps_42 ⟨Nat.le_of_ble_eq_true rfl, Nat.le_of_ble_eq_true rfl⟩ (fun H locs hP hS _ _ => ?_)
  refine lv_lstore_n (lv' := [(3, .long (rX9_fold (vX9_foldSteps_19 S p1) ((rX9_ofStep S (1 : Int32) (4 : Int32) (2 : Int32)).toInt64))), (7, .int 2), (6, .int 4), (5, .int 1), (0, .ref (a 0)), (1, .long p1)]) hx hb dX9_foldSteps_45 rfl hl (by decide) rfl (fun ls hl => ?_)
  refine lv_iinc (v := 3) (lv' := [(7, .int 3), (3, .long (rX9_fold (vX9_foldSteps_19 S p1) ((rX9_ofStep S (1 : Int32) (4 : Int32) (2 : Int32)).toInt64))), (6, .int 4), (5, .int 1), (0, .ref (a 0)), (1, .long p1)]) hx hb dX9_foldSteps_46 hl (k := 1) rfl (by decide) (by decide) rfl (fun ls hl => ?_)
  refine lv_goto (tgt := 24) hx hb dX9_foldSteps_49 (by decide) ?_
  refine lv_iload hx hb dX9_foldSteps_24 (lv_at hl 0 rfl) ?_
  refine lv_iconst (v := 3) hx hb dX9_foldSteps_26 (by decide) ?_
  refine lv_icmp_ge (tgt := 52) hx hb dX9_foldSteps_27 (by decide) (fun _ => ?_) (fun c => absurd c (by decide))
  refine lv_iinc (v := 5) (lv' := [(6, .int 5), (7, .int 3), (3, .long (rX9_fold (vX9_foldSteps_19 S p1) ((rX9_ofStep S (1 : Int32) (4 : Int32) (2 : Int32)).toInt64))), (5, .int 1), (0, .ref (a 0)), (1, .long p1)]) hx hb dX9_foldSteps_52 hl (k := 2) rfl (by decide) (by decide) rfl (fun ls hl => ?_)
  refine lv_goto (tgt := 14) hx hb dX9_foldSteps_55 (by decide) ?_
  refine lv_iload hx hb dX9_foldSteps_14 (lv_at hl 0 rfl) ?_
  refine lv_bipush (v := 8) hx hb dX9_foldSteps_16 (by decide) ?_
  refine lv_icmp_ge (tgt := 58) hx hb dX9_foldSteps_18 (by decide) (fun c => absurd c (by decide)) (fun _ => ?_)
  refine lv_iconst (v := 0) hx hb dX9_foldSteps_21 (by decide) ?_
  refine lv_istore (lv' := [(7, .int 0), (6, .int 5), (3, .long (rX9_fold (vX9_foldSteps_19 S p1) ((rX9_ofStep S (1 : Int32) (4 : Int32) (2 : Int32)).toInt64))), (5, .int 1), (0, .ref (a 0)), (1, .long p1)]) hx hb dX9_foldSteps_22 hl (by decide) rfl (fun ls hl => ?_)
  refine lv_iload hx hb dX9_foldSteps_24 (lv_at hl 0 rfl) ?_
  refine lv_iconst (v := 3) hx hb dX9_foldSteps_26 (by decide) ?_
  refine lv_icmp_ge (tgt := 52) hx hb dX9_foldSteps_27 (by decide) (fun c => absurd c (by decide)) (fun _ => ?_)
  refine lv_lload_n hx hb dX9_foldSteps_30 rfl (lv_at hl 2 rfl) ?_
  refine lv_aload_n hx hb dX9_foldSteps_31 rfl (lv_at hl 4 rfl) ?_
  refine lv_iload hx hb dX9_foldSteps_32 (lv_at hl 3 rfl) ?_
  refine lv_iload hx hb dX9_foldSteps_34 (lv_at hl 1 rfl) ?_
  refine lv_iload hx hb dX9_foldSteps_36 (lv_at hl 0 rfl) ?_
  refine g_cVi (As := [.int 1, .int 5, .int 0]) (rest := [.long (rX9_fold (vX9_foldSteps_19 S p1) ((rX9_ofStep S (1 : Int32) (4 : Int32) (2 : Int32)).toInt64))]) ⟨hx, hb, hml, hown, hts⟩ (c_X9_ofStep l G cA a ha S L H.size (1 : Int32) (5 : Int32) (0 : Int32)  (by decide) (by decide) (by decide) (by decide) (by decide) (by decide)) (cwV 3 hts gX9_foldSteps_X9_ofStep rfl rfl rfl (by decide +kernel) ⟨Nat.le_of_ble_eq_true rfl, Nat.le_of_ble_eq_true rfl⟩) (g_recv hK hP (by decide) rfl (C := RX9) (T := TX9) (N := 4) rfl) hK (mA_mono hS.1) hP hS rfl hl.1 rfl (lv_room (Nat.le_of_ble_eq_true rfl)) dX9_foldSteps_38 ⟨Nat.le_of_ble_eq_true rfl, Nat.le_of_ble_eq_true rfl⟩ (fun H locs hP hS _ _ => ?_)
  refine lv_i2l hx hb dX9_foldSteps_41 rfl ?_
  refine g_cSl (As := [.long (rX9_fold (vX9_foldSteps_19 S p1) ((rX9_ofStep S (1 : Int32) (4 : Int32) (2 : Int32)).toInt64)), .long ((rX9_ofStep S (1 : Int32) (5 : Int32) (0 : Int32)).toInt64)]) (rest := []) ⟨hx, hb, hml, hown, hts⟩ (c_X9_fold l G cA a ha S L H.size (rX9_fold (vX9_foldSteps_19 S p1) ((rX9_ofStep S (1 : Int32) (4 : Int32) (2 : Int32)).toInt64)) ((rX9_ofStep S (1 : Int32) (5 : Int32) (0 : Int32)).toInt64)  ) (va_cwS 2 hts gX9_foldSteps_X9_fold rfl rfl rfl (by decide +kernel) ⟨Nat.le_of_ble_eq_true rfl, Nat.le_of_ble_eq_true rfl⟩) hK (mA_mono hS.1) hP hS rfl hl.1 rfl (lv_room (Nat.le_of_ble_eq_true rfl)) dX9_foldSteps_42 ⟨Nat.le_of_ble_eq_true rfl, Nat.le_of_ble_eq_true rfl⟩ (fun H locs hP hS _ _ => ?_)
  refine W.eq (g2 := F0 m 45 ls [.long (vX9_foldSteps_20 S p1)]) rfl ?_
  refine lv_lstore_n (lv' := [(3, .long (vX9_foldSteps_20 S p1)), (7, .int 0), (6, .int 5), (5, .int 1), (0, .ref (a 0)), (1, .long p1)]) hx hb dX9_foldSteps_45 rfl hl (by decide) rfl (fun ls hl => ?_)
  refine lv_iinc (v := 1) (lv' := [(7, .int 1), (3, .long (vX9_foldSteps_20 S p1)), (6, .int 5), (5, .int 1), (0, .ref (a 0)), (1, .long p1)]) hx hb dX9_foldSteps_46 hl (k := 1) rfl (by decide) (by decide) rfl (fun ls hl => ?_)
  refine lv_goto (tgt := 24) hx hb dX9_foldSteps_49 (by decide) ?_
  refine lv_iload hx hb dX9_foldSteps_24 (lv_at hl 0 rfl) ?_
  refine lv_iconst (v := 3) hx hb dX9_foldSteps_26 (by decide) ?_
  refine lv_icmp_ge (tgt := 52) hx hb dX9_foldSteps_27 (by decide) (fun c => absurd c (by decide)) (fun _ => ?_)
  refine lv_lload_n hx hb dX9_foldSteps_30 rfl (lv_at hl 1 rfl) ?_
  refine lv_aload_n hx hb dX9_foldSteps_31 rfl (lv_at hl 4 rfl) ?_
  refine lv_iload hx hb dX9_foldSteps_32 (lv_at hl 3 rfl) ?_
  refine lv_iload hx hb dX9_foldSteps_34 (lv_at hl 2 rfl) ?_
  refine lv_iload hx hb dX9_foldSteps_36 (lv_at hl 0 rfl) ?_
  refine g_cVi (As := [.int 1, .int 5, .int 1]) (rest := [.long (vX9_foldSteps_20 S p1)]) ⟨hx, hb, hml, hown, hts⟩ (c_X9_ofStep l G cA a ha S L H.size (1 : Int32) (5 : Int32) (1 : Int32)  (by decide) (by decide) (by decide) (by decide) (by decide) (by decide)) (cwV 3 hts gX9_foldSteps_X9_ofStep rfl rfl rfl (by decide +kernel) ⟨Nat.le_of_ble_eq_true rfl, Nat.le_of_ble_eq_true rfl⟩) (g_recv hK hP (by decide) rfl (C := RX9) (T := TX9) (N := 4) rfl) hK (mA_mono hS.1) hP hS rfl hl.1 rfl (lv_room (Nat.le_of_ble_eq_true rfl)) dX9_foldSteps_38 ⟨Nat.le_of_ble_eq_true rfl, Nat.le_of_ble_eq_true rfl⟩ (fun H locs hP hS _ _ => ?_)
  refine lv_i2l hx hb dX9_foldSteps_41 rfl ?_
  refine g_cSl (As := [.long (vX9_foldSteps_20 S p1), .long ((rX9_ofStep S (1 : Int32) (5 : Int32) (1 : Int32)).toInt64)]) (rest := []) ⟨hx, hb, hml, hown, hts⟩ (c_X9_fold l G cA a ha S L H.size (vX9_foldSteps_20 S p1) ((rX9_ofStep S (1 : Int32) (5 : Int32) (1 : Int32)).toInt64)  ) (va_cwS 2 hts gX9_foldSteps_X9_fold rfl rfl rfl (by decide +kernel) ⟨Nat.le_of_ble_eq_true rfl, Nat.le_of_ble_eq_true rfl⟩) hK (mA_mono hS.1) hP hS rfl hl.1 rfl (lv_room (Nat.le_of_ble_eq_true rfl)) dX9_foldSteps_42 ⟨Nat.le_of_ble_eq_true rfl, Nat.le_of_ble_eq_true rfl⟩ (fun H locs hP hS _ _ => ?_)
  refine lv_lstore_n (lv' := [(3, .long (rX9_fold (vX9_foldSteps_20 S p1) ((rX9_ofStep S (1 : Int32) (5 : Int32) (1 : Int32)).toInt64))), (7, .int 1), (6, .int 5), (5, .int 1), (0, .ref (a 0)), (1, .long p1)]) hx hb dX9_foldSteps_45 rfl hl (by decide) rfl (fun ls hl => ?_)
  refine lv_iinc (v := 2) (lv' := [(7, .int 2), (3, .long (rX9_fold (vX9_foldSteps_20 S p1) ((rX9_ofStep S (1 : Int32) (5 : Int32) (1 : Int32)).toInt64))), (6, .int 5), (5, .int 1), (0, .ref (a 0)), (1, .long p1)]) hx hb dX9_foldSteps_46 hl (k := 1) rfl (by decide) (by decide) rfl (fun ls hl => ?_)
  refine lv_goto (tgt := 24) hx hb dX9_foldSteps_49 (by decide) ?_
  refine lv_iload hx hb dX9_foldSteps_24 (lv_at hl 0 rfl) ?_
  refine lv_iconst (v := 3) hx hb dX9_foldSteps_26 (by decide) ?_
  refine lv_icmp_ge (tgt := 52) hx hb dX9_foldSteps_27 (by decide) (fun c => absurd c (by decide)) (fun _ => ?_)
  refine lv_lload_n hx hb dX9_foldSteps_30 rfl (lv_at hl 1 rfl) ?_
  refine lv_aload_n hx hb dX9_foldSteps_31 rfl (lv_at hl 4 rfl) ?_
  refine lv_iload hx hb dX9_foldSteps_32 (lv_at hl 3 rfl) ?_
  refine lv_iload hx hb dX9_foldSteps_34 (lv_at hl 2 rfl) ?_
  refine lv_iload hx hb dX9_foldSteps_36 (lv_at hl 0 rfl) ?_
  refine g_cVi (As := [.int 1, .int 5, .int 2]) (rest := [.long (rX9_fold (vX9_foldSteps_20 S p1) ((rX9_ofStep S (1 : Int32) (5 : Int32) (1 : Int32)).toInt64))]) ⟨hx, hb, hml, hown, hts⟩ (c_X9_ofStep l G cA a ha S L H.size (1 : Int32) (5 : Int32) (2 : Int32)  (by decide) (by decide) (by decide) (by decide) (by decide) (by decide)) (cwV 3 hts gX9_foldSteps_X9_ofStep rfl rfl rfl (by decide +kernel) ⟨Nat.le_of_ble_eq_true rfl, Nat.le_of_ble_eq_true rfl⟩) (g_recv hK hP (by decide) rfl (C := RX9) (T := TX9) (N := 4) rfl) hK (mA_mono hS.1) hP hS rfl hl.1 rfl (lv_room (Nat.le_of_ble_eq_true rfl)) dX9_foldSteps_38 ⟨Nat.le_of_ble_eq_true rfl, Nat.le_of_ble_eq_true rfl⟩ (fun H locs hP hS _ _ => ?_)
  refine lv_i2l hx hb dX9_foldSteps_41 rfl ?_
  refine g_cSl (As := [.long (rX9_fold (vX9_foldSteps_20 S p1) ((rX9_ofStep S (1 : Int32) (5 : Int32) (1 : Int32)).toInt64)), .long ((rX9_ofStep S (1 : Int32) (5 : Int32) (2 : Int32)).toInt64)]) (rest := []) ⟨hx, hb, hml, hown, hts⟩ (c_X9_fold l G cA a ha S L H.size (rX9_fold (vX9_foldSteps_20 S p1) ((rX9_ofStep S (1 : Int32) (5 : Int32) (1 : Int32)).toInt64)) ((rX9_ofStep S (1 : Int32) (5 : Int32) (2 : Int32)).toInt64)  ) (va_cwS 2 hts gX9_foldSteps_X9_fold rfl rfl rfl (by decide +kernel) ⟨Nat.le_of_ble_eq_true rfl, Nat.le_of_ble_eq_true rfl⟩) hK (mA_mono hS.1) hP hS rfl hl.1 rfl (lv_room (Nat.le_of_ble_eq_true rfl)) dX9_foldSteps_42 ⟨Nat.le_of_ble_eq_true rfl, Nat.le_of_ble_eq_true rfl⟩ (fun H locs hP hS _ _ => ?_)
  refine W.eq (g2 := F0 m 45 ls [.long (vX9_foldSteps_21 S p1)]) rfl ?_
  refine lv_lstore_n (lv' := [(3, .long (vX9_foldSteps_21 S p1)), (7, .int 2), (6, .int 5), (5, .int 1), (0, .ref (a 0)), (1, .long p1)]) hx hb dX9_foldSteps_45 rfl hl (by decide) rfl (fun ls hl => ?_)
  refine lv_iinc (v := 3) (lv' := [(7, .int 3), (3, .long (vX9_foldSteps_21 S p1)), (6, .int 5), (5, .int 1), (0, .ref (a 0)), (1, .long p1)]) hx hb dX9_foldSteps_46 hl (k := 1) rfl (by decide) (by decide) rfl (fun ls hl => ?_)
  refine lv_goto (tgt := 24) hx hb dX9_foldSteps_49 (by decide) ?_
  refine lv_iload hx hb dX9_foldSteps_24 (lv_at hl 0 rfl) ?_
  refine lv_iconst (v := 3) hx hb dX9_foldSteps_26 (by decide) ?_
  refine lv_icmp_ge (tgt := 52) hx hb dX9_foldSteps_27 (by decide) (fun _ => ?_) (fun c => absurd c (by decide))
  refine lv_iinc (v := 6) (lv' := [(6, .int 6), (7, .int 3), (3, .long (vX9_foldSteps_21 S p1)), (5, .int 1), (0, .ref (a 0)), (1, .long p1)]) hx hb dX9_foldSteps_52 hl (k := 2) rfl (by decide) (by decide) rfl (fun ls hl => ?_)
  refine lv_goto (tgt := 14) hx hb dX9_foldSteps_55 (by decide) ?_
  refine lv_iload hx hb dX9_foldSteps_14 (lv_at hl 0 rfl) ?_
  refine lv_bipush (v := 8) hx hb dX9_foldSteps_16 (by decide) ?_
  refine lv_icmp_ge (tgt := 58) hx hb dX9_foldSteps_18 (by decide) (fun c => absurd c (by decide)) (fun _ => ?_)
  refine lv_iconst (v := 0) hx hb dX9_foldSteps_21 (by decide) ?_
  refine lv_istore (lv' := [(7, .int 0), (6, .int 6), (3, .long (vX9_foldSteps_21 S p1)), (5, .int 1), (0, .ref (a 0)), (1, .long p1)]) hx hb dX9_foldSteps_22 hl (by decide) rfl (fun ls hl => ?_)
  refine lv_iload hx hb dX9_foldSteps_24 (lv_at hl 0 rfl) ?_
  refine lv_iconst (v := 3) hx hb dX9_foldSteps_26 (by decide) ?_
  refine lv_icmp_ge (tgt := 52) hx hb dX9_foldSteps_27 (by decide) (fun c => absurd c (by decide)) (fun _ => ?_)
  refine lv_lload_n hx hb dX9_foldSteps_30 rfl (lv_at hl 2 rfl) ?_
  refine lv_aload_n hx hb dX9_foldSteps_31 rfl (lv_at hl 4 rfl) ?_
  refine lv_iload hx hb dX9_foldSteps_32 (lv_at hl 3 rfl) ?_
  refine lv_iload hx hb dX9_foldSteps_34 (lv_at hl 1 rfl) ?_
  refine lv_iload hx hb dX9_foldSteps_36 (lv_at hl 0 rfl) ?_
  refine g_cVi (As := [.int 1, .int 6, .int 0]) (rest := [.long (vX9_foldSteps_21 S p1)]) ⟨hx, hb, hml, hown, hts⟩ (c_X9_ofStep l G cA a ha S L H.size (1 : Int32) (6 : Int32) (0 : Int32)  (by decide) (by decide) (by decide) (by decide) (by decide) (by decide)) (cwV 3 hts gX9_foldSteps_X9_ofStep rfl rfl rfl (by decide +kernel) ⟨Nat.le_of_ble_eq_true rfl, Nat.le_of_ble_eq_true rfl⟩) (g_recv hK hP (by decide) rfl (C := RX9) (T := TX9) (N := 4) rfl) hK (mA_mono hS.1) hP hS rfl hl.1 rfl (lv_room (Nat.le_of_ble_eq_true rfl)) dX9_foldSteps_38 ⟨Nat.le_of_ble_eq_true rfl, Nat.le_of_ble_eq_true rfl⟩ (fun H locs hP hS _ _ => ?_)
  refine lv_i2l hx hb dX9_foldSteps_41 rfl ?_
  refine g_cSl (As := [.long (vX9_foldSteps_21 S p1), .long ((rX9_ofStep S (1 : Int32) (6 : Int32) (0 : Int32)).toInt64)]) (rest := []) ⟨hx, hb, hml, hown, hts⟩ (c_X9_fold l G cA a ha S L H.size (vX9_foldSteps_21 S p1) ((rX9_ofStep S (1 : Int32) (6 : Int32) (0 : Int32)).toInt64)  ) (va_cwS 2 hts gX9_foldSteps_X9_fold rfl rfl rfl (by decide +kernel) ⟨Nat.le_of_ble_eq_true rfl, Nat.le_of_ble_eq_true rfl⟩) hK (mA_mono hS.1) hP hS rfl hl.1 rfl (lv_room (Nat.le_of_ble_eq_true rfl)) dX9_foldSteps_42 ⟨Nat.le_of_ble_eq_true rfl, Nat.le_of_ble_eq_true rfl⟩ (fun H locs hP hS _ _ => ?_)
  refine lv_lstore_n (lv' := [(3, .long (rX9_fold (vX9_foldSteps_21 S p1) ((rX9_ofStep S (1 : Int32) (6 : Int32) (0 : Int32)).toInt64))), (7, .int 0), (6, .int 6), (5, .int 1), (0, .ref (a 0)), (1, .long p1)]) hx hb dX9_foldSteps_45 rfl hl (by decide) rfl (fun ls hl => ?_)
  refine lv_iinc (v := 1) (lv' := [(7, .int 1), (3, .long (rX9_fold (vX9_foldSteps_21 S p1) ((rX9_ofStep S (1 : Int32) (6 : Int32) (0 : Int32)).toInt64))), (6, .int 6), (5, .int 1), (0, .ref (a 0)), (1, .long p1)]) hx hb dX9_foldSteps_46 hl (k := 1) rfl (by decide) (by decide) rfl (fun ls hl => ?_)
  refine lv_goto (tgt := 24) hx hb dX9_foldSteps_49 (by decide) ?_
  refine lv_iload hx hb dX9_foldSteps_24 (lv_at hl 0 rfl) ?_
  refine lv_iconst (v := 3) hx hb dX9_foldSteps_26 (by decide) ?_
  refine lv_icmp_ge (tgt := 52) hx hb dX9_foldSteps_27 (by decide) (fun c => absurd c (by decide)) (fun _ => ?_)
  refine lv_lload_n hx hb dX9_foldSteps_30 rfl (lv_at hl 1 rfl) ?_
  refine lv_aload_n hx hb dX9_foldSteps_31 rfl (lv_at hl 4 rfl) ?_
  refine lv_iload hx hb dX9_foldSteps_32 (lv_at hl 3 rfl) ?_
  refine lv_iload hx hb dX9_foldSteps_34 (lv_at hl 2 rfl) ?_
  refine lv_iload hx hb dX9_foldSteps_36 (lv_at hl 0 rfl) ?_
  refine g_cVi (As := [.int 1, .int 6, .int 1]) (rest := [.long (rX9_fold (vX9_foldSteps_21 S p1) ((rX9_ofStep S (1 : Int32) (6 : Int32) (0 : Int32)).toInt64))]) ⟨hx, hb, hml, hown, hts⟩ (c_X9_ofStep l G cA a ha S L H.size (1 : Int32) (6 : Int32) (1 : Int32)  (by decide) (by decide) (by decide) (by decide) (by decide) (by decide)) (cwV 3 hts gX9_foldSteps_X9_ofStep rfl rfl rfl (by decide +kernel) ⟨Nat.le_of_ble_eq_true rfl, Nat.le_of_ble_eq_true rfl⟩) (g_recv hK hP (by decide) rfl (C := RX9) (T := TX9) (N := 4) rfl) hK (mA_mono hS.1) hP hS rfl hl.1 rfl (lv_room (Nat.le_of_ble_eq_true rfl)) dX9_foldSteps_38 ⟨Nat.le_of_ble_eq_true rfl, Nat.le_of_ble_eq_true rfl⟩ (fun H locs hP hS _ _ => ?_)
  refine lv_i2l hx hb dX9_foldSteps_41 rfl ?_
  refine g_cSl (As := [.long (rX9_fold (vX9_foldSteps_21 S p1) ((rX9_ofStep S (1 : Int32) (6 : Int32) (0 : Int32)).toInt64)), .long ((rX9_ofStep S (1 : Int32) (6 : Int32) (1 : Int32)).toInt64)]) (rest := []) ⟨hx, hb, hml, hown, hts⟩ (c_X9_fold l G cA a ha S L H.size (rX9_fold (vX9_foldSteps_21 S p1) ((rX9_ofStep S (1 : Int32) (6 : Int32) (0 : Int32)).toInt64)) ((rX9_ofStep S (1 : Int32) (6 : Int32) (1 : Int32)).toInt64)  ) (va_cwS 2 hts gX9_foldSteps_X9_fold rfl rfl rfl (by decide +kernel) ⟨Nat.le_of_ble_eq_true rfl, Nat.le_of_ble_eq_true rfl⟩) hK (mA_mono hS.1) hP hS rfl hl.1 rfl (lv_room (Nat.le_of_ble_eq_true rfl)) dX9_foldSteps_42 ⟨Nat.le_of_ble_eq_true rfl, Nat.le_of_ble_eq_true rfl⟩ (fun H locs hP hS _ _ => ?_)
  refine W.eq (g2 := F0 m 45 ls [.long (vX9_foldSteps_22 S p1)]) rfl ?_
  refine lv_lstore_n (lv' := [(3, .long (vX9_foldSteps_22 S p1)), (7, .int 1), (6, .int 6), (5, .int 1), (0, .ref (a 0)), (1, .long p1)]) hx hb dX9_foldSteps_45 rfl hl (by decide) rfl (fun ls hl => ?_)
  refine lv_iinc (v := 2) (lv' := [(7, .int 2), (3, .long (vX9_foldSteps_22 S p1)), (6, .int 6), (5, .int 1), (0, .ref (a 0)), (1, .long p1)]) hx hb dX9_foldSteps_46 hl (k := 1) rfl (by decide) (by decide) rfl (fun ls hl => ?_)
  refine lv_goto (tgt := 24) hx hb dX9_foldSteps_49 (by decide) ?_
  refine lv_iload hx hb dX9_foldSteps_24 (lv_at hl 0 rfl) ?_
  refine lv_iconst (v := 3) hx hb dX9_foldSteps_26 (by decide) ?_
  refine lv_icmp_ge (tgt := 52) hx hb dX9_foldSteps_27 (by decide) (fun c => absurd c (by decide)) (fun _ => ?_)
  refine lv_lload_n hx hb dX9_foldSteps_30 rfl (lv_at hl 1 rfl) ?_
  refine lv_aload_n hx hb dX9_foldSteps_31 rfl (lv_at hl 4 rfl) ?_
  refine lv_iload hx hb dX9_foldSteps_32 (lv_at hl 3 rfl) ?_
  refine lv_iload hx hb dX9_foldSteps_34 (lv_at hl 2 rfl) ?_
  refine lv_iload hx hb dX9_foldSteps_36 (lv_at hl 0 rfl) ?_
  refine g_cVi (As := [.int 1, .int 6, .int 2]) (rest := [.long (vX9_foldSteps_22 S p1)]) ⟨hx, hb, hml, hown, hts⟩ (c_X9_ofStep l G cA a ha S L H.size (1 : Int32) (6 : Int32) (2 : Int32)  (by decide) (by decide) (by decide) (by decide) (by decide) (by decide)) (cwV 3 hts gX9_foldSteps_X9_ofStep rfl rfl rfl (by decide +kernel) ⟨Nat.le_of_ble_eq_true rfl, Nat.le_of_ble_eq_true rfl⟩) (g_recv hK hP (by decide) rfl (C := RX9) (T := TX9) (N := 4) rfl) hK (mA_mono hS.1) hP hS rfl hl.1 rfl (lv_room (Nat.le_of_ble_eq_true rfl)) dX9_foldSteps_38 ⟨Nat.le_of_ble_eq_true rfl, Nat.le_of_ble_eq_true rfl⟩ (fun H locs hP hS _ _ => ?_)
  refine lv_i2l hx hb dX9_foldSteps_41 rfl ?_
  refine g_cSl (As := [.long (vX9_foldSteps_22 S p1), .long ((rX9_ofStep S (1 : Int32) (6 : Int32) (2 : Int32)).toInt64)]) (rest := []) ⟨hx, hb, hml, hown, hts⟩ (c_X9_fold l G cA a ha S L H.size (vX9_foldSteps_22 S p1) ((rX9_ofStep S (1 : Int32) (6 : Int32) (2 : Int32)).toInt64)  ) (va_cwS 2 hts gX9_foldSteps_X9_fold rfl rfl rfl (by decide +kernel) ⟨Nat.le_of_ble_eq_true rfl, Nat.le_of_ble_eq_true rfl⟩) hK (mA_mono hS.1) hP hS rfl hl.1 rfl (lv_room (Nat.le_of_ble_eq_true rfl)) dX9_foldSteps_42 ⟨Nat.le_of_ble_eq_true rfl, Nat.le_of_ble_eq_true rfl⟩ (fun H locs hP hS _ _ => ?_)
  refine lv_lstore_n (lv' := [(3, .long (rX9_fold (vX9_foldSteps_22 S p1) ((rX9_ofStep S (1 : Int32) (6 : Int32) (2 : Int32)).toInt64))), (7, .int 2), (6, .int 6), (5, .int 1), (0, .ref (a 0)), (1, .long p1)]) hx hb dX9_foldSteps_45 rfl hl (by decide) rfl (fun ls hl => ?_)
  refine lv_iinc (v := 3) (lv' := [(7, .int 3), (3, .long (rX9_fold (vX9_foldSteps_22 S p1) ((rX9_ofStep S (1 : Int32) (6 : Int32) (2 : Int32)).toInt64))), (6, .int 6), (5, .int 1), (0, .ref (a 0)), (1, .long p1)]) hx hb dX9_foldSteps_46 hl (k := 1) rfl (by decide) (by decide) rfl (fun ls hl => ?_)
  refine lv_goto (tgt := 24) hx hb dX9_foldSteps_49 (by decide) ?_
  refine lv_iload hx hb dX9_foldSteps_24 (lv_at hl 0 rfl) ?_
  refine lv_iconst (v := 3) hx hb dX9_foldSteps_26 (by decide) ?_
  refine lv_icmp_ge (tgt := 52) hx hb dX9_foldSteps_27 (by decide) (fun _ => ?_) (fun c => absurd c (by decide))
  refine lv_iinc (v := 7) (lv' := [(6, .int 7), (7, .int 3), (3, .long (rX9_fold (vX9_foldSteps_22 S p1) ((rX9_ofStep S (1 : Int32) (6 : Int32) (2 : Int32)).toInt64))), (5, .int 1), (0, .ref (a 0)), (1, .long p1)]) hx hb dX9_foldSteps_52 hl (k := 2) rfl (by decide) (by decide) rfl (fun ls hl => ?_)
  refine lv_goto (tgt := 14) hx hb dX9_foldSteps_55 (by decide) ?_
  refine lv_iload hx hb dX9_foldSteps_14 (lv_at hl 0 rfl) ?_
  refine lv_bipush (v := 8) hx hb dX9_foldSteps_16 (by decide) ?_
  refine lv_icmp_ge (tgt := 58) hx hb dX9_foldSteps_18 (by decide) (fun c => absurd c (by decide)) (fun _ => ?_)
  refine lv_iconst (v := 0) hx hb dX9_foldSteps_21 (by decide) ?_
  refine lv_istore (lv' := [(7, .int 0), (6, .int 7), (3, .long (rX9_fold (vX9_foldSteps_22 S p1) ((rX9_ofStep S (1 : Int32) (6 : Int32) (2 : Int32)).toInt64))), (5, .int 1), (0, .ref (a 0)), (1, .long p1)]) hx hb dX9_foldSteps_22 hl (by decide) rfl (fun ls hl => ?_)
  refine lv_iload hx hb dX9_foldSteps_24 (lv_at hl 0 rfl) ?_
  refine lv_iconst (v := 3) hx hb dX9_foldSteps_26 (by decide) ?_
  refine lv_icmp_ge (tgt := 52) hx hb dX9_foldSteps_27 (by decide) (fun c => absurd c (by decide)) (fun _ => ?_)
  refine lv_lload_n hx hb dX9_foldSteps_30 rfl (lv_at hl 2 rfl) ?_
  refine lv_aload_n hx hb dX9_foldSteps_31 rfl (lv_at hl 4 rfl) ?_
  refine lv_iload hx hb dX9_foldSteps_32 (lv_at hl 3 rfl) ?_
  refine lv_iload hx hb dX9_foldSteps_34 (lv_at hl 1 rfl) ?_
  refine lv_iload hx hb dX9_foldSteps_36 (lv_at hl 0 rfl) ?_
  refine g_cVi (As := [.int 1, .int 7, .int 0]) (rest := [.long (rX9_fold (vX9_foldSteps_22 S p1) ((rX9_ofStep S (1 : Int32) (6 : Int32) (2 : Int32)).toInt64))]) ⟨hx, hb, hml, hown, hts⟩ (c_X9_ofStep l G cA a ha S L H.size (1 : Int32) (7 : Int32) (0 : Int32)  (by decide) (by decide) (by decide) (by decide) (by decide) (by decide)) (cwV 3 hts gX9_foldSteps_X9_ofStep rfl rfl rfl (by decide +kernel) ⟨Nat.le_of_ble_eq_true rfl, Nat.le_of_ble_eq_true rfl⟩) (g_recv hK hP (by decide) rfl (C := RX9) (T := TX9) (N := 4) rfl) hK (mA_mono hS.1) hP hS rfl hl.1 rfl (lv_room (Nat.le_of_ble_eq_true rfl)) dX9_foldSteps_38 ⟨Nat.le_of_ble_eq_true rfl, Nat.le_of_ble_eq_true rfl⟩ (fun H locs hP hS _ _ => ?_)
  refine lv_i2l hx hb dX9_foldSteps_41 rfl ?_
  refine g_cSl (As := [.long (rX9_fold (vX9_foldSteps_22 S p1) ((rX9_ofStep S (1 : Int32) (6 : Int32) (2 : Int32)).toInt64)), .long ((rX9_ofStep S (1 : Int32) (7 : Int32) (0 : Int32)).toInt64)]) (rest := []) ⟨hx, hb, hml, hown, hts⟩ (c_X9_fold l G cA a ha S L H.size (rX9_fold (vX9_foldSteps_22 S p1) ((rX9_ofStep S (1 : Int32) (6 : Int32) (2 : Int32)).toInt64)) ((rX9_ofStep S (1 : Int32) (7 : Int32) (0 : Int32)).toInt64)  ) (va_cwS 2 hts gX9_foldSteps_X9_fold rfl rfl rfl (by decide +kernel) ⟨Nat.le_of_ble_eq_true rfl, Nat.le_of_ble_eq_true rfl⟩) hK (mA_mono hS.1) hP hS rfl hl.1 rfl (lv_room (Nat.le_of_ble_eq_true rfl)) dX9_foldSteps_42 ⟨Nat.le_of_ble_eq_true rfl, Nat.le_of_ble_eq_true rfl⟩ (fun H locs hP hS _ _ => ?_)
  refine W.eq (g2 := F0 m 45 ls [.long (vX9_foldSteps_23 S p1)]) rfl ?_
  refine lv_lstore_n (lv' := [(3, .long (vX9_foldSteps_23 S p1)), (7, .int 0), (6, .int 7), (5, .int 1), (0, .ref (a 0)), (1, .long p1)]) hx hb dX9_foldSteps_45 rfl hl (by decide) rfl (fun ls hl => ?_)
  refine lv_iinc (v := 1) (lv' := [(7, .int 1), (3, .long (vX9_foldSteps_23 S p1)), (6, .int 7), (5, .int 1), (0, .ref (a 0)), (1, .long p1)]) hx hb dX9_foldSteps_46 hl (k := 1) rfl (by decide) (by decide) rfl (fun ls hl => ?_)
  refine lv_goto (tgt := 24) hx hb dX9_foldSteps_49 (by decide) ?_
  refine lv_iload hx hb dX9_foldSteps_24 (lv_at hl 0 rfl) ?_
  refine lv_iconst (v := 3) hx hb dX9_foldSteps_26 (by decide) ?_
  refine lv_icmp_ge (tgt := 52) hx hb dX9_foldSteps_27 (by decide) (fun c => absurd c (by decide)) (fun _ => ?_)
  refine lv_lload_n hx hb dX9_foldSteps_30 rfl (lv_at hl 1 rfl) ?_
  refine lv_aload_n hx hb dX9_foldSteps_31 rfl (lv_at hl 4 rfl) ?_
  refine lv_iload hx hb dX9_foldSteps_32 (lv_at hl 3 rfl) ?_
  refine lv_iload hx hb dX9_foldSteps_34 (lv_at hl 2 rfl) ?_
  refine lv_iload hx hb dX9_foldSteps_36 (lv_at hl 0 rfl) ?_
  refine g_cVi (As := [.int 1, .int 7, .int 1]) (rest := [.long (vX9_foldSteps_23 S p1)]) ⟨hx, hb, hml, hown, hts⟩ (c_X9_ofStep l G cA a ha S L H.size (1 : Int32) (7 : Int32) (1 : Int32)  (by decide) (by decide) (by decide) (by decide) (by decide) (by decide)) (cwV 3 hts gX9_foldSteps_X9_ofStep rfl rfl rfl (by decide +kernel) ⟨Nat.le_of_ble_eq_true rfl, Nat.le_of_ble_eq_true rfl⟩) (g_recv hK hP (by decide) rfl (C := RX9) (T := TX9) (N := 4) rfl) hK (mA_mono hS.1) hP hS rfl hl.1 rfl (lv_room (Nat.le_of_ble_eq_true rfl)) dX9_foldSteps_38 ⟨Nat.le_of_ble_eq_true rfl, Nat.le_of_ble_eq_true rfl⟩ (fun H locs hP hS _ _ => ?_)
  refine lv_i2l hx hb dX9_foldSteps_41 rfl ?_
  refine g_cSl (As := [.long (vX9_foldSteps_23 S p1), .long ((rX9_ofStep S (1 : Int32) (7 : Int32) (1 : Int32)).toInt64)]) (rest := []) ⟨hx, hb, hml, hown, hts⟩ (c_X9_fold l G cA a ha S L H.size (vX9_foldSteps_23 S p1) ((rX9_ofStep S (1 : Int32) (7 : Int32) (1 : Int32)).toInt64)  ) (va_cwS 2 hts gX9_foldSteps_X9_fold rfl rfl rfl (by decide +kernel) ⟨Nat.le_of_ble_eq_true rfl, Nat.le_of_ble_eq_true rfl⟩) hK (mA_mono hS.1) hP hS rfl hl.1 rfl (lv_room (Nat.le_of_ble_eq_true rfl)) dX9_foldSteps_42 ⟨Nat.le_of_ble_eq_true rfl, Nat.le_of_ble_eq_true rfl⟩ (fun H locs hP hS _ _ => ?_)
  refine lv_lstore_n (lv' := [(3, .long (rX9_fold (vX9_foldSteps_23 S p1) ((rX9_ofStep S (1 : Int32) (7 : Int32) (1 : Int32)).toInt64))), (7, .int 1), (6, .int 7), (5, .int 1), (0, .ref (a 0)), (1, .long p1)]) hx hb dX9_foldSteps_45 rfl hl (by decide) rfl (fun ls hl => ?_)
  refine lv_iinc (v := 2) (lv' := [(7, .int 2), (3, .long (rX9_fold (vX9_foldSteps_23 S p1) ((rX9_ofStep S (1 : Int32) (7 : Int32) (1 : Int32)).toInt64))), (6, .int 7), (5, .int 1), (0, .ref (a 0)), (1, .long p1)]) hx hb dX9_foldSteps_46 hl (k := 1) rfl (by decide) (by decide) rfl (fun ls hl => ?_)
  refine lv_goto (tgt := 24) hx hb dX9_foldSteps_49 (by decide) ?_
  refine lv_iload hx hb dX9_foldSteps_24 (lv_at hl 0 rfl) ?_
  refine lv_iconst (v := 3) hx hb dX9_foldSteps_26 (by decide) ?_
  refine lv_icmp_ge (tgt := 52) hx hb dX9_foldSteps_27 (by decide) (fun c => absurd c (by decide)) (fun _ => ?_)
  refine lv_lload_n hx hb dX9_foldSteps_30 rfl (lv_at hl 1 rfl) ?_
  refine lv_aload_n hx hb dX9_foldSteps_31 rfl (lv_at hl 4 rfl) ?_
  refine lv_iload hx hb dX9_foldSteps_32 (lv_at hl 3 rfl) ?_
  refine lv_iload hx hb dX9_foldSteps_34 (lv_at hl 2 rfl) ?_
  refine lv_iload hx hb dX9_foldSteps_36 (lv_at hl 0 rfl) ?_
  refine g_cVi (As := [.int 1, .int 7, .int 2]) (rest := [.long (rX9_fold (vX9_foldSteps_23 S p1) ((rX9_ofStep S (1 : Int32) (7 : Int32) (1 : Int32)).toInt64))]) ⟨hx, hb, hml, hown, hts⟩ (c_X9_ofStep l G cA a ha S L H.size (1 : Int32) (7 : Int32) (2 : Int32)  (by decide) (by decide) (by decide) (by decide) (by decide) (by decide)) (cwV 3 hts gX9_foldSteps_X9_ofStep rfl rfl rfl (by decide +kernel) ⟨Nat.le_of_ble_eq_true rfl, Nat.le_of_ble_eq_true rfl⟩) (g_recv hK hP (by decide) rfl (C := RX9) (T := TX9) (N := 4) rfl) hK (mA_mono hS.1) hP hS rfl hl.1 rfl (lv_room (Nat.le_of_ble_eq_true rfl)) dX9_foldSteps_38 ⟨Nat.le_of_ble_eq_true rfl, Nat.le_of_ble_eq_true rfl⟩ (fun H locs hP hS _ _ => ?_)
  refine lv_i2l hx hb dX9_foldSteps_41 rfl ?_
  refine g_cSl (As := [.long (rX9_fold (vX9_foldSteps_23 S p1) ((rX9_ofStep S (1 : Int32) (7 : Int32) (1 : Int32)).toInt64)), .long ((rX9_ofStep S (1 : Int32) (7 : Int32) (2 : Int32)).toInt64)]) (rest := []) ⟨hx, hb, hml, hown, hts⟩ (c_X9_fold l G cA a ha S L H.size (rX9_fold (vX9_foldSteps_23 S p1) ((rX9_ofStep S (1 : Int32) (7 : Int32) (1 : Int32)).toInt64)) ((rX9_ofStep S (1 : Int32) (7 : Int32) (2 : Int32)).toInt64)  ) (va_cwS 2 hts gX9_foldSteps_X9_fold rfl rfl rfl (by decide +kernel) ⟨Nat.le_of_ble_eq_true rfl, Nat.le_of_ble_eq_true rfl⟩) hK (mA_mono hS.1) hP hS rfl hl.1 rfl (lv_room (Nat.le_of_ble_eq_true rfl)) dX9_foldSteps_42 ⟨Nat.le_of_ble_eq_true rfl, Nat.le_of_ble_eq_true rfl⟩ (fun H locs hP hS _ _ => ?_)
  refine W.eq (g2 := F0 m 45 ls [.long (vX9_foldSteps_24 S p1)]) rfl ?_
  refine lv_lstore_n (lv' := [(3, .long (vX9_foldSteps_24 S p1)), (7, .int 2), (6, .int 7), (5, .int 1), (0, .ref (a 0)), (1, .long p1)]) hx hb dX9_foldSteps_45 rfl hl (by decide) rfl (fun ls hl => ?_)
  refine lv_iinc (v := 3) (lv' := [(7, .int 3), (3, .long (vX9_foldSteps_24 S p1)), (6, .int 7), (5, .int 1), (0, .ref (a 0)), (1, .long p1)]) hx hb dX9_foldSteps_46 hl (k := 1) rfl (by decide) (by decide) rfl (fun ls hl => ?_)
  refine lv_goto (tgt := 24) hx hb dX9_foldSteps_49 (by decide) ?_
  refine lv_iload hx hb dX9_foldSteps_24 (lv_at hl 0 rfl) ?_
  refine lv_iconst (v := 3) hx hb dX9_foldSteps_26 (by decide) ?_
  refine lv_icmp_ge (tgt := 52) hx hb dX9_foldSteps_27 (by decide) (fun _ => ?_) (fun c => absurd c (by decide))
  refine lv_iinc (v := 8) (lv' := [(6, .int 8), (7, .int 3), (3, .long (vX9_foldSteps_24 S p1)), (5, .int 1), (0, .ref (a 0)), (1, .long p1)]) hx hb dX9_foldSteps_52 hl (k := 2) rfl (by decide) (by decide) rfl (fun ls hl => ?_)
  refine lv_goto (tgt := 14) hx hb dX9_foldSteps_55 (by decide) ?_
  refine lv_iload hx hb dX9_foldSteps_14 (lv_at hl 0 rfl) ?_
  refine lv_bipush (v := 8) hx hb dX9_foldSteps_16 (by decide) ?_
  refine lv_icmp_ge (tgt := 58) hx hb dX9_foldSteps_18 (by decide) (fun _ => ?_) (fun c => absurd c (by decide))
  refine lv_iinc (v := 2) (lv' := [(5, .int 2), (6, .int 8), (7, .int 3), (3, .long (vX9_foldSteps_24 S p1)), (0, .ref (a 0)), (1, .long p1)]) hx hb dX9_foldSteps_58 hl (k := 3) rfl (by decide) (by decide) rfl (fun ls hl => ?_)
  refine lv_goto (tgt := 5) hx hb dX9_foldSteps_61 (by decide) ?_
  refine lv_iload hx hb dX9_foldSteps_5 (lv_at hl 0 rfl) ?_
  refine lv_iconst (v := 3) hx hb dX9_foldSteps_7 (by decide) ?_
  refine lv_icmp_ge (tgt := 64) hx hb dX9_foldSteps_8 (by decide) (fun c => absurd c (by decide)) (fun _ => ?_)
  refine lv_iconst (v := 0) hx hb dX9_foldSteps_11 (by decide) ?_
  refine lv_istore (lv' := [(6, .int 0), (5, .int 2), (7, .int 3), (3, .long (vX9_foldSteps_24 S p1)), (0, .ref (a 0)), (1, .long p1)]) hx hb dX9_foldSteps_12 hl (by decide) rfl (fun ls hl => ?_)
  refine lv_iload hx hb dX9_foldSteps_14 (lv_at hl 0 rfl) ?_
  refine lv_bipush (v := 8) hx hb dX9_foldSteps_16 (by decide) ?_
  refine lv_icmp_ge (tgt := 58) hx hb dX9_foldSteps_18 (by decide) (fun c => absurd c (by decide)) (fun _ => ?_)
  refine lv_iconst (v := 0) hx hb dX9_foldSteps_21 (by decide) ?_
  refine lv_istore (lv' := [(7, .int 0), (6, .int 0), (5, .int 2), (3, .long (vX9_foldSteps_24 S p1)), (0, .ref (a 0)), (1, .long p1)]) hx hb dX9_foldSteps_22 hl (by decide) rfl (fun ls hl => ?_)
  refine lv_iload hx hb dX9_foldSteps_24 (lv_at hl 0 rfl) ?_
  refine lv_iconst (v := 3) hx hb dX9_foldSteps_26 (by decide) ?_
  refine lv_icmp_ge (tgt := 52) hx hb dX9_foldSteps_27 (by decide) (fun c => absurd c (by decide)) (fun _ => ?_)
  refine lv_lload_n hx hb dX9_foldSteps_30 rfl (lv_at hl 3 rfl) ?_
  refine lv_aload_n hx hb dX9_foldSteps_31 rfl (lv_at hl 4 rfl) ?_
  refine lv_iload hx hb dX9_foldSteps_32 (lv_at hl 2 rfl) ?_
  refine lv_iload hx hb dX9_foldSteps_34 (lv_at hl 1 rfl) ?_
  refine lv_iload hx hb dX9_foldSteps_36 (lv_at hl 0 rfl) ?_
  refine g_cVi (As := [.int 2, .int 0, .int 0]) (rest := [.long (vX9_foldSteps_24 S p1)]) ⟨hx, hb, hml, hown, hts⟩ (c_X9_ofStep l G cA a ha S L H.size (2 : Int32) (0 : Int32) (0 : Int32)  (by decide) (by decide) (by decide) (by decide) (by decide) (by decide)) (cwV 3 hts gX9_foldSteps_X9_ofStep rfl rfl rfl (by decide +kernel) ⟨Nat.le_of_ble_eq_true rfl, Nat.le_of_ble_eq_true rfl⟩) (g_recv hK hP (by decide) rfl (C := RX9) (T := TX9) (N := 4) rfl) hK (mA_mono hS.1) hP hS rfl hl.1 rfl (lv_room (Nat.le_of_ble_eq_true rfl)) dX9_foldSteps_38 ⟨Nat.le_of_ble_eq_true rfl, Nat.le_of_ble_eq_true rfl⟩ (fun H locs hP hS _ _ => ?_)
  refine lv_i2l hx hb dX9_foldSteps_41 rfl ?_
  refine g_cSl (As := [.long (vX9_foldSteps_24 S p1), .long ((rX9_ofStep S (2 : Int32) (0 : Int32) (0 : Int32)).toInt64)]) (rest := []) ⟨hx, hb, hml, hown, hts⟩ (c_X9_fold l G cA a ha S L H.size (vX9_foldSteps_24 S p1) ((rX9_ofStep S (2 : Int32) (0 : Int32) (0 : Int32)).toInt64)  ) (va_cwS 2 hts gX9_foldSteps_X9_fold rfl rfl rfl (by decide +kernel) ⟨Nat.le_of_ble_eq_true rfl, Nat.le_of_ble_eq_true rfl⟩) hK (mA_mono hS.1) hP hS rfl hl.1 rfl (lv_room (Nat.le_of_ble_eq_true rfl)) dX9_foldSteps_42 ⟨Nat.le_of_ble_eq_true rfl, Nat.le_of_ble_eq_true rfl⟩ (fun H locs hP hS _ _ => ?_)
  refine lv_lstore_n (lv' := [(3, .long (rX9_fold (vX9_foldSteps_24 S p1) ((rX9_ofStep S (2 : Int32) (0 : Int32) (0 : Int32)).toInt64))), (7, .int 0), (6, .int 0), (5, .int 2), (0, .ref (a 0)), (1, .long p1)]) hx hb dX9_foldSteps_45 rfl hl (by decide) rfl (fun ls hl => ?_)
  refine lv_iinc (v := 1) (lv' := [(7, .int 1), (3, .long (rX9_fold (vX9_foldSteps_24 S p1) ((rX9_ofStep S (2 : Int32) (0 : Int32) (0 : Int32)).toInt64))), (6, .int 0), (5, .int 2), (0, .ref (a 0)), (1, .long p1)]) hx hb dX9_foldSteps_46 hl (k := 1) rfl (by decide) (by decide) rfl (fun ls hl => ?_)
  refine lv_goto (tgt := 24) hx hb dX9_foldSteps_49 (by decide) ?_
  refine lv_iload hx hb dX9_foldSteps_24 (lv_at hl 0 rfl) ?_
  refine lv_iconst (v := 3) hx hb dX9_foldSteps_26 (by decide) ?_
  refine lv_icmp_ge (tgt := 52) hx hb dX9_foldSteps_27 (by decide) (fun c => absurd c (by decide)) (fun _ => ?_)
  refine lv_lload_n hx hb dX9_foldSteps_30 rfl (lv_at hl 1 rfl) ?_
  refine lv_aload_n hx hb dX9_foldSteps_31 rfl (lv_at hl 4 rfl) ?_
  refine lv_iload hx hb dX9_foldSteps_32 (lv_at hl 3 rfl) ?_
  refine lv_iload hx hb dX9_foldSteps_34 (lv_at hl 2 rfl) ?_
  refine lv_iload hx hb dX9_foldSteps_36 (lv_at hl 0 rfl) ?_
  refine g_cVi (As := [.int 2, .int 0, .int 1]) (rest := [.long (rX9_fold (vX9_foldSteps_24 S p1) ((rX9_ofStep S (2 : Int32) (0 : Int32) (0 : Int32)).toInt64))]) ⟨hx, hb, hml, hown, hts⟩ (c_X9_ofStep l G cA a ha S L H.size (2 : Int32) (0 : Int32) (1 : Int32)  (by decide) (by decide) (by decide) (by decide) (by decide) (by decide)) (cwV 3 hts gX9_foldSteps_X9_ofStep rfl rfl rfl (by decide +kernel) ⟨Nat.le_of_ble_eq_true rfl, Nat.le_of_ble_eq_true rfl⟩) (g_recv hK hP (by decide) rfl (C := RX9) (T := TX9) (N := 4) rfl) hK (mA_mono hS.1) hP hS rfl hl.1 rfl (lv_room (Nat.le_of_ble_eq_true rfl)) dX9_foldSteps_38 ⟨Nat.le_of_ble_eq_true rfl, Nat.le_of_ble_eq_true rfl⟩ (fun H locs hP hS _ _ => ?_)
  refine lv_i2l hx hb dX9_foldSteps_41 rfl ?_
  refine g_cSl (As := [.long (rX9_fold (vX9_foldSteps_24 S p1) ((rX9_ofStep S (2 : Int32) (0 : Int32) (0 : Int32)).toInt64)), .long ((rX9_ofStep S (2 : Int32) (0 : Int32) (1 : Int32)).toInt64)]) (rest := []) ⟨hx, hb, hml, hown, hts⟩ (c_X9_fold l G cA a ha S L H.size (rX9_fold (vX9_foldSteps_24 S p1) ((rX9_ofStep S (2 : Int32) (0 : Int32) (0 : Int32)).toInt64)) ((rX9_ofStep S (2 : Int32) (0 : Int32) (1 : Int32)).toInt64)  ) (va_cwS 2 hts gX9_foldSteps_X9_fold rfl rfl rfl (by decide +kernel) ⟨Nat.le_of_ble_eq_true rfl, Nat.le_of_ble_eq_true rfl⟩) hK (mA_mono hS.1) hP hS rfl hl.1 rfl (lv_room (Nat.le_of_ble_eq_true rfl)) dX9_foldSteps_42 ⟨Nat.le_of_ble_eq_true rfl, Nat.le_of_ble_eq_true rfl⟩ (fun H locs hP hS _ _ => ?_)
  refine W.eq (g2 := F0 m 45 ls [.long (vX9_foldSteps_25 S p1)]) rfl ?_
  refine lv_lstore_n (lv' := [(3, .long (vX9_foldSteps_25 S p1)), (7, .int 1), (6, .int 0), (5, .int 2), (0, .ref (a 0)), (1, .long p1)]) hx hb dX9_foldSteps_45 rfl hl (by decide) rfl (fun ls hl => ?_)
  refine lv_iinc (v := 2) (lv' := [(7, .int 2), (3, .long (vX9_foldSteps_25 S p1)), (6, .int 0), (5, .int 2), (0, .ref (a 0)), (1, .long p1)]) hx hb dX9_foldSteps_46 hl (k := 1) rfl (by decide) (by decide) rfl (fun ls hl => ?_)
  refine lv_goto (tgt := 24) hx hb dX9_foldSteps_49 (by decide) ?_
  refine lv_iload hx hb dX9_foldSteps_24 (lv_at hl 0 rfl) ?_
  refine lv_iconst (v := 3) hx hb dX9_foldSteps_26 (by decide) ?_
  refine lv_icmp_ge (tgt := 52) hx hb dX9_foldSteps_27 (by decide) (fun c => absurd c (by decide)) (fun _ => ?_)
  refine lv_lload_n hx hb dX9_foldSteps_30 rfl (lv_at hl 1 rfl) ?_
  refine lv_aload_n hx hb dX9_foldSteps_31 rfl (lv_at hl 4 rfl) ?_
  refine lv_iload hx hb dX9_foldSteps_32 (lv_at hl 3 rfl) ?_
  refine lv_iload hx hb dX9_foldSteps_34 (lv_at hl 2 rfl) ?_
  refine lv_iload hx hb dX9_foldSteps_36 (lv_at hl 0 rfl) ?_
  refine g_cVi (As := [.int 2, .int 0, .int 2]) (rest := [.long (vX9_foldSteps_25 S p1)]) ⟨hx, hb, hml, hown, hts⟩ (c_X9_ofStep l G cA a ha S L H.size (2 : Int32) (0 : Int32) (2 : Int32)  (by decide) (by decide) (by decide) (by decide) (by decide) (by decide)) (cwV 3 hts gX9_foldSteps_X9_ofStep rfl rfl rfl (by decide +kernel) ⟨Nat.le_of_ble_eq_true rfl, Nat.le_of_ble_eq_true rfl⟩) (g_recv hK hP (by decide) rfl (C := RX9) (T := TX9) (N := 4) rfl) hK (mA_mono hS.1) hP hS rfl hl.1 rfl (lv_room (Nat.le_of_ble_eq_true rfl)) dX9_foldSteps_38 ⟨Nat.le_of_ble_eq_true rfl, Nat.le_of_ble_eq_true rfl⟩ (fun H locs hP hS _ _ => ?_)
  refine lv_i2l hx hb dX9_foldSteps_41 rfl ?_
  refine g_cSl (As := [.long (vX9_foldSteps_25 S p1), .long ((rX9_ofStep S (2 : Int32) (0 : Int32) (2 : Int32)).toInt64)]) (rest := []) ⟨hx, hb, hml, hown, hts⟩ (c_X9_fold l G cA a ha S L H.size (vX9_foldSteps_25 S p1) ((rX9_ofStep S (2 : Int32) (0 : Int32) (2 : Int32)).toInt64)  ) (va_cwS 2 hts gX9_foldSteps_X9_fold rfl rfl rfl (by decide +kernel) ⟨Nat.le_of_ble_eq_true rfl, Nat.le_of_ble_eq_true rfl⟩) hK (mA_mono hS.1) hP hS rfl hl.1 rfl (lv_room (Nat.le_of_ble_eq_true rfl)) dX9_foldSteps_42 ⟨Nat.le_of_ble_eq_true rfl, Nat.le_of_ble_eq_true rfl⟩ (fun H locs hP hS _ _ => ?_)
  refine lv_lstore_n (lv' := [(3, .long (rX9_fold (vX9_foldSteps_25 S p1) ((rX9_ofStep S (2 : Int32) (0 : Int32) (2 : Int32)).toInt64))), (7, .int 2), (6, .int 0), (5, .int 2), (0, .ref (a 0)), (1, .long p1)]) hx hb dX9_foldSteps_45 rfl hl (by decide) rfl (fun ls hl => ?_)
  refine lv_iinc (v := 3) (lv' := [(7, .int 3), (3, .long (rX9_fold (vX9_foldSteps_25 S p1) ((rX9_ofStep S (2 : Int32) (0 : Int32) (2 : Int32)).toInt64))), (6, .int 0), (5, .int 2), (0, .ref (a 0)), (1, .long p1)]) hx hb dX9_foldSteps_46 hl (k := 1) rfl (by decide) (by decide) rfl (fun ls hl => ?_)
  refine lv_goto (tgt := 24) hx hb dX9_foldSteps_49 (by decide) ?_
  refine lv_iload hx hb dX9_foldSteps_24 (lv_at hl 0 rfl) ?_
  refine lv_iconst (v := 3) hx hb dX9_foldSteps_26 (by decide) ?_
  refine lv_icmp_ge (tgt := 52) hx hb dX9_foldSteps_27 (by decide) (fun _ => ?_) (fun c => absurd c (by decide))
  refine lv_iinc (v := 1) (lv' := [(6, .int 1), (7, .int 3), (3, .long (rX9_fold (vX9_foldSteps_25 S p1) ((rX9_ofStep S (2 : Int32) (0 : Int32) (2 : Int32)).toInt64))), (5, .int 2), (0, .ref (a 0)), (1, .long p1)]) hx hb dX9_foldSteps_52 hl (k := 2) rfl (by decide) (by decide) rfl (fun ls hl => ?_)
  refine lv_goto (tgt := 14) hx hb dX9_foldSteps_55 (by decide) ?_
  refine lv_iload hx hb dX9_foldSteps_14 (lv_at hl 0 rfl) ?_
  refine lv_bipush (v := 8) hx hb dX9_foldSteps_16 (by decide) ?_
  refine lv_icmp_ge (tgt := 58) hx hb dX9_foldSteps_18 (by decide) (fun c => absurd c (by decide)) (fun _ => ?_)
  refine lv_iconst (v := 0) hx hb dX9_foldSteps_21 (by decide) ?_
  refine lv_istore (lv' := [(7, .int 0), (6, .int 1), (3, .long (rX9_fold (vX9_foldSteps_25 S p1) ((rX9_ofStep S (2 : Int32) (0 : Int32) (2 : Int32)).toInt64))), (5, .int 2), (0, .ref (a 0)), (1, .long p1)]) hx hb dX9_foldSteps_22 hl (by decide) rfl (fun ls hl => ?_)
  refine lv_iload hx hb dX9_foldSteps_24 (lv_at hl 0 rfl) ?_
  refine lv_iconst (v := 3) hx hb dX9_foldSteps_26 (by decide) ?_
  refine lv_icmp_ge (tgt := 52) hx hb dX9_foldSteps_27 (by decide) (fun c => absurd c (by decide)) (fun _ => ?_)
  refine lv_lload_n hx hb dX9_foldSteps_30 rfl (lv_at hl 2 rfl) ?_
  refine lv_aload_n hx hb dX9_foldSteps_31 rfl (lv_at hl 4 rfl) ?_
  refine lv_iload hx hb dX9_foldSteps_32 (lv_at hl 3 rfl) ?_
  refine lv_iload hx hb dX9_foldSteps_34 (lv_at hl 1 rfl) ?_
  refine lv_iload hx hb dX9_foldSteps_36 (lv_at hl 0 rfl) ?_
  refine g_cVi (As := [.int 2, .int 1, .int 0]) (rest := [.long (rX9_fold (vX9_foldSteps_25 S p1) ((rX9_ofStep S (2 : Int32) (0 : Int32) (2 : Int32)).toInt64))]) ⟨hx, hb, hml, hown, hts⟩ (c_X9_ofStep l G cA a ha S L H.size (2 : Int32) (1 : Int32) (0 : Int32)  (by decide) (by decide) (by decide) (by decide) (by decide) (by decide)) (cwV 3 hts gX9_foldSteps_X9_ofStep rfl rfl rfl (by decide +kernel) ⟨Nat.le_of_ble_eq_true rfl, Nat.le_of_ble_eq_true rfl⟩) (g_recv hK hP (by decide) rfl (C := RX9) (T := TX9) (N := 4) rfl) hK (mA_mono hS.1) hP hS rfl hl.1 rfl (lv_room (Nat.le_of_ble_eq_true rfl)) dX9_foldSteps_38 ⟨Nat.le_of_ble_eq_true rfl, Nat.le_of_ble_eq_true rfl⟩ (fun H locs hP hS _ _ => ?_)
  refine lv_i2l hx hb dX9_foldSteps_41 rfl ?_
  refine g_cSl (As := [.long (rX9_fold (vX9_foldSteps_25 S p1) ((rX9_ofStep S (2 : Int32) (0 : Int32) (2 : Int32)).toInt64)), .long ((rX9_ofStep S (2 : Int32) (1 : Int32) (0 : Int32)).toInt64)]) (rest := []) ⟨hx, hb, hml, hown, hts⟩ (c_X9_fold l G cA a ha S L H.size (rX9_fold (vX9_foldSteps_25 S p1) ((rX9_ofStep S (2 : Int32) (0 : Int32) (2 : Int32)).toInt64)) ((rX9_ofStep S (2 : Int32) (1 : Int32) (0 : Int32)).toInt64)  ) (va_cwS 2 hts gX9_foldSteps_X9_fold rfl rfl rfl (by decide +kernel) ⟨Nat.le_of_ble_eq_true rfl, Nat.le_of_ble_eq_true rfl⟩) hK (mA_mono hS.1) hP hS rfl hl.1 rfl (lv_room (Nat.le_of_ble_eq_true rfl)) dX9_foldSteps_42 ⟨Nat.le_of_ble_eq_true rfl, Nat.le_of_ble_eq_true rfl⟩ (fun H locs hP hS _ _ => ?_)
  refine W.eq (g2 := F0 m 45 ls [.long (vX9_foldSteps_26 S p1)]) rfl ?_
  refine lv_lstore_n (lv' := [(3, .long (vX9_foldSteps_26 S p1)), (7, .int 0), (6, .int 1), (5, .int 2), (0, .ref (a 0)), (1, .long p1)]) hx hb dX9_foldSteps_45 rfl hl (by decide) rfl (fun ls hl => ?_)
  refine lv_iinc (v := 1) (lv' := [(7, .int 1), (3, .long (vX9_foldSteps_26 S p1)), (6, .int 1), (5, .int 2), (0, .ref (a 0)), (1, .long p1)]) hx hb dX9_foldSteps_46 hl (k := 1) rfl (by decide) (by decide) rfl (fun ls hl => ?_)
  refine lv_goto (tgt := 24) hx hb dX9_foldSteps_49 (by decide) ?_
  refine lv_iload hx hb dX9_foldSteps_24 (lv_at hl 0 rfl) ?_
  refine lv_iconst (v := 3) hx hb dX9_foldSteps_26 (by decide) ?_
  refine lv_icmp_ge (tgt := 52) hx hb dX9_foldSteps_27 (by decide) (fun c => absurd c (by decide)) (fun _ => ?_)
  refine lv_lload_n hx hb dX9_foldSteps_30 rfl (lv_at hl 1 rfl) ?_
  refine lv_aload_n hx hb dX9_foldSteps_31 rfl (lv_at hl 4 rfl) ?_
  refine lv_iload hx hb dX9_foldSteps_32 (lv_at hl 3 rfl) ?_
  refine lv_iload hx hb dX9_foldSteps_34 (lv_at hl 2 rfl) ?_
  refine lv_iload hx hb dX9_foldSteps_36 (lv_at hl 0 rfl) ?_
  refine g_cVi (As := [.int 2, .int 1, .int 1]) (rest := [.long (vX9_foldSteps_26 S p1)]) ⟨hx, hb, hml, hown, hts⟩ (c_X9_ofStep l G cA a ha S L H.size (2 : Int32) (1 : Int32) (1 : Int32)  (by decide) (by decide) (by decide) (by decide) (by decide) (by decide)) (cwV 3 hts gX9_foldSteps_X9_ofStep rfl rfl rfl (by decide +kernel) ⟨Nat.le_of_ble_eq_true rfl, Nat.le_of_ble_eq_true rfl⟩) (g_recv hK hP (by decide) rfl (C := RX9) (T := TX9) (N := 4) rfl) hK (mA_mono hS.1) hP hS rfl hl.1 rfl (lv_room (Nat.le_of_ble_eq_true rfl)) dX9_foldSteps_38 ⟨Nat.le_of_ble_eq_true rfl, Nat.le_of_ble_eq_true rfl⟩ (fun H locs hP hS _ _ => ?_)
  refine lv_i2l hx hb dX9_foldSteps_41 rfl ?_
  refine g_cSl (As := [.long (vX9_foldSteps_26 S p1), .long ((rX9_ofStep S (2 : Int32) (1 : Int32) (1 : Int32)).toInt64)]) (rest := []) ⟨hx, hb, hml, hown, hts⟩ (c_X9_fold l G cA a ha S L H.size (vX9_foldSteps_26 S p1) ((rX9_ofStep S (2 : Int32) (1 : Int32) (1 : Int32)).toInt64)  ) (va_cwS 2 hts gX9_foldSteps_X9_fold rfl rfl rfl (by decide +kernel) ⟨Nat.le_of_ble_eq_true rfl, Nat.le_of_ble_eq_true rfl⟩) hK (mA_mono hS.1) hP hS rfl hl.1 rfl (lv_room (Nat.le_of_ble_eq_true rfl)) dX9_foldSteps_42 ⟨Nat.le_of_ble_eq_true rfl, Nat.le_of_ble_eq_true rfl⟩ (fun H locs hP hS _ _ => ?_)
  refine lv_lstore_n (lv' := [(3, .long (rX9_fold (vX9_foldSteps_26 S p1) ((rX9_ofStep S (2 : Int32) (1 : Int32) (1 : Int32)).toInt64))), (7, .int 1), (6, .int 1), (5, .int 2), (0, .ref (a 0)), (1, .long p1)]) hx hb dX9_foldSteps_45 rfl hl (by decide) rfl (fun ls hl => ?_)
  refine lv_iinc (v := 2) (lv' := [(7, .int 2), (3, .long (rX9_fold (vX9_foldSteps_26 S p1) ((rX9_ofStep S (2 : Int32) (1 : Int32) (1 : Int32)).toInt64))), (6, .int 1), (5, .int 2), (0, .ref (a 0)), (1, .long p1)]) hx hb dX9_foldSteps_46 hl (k := 1) rfl (by decide) (by decide) rfl (fun ls hl => ?_)
  refine lv_goto (tgt := 24) hx hb dX9_foldSteps_49 (by decide) ?_
  refine lv_iload hx hb dX9_foldSteps_24 (lv_at hl 0 rfl) ?_
  refine lv_iconst (v := 3) hx hb dX9_foldSteps_26 (by decide) ?_
  refine lv_icmp_ge (tgt := 52) hx hb dX9_foldSteps_27 (by decide) (fun c => absurd c (by decide)) (fun _ => ?_)
  refine lv_lload_n hx hb dX9_foldSteps_30 rfl (lv_at hl 1 rfl) ?_
  refine lv_aload_n hx hb dX9_foldSteps_31 rfl (lv_at hl 4 rfl) ?_
  refine lv_iload hx hb dX9_foldSteps_32 (lv_at hl 3 rfl) ?_
  refine lv_iload hx hb dX9_foldSteps_34 (lv_at hl 2 rfl) ?_
  refine lv_iload hx hb dX9_foldSteps_36 (lv_at hl 0 rfl) ?_
  refine g_cVi (As := [.int 2, .int 1, .int 2]) (rest := [.long (rX9_fold (vX9_foldSteps_26 S p1) ((rX9_ofStep S (2 : Int32) (1 : Int32) (1 : Int32)).toInt64))]) ⟨hx, hb, hml, hown, hts⟩ (c_X9_ofStep l G cA a ha S L H.size (2 : Int32) (1 : Int32) (2 : Int32)  (by decide) (by decide) (by decide) (by decide) (by decide) (by decide)) (cwV 3 hts gX9_foldSteps_X9_ofStep rfl rfl rfl (by decide +kernel) ⟨Nat.le_of_ble_eq_true rfl, Nat.le_of_ble_eq_true rfl⟩) (g_recv hK hP (by decide) rfl (C := RX9) (T := TX9) (N := 4) rfl) hK (mA_mono hS.1) hP hS rfl hl.1 rfl (lv_room (Nat.le_of_ble_eq_true rfl)) dX9_foldSteps_38 ⟨Nat.le_of_ble_eq_true rfl, Nat.le_of_ble_eq_true rfl⟩ (fun H locs hP hS _ _ => ?_)
  refine lv_i2l hx hb dX9_foldSteps_41 rfl ?_
  refine g_cSl (As := [.long (rX9_fold (vX9_foldSteps_26 S p1) ((rX9_ofStep S (2 : Int32) (1 : Int32) (1 : Int32)).toInt64)), .long ((rX9_ofStep S (2 : Int32) (1 : Int32) (2 : Int32)).toInt64)]) (rest := []) ⟨hx, hb, hml, hown, hts⟩ (c_X9_fold l G cA a ha S L H.size (rX9_fold (vX9_foldSteps_26 S p1) ((rX9_ofStep S (2 : Int32) (1 : Int32) (1 : Int32)).toInt64)) ((rX9_ofStep S (2 : Int32) (1 : Int32) (2 : Int32)).toInt64)  ) (va_cwS 2 hts gX9_foldSteps_X9_fold rfl rfl rfl (by decide +kernel) ⟨Nat.le_of_ble_eq_true rfl, Nat.le_of_ble_eq_true rfl⟩) hK (mA_mono hS.1) hP hS rfl hl.1 rfl (lv_room (Nat.le_of_ble_eq_true rfl)) dX9_foldSteps_42 ⟨Nat.le_of_ble_eq_true rfl, Nat.le_of_ble_eq_true rfl⟩ (fun H locs hP hS _ _ => ?_)
  refine W.eq (g2 := F0 m 45 ls [.long (vX9_foldSteps_27 S p1)]) rfl ?_
  refine lv_lstore_n (lv' := [(3, .long (vX9_foldSteps_27 S p1)), (7, .int 2), (6, .int 1), (5, .int 2), (0, .ref (a 0)), (1, .long p1)]) hx hb dX9_foldSteps_45 rfl hl (by decide) rfl (fun ls hl => ?_)
  refine lv_iinc (v := 3) (lv' := [(7, .int 3), (3, .long (vX9_foldSteps_27 S p1)), (6, .int 1), (5, .int 2), (0, .ref (a 0)), (1, .long p1)]) hx hb dX9_foldSteps_46 hl (k := 1) rfl (by decide) (by decide) rfl (fun ls hl => ?_)
  refine lv_goto (tgt := 24) hx hb dX9_foldSteps_49 (by decide) ?_
  refine lv_iload hx hb dX9_foldSteps_24 (lv_at hl 0 rfl) ?_
  refine lv_iconst (v := 3) hx hb dX9_foldSteps_26 (by decide) ?_
  refine lv_icmp_ge (tgt := 52) hx hb dX9_foldSteps_27 (by decide) (fun _ => ?_) (fun c => absurd c (by decide))
  refine lv_iinc (v := 2) (lv' := [(6, .int 2), (7, .int 3), (3, .long (vX9_foldSteps_27 S p1)), (5, .int 2), (0, .ref (a 0)), (1, .long p1)]) hx hb dX9_foldSteps_52 hl (k := 2) rfl (by decide) (by decide) rfl (fun ls hl => ?_)
  refine lv_goto (tgt := 14) hx hb dX9_foldSteps_55 (by decide) ?_
  refine lv_iload hx hb dX9_foldSteps_14 (lv_at hl 0 rfl) ?_
  refine lv_bipush (v := 8) hx hb dX9_foldSteps_16 (by decide) ?_
  refine lv_icmp_ge (tgt := 58) hx hb dX9_foldSteps_18 (by decide) (fun c => absurd c (by decide)) (fun _ => ?_)
  refine lv_iconst (v := 0) hx hb dX9_foldSteps_21 (by decide) ?_
  refine lv_istore (lv' := [(7, .int 0), (6, .int 2), (3, .long (vX9_foldSteps_27 S p1)), (5, .int 2), (0, .ref (a 0)), (1, .long p1)]) hx hb dX9_foldSteps_22 hl (by decide) rfl (fun ls hl => ?_)
  refine lv_iload hx hb dX9_foldSteps_24 (lv_at hl 0 rfl) ?_
  refine lv_iconst (v := 3) hx hb dX9_foldSteps_26 (by decide) ?_
  refine lv_icmp_ge (tgt := 52) hx hb dX9_foldSteps_27 (by decide) (fun c => absurd c (by decide)) (fun _ => ?_)
  refine lv_lload_n hx hb dX9_foldSteps_30 rfl (lv_at hl 2 rfl) ?_
  refine lv_aload_n hx hb dX9_foldSteps_31 rfl (lv_at hl 4 rfl) ?_
  refine lv_iload hx hb dX9_foldSteps_32 (lv_at hl 3 rfl) ?_
  refine lv_iload hx hb dX9_foldSteps_34 (lv_at hl 1 rfl) ?_
  refine lv_iload hx hb dX9_foldSteps_36 (lv_at hl 0 rfl) ?_
  refine g_cVi (As := [.int 2, .int 2, .int 0]) (rest := [.long (vX9_foldSteps_27 S p1)]) ⟨hx, hb, hml, hown, hts⟩ (c_X9_ofStep l G cA a ha S L H.size (2 : Int32) (2 : Int32) (0 : Int32)  (by decide) (by decide) (by decide) (by decide) (by decide) (by decide)) (cwV 3 hts gX9_foldSteps_X9_ofStep rfl rfl rfl (by decide +kernel) ⟨Nat.le_of_ble_eq_true rfl, Nat.le_of_ble_eq_true rfl⟩) (g_recv hK hP (by decide) rfl (C := RX9) (T := TX9) (N := 4) rfl) hK (mA_mono hS.1) hP hS rfl hl.1 rfl (lv_room (Nat.le_of_ble_eq_true rfl)) dX9_foldSteps_38 ⟨Nat.le_of_ble_eq_true rfl, Nat.le_of_ble_eq_true rfl⟩ (fun H locs hP hS _ _ => ?_)
  refine lv_i2l hx hb dX9_foldSteps_41 rfl ?_
  refine g_cSl (As := [.long (vX9_foldSteps_27 S p1), .long ((rX9_ofStep S (2 : Int32) (2 : Int32) (0 : Int32)).toInt64)]) (rest := []) ⟨hx, hb, hml, hown, hts⟩ (c_X9_fold l G cA a ha S L H.size (vX9_foldSteps_27 S p1) ((rX9_ofStep S (2 : Int32) (2 : Int32) (0 : Int32)).toInt64)  ) (va_cwS 2 hts gX9_foldSteps_X9_fold rfl rfl rfl (by decide +kernel) ⟨Nat.le_of_ble_eq_true rfl, Nat.le_of_ble_eq_true rfl⟩) hK (mA_mono hS.1) hP hS rfl hl.1 rfl (lv_room (Nat.le_of_ble_eq_true rfl)) dX9_foldSteps_42 ⟨Nat.le_of_ble_eq_true rfl, Nat.le_of_ble_eq_true rfl⟩ (fun H locs hP hS _ _ => ?_)
  refine lv_lstore_n (lv' := [(3, .long (rX9_fold (vX9_foldSteps_27 S p1) ((rX9_ofStep S (2 : Int32) (2 : Int32) (0 : Int32)).toInt64))), (7, .int 0), (6, .int 2), (5, .int 2), (0, .ref (a 0)), (1, .long p1)]) hx hb dX9_foldSteps_45 rfl hl (by decide) rfl (fun ls hl => ?_)
  refine lv_iinc (v := 1) (lv' := [(7, .int 1), (3, .long (rX9_fold (vX9_foldSteps_27 S p1) ((rX9_ofStep S (2 : Int32) (2 : Int32) (0 : Int32)).toInt64))), (6, .int 2), (5, .int 2), (0, .ref (a 0)), (1, .long p1)]) hx hb dX9_foldSteps_46 hl (k := 1) rfl (by decide) (by decide) rfl (fun ls hl => ?_)
  refine lv_goto (tgt := 24) hx hb dX9_foldSteps_49 (by decide) ?_
  refine lv_iload hx hb dX9_foldSteps_24 (lv_at hl 0 rfl) ?_
  refine lv_iconst (v := 3) hx hb dX9_foldSteps_26 (by decide) ?_
  refine lv_icmp_ge (tgt := 52) hx hb dX9_foldSteps_27 (by decide) (fun c => absurd c (by decide)) (fun _ => ?_)
  refine lv_lload_n hx hb dX9_foldSteps_30 rfl (lv_at hl 1 rfl) ?_
  refine lv_aload_n hx hb dX9_foldSteps_31 rfl (lv_at hl 4 rfl) ?_
  refine lv_iload hx hb dX9_foldSteps_32 (lv_at hl 3 rfl) ?_
  refine lv_iload hx hb dX9_foldSteps_34 (lv_at hl 2 rfl) ?_
  refine lv_iload hx hb dX9_foldSteps_36 (lv_at hl 0 rfl) ?_
  refine g_cVi (As := [.int 2, .int 2, .int 1]) (rest := [.long (rX9_fold (vX9_foldSteps_27 S p1) ((rX9_ofStep S (2 : Int32) (2 : Int32) (0 : Int32)).toInt64))]) ⟨hx, hb, hml, hown, hts⟩ (c_X9_ofStep l G cA a ha S L H.size (2 : Int32) (2 : Int32) (1 : Int32)  (by decide) (by decide) (by decide) (by decide) (by decide) (by decide)) (cwV 3 hts gX9_foldSteps_X9_ofStep rfl rfl rfl (by decide +kernel) ⟨Nat.le_of_ble_eq_true rfl, Nat.le_of_ble_eq_true rfl⟩) (g_recv hK hP (by decide) rfl (C := RX9) (T := TX9) (N := 4) rfl) hK (mA_mono hS.1) hP hS rfl hl.1 rfl (lv_room (Nat.le_of_ble_eq_true rfl)) dX9_foldSteps_38 ⟨Nat.le_of_ble_eq_true rfl, Nat.le_of_ble_eq_true rfl⟩ (fun H locs hP hS _ _ => ?_)
  refine lv_i2l hx hb dX9_foldSteps_41 rfl ?_
  refine g_cSl (As := [.long (rX9_fold (vX9_foldSteps_27 S p1) ((rX9_ofStep S (2 : Int32) (2 : Int32) (0 : Int32)).toInt64)), .long ((rX9_ofStep S (2 : Int32) (2 : Int32) (1 : Int32)).toInt64)]) (rest := []) ⟨hx, hb, hml, hown, hts⟩ (c_X9_fold l G cA a ha S L H.size (rX9_fold (vX9_foldSteps_27 S p1) ((rX9_ofStep S (2 : Int32) (2 : Int32) (0 : Int32)).toInt64)) ((rX9_ofStep S (2 : Int32) (2 : Int32) (1 : Int32)).toInt64)  ) (va_cwS 2 hts gX9_foldSteps_X9_fold rfl rfl rfl (by decide +kernel) ⟨Nat.le_of_ble_eq_true rfl, Nat.le_of_ble_eq_true rfl⟩) hK (mA_mono hS.1) hP hS rfl hl.1 rfl (lv_room (Nat.le_of_ble_eq_true rfl)) dX9_foldSteps_42 ⟨Nat.le_of_ble_eq_true rfl, Nat.le_of_ble_eq_true rfl⟩ (fun H locs hP hS _ _ => ?_)
  refine W.eq (g2 := F0 m 45 ls [.long (vX9_foldSteps_28 S p1)]) rfl ?_
  refine lv_lstore_n (lv' := [(3, .long (vX9_foldSteps_28 S p1)), (7, .int 1), (6, .int 2), (5, .int 2), (0, .ref (a 0)), (1, .long p1)]) hx hb dX9_foldSteps_45 rfl hl (by decide) rfl (fun ls hl => ?_)
  refine lv_iinc (v := 2) (lv' := [(7, .int 2), (3, .long (vX9_foldSteps_28 S p1)), (6, .int 2), (5, .int 2), (0, .ref (a 0)), (1, .long p1)]) hx hb dX9_foldSteps_46 hl (k := 1) rfl (by decide) (by decide) rfl (fun ls hl => ?_)
  refine lv_goto (tgt := 24) hx hb dX9_foldSteps_49 (by decide) ?_
  refine lv_iload hx hb dX9_foldSteps_24 (lv_at hl 0 rfl) ?_
  refine lv_iconst (v := 3) hx hb dX9_foldSteps_26 (by decide) ?_
  refine lv_icmp_ge (tgt := 52) hx hb dX9_foldSteps_27 (by decide) (fun c => absurd c (by decide)) (fun _ => ?_)
  refine lv_lload_n hx hb dX9_foldSteps_30 rfl (lv_at hl 1 rfl) ?_
  refine lv_aload_n hx hb dX9_foldSteps_31 rfl (lv_at hl 4 rfl) ?_
  refine lv_iload hx hb dX9_foldSteps_32 (lv_at hl 3 rfl) ?_
  refine lv_iload hx hb dX9_foldSteps_34 (lv_at hl 2 rfl) ?_
  refine lv_iload hx hb dX9_foldSteps_36 (lv_at hl 0 rfl) ?_
  refine g_cVi (As := [.int 2, .int 2, .int 2]) (rest := [.long (vX9_foldSteps_28 S p1)]) ⟨hx, hb, hml, hown, hts⟩ (c_X9_ofStep l G cA a ha S L H.size (2 : Int32) (2 : Int32) (2 : Int32)  (by decide) (by decide) (by decide) (by decide) (by decide) (by decide)) (cwV 3 hts gX9_foldSteps_X9_ofStep rfl rfl rfl (by decide +kernel) ⟨Nat.le_of_ble_eq_true rfl, Nat.le_of_ble_eq_true rfl⟩) (g_recv hK hP (by decide) rfl (C := RX9) (T := TX9) (N := 4) rfl) hK (mA_mono hS.1) hP hS rfl hl.1 rfl (lv_room (Nat.le_of_ble_eq_true rfl)) dX9_foldSteps_38 ⟨Nat.le_of_ble_eq_true rfl, Nat.le_of_ble_eq_true rfl⟩ (fun H locs hP hS _ _ => ?_)
  refine lv_i2l hx hb dX9_foldSteps_41 rfl ?_
  refine g_cSl (As := [.long (vX9_foldSteps_28 S p1), .long ((rX9_ofStep S (2 : Int32) (2 : Int32) (2 : Int32)).toInt64)]) (rest := []) ⟨hx, hb, hml, hown, hts⟩ (c_X9_fold l G cA a ha S L H.size (vX9_foldSteps_28 S p1) ((rX9_ofStep S (2 : Int32) (2 : Int32) (2 : Int32)).toInt64)  ) (va_cwS 2 hts gX9_foldSteps_X9_fold rfl rfl rfl (by decide +kernel) ⟨Nat.le_of_ble_eq_true rfl, Nat.le_of_ble_eq_true rfl⟩) hK (mA_mono hS.1) hP hS rfl hl.1 rfl (lv_room (Nat.le_of_ble_eq_true rfl)) dX9_foldSteps_42 ⟨Nat.le_of_ble_eq_true rfl, Nat.le_of_ble_eq_true rfl⟩ (fun H locs hP hS _ _ => ?_)
  refine lv_lstore_n (lv' := [(3, .long (rX9_fold (vX9_foldSteps_28 S p1) ((rX9_ofStep S (2 : Int32) (2 : Int32) (2 : Int32)).toInt64))), (7, .int 2), (6, .int 2), (5, .int 2), (0, .ref (a 0)), (1, .long p1)]) hx hb dX9_foldSteps_45 rfl hl (by decide) rfl (fun ls hl => ?_)
  refine lv_iinc (v := 3) (lv' := [(7, .int 3), (3, .long (rX9_fold (vX9_foldSteps_28 S p1) ((rX9_ofStep S (2 : Int32) (2 : Int32) (2 : Int32)).toInt64))), (6, .int 2), (5, .int 2), (0, .ref (a 0)), (1, .long p1)]) hx hb dX9_foldSteps_46 hl (k := 1) rfl (by decide) (by decide) rfl (fun ls hl => ?_)
  refine lv_goto (tgt := 24) hx hb dX9_foldSteps_49 (by decide) ?_
  refine lv_iload hx hb dX9_foldSteps_24 (lv_at hl 0 rfl) ?_
  refine lv_iconst (v := 3) hx hb dX9_foldSteps_26 (by decide) ?_
  refine lv_icmp_ge (tgt := 52) hx hb dX9_foldSteps_27 (by decide) (fun _ => ?_) (fun c => absurd c (by decide))
  refine lv_iinc (v := 3) (lv' := [(6, .int 3), (7, .int 3), (3, .long (rX9_fold (vX9_foldSteps_28 S p1) ((rX9_ofStep S (2 : Int32) (2 : Int32) (2 : Int32)).toInt64))), (5, .int 2), (0, .ref (a 0)), (1, .long p1)]) hx hb dX9_foldSteps_52 hl (k := 2) rfl (by decide) (by decide) rfl (fun ls hl => ?_)
  refine lv_goto (tgt := 14) hx hb dX9_foldSteps_55 (by decide) ?_
  refine lv_iload hx hb dX9_foldSteps_14 (lv_at hl 0 rfl) ?_
  refine lv_bipush (v := 8) hx hb dX9_foldSteps_16 (by decide) ?_
  refine lv_icmp_ge (tgt := 58) hx hb dX9_foldSteps_18 (by decide) (fun c => absurd c (by decide)) (fun _ => ?_)
  refine lv_iconst (v := 0) hx hb dX9_foldSteps_21 (by decide) ?_
  refine lv_istore (lv' := [(7, .int 0), (6, .int 3), (3, .long (rX9_fold (vX9_foldSteps_28 S p1) ((rX9_ofStep S (2 : Int32) (2 : Int32) (2 : Int32)).toInt64))), (5, .int 2), (0, .ref (a 0)), (1, .long p1)]) hx hb dX9_foldSteps_22 hl (by decide) rfl (fun ls hl => ?_)
  refine lv_iload hx hb dX9_foldSteps_24 (lv_at hl 0 rfl) ?_
  refine lv_iconst (v := 3) hx hb dX9_foldSteps_26 (by decide) ?_
  refine lv_icmp_ge (tgt := 52) hx hb dX9_foldSteps_27 (by decide) (fun c => absurd c (by decide)) (fun _ => ?_)
  refine lv_lload_n hx hb dX9_foldSteps_30 rfl (lv_at hl 2 rfl) ?_
  refine lv_aload_n hx hb dX9_foldSteps_31 rfl (lv_at hl 4 rfl) ?_
  refine lv_iload hx hb dX9_foldSteps_32 (lv_at hl 3 rfl) ?_
  refine lv_iload hx hb dX9_foldSteps_34 (lv_at hl 1 rfl) ?_
  refine lv_iload hx hb dX9_foldSteps_36 (lv_at hl 0 rfl) ?_
  refine g_cVi (As := [.int 2, .int 3, .int 0]) (rest := [.long (rX9_fold (vX9_foldSteps_28 S p1) ((rX9_ofStep S (2 : Int32) (2 : Int32) (2 : Int32)).toInt64))]) ⟨hx, hb, hml, hown, hts⟩ (c_X9_ofStep l G cA a ha S L H.size (2 : Int32) (3 : Int32) (0 : Int32)  (by decide) (by decide) (by decide) (by decide) (by decide) (by decide)) (cwV 3 hts gX9_foldSteps_X9_ofStep rfl rfl rfl (by decide +kernel) ⟨Nat.le_of_ble_eq_true rfl, Nat.le_of_ble_eq_true rfl⟩) (g_recv hK hP (by decide) rfl (C := RX9) (T := TX9) (N := 4) rfl) hK (mA_mono hS.1) hP hS rfl hl.1 rfl (lv_room (Nat.le_of_ble_eq_true rfl)) dX9_foldSteps_38 ⟨Nat.le_of_ble_eq_true rfl, Nat.le_of_ble_eq_true rfl⟩ (fun H locs hP hS _ _ => ?_)
  refine lv_i2l hx hb dX9_foldSteps_41 rfl ?_
  refine g_cSl (As := [.long (rX9_fold (vX9_foldSteps_28 S p1) ((rX9_ofStep S (2 : Int32) (2 : Int32) (2 : Int32)).toInt64)), .long ((rX9_ofStep S (2 : Int32) (3 : Int32) (0 : Int32)).toInt64)]) (rest := []) ⟨hx, hb, hml, hown, hts⟩ (c_X9_fold l G cA a ha S L H.size (rX9_fold (vX9_foldSteps_28 S p1) ((rX9_ofStep S (2 : Int32) (2 : Int32) (2 : Int32)).toInt64)) ((rX9_ofStep S (2 : Int32) (3 : Int32) (0 : Int32)).toInt64)  ) (va_cwS 2 hts gX9_foldSteps_X9_fold rfl rfl rfl (by decide +kernel) ⟨Nat.le_of_ble_eq_true rfl, Nat.le_of_ble_eq_true rfl⟩) hK (mA_mono hS.1) hP hS rfl hl.1 rfl (lv_room (Nat.le_of_ble_eq_true rfl)) dX9_foldSteps_42 ⟨Nat.le_of_ble_eq_true rfl, Nat.le_of_ble_eq_true rfl⟩ (fun H locs hP hS _ _ => ?_)
  refine W.eq (g2 := F0 m 45 ls [.long (vX9_foldSteps_29 S p1)]) rfl ?_
  refine lv_lstore_n (lv' := [(3, .long (vX9_foldSteps_29 S p1)), (7, .int 0), (6, .int 3), (5, .int 2), (0, .ref (a 0)), (1, .long p1)]) hx hb dX9_foldSteps_45 rfl hl (by decide) rfl (fun ls hl => ?_)
  refine lv_iinc (v := 1) (lv' := [(7, .int 1), (3, .long (vX9_foldSteps_29 S p1)), (6, .int 3), (5, .int 2), (0, .ref (a 0)), (1, .long p1)]) hx hb dX9_foldSteps_46 hl (k := 1) rfl (by decide) (by decide) rfl (fun ls hl => ?_)
  refine lv_goto (tgt := 24) hx hb dX9_foldSteps_49 (by decide) ?_
  refine lv_iload hx hb dX9_foldSteps_24 (lv_at hl 0 rfl) ?_
  refine lv_iconst (v := 3) hx hb dX9_foldSteps_26 (by decide) ?_
  refine lv_icmp_ge (tgt := 52) hx hb dX9_foldSteps_27 (by decide) (fun c => absurd c (by decide)) (fun _ => ?_)
  refine lv_lload_n hx hb dX9_foldSteps_30 rfl (lv_at hl 1 rfl) ?_
  refine lv_aload_n hx hb dX9_foldSteps_31 rfl (lv_at hl 4 rfl) ?_
  refine lv_iload hx hb dX9_foldSteps_32 (lv_at hl 3 rfl) ?_
  refine lv_iload hx hb dX9_foldSteps_34 (lv_at hl 2 rfl) ?_
  refine lv_iload hx hb dX9_foldSteps_36 (lv_at hl 0 rfl) ?_
  refine g_cVi (As := [.int 2, .int 3, .int 1]) (rest := [.long (vX9_foldSteps_29 S p1)]) ⟨hx, hb, hml, hown, hts⟩ (c_X9_ofStep l G cA a ha S L H.size (2 : Int32) (3 : Int32) (1 : Int32)  (by decide) (by decide) (by decide) (by decide) (by decide) (by decide)) (cwV 3 hts gX9_foldSteps_X9_ofStep rfl rfl rfl (by decide +kernel) ⟨Nat.le_of_ble_eq_true rfl, Nat.le_of_ble_eq_true rfl⟩) (g_recv hK hP (by decide) rfl (C := RX9) (T := TX9) (N := 4) rfl) hK (mA_mono hS.1) hP hS rfl hl.1 rfl (lv_room (Nat.le_of_ble_eq_true rfl)) dX9_foldSteps_38 ⟨Nat.le_of_ble_eq_true rfl, Nat.le_of_ble_eq_true rfl⟩ (fun H locs hP hS _ _ => ?_)
  refine lv_i2l hx hb dX9_foldSteps_41 rfl ?_
  refine g_cSl (As := [.long (vX9_foldSteps_29 S p1), .long ((rX9_ofStep S (2 : Int32) (3 : Int32) (1 : Int32)).toInt64)]) (rest := []) ⟨hx, hb, hml, hown, hts⟩ (c_X9_fold l G cA a ha S L H.size (vX9_foldSteps_29 S p1) ((rX9_ofStep S (2 : Int32) (3 : Int32) (1 : Int32)).toInt64)  ) (va_cwS 2 hts gX9_foldSteps_X9_fold rfl rfl rfl (by decide +kernel) ⟨Nat.le_of_ble_eq_true rfl, Nat.le_of_ble_eq_true rfl⟩) hK (mA_mono hS.1) hP hS rfl hl.1 rfl (lv_room (Nat.le_of_ble_eq_true rfl)) dX9_foldSteps_42 ⟨Nat.le_of_ble_eq_true rfl, Nat.le_of_ble_eq_true rfl⟩ (fun H locs hP hS _ _ => ?_)
  refine lv_lstore_n (lv' := [(3, .long (rX9_fold (vX9_foldSteps_29 S p1) ((rX9_ofStep S (2 : Int32) (3 : Int32) (1 : Int32)).toInt64))), (7, .int 1), (6, .int 3), (5, .int 2), (0, .ref (a 0)), (1, .long p1)]) hx hb dX9_foldSteps_45 rfl hl (by decide) rfl (fun ls hl => ?_)
  refine lv_iinc (v := 2) (lv' := [(7, .int 2), (3, .long (rX9_fold (vX9_foldSteps_29 S p1) ((rX9_ofStep S (2 : Int32) (3 : Int32) (1 : Int32)).toInt64))), (6, .int 3), (5, .int 2), (0, .ref (a 0)), (1, .long p1)]) hx hb dX9_foldSteps_46 hl (k := 1) rfl (by decide) (by decide) rfl (fun ls hl => ?_)
  refine lv_goto (tgt := 24) hx hb dX9_foldSteps_49 (by decide) ?_
  refine lv_iload hx hb dX9_foldSteps_24 (lv_at hl 0 rfl) ?_
  refine lv_iconst (v := 3) hx hb dX9_foldSteps_26 (by decide) ?_
  refine lv_icmp_ge (tgt := 52) hx hb dX9_foldSteps_27 (by decide) (fun c => absurd c (by decide)) (fun _ => ?_)
  refine lv_lload_n hx hb dX9_foldSteps_30 rfl (lv_at hl 1 rfl) ?_
  refine lv_aload_n hx hb dX9_foldSteps_31 rfl (lv_at hl 4 rfl) ?_
  refine lv_iload hx hb dX9_foldSteps_32 (lv_at hl 3 rfl) ?_
  refine lv_iload hx hb dX9_foldSteps_34 (lv_at hl 2 rfl) ?_
  refine lv_iload hx hb dX9_foldSteps_36 (lv_at hl 0 rfl) ?_
  refine g_cVi (As := [.int 2, .int 3, .int 2]) (rest := [.long (rX9_fold (vX9_foldSteps_29 S p1) ((rX9_ofStep S (2 : Int32) (3 : Int32) (1 : Int32)).toInt64))]) ⟨hx, hb, hml, hown, hts⟩ (c_X9_ofStep l G cA a ha S L H.size (2 : Int32) (3 : Int32) (2 : Int32)  (by decide) (by decide) (by decide) (by decide) (by decide) (by decide)) (cwV 3 hts gX9_foldSteps_X9_ofStep rfl rfl rfl (by decide +kernel) ⟨Nat.le_of_ble_eq_true rfl, Nat.le_of_ble_eq_true rfl⟩) (g_recv hK hP (by decide) rfl (C := RX9) (T := TX9) (N := 4) rfl) hK (mA_mono hS.1) hP hS rfl hl.1 rfl (lv_room (Nat.le_of_ble_eq_true rfl)) dX9_foldSteps_38 ⟨Nat.le_of_ble_eq_true rfl, Nat.le_of_ble_eq_true rfl⟩ (fun H locs hP hS _ _ => ?_)
  refine lv_i2l hx hb dX9_foldSteps_41 rfl ?_
  refine g_cSl (As := [.long (rX9_fold (vX9_foldSteps_29 S p1) ((rX9_ofStep S (2 : Int32) (3 : Int32) (1 : Int32)).toInt64)), .long ((rX9_ofStep S (2 : Int32) (3 : Int32) (2 : Int32)).toInt64)]) (rest := []) ⟨hx, hb, hml, hown, hts⟩ (c_X9_fold l G cA a ha S L H.size (rX9_fold (vX9_foldSteps_29 S p1) ((rX9_ofStep S (2 : Int32) (3 : Int32) (1 : Int32)).toInt64)) ((rX9_ofStep S (2 : Int32) (3 : Int32) (2 : Int32)).toInt64)  ) (va_cwS 2 hts gX9_foldSteps_X9_fold rfl rfl rfl (by decide +kernel) ⟨Nat.le_of_ble_eq_true rfl, Nat.le_of_ble_eq_true rfl⟩) hK (mA_mono hS.1) hP hS rfl hl.1 rfl (lv_room (Nat.le_of_ble_eq_true rfl)) dX9_foldSteps_42 ⟨Nat.le_of_ble_eq_true rfl, Nat.le_of_ble_eq_true rfl⟩ (fun H locs hP hS _ _ => ?_)
  refine W.eq (g2 := F0 m 45 ls [.long (vX9_foldSteps_30 S p1)]) rfl ?_
  refine lv_lstore_n (lv' := [(3, .long (vX9_foldSteps_30 S p1)), (7, .int 2), (6, .int 3), (5, .int 2), (0, .ref (a 0)), (1, .long p1)]) hx hb dX9_foldSteps_45 rfl hl (by decide) rfl (fun ls hl => ?_)
  refine lv_iinc (v := 3) (lv' := [(7, .int 3), (3, .long (vX9_foldSteps_30 S p1)), (6, .int 3), (5, .int 2), (0, .ref (a 0)), (1, .long p1)]) hx hb dX9_foldSteps_46 hl (k := 1) rfl (by decide) (by decide) rfl (fun ls hl => ?_)
  refine lv_goto (tgt := 24) hx hb dX9_foldSteps_49 (by decide) ?_
  refine lv_iload hx hb dX9_foldSteps_24 (lv_at hl 0 rfl) ?_
  refine lv_iconst (v := 3) hx hb dX9_foldSteps_26 (by decide) ?_
  refine lv_icmp_ge (tgt := 52) hx hb dX9_foldSteps_27 (by decide) (fun _ => ?_) (fun c => absurd c (by decide))
  refine lv_iinc (v := 4) (lv' := [(6, .int 4), (7, .int 3), (3, .long (vX9_foldSteps_30 S p1)), (5, .int 2), (0, .ref (a 0)), (1, .long p1)]) hx hb dX9_foldSteps_52 hl (k := 2) rfl (by decide) (by decide) rfl (fun ls hl => ?_)
  refine lv_goto (tgt := 14) hx hb dX9_foldSteps_55 (by decide) ?_
  refine lv_iload hx hb dX9_foldSteps_14 (lv_at hl 0 rfl) ?_
  refine lv_bipush (v := 8) hx hb dX9_foldSteps_16 (by decide) ?_
  refine lv_icmp_ge (tgt := 58) hx hb dX9_foldSteps_18 (by decide) (fun c => absurd c (by decide)) (fun _ => ?_)
  refine lv_iconst (v := 0) hx hb dX9_foldSteps_21 (by decide) ?_
  refine lv_istore (lv' := [(7, .int 0), (6, .int 4), (3, .long (vX9_foldSteps_30 S p1)), (5, .int 2), (0, .ref (a 0)), (1, .long p1)]) hx hb dX9_foldSteps_22 hl (by decide) rfl (fun ls hl => ?_)
  refine lv_iload hx hb dX9_foldSteps_24 (lv_at hl 0 rfl) ?_
  refine lv_iconst (v := 3) hx hb dX9_foldSteps_26 (by decide) ?_
  refine lv_icmp_ge (tgt := 52) hx hb dX9_foldSteps_27 (by decide) (fun c => absurd c (by decide)) (fun _ => ?_)
  refine lv_lload_n hx hb dX9_foldSteps_30 rfl (lv_at hl 2 rfl) ?_
  refine lv_aload_n hx hb dX9_foldSteps_31 rfl (lv_at hl 4 rfl) ?_
  refine lv_iload hx hb dX9_foldSteps_32 (lv_at hl 3 rfl) ?_
  refine lv_iload hx hb dX9_foldSteps_34 (lv_at hl 1 rfl) ?_
  refine lv_iload hx hb dX9_foldSteps_36 (lv_at hl 0 rfl) ?_
  refine g_cVi (As := [.int 2, .int 4, .int 0]) (rest := [.long (vX9_foldSteps_30 S p1)]) ⟨hx, hb, hml, hown, hts⟩ (c_X9_ofStep l G cA a ha S L H.size (2 : Int32) (4 : Int32) (0 : Int32)  (by decide) (by decide) (by decide) (by decide) (by decide) (by decide)) (cwV 3 hts gX9_foldSteps_X9_ofStep rfl rfl rfl (by decide +kernel) ⟨Nat.le_of_ble_eq_true rfl, Nat.le_of_ble_eq_true rfl⟩) (g_recv hK hP (by decide) rfl (C := RX9) (T := TX9) (N := 4) rfl) hK (mA_mono hS.1) hP hS rfl hl.1 rfl (lv_room (Nat.le_of_ble_eq_true rfl)) dX9_foldSteps_38 ⟨Nat.le_of_ble_eq_true rfl, Nat.le_of_ble_eq_true rfl⟩ (fun H locs hP hS _ _ => ?_)
  refine lv_i2l hx hb dX9_foldSteps_41 rfl ?_
  refine g_cSl (As := [.long (vX9_foldSteps_30 S p1), .long ((rX9_ofStep S (2 : Int32) (4 : Int32) (0 : Int32)).toInt64)]) (rest := []) ⟨hx, hb, hml, hown, hts⟩ (c_X9_fold l G cA a ha S L H.size (vX9_foldSteps_30 S p1) ((rX9_ofStep S (2 : Int32) (4 : Int32) (0 : Int32)).toInt64)  ) (va_cwS 2 hts gX9_foldSteps_X9_fold rfl rfl rfl (by decide +kernel) ⟨Nat.le_of_ble_eq_true rfl, Nat.le_of_ble_eq_true rfl⟩) hK (mA_mono hS.1) hP hS rfl hl.1 rfl (lv_room (Nat.le_of_ble_eq_true rfl)) dX9_foldSteps_42 ⟨Nat.le_of_ble_eq_true rfl, Nat.le_of_ble_eq_true rfl⟩ (fun H locs hP hS _ _ => ?_)
  refine lv_lstore_n (lv' := [(3, .long (rX9_fold (vX9_foldSteps_30 S p1) ((rX9_ofStep S (2 : Int32) (4 : Int32) (0 : Int32)).toInt64))), (7, .int 0), (6, .int 4), (5, .int 2), (0, .ref (a 0)), (1, .long p1)]) hx hb dX9_foldSteps_45 rfl hl (by decide) rfl (fun ls hl => ?_)
  refine lv_iinc (v := 1) (lv' := [(7, .int 1), (3, .long (rX9_fold (vX9_foldSteps_30 S p1) ((rX9_ofStep S (2 : Int32) (4 : Int32) (0 : Int32)).toInt64))), (6, .int 4), (5, .int 2), (0, .ref (a 0)), (1, .long p1)]) hx hb dX9_foldSteps_46 hl (k := 1) rfl (by decide) (by decide) rfl (fun ls hl => ?_)
  refine lv_goto (tgt := 24) hx hb dX9_foldSteps_49 (by decide) ?_
  refine lv_iload hx hb dX9_foldSteps_24 (lv_at hl 0 rfl) ?_
  refine lv_iconst (v := 3) hx hb dX9_foldSteps_26 (by decide) ?_
  refine lv_icmp_ge (tgt := 52) hx hb dX9_foldSteps_27 (by decide) (fun c => absurd c (by decide)) (fun _ => ?_)
  refine lv_lload_n hx hb dX9_foldSteps_30 rfl (lv_at hl 1 rfl) ?_
  refine lv_aload_n hx hb dX9_foldSteps_31 rfl (lv_at hl 4 rfl) ?_
  refine lv_iload hx hb dX9_foldSteps_32 (lv_at hl 3 rfl) ?_
  refine lv_iload hx hb dX9_foldSteps_34 (lv_at hl 2 rfl) ?_
  refine lv_iload hx hb dX9_foldSteps_36 (lv_at hl 0 rfl) ?_
  refine g_cVi (As := [.int 2, .int 4, .int 1]) (rest := [.long (rX9_fold (vX9_foldSteps_30 S p1) ((rX9_ofStep S (2 : Int32) (4 : Int32) (0 : Int32)).toInt64))]) ⟨hx, hb, hml, hown, hts⟩ (c_X9_ofStep l G cA a ha S L H.size (2 : Int32) (4 : Int32) (1 : Int32)  (by decide) (by decide) (by decide) (by decide) (by decide) (by decide)) (cwV 3 hts gX9_foldSteps_X9_ofStep rfl rfl rfl (by decide +kernel) ⟨Nat.le_of_ble_eq_true rfl, Nat.le_of_ble_eq_true rfl⟩) (g_recv hK hP (by decide) rfl (C := RX9) (T := TX9) (N := 4) rfl) hK (mA_mono hS.1) hP hS rfl hl.1 rfl (lv_room (Nat.le_of_ble_eq_true rfl)) dX9_foldSteps_38 ⟨Nat.le_of_ble_eq_true rfl, Nat.le_of_ble_eq_true rfl⟩ (fun H locs hP hS _ _ => ?_)
  refine lv_i2l hx hb dX9_foldSteps_41 rfl ?_
  refine g_cSl (As := [.long (rX9_fold (vX9_foldSteps_30 S p1) ((rX9_ofStep S (2 : Int32) (4 : Int32) (0 : Int32)).toInt64)), .long ((rX9_ofStep S (2 : Int32) (4 : Int32) (1 : Int32)).toInt64)]) (rest := []) ⟨hx, hb, hml, hown, hts⟩ (c_X9_fold l G cA a ha S L H.size (rX9_fold (vX9_foldSteps_30 S p1) ((rX9_ofStep S (2 : Int32) (4 : Int32) (0 : Int32)).toInt64)) ((rX9_ofStep S (2 : Int32) (4 : Int32) (1 : Int32)).toInt64)  ) (va_cwS 2 hts gX9_foldSteps_X9_fold rfl rfl rfl (by decide +kernel) ⟨Nat.le_of_ble_eq_true rfl, Nat.le_of_ble_eq_true rfl⟩) hK (mA_mono hS.1) hP hS rfl hl.1 rfl (lv_room (Nat.le_of_ble_eq_true rfl)) dX9_foldSteps_42 ⟨Nat.le_of_ble_eq_true rfl, Nat.le_of_ble_eq_true rfl⟩ (fun H locs hP hS _ _ => ?_)
  refine W.eq (g2 := F0 m 45 ls [.long (vX9_foldSteps_31 S p1)]) rfl ?_
  refine lv_lstore_n (lv' := [(3, .long (vX9_foldSteps_31 S p1)), (7, .int 1), (6, .int 4), (5, .int 2), (0, .ref (a 0)), (1, .long p1)]) hx hb dX9_foldSteps_45 rfl hl (by decide) rfl (fun ls hl => ?_)
  refine lv_iinc (v := 2) (lv' := [(7, .int 2), (3, .long (vX9_foldSteps_31 S p1)), (6, .int 4), (5, .int 2), (0, .ref (a 0)), (1, .long p1)]) hx hb dX9_foldSteps_46 hl (k := 1) rfl (by decide) (by decide) rfl (fun ls hl => ?_)
  refine lv_goto (tgt := 24) hx hb dX9_foldSteps_49 (by decide) ?_
  refine lv_iload hx hb dX9_foldSteps_24 (lv_at hl 0 rfl) ?_
  refine lv_iconst (v := 3) hx hb dX9_foldSteps_26 (by decide) ?_
  refine lv_icmp_ge (tgt := 52) hx hb dX9_foldSteps_27 (by decide) (fun c => absurd c (by decide)) (fun _ => ?_)
  refine lv_lload_n hx hb dX9_foldSteps_30 rfl (lv_at hl 1 rfl) ?_
  refine lv_aload_n hx hb dX9_foldSteps_31 rfl (lv_at hl 4 rfl) ?_
  refine lv_iload hx hb dX9_foldSteps_32 (lv_at hl 3 rfl) ?_
  refine lv_iload hx hb dX9_foldSteps_34 (lv_at hl 2 rfl) ?_
  refine lv_iload hx hb dX9_foldSteps_36 (lv_at hl 0 rfl) ?_
  refine g_cVi (As := [.int 2, .int 4, .int 2]) (rest := [.long (vX9_foldSteps_31 S p1)]) ⟨hx, hb, hml, hown, hts⟩ (c_X9_ofStep l G cA a ha S L H.size (2 : Int32) (4 : Int32) (2 : Int32)  (by decide) (by decide) (by decide) (by decide) (by decide) (by decide)) (cwV 3 hts gX9_foldSteps_X9_ofStep rfl rfl rfl (by decide +kernel) ⟨Nat.le_of_ble_eq_true rfl, Nat.le_of_ble_eq_true rfl⟩) (g_recv hK hP (by decide) rfl (C := RX9) (T := TX9) (N := 4) rfl) hK (mA_mono hS.1) hP hS rfl hl.1 rfl (lv_room (Nat.le_of_ble_eq_true rfl)) dX9_foldSteps_38 ⟨Nat.le_of_ble_eq_true rfl, Nat.le_of_ble_eq_true rfl⟩ (fun H locs hP hS _ _ => ?_)
  refine lv_i2l hx hb dX9_foldSteps_41 rfl ?_
  refine g_cSl (As := [.long (vX9_foldSteps_31 S p1), .long ((rX9_ofStep S (2 : Int32) (4 : Int32) (2 : Int32)).toInt64)]) (rest := []) ⟨hx, hb, hml, hown, hts⟩ (c_X9_fold l G cA a ha S L H.size (vX9_foldSteps_31 S p1) ((rX9_ofStep S (2 : Int32) (4 : Int32) (2 : Int32)).toInt64)  ) (va_cwS 2 hts gX9_foldSteps_X9_fold rfl rfl rfl (by decide +kernel) ⟨Nat.le_of_ble_eq_true rfl, Nat.le_of_ble_eq_true rfl⟩) hK (mA_mono hS.1) hP hS rfl hl.1 rfl (lv_room (Nat.le_of_ble_eq_true rfl)) dX9_foldSteps_42 ⟨Nat.le_of_ble_eq_true rfl, Nat.le_of_ble_eq_true rfl⟩ (fun H locs hP hS _ _ => ?_)
  refine lv_lstore_n (lv' := [(3, .long (rX9_fold (vX9_foldSteps_31 S p1) ((rX9_ofStep S (2 : Int32) (4 : Int32) (2 : Int32)).toInt64))), (7, .int 2), (6, .int 4), (5, .int 2), (0, .ref (a 0)), (1, .long p1)]) hx hb dX9_foldSteps_45 rfl hl (by decide) rfl (fun ls hl => ?_)
  refine lv_iinc (v := 3) (lv' := [(7, .int 3), (3, .long (rX9_fold (vX9_foldSteps_31 S p1) ((rX9_ofStep S (2 : Int32) (4 : Int32) (2 : Int32)).toInt64))), (6, .int 4), (5, .int 2), (0, .ref (a 0)), (1, .long p1)]) hx hb dX9_foldSteps_46 hl (k := 1) rfl (by decide) (by decide) rfl (fun ls hl => ?_)
  refine lv_goto (tgt := 24) hx hb dX9_foldSteps_49 (by decide) ?_
  refine lv_iload hx hb dX9_foldSteps_24 (lv_at hl 0 rfl) ?_
  refine lv_iconst (v := 3) hx hb dX9_foldSteps_26 (by decide) ?_
  refine lv_icmp_ge (tgt := 52) hx hb dX9_foldSteps_27 (by decide) (fun _ => ?_) (fun c => absurd c (by decide))
  refine lv_iinc (v := 5) (lv' := [(6, .int 5), (7, .int 3), (3, .long (rX9_fold (vX9_foldSteps_31 S p1) ((rX9_ofStep S (2 : Int32) (4 : Int32) (2 : Int32)).toInt64))), (5, .int 2), (0, .ref (a 0)), (1, .long p1)]) hx hb dX9_foldSteps_52 hl (k := 2) rfl (by decide) (by decide) rfl (fun ls hl => ?_)
  refine lv_goto (tgt := 14) hx hb dX9_foldSteps_55 (by decide) ?_
  refine lv_iload hx hb dX9_foldSteps_14 (lv_at hl 0 rfl) ?_
  refine lv_bipush (v := 8) hx hb dX9_foldSteps_16 (by decide) ?_
  refine lv_icmp_ge (tgt := 58) hx hb dX9_foldSteps_18 (by decide) (fun c => absurd c (by decide)) (fun _ => ?_)
  refine lv_iconst (v := 0) hx hb dX9_foldSteps_21 (by decide) ?_
  refine lv_istore (lv' := [(7, .int 0), (6, .int 5), (3, .long (rX9_fold (vX9_foldSteps_31 S p1) ((rX9_ofStep S (2 : Int32) (4 : Int32) (2 : Int32)).toInt64))), (5, .int 2), (0, .ref (a 0)), (1, .long p1)]) hx hb dX9_foldSteps_22 hl (by decide) rfl (fun ls hl => ?_)
  refine lv_iload hx hb dX9_foldSteps_24 (lv_at hl 0 rfl) ?_
  refine lv_iconst (v := 3) hx hb dX9_foldSteps_26 (by decide) ?_
  refine lv_icmp_ge (tgt := 52) hx hb dX9_foldSteps_27 (by decide) (fun c => absurd c (by decide)) (fun _ => ?_)
  refine lv_lload_n hx hb dX9_foldSteps_30 rfl (lv_at hl 2 rfl) ?_
  refine lv_aload_n hx hb dX9_foldSteps_31 rfl (lv_at hl 4 rfl) ?_
  refine lv_iload hx hb dX9_foldSteps_32 (lv_at hl 3 rfl) ?_
  refine lv_iload hx hb dX9_foldSteps_34 (lv_at hl 1 rfl) ?_
  refine lv_iload hx hb dX9_foldSteps_36 (lv_at hl 0 rfl) ?_
  refine g_cVi (As := [.int 2, .int 5, .int 0]) (rest := [.long (rX9_fold (vX9_foldSteps_31 S p1) ((rX9_ofStep S (2 : Int32) (4 : Int32) (2 : Int32)).toInt64))]) ⟨hx, hb, hml, hown, hts⟩ (c_X9_ofStep l G cA a ha S L H.size (2 : Int32) (5 : Int32) (0 : Int32)  (by decide) (by decide) (by decide) (by decide) (by decide) (by decide)) (cwV 3 hts gX9_foldSteps_X9_ofStep rfl rfl rfl (by decide +kernel) ⟨Nat.le_of_ble_eq_true rfl, Nat.le_of_ble_eq_true rfl⟩) (g_recv hK hP (by decide) rfl (C := RX9) (T := TX9) (N := 4) rfl) hK (mA_mono hS.1) hP hS rfl hl.1 rfl (lv_room (Nat.le_of_ble_eq_true rfl)) dX9_foldSteps_38 ⟨Nat.le_of_ble_eq_true rfl, Nat.le_of_ble_eq_true rfl⟩ (fun H locs hP hS _ _ => ?_)
  refine lv_i2l hx hb dX9_foldSteps_41 rfl ?_
  refine g_cSl (As := [.long (rX9_fold (vX9_foldSteps_31 S p1) ((rX9_ofStep S (2 : Int32) (4 : Int32) (2 : Int32)).toInt64)), .long ((rX9_ofStep S (2 : Int32) (5 : Int32) (0 : Int32)).toInt64)]) (rest := []) ⟨hx, hb, hml, hown, hts⟩ (c_X9_fold l G cA a ha S L H.size (rX9_fold (vX9_foldSteps_31 S p1) ((rX9_ofStep S (2 : Int32) (4 : Int32) (2 : Int32)).toInt64)) ((rX9_ofStep S (2 : Int32) (5 : Int32) (0 : Int32)).toInt64)  ) (va_cwS 2 hts gX9_foldSteps_X9_fold rfl rfl rfl (by decide +kernel) ⟨Nat.le_of_ble_eq_true rfl, Nat.le_of_ble_eq_true rfl⟩) hK (mA_mono hS.1) hP hS rfl hl.1 rfl (lv_room (Nat.le_of_ble_eq_true rfl)) dX9_foldSteps_42 ⟨Nat.le_of_ble_eq_true rfl, Nat.le_of_ble_eq_true rfl⟩ (fun H locs hP hS _ _ => ?_)
  refine W.eq (g2 := F0 m 45 ls [.long (vX9_foldSteps_32 S p1)]) rfl ?_
  refine lv_lstore_n (lv' := [(3, .long (vX9_foldSteps_32 S p1)), (7, .int 0), (6, .int 5), (5, .int 2), (0, .ref (a 0)), (1, .long p1)]) hx hb dX9_foldSteps_45 rfl hl (by decide) rfl (fun ls hl => ?_)
  refine lv_iinc (v := 1) (lv' := [(7, .int 1), (3, .long (vX9_foldSteps_32 S p1)), (6, .int 5), (5, .int 2), (0, .ref (a 0)), (1, .long p1)]) hx hb dX9_foldSteps_46 hl (k := 1) rfl (by decide) (by decide) rfl (fun ls hl => ?_)
  refine lv_goto (tgt := 24) hx hb dX9_foldSteps_49 (by decide) ?_
  refine lv_iload hx hb dX9_foldSteps_24 (lv_at hl 0 rfl) ?_
  refine lv_iconst (v := 3) hx hb dX9_foldSteps_26 (by decide) ?_
  refine lv_icmp_ge (tgt := 52) hx hb dX9_foldSteps_27 (by decide) (fun c => absurd c (by decide)) (fun _ => ?_)
  refine lv_lload_n hx hb dX9_foldSteps_30 rfl (lv_at hl 1 rfl) ?_
  refine lv_aload_n hx hb dX9_foldSteps_31 rfl (lv_at hl 4 rfl) ?_
  refine lv_iload hx hb dX9_foldSteps_32 (lv_at hl 3 rfl) ?_
  refine lv_iload hx hb dX9_foldSteps_34 (lv_at hl 2 rfl) ?_
  refine lv_iload hx hb dX9_foldSteps_36 (lv_at hl 0 rfl) ?_
  refine g_cVi (As := [.int 2, .int 5, .int 1]) (rest := [.long (vX9_foldSteps_32 S p1)]) ⟨hx, hb, hml, hown, hts⟩ (c_X9_ofStep l G cA a ha S L H.size (2 : Int32) (5 : Int32) (1 : Int32)  (by decide) (by decide) (by decide) (by decide) (by decide) (by decide)) (cwV 3 hts gX9_foldSteps_X9_ofStep rfl rfl rfl (by decide +kernel) ⟨Nat.le_of_ble_eq_true rfl, Nat.le_of_ble_eq_true rfl⟩) (g_recv hK hP (by decide) rfl (C := RX9) (T := TX9) (N := 4) rfl) hK (mA_mono hS.1) hP hS rfl hl.1 rfl (lv_room (Nat.le_of_ble_eq_true rfl)) dX9_foldSteps_38 ⟨Nat.le_of_ble_eq_true rfl, Nat.le_of_ble_eq_true rfl⟩ (fun H locs hP hS _ _ => ?_)
  refine lv_i2l hx hb dX9_foldSteps_41 rfl ?_
  refine g_cSl (As := [.long (vX9_foldSteps_32 S p1), .long ((rX9_ofStep S (2 : Int32) (5 : Int32) (1 : Int32)).toInt64)]) (rest := []) ⟨hx, hb, hml, hown, hts⟩ (c_X9_fold l G cA a ha S L H.size (vX9_foldSteps_32 S p1) ((rX9_ofStep S (2 : Int32) (5 : Int32) (1 : Int32)).toInt64)  ) (va_cwS 2 hts gX9_foldSteps_X9_fold rfl rfl rfl (by decide +kernel) ⟨Nat.le_of_ble_eq_true rfl, Nat.le_of_ble_eq_true rfl⟩) hK (mA_mono hS.1) hP hS rfl hl.1 rfl (lv_room (Nat.le_of_ble_eq_true rfl)) dX9_foldSteps_42 ⟨Nat.le_of_ble_eq_true rfl, Nat.le_of_ble_eq_true rfl⟩ (fun H locs hP hS _ _ => ?_)
  refine lv_lstore_n (lv' := [(3, .long (rX9_fold (vX9_foldSteps_32 S p1) ((rX9_ofStep S (2 : Int32) (5 : Int32) (1 : Int32)).toInt64))), (7, .int 1), (6, .int 5), (5, .int 2), (0, .ref (a 0)), (1, .long p1)]) hx hb dX9_foldSteps_45 rfl hl (by decide) rfl (fun ls hl => ?_)
  refine lv_iinc (v := 2) (lv' := [(7, .int 2), (3, .long (rX9_fold (vX9_foldSteps_32 S p1) ((rX9_ofStep S (2 : Int32) (5 : Int32) (1 : Int32)).toInt64))), (6, .int 5), (5, .int 2), (0, .ref (a 0)), (1, .long p1)]) hx hb dX9_foldSteps_46 hl (k := 1) rfl (by decide) (by decide) rfl (fun ls hl => ?_)
  refine lv_goto (tgt := 24) hx hb dX9_foldSteps_49 (by decide) ?_
  refine lv_iload hx hb dX9_foldSteps_24 (lv_at hl 0 rfl) ?_
  refine lv_iconst (v := 3) hx hb dX9_foldSteps_26 (by decide) ?_
  refine lv_icmp_ge (tgt := 52) hx hb dX9_foldSteps_27 (by decide) (fun c => absurd c (by decide)) (fun _ => ?_)
  refine lv_lload_n hx hb dX9_foldSteps_30 rfl (lv_at hl 1 rfl) ?_
  refine lv_aload_n hx hb dX9_foldSteps_31 rfl (lv_at hl 4 rfl) ?_
  refine lv_iload hx hb dX9_foldSteps_32 (lv_at hl 3 rfl) ?_
  refine lv_iload hx hb dX9_foldSteps_34 (lv_at hl 2 rfl) ?_
  refine lv_iload hx hb dX9_foldSteps_36 (lv_at hl 0 rfl) ?_
  refine g_cVi (As := [.int 2, .int 5, .int 2]) (rest := [.long (rX9_fold (vX9_foldSteps_32 S p1) ((rX9_ofStep S (2 : Int32) (5 : Int32) (1 : Int32)).toInt64))]) ⟨hx, hb, hml, hown, hts⟩ (c_X9_ofStep l G cA a ha S L H.size (2 : Int32) (5 : Int32) (2 : Int32)  (by decide) (by decide) (by decide) (by decide) (by decide) (by decide)) (cwV 3 hts gX9_foldSteps_X9_ofStep rfl rfl rfl (by decide +kernel) ⟨Nat.le_of_ble_eq_true rfl, Nat.le_of_ble_eq_true rfl⟩) (g_recv hK hP (by decide) rfl (C := RX9) (T := TX9) (N := 4) rfl) hK (mA_mono hS.1) hP hS rfl hl.1 rfl (lv_room (Nat.le_of_ble_eq_true rfl)) dX9_foldSteps_38 ⟨Nat.le_of_ble_eq_true rfl, Nat.le_of_ble_eq_true rfl⟩ (fun H locs hP hS _ _ => ?_)
  refine lv_i2l hx hb dX9_foldSteps_41 rfl ?_
  refine g_cSl (As := [.long (rX9_fold (vX9_foldSteps_32 S p1) ((rX9_ofStep S (2 : Int32) (5 : Int32) (1 : Int32)).toInt64)), .long ((rX9_ofStep S (2 : Int32) (5 : Int32) (2 : Int32)).toInt64)]) (rest := []) ⟨hx, hb, hml, hown, hts⟩ (c_X9_fold l G cA a ha S L H.size (rX9_fold (vX9_foldSteps_32 S p1) ((rX9_ofStep S (2 : Int32) (5 : Int32) (1 : Int32)).toInt64)) ((rX9_ofStep S (2 : Int32) (5 : Int32) (2 : Int32)).toInt64)  ) (va_cwS 2 hts gX9_foldSteps_X9_fold rfl rfl rfl (by decide +kernel) ⟨Nat.le_of_ble_eq_true rfl, Nat.le_of_ble_eq_true rfl⟩) hK (mA_mono hS.1) hP hS rfl hl.1 rfl (lv_room (Nat.le_of_ble_eq_true rfl)) dX9_foldSteps_42 ⟨Nat.le_of_ble_eq_true rfl, Nat.le_of_ble_eq_true rfl⟩ (fun H locs hP hS _ _ => ?_)
  refine W.eq (g2 := F0 m 45 ls [.long (vX9_foldSteps_33 S p1)]) rfl ?_
  refine lv_lstore_n (lv' := [(3, .long (vX9_foldSteps_33 S p1)), (7, .int 2), (6, .int 5), (5, .int 2), (0, .ref (a 0)), (1, .long p1)]) hx hb dX9_foldSteps_45 rfl hl (by decide) rfl (fun ls hl => ?_)
  refine lv_iinc (v := 3) (lv' := [(7, .int 3), (3, .long (vX9_foldSteps_33 S p1)), (6, .int 5), (5, .int 2), (0, .ref (a 0)), (1, .long p1)]) hx hb dX9_foldSteps_46 hl (k := 1) rfl (by decide) (by decide) rfl (fun ls hl => ?_)
  refine lv_goto (tgt := 24) hx hb dX9_foldSteps_49 (by decide) ?_
  refine lv_iload hx hb dX9_foldSteps_24 (lv_at hl 0 rfl) ?_
  refine lv_iconst (v := 3) hx hb dX9_foldSteps_26 (by decide) ?_
  refine lv_icmp_ge (tgt := 52) hx hb dX9_foldSteps_27 (by decide) (fun _ => ?_) (fun c => absurd c (by decide))
  refine lv_iinc (v := 6) (lv' := [(6, .int 6), (7, .int 3), (3, .long (vX9_foldSteps_33 S p1)), (5, .int 2), (0, .ref (a 0)), (1, .long p1)]) hx hb dX9_foldSteps_52 hl (k := 2) rfl (by decide) (by decide) rfl (fun ls hl => ?_)
  refine lv_goto (tgt := 14) hx hb dX9_foldSteps_55 (by decide) ?_
  refine lv_iload hx hb dX9_foldSteps_14 (lv_at hl 0 rfl) ?_
  refine lv_bipush (v := 8) hx hb dX9_foldSteps_16 (by decide) ?_
  refine lv_icmp_ge (tgt := 58) hx hb dX9_foldSteps_18 (by decide) (fun c => absurd c (by decide)) (fun _ => ?_)
  refine lv_iconst (v := 0) hx hb dX9_foldSteps_21 (by decide) ?_
  refine lv_istore (lv' := [(7, .int 0), (6, .int 6), (3, .long (vX9_foldSteps_33 S p1)), (5, .int 2), (0, .ref (a 0)), (1, .long p1)]) hx hb dX9_foldSteps_22 hl (by decide) rfl (fun ls hl => ?_)
  refine lv_iload hx hb dX9_foldSteps_24 (lv_at hl 0 rfl) ?_
  refine lv_iconst (v := 3) hx hb dX9_foldSteps_26 (by decide) ?_
  refine lv_icmp_ge (tgt := 52) hx hb dX9_foldSteps_27 (by decide) (fun c => absurd c (by decide)) (fun _ => ?_)
  refine lv_lload_n hx hb dX9_foldSteps_30 rfl (lv_at hl 2 rfl) ?_
  refine lv_aload_n hx hb dX9_foldSteps_31 rfl (lv_at hl 4 rfl) ?_
  refine lv_iload hx hb dX9_foldSteps_32 (lv_at hl 3 rfl) ?_
  refine lv_iload hx hb dX9_foldSteps_34 (lv_at hl 1 rfl) ?_
  refine lv_iload hx hb dX9_foldSteps_36 (lv_at hl 0 rfl) ?_
  refine g_cVi (As := [.int 2, .int 6, .int 0]) (rest := [.long (vX9_foldSteps_33 S p1)]) ⟨hx, hb, hml, hown, hts⟩ (c_X9_ofStep l G cA a ha S L H.size (2 : Int32) (6 : Int32) (0 : Int32)  (by decide) (by decide) (by decide) (by decide) (by decide) (by decide)) (cwV 3 hts gX9_foldSteps_X9_ofStep rfl rfl rfl (by decide +kernel) ⟨Nat.le_of_ble_eq_true rfl, Nat.le_of_ble_eq_true rfl⟩) (g_recv hK hP (by decide) rfl (C := RX9) (T := TX9) (N := 4) rfl) hK (mA_mono hS.1) hP hS rfl hl.1 rfl (lv_room (Nat.le_of_ble_eq_true rfl)) dX9_foldSteps_38 ⟨Nat.le_of_ble_eq_true rfl, Nat.le_of_ble_eq_true rfl⟩ (fun H locs hP hS _ _ => ?_)
  refine lv_i2l hx hb dX9_foldSteps_41 rfl ?_
  refine g_cSl (As := [.long (vX9_foldSteps_33 S p1), .long ((rX9_ofStep S (2 : Int32) (6 : Int32) (0 : Int32)).toInt64)]) (rest := []) ⟨hx, hb, hml, hown, hts⟩ (c_X9_fold l G cA a ha S L H.size (vX9_foldSteps_33 S p1) ((rX9_ofStep S (2 : Int32) (6 : Int32) (0 : Int32)).toInt64)  ) (va_cwS 2 hts gX9_foldSteps_X9_fold rfl rfl rfl (by decide +kernel) ⟨Nat.le_of_ble_eq_true rfl, Nat.le_of_ble_eq_true rfl⟩) hK (mA_mono hS.1) hP hS rfl hl.1 rfl (lv_room (Nat.le_of_ble_eq_true rfl)) dX9_foldSteps_42 ⟨Nat.le_of_ble_eq_true rfl, Nat.le_of_ble_eq_true rfl⟩ (fun H locs hP hS _ _ => ?_)
  refine lv_lstore_n (lv' := [(3, .long (rX9_fold (vX9_foldSteps_33 S p1) ((rX9_ofStep S (2 : Int32) (6 : Int32) (0 : Int32)).toInt64))), (7, .int 0), (6, .int 6), (5, .int 2), (0, .ref (a 0)), (1, .long p1)]) hx hb dX9_foldSteps_45 rfl hl (by decide) rfl (fun ls hl => ?_)
  refine lv_iinc (v := 1) (lv' := [(7, .int 1), (3, .long (rX9_fold (vX9_foldSteps_33 S p1) ((rX9_ofStep S (2 : Int32) (6 : Int32) (0 : Int32)).toInt64))), (6, .int 6), (5, .int 2), (0, .ref (a 0)), (1, .long p1)]) hx hb dX9_foldSteps_46 hl (k := 1) rfl (by decide) (by decide) rfl (fun ls hl => ?_)
  refine lv_goto (tgt := 24) hx hb dX9_foldSteps_49 (by decide) ?_
  refine lv_iload hx hb dX9_foldSteps_24 (lv_at hl 0 rfl) ?_
  refine lv_iconst (v := 3) hx hb dX9_foldSteps_26 (by decide) ?_
  refine lv_icmp_ge (tgt := 52) hx hb dX9_foldSteps_27 (by decide) (fun c => absurd c (by decide)) (fun _ => ?_)
  refine lv_lload_n hx hb dX9_foldSteps_30 rfl (lv_at hl 1 rfl) ?_
  refine lv_aload_n hx hb dX9_foldSteps_31 rfl (lv_at hl 4 rfl) ?_
  refine lv_iload hx hb dX9_foldSteps_32 (lv_at hl 3 rfl) ?_
  refine lv_iload hx hb dX9_foldSteps_34 (lv_at hl 2 rfl) ?_
  refine lv_iload hx hb dX9_foldSteps_36 (lv_at hl 0 rfl) ?_
  refine g_cVi (As := [.int 2, .int 6, .int 1]) (rest := [.long (rX9_fold (vX9_foldSteps_33 S p1) ((rX9_ofStep S (2 : Int32) (6 : Int32) (0 : Int32)).toInt64))]) ⟨hx, hb, hml, hown, hts⟩ (c_X9_ofStep l G cA a ha S L H.size (2 : Int32) (6 : Int32) (1 : Int32)  (by decide) (by decide) (by decide) (by decide) (by decide) (by decide)) (cwV 3 hts gX9_foldSteps_X9_ofStep rfl rfl rfl (by decide +kernel) ⟨Nat.le_of_ble_eq_true rfl, Nat.le_of_ble_eq_true rfl⟩) (g_recv hK hP (by decide) rfl (C := RX9) (T := TX9) (N := 4) rfl) hK (mA_mono hS.1) hP hS rfl hl.1 rfl (lv_room (Nat.le_of_ble_eq_true rfl)) dX9_foldSteps_38 ⟨Nat.le_of_ble_eq_true rfl, Nat.le_of_ble_eq_true rfl⟩ (fun H locs hP hS _ _ => ?_)
  refine lv_i2l hx hb dX9_foldSteps_41 rfl ?_
  refine g_cSl (As := [.long (rX9_fold (vX9_foldSteps_33 S p1) ((rX9_ofStep S (2 : Int32) (6 : Int32) (0 : Int32)).toInt64)), .long ((rX9_ofStep S (2 : Int32) (6 : Int32) (1 : Int32)).toInt64)]) (rest := []) ⟨hx, hb, hml, hown, hts⟩ (c_X9_fold l G cA a ha S L H.size (rX9_fold (vX9_foldSteps_33 S p1) ((rX9_ofStep S (2 : Int32) (6 : Int32) (0 : Int32)).toInt64)) ((rX9_ofStep S (2 : Int32) (6 : Int32) (1 : Int32)).toInt64)  ) (va_cwS 2 hts gX9_foldSteps_X9_fold rfl rfl rfl (by decide +kernel) ⟨Nat.le_of_ble_eq_true rfl, Nat.le_of_ble_eq_true rfl⟩) hK (mA_mono hS.1) hP hS rfl hl.1 rfl (lv_room (Nat.le_of_ble_eq_true rfl)) dX9_foldSteps_42 ⟨Nat.le_of_ble_eq_true rfl, Nat.le_of_ble_eq_true rfl⟩ (fun H locs hP hS _ _ => ?_)
  refine W.eq (g2 := F0 m 45 ls [.long (vX9_foldSteps_34 S p1)]) rfl ?_
  refine lv_lstore_n (lv' := [(3, .long (vX9_foldSteps_34 S p1)), (7, .int 1), (6, .int 6), (5, .int 2), (0, .ref (a 0)), (1, .long p1)]) hx hb dX9_foldSteps_45 rfl hl (by decide) rfl (fun ls hl => ?_)
  refine lv_iinc (v := 2) (lv' := [(7, .int 2), (3, .long (vX9_foldSteps_34 S p1)), (6, .int 6), (5, .int 2), (0, .ref (a 0)), (1, .long p1)]) hx hb dX9_foldSteps_46 hl (k := 1) rfl (by decide) (by decide) rfl (fun ls hl => ?_)
  refine lv_goto (tgt := 24) hx hb dX9_foldSteps_49 (by decide) ?_
  refine lv_iload hx hb dX9_foldSteps_24 (lv_at hl 0 rfl) ?_
  refine lv_iconst (v := 3) hx hb dX9_foldSteps_26 (by decide) ?_
  refine lv_icmp_ge (tgt := 52) hx hb dX9_foldSteps_27 (by decide) (fun c => absurd c (by decide)) (fun _ => ?_)
  refine lv_lload_n hx hb dX9_foldSteps_30 rfl (lv_at hl 1 rfl) ?_
  refine lv_aload_n hx hb dX9_foldSteps_31 rfl (lv_at hl 4 rfl) ?_
  refine lv_iload hx hb dX9_foldSteps_32 (lv_at hl 3 rfl) ?_
  refine lv_iload hx hb dX9_foldSteps_34 (lv_at hl 2 rfl) ?_
  refine lv_iload hx hb dX9_foldSteps_36 (lv_at hl 0 rfl) ?_
  refine g_cVi (As := [.int 2, .int 6, .int 2]) (rest := [.long (vX9_foldSteps_34 S p1)]) ⟨hx, hb, hml, hown, hts⟩ (c_X9_ofStep l G cA a ha S L H.size (2 : Int32) (6 : Int32) (2 : Int32)  (by decide) (by decide) (by decide) (by decide) (by decide) (by decide)) (cwV 3 hts gX9_foldSteps_X9_ofStep rfl rfl rfl (by decide +kernel) ⟨Nat.le_of_ble_eq_true rfl, Nat.le_of_ble_eq_true rfl⟩) (g_recv hK hP (by decide) rfl (C := RX9) (T := TX9) (N := 4) rfl) hK (mA_mono hS.1) hP hS rfl hl.1 rfl (lv_room (Nat.le_of_ble_eq_true rfl)) dX9_foldSteps_38 ⟨Nat.le_of_ble_eq_true rfl, Nat.le_of_ble_eq_true rfl⟩ (fun H locs hP hS _ _ => ?_)
  refine lv_i2l hx hb dX9_foldSteps_41 rfl ?_
  refine g_cSl (As := [.long (vX9_foldSteps_34 S p1), .long ((rX9_ofStep S (2 : Int32) (6 : Int32) (2 : Int32)).toInt64)]) (rest := []) ⟨hx, hb, hml, hown, hts⟩ (c_X9_fold l G cA a ha S L H.size (vX9_foldSteps_34 S p1) ((rX9_ofStep S (2 : Int32) (6 : Int32) (2 : Int32)).toInt64)  ) (va_cwS 2 hts gX9_foldSteps_X9_fold rfl rfl rfl (by decide +kernel) ⟨Nat.le_of_ble_eq_true rfl, Nat.le_of_ble_eq_true rfl⟩) hK (mA_mono hS.1) hP hS rfl hl.1 rfl (lv_room (Nat.le_of_ble_eq_true rfl)) dX9_foldSteps_42 ⟨Nat.le_of_ble_eq_true rfl, Nat.le_of_ble_eq_true rfl⟩ (fun H locs hP hS _ _ => ?_)
  refine lv_lstore_n (lv' := [(3, .long (rX9_fold (vX9_foldSteps_34 S p1) ((rX9_ofStep S (2 : Int32) (6 : Int32) (2 : Int32)).toInt64))), (7, .int 2), (6, .int 6), (5, .int 2), (0, .ref (a 0)), (1, .long p1)]) hx hb dX9_foldSteps_45 rfl hl (by decide) rfl (fun ls hl => ?_)
  refine lv_iinc (v := 3) (lv' := [(7, .int 3), (3, .long (rX9_fold (vX9_foldSteps_34 S p1) ((rX9_ofStep S (2 : Int32) (6 : Int32) (2 : Int32)).toInt64))), (6, .int 6), (5, .int 2), (0, .ref (a 0)), (1, .long p1)]) hx hb dX9_foldSteps_46 hl (k := 1) rfl (by decide) (by decide) rfl (fun ls hl => ?_)
  refine lv_goto (tgt := 24) hx hb dX9_foldSteps_49 (by decide) ?_
  refine lv_iload hx hb dX9_foldSteps_24 (lv_at hl 0 rfl) ?_
  refine lv_iconst (v := 3) hx hb dX9_foldSteps_26 (by decide) ?_
  refine lv_icmp_ge (tgt := 52) hx hb dX9_foldSteps_27 (by decide) (fun _ => ?_) (fun c => absurd c (by decide))
  refine lv_iinc (v := 7) (lv' := [(6, .int 7), (7, .int 3), (3, .long (rX9_fold (vX9_foldSteps_34 S p1) ((rX9_ofStep S (2 : Int32) (6 : Int32) (2 : Int32)).toInt64))), (5, .int 2), (0, .ref (a 0)), (1, .long p1)]) hx hb dX9_foldSteps_52 hl (k := 2) rfl (by decide) (by decide) rfl (fun ls hl => ?_)
  refine lv_goto (tgt := 14) hx hb dX9_foldSteps_55 (by decide) ?_
  refine lv_iload hx hb dX9_foldSteps_14 (lv_at hl 0 rfl) ?_
  refine lv_bipush (v := 8) hx hb dX9_foldSteps_16 (by decide) ?_
  refine lv_icmp_ge (tgt := 58) hx hb dX9_foldSteps_18 (by decide) (fun c => absurd c (by decide)) (fun _ => ?_)
  refine lv_iconst (v := 0) hx hb dX9_foldSteps_21 (by decide) ?_
  refine lv_istore (lv' := [(7, .int 0), (6, .int 7), (3, .long (rX9_fold (vX9_foldSteps_34 S p1) ((rX9_ofStep S (2 : Int32) (6 : Int32) (2 : Int32)).toInt64))), (5, .int 2), (0, .ref (a 0)), (1, .long p1)]) hx hb dX9_foldSteps_22 hl (by decide) rfl (fun ls hl => ?_)
  refine lv_iload hx hb dX9_foldSteps_24 (lv_at hl 0 rfl) ?_
  refine lv_iconst (v := 3) hx hb dX9_foldSteps_26 (by decide) ?_
  refine lv_icmp_ge (tgt := 52) hx hb dX9_foldSteps_27 (by decide) (fun c => absurd c (by decide)) (fun _ => ?_)
  refine lv_lload_n hx hb dX9_foldSteps_30 rfl (lv_at hl 2 rfl) ?_
  refine lv_aload_n hx hb dX9_foldSteps_31 rfl (lv_at hl 4 rfl) ?_
  refine lv_iload hx hb dX9_foldSteps_32 (lv_at hl 3 rfl) ?_
  refine lv_iload hx hb dX9_foldSteps_34 (lv_at hl 1 rfl) ?_
  refine lv_iload hx hb dX9_foldSteps_36 (lv_at hl 0 rfl) ?_
  refine g_cVi (As := [.int 2, .int 7, .int 0]) (rest := [.long (rX9_fold (vX9_foldSteps_34 S p1) ((rX9_ofStep S (2 : Int32) (6 : Int32) (2 : Int32)).toInt64))]) ⟨hx, hb, hml, hown, hts⟩ (c_X9_ofStep l G cA a ha S L H.size (2 : Int32) (7 : Int32) (0 : Int32)  (by decide) (by decide) (by decide) (by decide) (by decide) (by decide)) (cwV 3 hts gX9_foldSteps_X9_ofStep rfl rfl rfl (by decide +kernel) ⟨Nat.le_of_ble_eq_true rfl, Nat.le_of_ble_eq_true rfl⟩) (g_recv hK hP (by decide) rfl (C := RX9) (T := TX9) (N := 4) rfl) hK (mA_mono hS.1) hP hS rfl hl.1 rfl (lv_room (Nat.le_of_ble_eq_true rfl)) dX9_foldSteps_38 ⟨Nat.le_of_ble_eq_true rfl, Nat.le_of_ble_eq_true rfl⟩ (fun H locs hP hS _ _ => ?_)
  refine lv_i2l hx hb dX9_foldSteps_41 rfl ?_
  refine g_cSl (As := [.long (rX9_fold (vX9_foldSteps_34 S p1) ((rX9_ofStep S (2 : Int32) (6 : Int32) (2 : Int32)).toInt64)), .long ((rX9_ofStep S (2 : Int32) (7 : Int32) (0 : Int32)).toInt64)]) (rest := []) ⟨hx, hb, hml, hown, hts⟩ (c_X9_fold l G cA a ha S L H.size (rX9_fold (vX9_foldSteps_34 S p1) ((rX9_ofStep S (2 : Int32) (6 : Int32) (2 : Int32)).toInt64)) ((rX9_ofStep S (2 : Int32) (7 : Int32) (0 : Int32)).toInt64)  ) (va_cwS 2 hts gX9_foldSteps_X9_fold rfl rfl rfl (by decide +kernel) ⟨Nat.le_of_ble_eq_true rfl, Nat.le_of_ble_eq_true rfl⟩) hK (mA_mono hS.1) hP hS rfl hl.1 rfl (lv_room (Nat.le_of_ble_eq_true rfl)) dX9_foldSteps_42 ⟨Nat.le_of_ble_eq_true rfl, Nat.le_of_ble_eq_true rfl⟩ (fun H locs hP hS _ _ => ?_)
  refine W.eq (g2 := F0 m 45 ls [.long (vX9_foldSteps_35 S p1)]) rfl ?_
  refine lv_lstore_n (lv' := [(3, .long (vX9_foldSteps_35 S p1)), (7, .int 0), (6, .int 7), (5, .int 2), (0, .ref (a 0)), (1, .long p1)]) hx hb dX9_foldSteps_45 rfl hl (by decide) rfl (fun ls hl => ?_)
  refine lv_iinc (v := 1) (lv' := [(7, .int 1), (3, .long (vX9_foldSteps_35 S p1)), (6, .int 7), (5, .int 2), (0, .ref (a 0)), (1, .long p1)]) hx hb dX9_foldSteps_46 hl (k := 1) rfl (by decide) (by decide) rfl (fun ls hl => ?_)
  refine lv_goto (tgt := 24) hx hb dX9_foldSteps_49 (by decide) ?_
  refine lv_iload hx hb dX9_foldSteps_24 (lv_at hl 0 rfl) ?_
  refine lv_iconst (v := 3) hx hb dX9_foldSteps_26 (by decide) ?_
  refine lv_icmp_ge (tgt := 52) hx hb dX9_foldSteps_27 (by decide) (fun c => absurd c (by decide)) (fun _ => ?_)
  refine lv_lload_n hx hb dX9_foldSteps_30 rfl (lv_at hl 1 rfl) ?_
  refine lv_aload_n hx hb dX9_foldSteps_31 rfl (lv_at hl 4 rfl) ?_
  refine lv_iload hx hb dX9_foldSteps_32 (lv_at hl 3 rfl) ?_
  refine lv_iload hx hb dX9_foldSteps_34 (lv_at hl 2 rfl) ?_
  refine lv_iload hx hb dX9_foldSteps_36 (lv_at hl 0 rfl) ?_
  refine g_cVi (As := [.int 2, .int 7, .int 1]) (rest := [.long (vX9_foldSteps_35 S p1)]) ⟨hx, hb, hml, hown, hts⟩ (c_X9_ofStep l G cA a ha S L H.size (2 : Int32) (7 : Int32) (1 : Int32)  (by decide) (by decide) (by decide) (by decide) (by decide) (by decide)) (cwV 3 hts gX9_foldSteps_X9_ofStep rfl rfl rfl (by decide +kernel) ⟨Nat.le_of_ble_eq_true rfl, Nat.le_of_ble_eq_true rfl⟩) (g_recv hK hP (by decide) rfl (C := RX9) (T := TX9) (N := 4) rfl) hK (mA_mono hS.1) hP hS rfl hl.1 rfl (lv_room (Nat.le_of_ble_eq_true rfl)) dX9_foldSteps_38 ⟨Nat.le_of_ble_eq_true rfl, Nat.le_of_ble_eq_true rfl⟩ (fun H locs hP hS _ _ => ?_)
  refine lv_i2l hx hb dX9_foldSteps_41 rfl ?_
  refine g_cSl (As := [.long (vX9_foldSteps_35 S p1), .long ((rX9_ofStep S (2 : Int32) (7 : Int32) (1 : Int32)).toInt64)]) (rest := []) ⟨hx, hb, hml, hown, hts⟩ (c_X9_fold l G cA a ha S L H.size (vX9_foldSteps_35 S p1) ((rX9_ofStep S (2 : Int32) (7 : Int32) (1 : Int32)).toInt64)  ) (va_cwS 2 hts gX9_foldSteps_X9_fold rfl rfl rfl (by decide +kernel) ⟨Nat.le_of_ble_eq_true rfl, Nat.le_of_ble_eq_true rfl⟩) hK (mA_mono hS.1) hP hS rfl hl.1 rfl (lv_room (Nat.le_of_ble_eq_true rfl)) dX9_foldSteps_42 ⟨Nat.le_of_ble_eq_true rfl, Nat.le_of_ble_eq_true rfl⟩ (fun H locs hP hS _ _ => ?_)
  refine lv_lstore_n (lv' := [(3, .long (rX9_fold (vX9_foldSteps_35 S p1) ((rX9_ofStep S (2 : Int32) (7 : Int32) (1 : Int32)).toInt64))), (7, .int 1), (6, .int 7), (5, .int 2), (0, .ref (a 0)), (1, .long p1)]) hx hb dX9_foldSteps_45 rfl hl (by decide) rfl (fun ls hl => ?_)
  refine lv_iinc (v := 2) (lv' := [(7, .int 2), (3, .long (rX9_fold (vX9_foldSteps_35 S p1) ((rX9_ofStep S (2 : Int32) (7 : Int32) (1 : Int32)).toInt64))), (6, .int 7), (5, .int 2), (0, .ref (a 0)), (1, .long p1)]) hx hb dX9_foldSteps_46 hl (k := 1) rfl (by decide) (by decide) rfl (fun ls hl => ?_)
  refine lv_goto (tgt := 24) hx hb dX9_foldSteps_49 (by decide) ?_
  refine lv_iload hx hb dX9_foldSteps_24 (lv_at hl 0 rfl) ?_
  refine lv_iconst (v := 3) hx hb dX9_foldSteps_26 (by decide) ?_
  refine lv_icmp_ge (tgt := 52) hx hb dX9_foldSteps_27 (by decide) (fun c => absurd c (by decide)) (fun _ => ?_)
  refine lv_lload_n hx hb dX9_foldSteps_30 rfl (lv_at hl 1 rfl) ?_
  refine lv_aload_n hx hb dX9_foldSteps_31 rfl (lv_at hl 4 rfl) ?_
  refine lv_iload hx hb dX9_foldSteps_32 (lv_at hl 3 rfl) ?_
  refine lv_iload hx hb dX9_foldSteps_34 (lv_at hl 2 rfl) ?_
  refine lv_iload hx hb dX9_foldSteps_36 (lv_at hl 0 rfl) ?_
  refine g_cVi (As := [.int 2, .int 7, .int 2]) (rest := [.long (rX9_fold (vX9_foldSteps_35 S p1) ((rX9_ofStep S (2 : Int32) (7 : Int32) (1 : Int32)).toInt64))]) ⟨hx, hb, hml, hown, hts⟩ (c_X9_ofStep l G cA a ha S L H.size (2 : Int32) (7 : Int32) (2 : Int32)  (by decide) (by decide) (by decide) (by decide) (by decide) (by decide)) (cwV 3 hts gX9_foldSteps_X9_ofStep rfl rfl rfl (by decide +kernel) ⟨Nat.le_of_ble_eq_true rfl, Nat.le_of_ble_eq_true rfl⟩) (g_recv hK hP (by decide) rfl (C := RX9) (T := TX9) (N := 4) rfl) hK (mA_mono hS.1) hP hS rfl hl.1 rfl (lv_room (Nat.le_of_ble_eq_true rfl)) dX9_foldSteps_38 ⟨Nat.le_of_ble_eq_true rfl, Nat.le_of_ble_eq_true rfl⟩ (fun H locs hP hS _ _ => ?_)
  refine lv_i2l hx hb dX9_foldSteps_41 rfl ?_
  refine g_cSl (As := [.long (rX9_fold (vX9_foldSteps_35 S p1) ((rX9_ofStep S (2 : Int32) (7 : Int32) (1 : Int32)).toInt64)), .long ((rX9_ofStep S (2 : Int32) (7 : Int32) (2 : Int32)).toInt64)]) (rest := []) ⟨hx, hb, hml, hown, hts⟩ (c_X9_fold l G cA a ha S L H.size (rX9_fold (vX9_foldSteps_35 S p1) ((rX9_ofStep S (2 : Int32) (7 : Int32) (1 : Int32)).toInt64)) ((rX9_ofStep S (2 : Int32) (7 : Int32) (2 : Int32)).toInt64)  ) (va_cwS 2 hts gX9_foldSteps_X9_fold rfl rfl rfl (by decide +kernel) ⟨Nat.le_of_ble_eq_true rfl, Nat.le_of_ble_eq_true rfl⟩) hK (mA_mono hS.1) hP hS rfl hl.1 rfl (lv_room (Nat.le_of_ble_eq_true rfl)) dX9_foldSteps_42 ⟨Nat.le_of_ble_eq_true rfl, Nat.le_of_ble_eq_true rfl⟩ (fun H locs hP hS _ _ => ?_)
  refine W.eq (g2 := F0 m 45 ls [.long (vX9_foldSteps_36 S p1)]) rfl ?_
  refine lv_lstore_n (lv' := [(3, .long (vX9_foldSteps_36 S p1)), (7, .int 2), (6, .int 7), (5, .int 2), (0, .ref (a 0)), (1, .long p1)]) hx hb dX9_foldSteps_45 rfl hl (by decide) rfl (fun ls hl => ?_)
  refine lv_iinc (v := 3) (lv' := [(7, .int 3), (3, .long (vX9_foldSteps_36 S p1)), (6, .int 7), (5, .int 2), (0, .ref (a 0)), (1, .long p1)]) hx hb dX9_foldSteps_46 hl (k := 1) rfl (by decide) (by decide) rfl (fun ls hl => ?_)
  refine lv_goto (tgt := 24) hx hb dX9_foldSteps_49 (by decide) ?_
  refine lv_iload hx hb dX9_foldSteps_24 (lv_at hl 0 rfl) ?_
  refine lv_iconst (v := 3) hx hb dX9_foldSteps_26 (by decide) ?_
  refine lv_icmp_ge (tgt := 52) hx hb dX9_foldSteps_27 (by decide) (fun _ => ?_) (fun c => absurd c (by decide))
  refine lv_iinc (v := 8) (lv' := [(6, .int 8), (7, .int 3), (3, .long (vX9_foldSteps_36 S p1)), (5, .int 2), (0, .ref (a 0)), (1, .long p1)]) hx hb dX9_foldSteps_52 hl (k := 2) rfl (by decide) (by decide) rfl (fun ls hl => ?_)
  refine lv_goto (tgt := 14) hx hb dX9_foldSteps_55 (by decide) ?_
  refine lv_iload hx hb dX9_foldSteps_14 (lv_at hl 0 rfl) ?_
  refine lv_bipush (v := 8) hx hb dX9_foldSteps_16 (by decide) ?_
  refine lv_icmp_ge (tgt := 58) hx hb dX9_foldSteps_18 (by decide) (fun _ => ?_) (fun c => absurd c (by decide))
  refine lv_iinc (v := 3) (lv' := [(5, .int 3), (6, .int 8), (7, .int 3), (3, .long (vX9_foldSteps_36 S p1)), (0, .ref (a 0)), (1, .long p1)]) hx hb dX9_foldSteps_58 hl (k := 3) rfl (by decide) (by decide) rfl (fun ls hl => ?_)
  refine lv_goto (tgt := 5) hx hb dX9_foldSteps_61 (by decide) ?_
  refine lv_iload hx hb dX9_foldSteps_5 (lv_at hl 0 rfl) ?_
  refine lv_iconst (v := 3) hx hb dX9_foldSteps_7 (by decide) ?_
  refine lv_icmp_ge (tgt := 64) hx hb dX9_foldSteps_8 (by decide) (fun _ => ?_) (fun c => absurd c (by decide))
  refine lv_lload_n hx hb dX9_foldSteps_64 rfl (lv_at hl 3 rfl) ?_
  exact g_lret hx hb hr hlocks (by unfold rX9_foldSteps; rfl) rfl rfl hP hS dX9_foldSteps_65

def bX9_foldDelay_5_z3 (S : Mm) (p1 : Int64) (z3 : Int64) (i : Nat) : Int64 := rX9_fold z3 ((rX9_inDelay S (nI i)).toInt64)
def lpX9_foldDelay_5 (S : Mm) (p1 : Int64) : Nat → Int64
  | 0 => p1
  | i + 1 => bX9_foldDelay_5_z3 S p1 (lpX9_foldDelay_5 S p1 i) i
theorem lpX9_foldDelay_5_0 (S : Mm) (p1 : Int64) : lpX9_foldDelay_5 S p1 0 = p1 := by rw [lpX9_foldDelay_5]
theorem lpX9_foldDelay_5_s (S : Mm) (p1 : Int64) (i : Nat) : lpX9_foldDelay_5 S p1 (i + 1) = bX9_foldDelay_5_z3 S p1 (lpX9_foldDelay_5 S p1 i) i := by rw [lpX9_foldDelay_5]
def rX9_foldDelay (S : Mm) (p1 : Int64) : Int64 := (lpX9_foldDelay_5 S p1 ((S 19 0).toNatClampNeg))
theorem iX9_foldDelay_X0 : ∀ w ∈ u_ws RX0 TX0 5, w ∈ wsX9_foldDelay := by decide +kernel
theorem iX9_foldDelay_X6 : ∀ w ∈ u_ws RX6 TX6 12, w ∈ wsX9_foldDelay := by decide +kernel
theorem iX9_foldDelay_X9 : ∀ w ∈ u_ws RX9 TX9 4, w ∈ wsX9_foldDelay := by decide +kernel
set_option maxHeartbeats 4000000 in
set_option maxRecDepth 100000 in
theorem c_X9_foldDelay (l : Launch) (G : va_G) (cA : ClassId) (a : Nat → Nat) (ha : apart 37 a) (S : Mm) (L : Int64) (sz : Nat) (p1 : Int64)  : Met l yX9_foldDelay wsX9_foldDelay ({ frames := 3, cells := 0, slots := 0, locals := 64 } : Room) (va_Pc [.ref (a 0), .long p1] (gI G cA (a 37) 37 a (cM a cA) S L sz)) (gQl (rX9_foldDelay S p1) G 37 a (cM a cA) S L sz) 0 0 (mA 37 a sz) := by
  refine g_met (cc := cX9_foldDelay) (maxL := 6) (ret := (some .long)) (by decide) rfl (Nat.le_of_ble_eq_true rfl) ?_
  intro p e s m below meth c ls hx hb hr hlocks hml hts hown hnm hsz hK hP hS hl
  subst hsz
  have hl : lv_has ls 6 [(0, .ref (a 0)), (1, .long p1)] := hl
  refine lv_lload_n hx hb dX9_foldDelay_0 rfl (lv_at hl 1 rfl) ?_
  refine lv_lstore_n (lv' := [(3, .long p1), (0, .ref (a 0)), (1, .long p1)]) hx hb dX9_foldDelay_1 rfl hl (by decide) rfl (fun ls hl => ?_)
  refine lv_iconst (v := 0) hx hb dX9_foldDelay_2 (by decide) ?_
  refine lv_istore (lv' := [(5, .int 0), (3, .long p1), (0, .ref (a 0)), (1, .long p1)]) hx hb dX9_foldDelay_3 hl (by decide) rfl (fun ls hl => ?_)
  have loop : ∀ (k i : Nat), i ≤ (S 19 0).toNatClampNeg → (S 19 0).toNatClampNeg < i + k → ∀ (z3 : Int64) (H : Heap) (locs : List Loc) (ls : Array Slot), z3 = (lpX9_foldDelay_5 S p1 i) → va_P G vwCl (wG 37 a (cM a cA) S L) H → va_S (mA 37 a s.heap.size) s.heap H locs → lv_has ls 6 [(5, .int (nI i)), (3, .long z3), (0, .ref (a 0)), (1, .long p1)] → W p l e ({ frames := 3, cells := 0, slots := 0, locals := 64 } : Room) s m ([.ref (a 0), .long p1] : List Value).toArray below meth c H locs 0 0 (MQ below (gQl (rX9_foldDelay S p1) G 37 a (cM a cA) S L s.heap.size) ([.ref (a 0), .long p1] : List Value).toArray s 0 0 (mA 37 a s.heap.size)) (F0 m 5 ls []) := by
    intro k
    induction k with
    | zero => intro i h1 h2; omega
    | succ k ih =>
      intro i hi hk z3 H locs ls ez3 hP hS hl
      refine lv_iload hx hb dX9_foldDelay_5 (lv_at hl 0 rfl) ?_
      refine lv_aload_n hx hb dX9_foldDelay_7 rfl (lv_at hl 2 rfl) ?_
      refine g_get (ci := 9) (C := RX9) (T := TX9) (N := 4) (v := .ref (a 18)) hx hb hts iX9_foldDelay_X9 hown hK hP (by decide) rfl rfl 1 (by decide) rfl (by decide +kernel) rfl dX9_foldDelay_8 ?_
      refine g_get (ci := 6) (C := RX6) (T := TX6) (N := 12) (v := .ref (a 19)) hx hb hts iX9_foldDelay_X6 hown hK hP (lt_G (by decide)) (cM_G (by decide)) rfl 1 (by decide) rfl (by decide +kernel) rfl dX9_foldDelay_11 ?_
      refine g_get (ci := 0) (C := RX0) (T := TX0) (N := 5) (v := .int (S 19 0)) hx hb hts iX9_foldDelay_X0 hown hK hP (lt_Dl (isDl_G (by decide))) (cM_Dl (isDl_G (by decide))) rfl 0 (by decide) rfl (by decide +kernel) rfl dX9_foldDelay_14 ?_
      refine lv_icmp_ge (tgt := 38) hx hb dX9_foldDelay_17 (by decide) (fun cx => ?_) (fun cx => ?_)
      ·
        have hN := lx_exit hi cx
        subst hN
        rw [ez3] at hl
        refine lv_lload_n hx hb dX9_foldDelay_38 rfl (lv_at hl 1 rfl) ?_
        exact g_lret hx hb hr hlocks (by unfold rX9_foldDelay; rfl) rfl rfl hP hS dX9_foldDelay_39
      ·
        have hlt := lx_body cx hi
        refine lv_lload_n hx hb dX9_foldDelay_20 rfl (lv_at hl 1 rfl) ?_
        refine lv_aload_n hx hb dX9_foldDelay_21 rfl (lv_at hl 2 rfl) ?_
        refine lv_iload hx hb dX9_foldDelay_22 (lv_at hl 0 rfl) ?_
        refine g_cVi (As := [.int (nI i)]) (rest := [.long z3]) ⟨hx, hb, hml, hown, hts⟩ (c_X9_inDelay l G cA a ha S L H.size (nI i)  (lx_nn hlt) (lx_lt hlt)) (cwV 1 hts gX9_foldDelay_X9_inDelay rfl rfl rfl (by decide +kernel) ⟨Nat.le_of_ble_eq_true rfl, Nat.le_of_ble_eq_true rfl⟩) (g_recv hK hP (by decide) rfl (C := RX9) (T := TX9) (N := 4) rfl) hK (mA_mono hS.1) hP hS rfl hl.1 rfl (lv_room (Nat.le_of_ble_eq_true rfl)) dX9_foldDelay_24 ⟨Nat.le_of_ble_eq_true rfl, Nat.le_of_ble_eq_true rfl⟩ (fun H locs hP hS _ _ => ?_)
        refine lv_i2l hx hb dX9_foldDelay_27 rfl ?_
        refine g_cSl (As := [.long z3, .long ((rX9_inDelay S (nI i)).toInt64)]) (rest := []) ⟨hx, hb, hml, hown, hts⟩ (c_X9_fold l G cA a ha S L H.size z3 ((rX9_inDelay S (nI i)).toInt64)  ) (va_cwS 2 hts gX9_foldDelay_X9_fold rfl rfl rfl (by decide +kernel) ⟨Nat.le_of_ble_eq_true rfl, Nat.le_of_ble_eq_true rfl⟩) hK (mA_mono hS.1) hP hS rfl hl.1 rfl (lv_room (Nat.le_of_ble_eq_true rfl)) dX9_foldDelay_28 ⟨Nat.le_of_ble_eq_true rfl, Nat.le_of_ble_eq_true rfl⟩ (fun H locs hP hS _ _ => ?_)
        refine lv_lstore_n (lv' := [(3, .long (rX9_fold z3 ((rX9_inDelay S (nI i)).toInt64))), (5, .int (nI i)), (0, .ref (a 0)), (1, .long p1)]) hx hb dX9_foldDelay_31 rfl hl (by decide) rfl (fun ls hl => ?_)
        refine lv_iinc (v := nI (i + 1)) (lv' := [(5, .int (nI (i + 1))), (3, .long (rX9_fold z3 ((rX9_inDelay S (nI i)).toInt64))), (0, .ref (a 0)), (1, .long p1)]) hx hb dX9_foldDelay_32 hl (k := 1) rfl (nI_1 i) (by decide) rfl (fun ls hl => ?_)
        refine lv_goto (tgt := 5) hx hb dX9_foldDelay_35 (by decide) ?_
        exact ih (i + 1) (by omega) (by omega) (rX9_fold z3 ((rX9_inDelay S (nI i)).toInt64)) _ _ _ (by rw [lpX9_foldDelay_5_s]; (try rw [← ez3]); (try dsimp only); unfold bX9_foldDelay_5_z3; rfl) hP hS (lv_sub hl [0, 1, 2, 3] rfl)
  exact loop ((S 19 0).toNatClampNeg + 1) 0 (Nat.zero_le _) (by omega) p1 _ _ _ (by rw [lpX9_foldDelay_5_0]) hP hS (lv_sub hl [0, 1, 2, 3] rfl)

def vX9_digest_1 (S : Mm) : Int64 := rX9_fold (rX9_fold (rX9_fold 58051 ((rX9_clock S).toInt64)) ((rX9_heard S (0 : Int32)).toInt64)) ((rX9_heard S (1 : Int32)).toInt64)
def vX9_digest_2 (S : Mm) : Int64 := rX9_fold (rX9_fold (vX9_digest_1 S) ((rX9_heard S (2 : Int32)).toInt64)) ((rX9_heard S (3 : Int32)).toInt64)
def vX9_digest_3 (S : Mm) : Int64 := rX9_fold (rX9_fold (vX9_digest_2 S) ((rX9_heard S (4 : Int32)).toInt64)) ((rX9_heard S (5 : Int32)).toInt64)
def vX9_digest_4 (S : Mm) : Int64 := rX9_fold (rX9_fold (vX9_digest_3 S) ((rX9_heard S (6 : Int32)).toInt64)) ((rX9_heard S (7 : Int32)).toInt64)
def vX9_digest_5 (S : Mm) : Int64 := rX9_fold (rX9_fold (rX9_fold (vX9_digest_4 S) ((rX9_peak S).toInt64)) ((rX9_clipped S).toInt64)) ((rX9_crossings S).toInt64)
def jX9_digest_6 (S : Mm) : Int64 := (if rX9_isPlaying S = 0 then 0 else 1)
def vX9_digest_7 (S : Mm) : Int64 := rX9_fold (rX9_fold (rX9_fold (vX9_digest_5 S) ((rX9_sounding S).toInt64)) ((rX9_taken S).toInt64)) (jX9_digest_6 S)
def vX9_digest_8 (S : Mm) : Int64 := rX9_foldVoices S (rX9_fold (rX9_fold (vX9_digest_7 S) ((rX9_step S).toInt64)) ((rX9_nextVoice S).toInt64))
def rX9_digest (S : Mm) : Int64 := rX9_foldDelay S (rX9_foldSteps S (vX9_digest_8 S))
set_option maxHeartbeats 4000000 in
set_option maxRecDepth 100000 in
theorem c_X9_digest (l : Launch) (G : va_G) (cA : ClassId) (a : Nat → Nat) (ha : apart 37 a) (S : Mm) (L : Int64) (sz : Nat)   (hh1 : narrow .boolean (.int (S 18 9)) = .int (S 18 9)) : Met l yX9_digest wsX9_digest ({ frames := 5, cells := 0, slots := 0, locals := 116 } : Room) (va_Pc [.ref (a 0)] (gI G cA (a 37) 37 a (cM a cA) S L sz)) (gQl (rX9_digest S) G 37 a (cM a cA) S L sz) 0 0 (mA 37 a sz) := by
  refine g_met (cc := cX9_digest) (maxL := 4) (ret := (some .long)) (by decide) rfl (Nat.le_of_ble_eq_true rfl) ?_
  intro p e s m below meth c ls hx hb hr hlocks hml hts hown hnm hsz hK hP hS hl
  subst hsz
  have hl : lv_has ls 4 [(0, .ref (a 0))] := hl
  refine lv_ldc2 (v := 58051) hx hb hown (hts (.constantLong RX9 245 58051) (by decide +kernel)) dX9_digest_0 ?_
  refine lv_aload_n hx hb dX9_digest_3 rfl (lv_at hl 0 rfl) ?_
  refine g_cVi (As := []) (rest := [.long 58051]) ⟨hx, hb, hml, hown, hts⟩ (c_X9_clock l G cA a ha S L s.heap.size   ) (cwV 0 hts gX9_digest_X9_clock rfl rfl rfl (by decide +kernel) ⟨Nat.le_of_ble_eq_true rfl, Nat.le_of_ble_eq_true rfl⟩) (g_recv hK hP (by decide) rfl (C := RX9) (T := TX9) (N := 4) rfl) hK (mA_mono hS.1) hP hS rfl hl.1 rfl (lv_room (Nat.le_of_ble_eq_true rfl)) dX9_digest_4 ⟨Nat.le_of_ble_eq_true rfl, Nat.le_of_ble_eq_true rfl⟩ (fun H locs hP hS _ _ => ?_)
  refine lv_i2l hx hb dX9_digest_7 rfl ?_
  refine g_cSl (As := [.long 58051, .long ((rX9_clock S).toInt64)]) (rest := []) ⟨hx, hb, hml, hown, hts⟩ (c_X9_fold l G cA a ha S L H.size 58051 ((rX9_clock S).toInt64)  ) (va_cwS 2 hts gX9_digest_X9_fold rfl rfl rfl (by decide +kernel) ⟨Nat.le_of_ble_eq_true rfl, Nat.le_of_ble_eq_true rfl⟩) hK (mA_mono hS.1) hP hS rfl hl.1 rfl (lv_room (Nat.le_of_ble_eq_true rfl)) dX9_digest_8 ⟨Nat.le_of_ble_eq_true rfl, Nat.le_of_ble_eq_true rfl⟩ (fun H locs hP hS _ _ => ?_)
  refine lv_lstore_n (lv' := [(1, .long (rX9_fold 58051 ((rX9_clock S).toInt64))), (0, .ref (a 0))]) hx hb dX9_digest_11 rfl hl (by decide) rfl (fun ls hl => ?_)
  refine lv_iconst (v := 0) hx hb dX9_digest_12 (by decide) ?_
  refine lv_istore_n (lv' := [(3, .int 0), (1, .long (rX9_fold 58051 ((rX9_clock S).toInt64))), (0, .ref (a 0))]) hx hb dX9_digest_13 rfl hl (by decide) rfl (fun ls hl => ?_)
  refine lv_iload_n hx hb dX9_digest_14 rfl (lv_at hl 0 rfl) ?_
  refine lv_bipush (v := 8) hx hb dX9_digest_15 (by decide) ?_
  refine lv_icmp_ge (tgt := 37) hx hb dX9_digest_17 (by decide) (fun c => absurd c (by decide)) (fun _ => ?_)
  refine lv_lload_n hx hb dX9_digest_20 rfl (lv_at hl 1 rfl) ?_
  refine lv_aload_n hx hb dX9_digest_21 rfl (lv_at hl 2 rfl) ?_
  refine lv_iload_n hx hb dX9_digest_22 rfl (lv_at hl 0 rfl) ?_
  refine g_cVi (As := [.int 0]) (rest := [.long (rX9_fold 58051 ((rX9_clock S).toInt64))]) ⟨hx, hb, hml, hown, hts⟩ (c_X9_heard l G cA a ha S L H.size (0 : Int32)  (by decide) (by decide)) (cwV 1 hts gX9_digest_X9_heard rfl rfl rfl (by decide +kernel) ⟨Nat.le_of_ble_eq_true rfl, Nat.le_of_ble_eq_true rfl⟩) (g_recv hK hP (by decide) rfl (C := RX9) (T := TX9) (N := 4) rfl) hK (mA_mono hS.1) hP hS rfl hl.1 rfl (lv_room (Nat.le_of_ble_eq_true rfl)) dX9_digest_23 ⟨Nat.le_of_ble_eq_true rfl, Nat.le_of_ble_eq_true rfl⟩ (fun H locs hP hS _ _ => ?_)
  refine lv_i2l hx hb dX9_digest_26 rfl ?_
  refine g_cSl (As := [.long (rX9_fold 58051 ((rX9_clock S).toInt64)), .long ((rX9_heard S (0 : Int32)).toInt64)]) (rest := []) ⟨hx, hb, hml, hown, hts⟩ (c_X9_fold l G cA a ha S L H.size (rX9_fold 58051 ((rX9_clock S).toInt64)) ((rX9_heard S (0 : Int32)).toInt64)  ) (va_cwS 2 hts gX9_digest_X9_fold rfl rfl rfl (by decide +kernel) ⟨Nat.le_of_ble_eq_true rfl, Nat.le_of_ble_eq_true rfl⟩) hK (mA_mono hS.1) hP hS rfl hl.1 rfl (lv_room (Nat.le_of_ble_eq_true rfl)) dX9_digest_27 ⟨Nat.le_of_ble_eq_true rfl, Nat.le_of_ble_eq_true rfl⟩ (fun H locs hP hS _ _ => ?_)
  refine lv_lstore_n (lv' := [(1, .long (rX9_fold (rX9_fold 58051 ((rX9_clock S).toInt64)) ((rX9_heard S (0 : Int32)).toInt64))), (3, .int 0), (0, .ref (a 0))]) hx hb dX9_digest_30 rfl hl (by decide) rfl (fun ls hl => ?_)
  refine lv_iinc (v := 1) (lv' := [(3, .int 1), (1, .long (rX9_fold (rX9_fold 58051 ((rX9_clock S).toInt64)) ((rX9_heard S (0 : Int32)).toInt64))), (0, .ref (a 0))]) hx hb dX9_digest_31 hl (k := 1) rfl (by decide) (by decide) rfl (fun ls hl => ?_)
  refine lv_goto (tgt := 14) hx hb dX9_digest_34 (by decide) ?_
  refine lv_iload_n hx hb dX9_digest_14 rfl (lv_at hl 0 rfl) ?_
  refine lv_bipush (v := 8) hx hb dX9_digest_15 (by decide) ?_
  refine lv_icmp_ge (tgt := 37) hx hb dX9_digest_17 (by decide) (fun c => absurd c (by decide)) (fun _ => ?_)
  refine lv_lload_n hx hb dX9_digest_20 rfl (lv_at hl 1 rfl) ?_
  refine lv_aload_n hx hb dX9_digest_21 rfl (lv_at hl 2 rfl) ?_
  refine lv_iload_n hx hb dX9_digest_22 rfl (lv_at hl 0 rfl) ?_
  refine g_cVi (As := [.int 1]) (rest := [.long (rX9_fold (rX9_fold 58051 ((rX9_clock S).toInt64)) ((rX9_heard S (0 : Int32)).toInt64))]) ⟨hx, hb, hml, hown, hts⟩ (c_X9_heard l G cA a ha S L H.size (1 : Int32)  (by decide) (by decide)) (cwV 1 hts gX9_digest_X9_heard rfl rfl rfl (by decide +kernel) ⟨Nat.le_of_ble_eq_true rfl, Nat.le_of_ble_eq_true rfl⟩) (g_recv hK hP (by decide) rfl (C := RX9) (T := TX9) (N := 4) rfl) hK (mA_mono hS.1) hP hS rfl hl.1 rfl (lv_room (Nat.le_of_ble_eq_true rfl)) dX9_digest_23 ⟨Nat.le_of_ble_eq_true rfl, Nat.le_of_ble_eq_true rfl⟩ (fun H locs hP hS _ _ => ?_)
  refine lv_i2l hx hb dX9_digest_26 rfl ?_
  refine g_cSl (As := [.long (rX9_fold (rX9_fold 58051 ((rX9_clock S).toInt64)) ((rX9_heard S (0 : Int32)).toInt64)), .long ((rX9_heard S (1 : Int32)).toInt64)]) (rest := []) ⟨hx, hb, hml, hown, hts⟩ (c_X9_fold l G cA a ha S L H.size (rX9_fold (rX9_fold 58051 ((rX9_clock S).toInt64)) ((rX9_heard S (0 : Int32)).toInt64)) ((rX9_heard S (1 : Int32)).toInt64)  ) (va_cwS 2 hts gX9_digest_X9_fold rfl rfl rfl (by decide +kernel) ⟨Nat.le_of_ble_eq_true rfl, Nat.le_of_ble_eq_true rfl⟩) hK (mA_mono hS.1) hP hS rfl hl.1 rfl (lv_room (Nat.le_of_ble_eq_true rfl)) dX9_digest_27 ⟨Nat.le_of_ble_eq_true rfl, Nat.le_of_ble_eq_true rfl⟩ (fun H locs hP hS _ _ => ?_)
  refine W.eq (g2 := F0 m 30 ls [.long (vX9_digest_1 S)]) rfl ?_
  refine lv_lstore_n (lv' := [(1, .long (vX9_digest_1 S)), (3, .int 1), (0, .ref (a 0))]) hx hb dX9_digest_30 rfl hl (by decide) rfl (fun ls hl => ?_)
  refine lv_iinc (v := 2) (lv' := [(3, .int 2), (1, .long (vX9_digest_1 S)), (0, .ref (a 0))]) hx hb dX9_digest_31 hl (k := 1) rfl (by decide) (by decide) rfl (fun ls hl => ?_)
  refine lv_goto (tgt := 14) hx hb dX9_digest_34 (by decide) ?_
  refine lv_iload_n hx hb dX9_digest_14 rfl (lv_at hl 0 rfl) ?_
  refine lv_bipush (v := 8) hx hb dX9_digest_15 (by decide) ?_
  refine lv_icmp_ge (tgt := 37) hx hb dX9_digest_17 (by decide) (fun c => absurd c (by decide)) (fun _ => ?_)
  refine lv_lload_n hx hb dX9_digest_20 rfl (lv_at hl 1 rfl) ?_
  refine lv_aload_n hx hb dX9_digest_21 rfl (lv_at hl 2 rfl) ?_
  refine lv_iload_n hx hb dX9_digest_22 rfl (lv_at hl 0 rfl) ?_
  refine g_cVi (As := [.int 2]) (rest := [.long (vX9_digest_1 S)]) ⟨hx, hb, hml, hown, hts⟩ (c_X9_heard l G cA a ha S L H.size (2 : Int32)  (by decide) (by decide)) (cwV 1 hts gX9_digest_X9_heard rfl rfl rfl (by decide +kernel) ⟨Nat.le_of_ble_eq_true rfl, Nat.le_of_ble_eq_true rfl⟩) (g_recv hK hP (by decide) rfl (C := RX9) (T := TX9) (N := 4) rfl) hK (mA_mono hS.1) hP hS rfl hl.1 rfl (lv_room (Nat.le_of_ble_eq_true rfl)) dX9_digest_23 ⟨Nat.le_of_ble_eq_true rfl, Nat.le_of_ble_eq_true rfl⟩ (fun H locs hP hS _ _ => ?_)
  refine lv_i2l hx hb dX9_digest_26 rfl ?_
  refine g_cSl (As := [.long (vX9_digest_1 S), .long ((rX9_heard S (2 : Int32)).toInt64)]) (rest := []) ⟨hx, hb, hml, hown, hts⟩ (c_X9_fold l G cA a ha S L H.size (vX9_digest_1 S) ((rX9_heard S (2 : Int32)).toInt64)  ) (va_cwS 2 hts gX9_digest_X9_fold rfl rfl rfl (by decide +kernel) ⟨Nat.le_of_ble_eq_true rfl, Nat.le_of_ble_eq_true rfl⟩) hK (mA_mono hS.1) hP hS rfl hl.1 rfl (lv_room (Nat.le_of_ble_eq_true rfl)) dX9_digest_27 ⟨Nat.le_of_ble_eq_true rfl, Nat.le_of_ble_eq_true rfl⟩ (fun H locs hP hS _ _ => ?_)
  refine lv_lstore_n (lv' := [(1, .long (rX9_fold (vX9_digest_1 S) ((rX9_heard S (2 : Int32)).toInt64))), (3, .int 2), (0, .ref (a 0))]) hx hb dX9_digest_30 rfl hl (by decide) rfl (fun ls hl => ?_)
  refine lv_iinc (v := 3) (lv' := [(3, .int 3), (1, .long (rX9_fold (vX9_digest_1 S) ((rX9_heard S (2 : Int32)).toInt64))), (0, .ref (a 0))]) hx hb dX9_digest_31 hl (k := 1) rfl (by decide) (by decide) rfl (fun ls hl => ?_)
  refine lv_goto (tgt := 14) hx hb dX9_digest_34 (by decide) ?_
  refine lv_iload_n hx hb dX9_digest_14 rfl (lv_at hl 0 rfl) ?_
  refine lv_bipush (v := 8) hx hb dX9_digest_15 (by decide) ?_
  refine lv_icmp_ge (tgt := 37) hx hb dX9_digest_17 (by decide) (fun c => absurd c (by decide)) (fun _ => ?_)
  refine lv_lload_n hx hb dX9_digest_20 rfl (lv_at hl 1 rfl) ?_
  refine lv_aload_n hx hb dX9_digest_21 rfl (lv_at hl 2 rfl) ?_
  refine lv_iload_n hx hb dX9_digest_22 rfl (lv_at hl 0 rfl) ?_
  refine g_cVi (As := [.int 3]) (rest := [.long (rX9_fold (vX9_digest_1 S) ((rX9_heard S (2 : Int32)).toInt64))]) ⟨hx, hb, hml, hown, hts⟩ (c_X9_heard l G cA a ha S L H.size (3 : Int32)  (by decide) (by decide)) (cwV 1 hts gX9_digest_X9_heard rfl rfl rfl (by decide +kernel) ⟨Nat.le_of_ble_eq_true rfl, Nat.le_of_ble_eq_true rfl⟩) (g_recv hK hP (by decide) rfl (C := RX9) (T := TX9) (N := 4) rfl) hK (mA_mono hS.1) hP hS rfl hl.1 rfl (lv_room (Nat.le_of_ble_eq_true rfl)) dX9_digest_23 ⟨Nat.le_of_ble_eq_true rfl, Nat.le_of_ble_eq_true rfl⟩ (fun H locs hP hS _ _ => ?_)
  refine lv_i2l hx hb dX9_digest_26 rfl ?_
  refine g_cSl (As := [.long (rX9_fold (vX9_digest_1 S) ((rX9_heard S (2 : Int32)).toInt64)), .long ((rX9_heard S (3 : Int32)).toInt64)]) (rest := []) ⟨hx, hb, hml, hown, hts⟩ (c_X9_fold l G cA a ha S L H.size (rX9_fold (vX9_digest_1 S) ((rX9_heard S (2 : Int32)).toInt64)) ((rX9_heard S (3 : Int32)).toInt64)  ) (va_cwS 2 hts gX9_digest_X9_fold rfl rfl rfl (by decide +kernel) ⟨Nat.le_of_ble_eq_true rfl, Nat.le_of_ble_eq_true rfl⟩) hK (mA_mono hS.1) hP hS rfl hl.1 rfl (lv_room (Nat.le_of_ble_eq_true rfl)) dX9_digest_27 ⟨Nat.le_of_ble_eq_true rfl, Nat.le_of_ble_eq_true rfl⟩ (fun H locs hP hS _ _ => ?_)
  refine W.eq (g2 := F0 m 30 ls [.long (vX9_digest_2 S)]) rfl ?_
  refine lv_lstore_n (lv' := [(1, .long (vX9_digest_2 S)), (3, .int 3), (0, .ref (a 0))]) hx hb dX9_digest_30 rfl hl (by decide) rfl (fun ls hl => ?_)
  refine lv_iinc (v := 4) (lv' := [(3, .int 4), (1, .long (vX9_digest_2 S)), (0, .ref (a 0))]) hx hb dX9_digest_31 hl (k := 1) rfl (by decide) (by decide) rfl (fun ls hl => ?_)
  refine lv_goto (tgt := 14) hx hb dX9_digest_34 (by decide) ?_
  refine lv_iload_n hx hb dX9_digest_14 rfl (lv_at hl 0 rfl) ?_
  refine lv_bipush (v := 8) hx hb dX9_digest_15 (by decide) ?_
  refine lv_icmp_ge (tgt := 37) hx hb dX9_digest_17 (by decide) (fun c => absurd c (by decide)) (fun _ => ?_)
  refine lv_lload_n hx hb dX9_digest_20 rfl (lv_at hl 1 rfl) ?_
  refine lv_aload_n hx hb dX9_digest_21 rfl (lv_at hl 2 rfl) ?_
  refine lv_iload_n hx hb dX9_digest_22 rfl (lv_at hl 0 rfl) ?_
  refine g_cVi (As := [.int 4]) (rest := [.long (vX9_digest_2 S)]) ⟨hx, hb, hml, hown, hts⟩ (c_X9_heard l G cA a ha S L H.size (4 : Int32)  (by decide) (by decide)) (cwV 1 hts gX9_digest_X9_heard rfl rfl rfl (by decide +kernel) ⟨Nat.le_of_ble_eq_true rfl, Nat.le_of_ble_eq_true rfl⟩) (g_recv hK hP (by decide) rfl (C := RX9) (T := TX9) (N := 4) rfl) hK (mA_mono hS.1) hP hS rfl hl.1 rfl (lv_room (Nat.le_of_ble_eq_true rfl)) dX9_digest_23 ⟨Nat.le_of_ble_eq_true rfl, Nat.le_of_ble_eq_true rfl⟩ (fun H locs hP hS _ _ => ?_)
  refine lv_i2l hx hb dX9_digest_26 rfl ?_
  refine g_cSl (As := [.long (vX9_digest_2 S), .long ((rX9_heard S (4 : Int32)).toInt64)]) (rest := []) ⟨hx, hb, hml, hown, hts⟩ (c_X9_fold l G cA a ha S L H.size (vX9_digest_2 S) ((rX9_heard S (4 : Int32)).toInt64)  ) (va_cwS 2 hts gX9_digest_X9_fold rfl rfl rfl (by decide +kernel) ⟨Nat.le_of_ble_eq_true rfl, Nat.le_of_ble_eq_true rfl⟩) hK (mA_mono hS.1) hP hS rfl hl.1 rfl (lv_room (Nat.le_of_ble_eq_true rfl)) dX9_digest_27 ⟨Nat.le_of_ble_eq_true rfl, Nat.le_of_ble_eq_true rfl⟩ (fun H locs hP hS _ _ => ?_)
  refine lv_lstore_n (lv' := [(1, .long (rX9_fold (vX9_digest_2 S) ((rX9_heard S (4 : Int32)).toInt64))), (3, .int 4), (0, .ref (a 0))]) hx hb dX9_digest_30 rfl hl (by decide) rfl (fun ls hl => ?_)
  refine lv_iinc (v := 5) (lv' := [(3, .int 5), (1, .long (rX9_fold (vX9_digest_2 S) ((rX9_heard S (4 : Int32)).toInt64))), (0, .ref (a 0))]) hx hb dX9_digest_31 hl (k := 1) rfl (by decide) (by decide) rfl (fun ls hl => ?_)
  refine lv_goto (tgt := 14) hx hb dX9_digest_34 (by decide) ?_
  refine lv_iload_n hx hb dX9_digest_14 rfl (lv_at hl 0 rfl) ?_
  refine lv_bipush (v := 8) hx hb dX9_digest_15 (by decide) ?_
  refine lv_icmp_ge (tgt := 37) hx hb dX9_digest_17 (by decide) (fun c => absurd c (by decide)) (fun _ => ?_)
  refine lv_lload_n hx hb dX9_digest_20 rfl (lv_at hl 1 rfl) ?_
  refine lv_aload_n hx hb dX9_digest_21 rfl (lv_at hl 2 rfl) ?_
  refine lv_iload_n hx hb dX9_digest_22 rfl (lv_at hl 0 rfl) ?_
  refine g_cVi (As := [.int 5]) (rest := [.long (rX9_fold (vX9_digest_2 S) ((rX9_heard S (4 : Int32)).toInt64))]) ⟨hx, hb, hml, hown, hts⟩ (c_X9_heard l G cA a ha S L H.size (5 : Int32)  (by decide) (by decide)) (cwV 1 hts gX9_digest_X9_heard rfl rfl rfl (by decide +kernel) ⟨Nat.le_of_ble_eq_true rfl, Nat.le_of_ble_eq_true rfl⟩) (g_recv hK hP (by decide) rfl (C := RX9) (T := TX9) (N := 4) rfl) hK (mA_mono hS.1) hP hS rfl hl.1 rfl (lv_room (Nat.le_of_ble_eq_true rfl)) dX9_digest_23 ⟨Nat.le_of_ble_eq_true rfl, Nat.le_of_ble_eq_true rfl⟩ (fun H locs hP hS _ _ => ?_)
  refine lv_i2l hx hb dX9_digest_26 rfl ?_
  refine g_cSl (As := [.long (rX9_fold (vX9_digest_2 S) ((rX9_heard S (4 : Int32)).toInt64)), .long ((rX9_heard S (5 : Int32)).toInt64)]) (rest := []) ⟨hx, hb, hml, hown, hts⟩ (c_X9_fold l G cA a ha S L H.size (rX9_fold (vX9_digest_2 S) ((rX9_heard S (4 : Int32)).toInt64)) ((rX9_heard S (5 : Int32)).toInt64)  ) (va_cwS 2 hts gX9_digest_X9_fold rfl rfl rfl (by decide +kernel) ⟨Nat.le_of_ble_eq_true rfl, Nat.le_of_ble_eq_true rfl⟩) hK (mA_mono hS.1) hP hS rfl hl.1 rfl (lv_room (Nat.le_of_ble_eq_true rfl)) dX9_digest_27 ⟨Nat.le_of_ble_eq_true rfl, Nat.le_of_ble_eq_true rfl⟩ (fun H locs hP hS _ _ => ?_)
  refine W.eq (g2 := F0 m 30 ls [.long (vX9_digest_3 S)]) rfl ?_
  refine lv_lstore_n (lv' := [(1, .long (vX9_digest_3 S)), (3, .int 5), (0, .ref (a 0))]) hx hb dX9_digest_30 rfl hl (by decide) rfl (fun ls hl => ?_)
  refine lv_iinc (v := 6) (lv' := [(3, .int 6), (1, .long (vX9_digest_3 S)), (0, .ref (a 0))]) hx hb dX9_digest_31 hl (k := 1) rfl (by decide) (by decide) rfl (fun ls hl => ?_)
  refine lv_goto (tgt := 14) hx hb dX9_digest_34 (by decide) ?_
  refine lv_iload_n hx hb dX9_digest_14 rfl (lv_at hl 0 rfl) ?_
  refine lv_bipush (v := 8) hx hb dX9_digest_15 (by decide) ?_
  refine lv_icmp_ge (tgt := 37) hx hb dX9_digest_17 (by decide) (fun c => absurd c (by decide)) (fun _ => ?_)
  refine lv_lload_n hx hb dX9_digest_20 rfl (lv_at hl 1 rfl) ?_
  refine lv_aload_n hx hb dX9_digest_21 rfl (lv_at hl 2 rfl) ?_
  refine lv_iload_n hx hb dX9_digest_22 rfl (lv_at hl 0 rfl) ?_
  refine g_cVi (As := [.int 6]) (rest := [.long (vX9_digest_3 S)]) ⟨hx, hb, hml, hown, hts⟩ (c_X9_heard l G cA a ha S L H.size (6 : Int32)  (by decide) (by decide)) (cwV 1 hts gX9_digest_X9_heard rfl rfl rfl (by decide +kernel) ⟨Nat.le_of_ble_eq_true rfl, Nat.le_of_ble_eq_true rfl⟩) (g_recv hK hP (by decide) rfl (C := RX9) (T := TX9) (N := 4) rfl) hK (mA_mono hS.1) hP hS rfl hl.1 rfl (lv_room (Nat.le_of_ble_eq_true rfl)) dX9_digest_23 ⟨Nat.le_of_ble_eq_true rfl, Nat.le_of_ble_eq_true rfl⟩ (fun H locs hP hS _ _ => ?_)
  refine lv_i2l hx hb dX9_digest_26 rfl ?_
  refine g_cSl (As := [.long (vX9_digest_3 S), .long ((rX9_heard S (6 : Int32)).toInt64)]) (rest := []) ⟨hx, hb, hml, hown, hts⟩ (c_X9_fold l G cA a ha S L H.size (vX9_digest_3 S) ((rX9_heard S (6 : Int32)).toInt64)  ) (va_cwS 2 hts gX9_digest_X9_fold rfl rfl rfl (by decide +kernel) ⟨Nat.le_of_ble_eq_true rfl, Nat.le_of_ble_eq_true rfl⟩) hK (mA_mono hS.1) hP hS rfl hl.1 rfl (lv_room (Nat.le_of_ble_eq_true rfl)) dX9_digest_27 ⟨Nat.le_of_ble_eq_true rfl, Nat.le_of_ble_eq_true rfl⟩ (fun H locs hP hS _ _ => ?_)
  refine lv_lstore_n (lv' := [(1, .long (rX9_fold (vX9_digest_3 S) ((rX9_heard S (6 : Int32)).toInt64))), (3, .int 6), (0, .ref (a 0))]) hx hb dX9_digest_30 rfl hl (by decide) rfl (fun ls hl => ?_)
  refine lv_iinc (v := 7) (lv' := [(3, .int 7), (1, .long (rX9_fold (vX9_digest_3 S) ((rX9_heard S (6 : Int32)).toInt64))), (0, .ref (a 0))]) hx hb dX9_digest_31 hl (k := 1) rfl (by decide) (by decide) rfl (fun ls hl => ?_)
  refine lv_goto (tgt := 14) hx hb dX9_digest_34 (by decide) ?_
  refine lv_iload_n hx hb dX9_digest_14 rfl (lv_at hl 0 rfl) ?_
  refine lv_bipush (v := 8) hx hb dX9_digest_15 (by decide) ?_
  refine lv_icmp_ge (tgt := 37) hx hb dX9_digest_17 (by decide) (fun c => absurd c (by decide)) (fun _ => ?_)
  refine lv_lload_n hx hb dX9_digest_20 rfl (lv_at hl 1 rfl) ?_
  refine lv_aload_n hx hb dX9_digest_21 rfl (lv_at hl 2 rfl) ?_
  refine lv_iload_n hx hb dX9_digest_22 rfl (lv_at hl 0 rfl) ?_
  refine g_cVi (As := [.int 7]) (rest := [.long (rX9_fold (vX9_digest_3 S) ((rX9_heard S (6 : Int32)).toInt64))]) ⟨hx, hb, hml, hown, hts⟩ (c_X9_heard l G cA a ha S L H.size (7 : Int32)  (by decide) (by decide)) (cwV 1 hts gX9_digest_X9_heard rfl rfl rfl (by decide +kernel) ⟨Nat.le_of_ble_eq_true rfl, Nat.le_of_ble_eq_true rfl⟩) (g_recv hK hP (by decide) rfl (C := RX9) (T := TX9) (N := 4) rfl) hK (mA_mono hS.1) hP hS rfl hl.1 rfl (lv_room (Nat.le_of_ble_eq_true rfl)) dX9_digest_23 ⟨Nat.le_of_ble_eq_true rfl, Nat.le_of_ble_eq_true rfl⟩ (fun H locs hP hS _ _ => ?_)
  refine lv_i2l hx hb dX9_digest_26 rfl ?_
  refine g_cSl (As := [.long (rX9_fold (vX9_digest_3 S) ((rX9_heard S (6 : Int32)).toInt64)), .long ((rX9_heard S (7 : Int32)).toInt64)]) (rest := []) ⟨hx, hb, hml, hown, hts⟩ (c_X9_fold l G cA a ha S L H.size (rX9_fold (vX9_digest_3 S) ((rX9_heard S (6 : Int32)).toInt64)) ((rX9_heard S (7 : Int32)).toInt64)  ) (va_cwS 2 hts gX9_digest_X9_fold rfl rfl rfl (by decide +kernel) ⟨Nat.le_of_ble_eq_true rfl, Nat.le_of_ble_eq_true rfl⟩) hK (mA_mono hS.1) hP hS rfl hl.1 rfl (lv_room (Nat.le_of_ble_eq_true rfl)) dX9_digest_27 ⟨Nat.le_of_ble_eq_true rfl, Nat.le_of_ble_eq_true rfl⟩ (fun H locs hP hS _ _ => ?_)
  refine W.eq (g2 := F0 m 30 ls [.long (vX9_digest_4 S)]) rfl ?_
  refine lv_lstore_n (lv' := [(1, .long (vX9_digest_4 S)), (3, .int 7), (0, .ref (a 0))]) hx hb dX9_digest_30 rfl hl (by decide) rfl (fun ls hl => ?_)
  refine lv_iinc (v := 8) (lv' := [(3, .int 8), (1, .long (vX9_digest_4 S)), (0, .ref (a 0))]) hx hb dX9_digest_31 hl (k := 1) rfl (by decide) (by decide) rfl (fun ls hl => ?_)
  refine lv_goto (tgt := 14) hx hb dX9_digest_34 (by decide) ?_
  refine lv_iload_n hx hb dX9_digest_14 rfl (lv_at hl 0 rfl) ?_
  refine lv_bipush (v := 8) hx hb dX9_digest_15 (by decide) ?_
  refine lv_icmp_ge (tgt := 37) hx hb dX9_digest_17 (by decide) (fun _ => ?_) (fun c => absurd c (by decide))
  refine lv_lload_n hx hb dX9_digest_37 rfl (lv_at hl 1 rfl) ?_
  refine lv_aload_n hx hb dX9_digest_38 rfl (lv_at hl 2 rfl) ?_
  refine g_cVi (As := []) (rest := [.long (vX9_digest_4 S)]) ⟨hx, hb, hml, hown, hts⟩ (c_X9_peak l G cA a ha S L H.size   ) (cwV 0 hts gX9_digest_X9_peak rfl rfl rfl (by decide +kernel) ⟨Nat.le_of_ble_eq_true rfl, Nat.le_of_ble_eq_true rfl⟩) (g_recv hK hP (by decide) rfl (C := RX9) (T := TX9) (N := 4) rfl) hK (mA_mono hS.1) hP hS rfl hl.1 rfl (lv_room (Nat.le_of_ble_eq_true rfl)) dX9_digest_39 ⟨Nat.le_of_ble_eq_true rfl, Nat.le_of_ble_eq_true rfl⟩ (fun H locs hP hS _ _ => ?_)
  refine lv_i2l hx hb dX9_digest_42 rfl ?_
  refine g_cSl (As := [.long (vX9_digest_4 S), .long ((rX9_peak S).toInt64)]) (rest := []) ⟨hx, hb, hml, hown, hts⟩ (c_X9_fold l G cA a ha S L H.size (vX9_digest_4 S) ((rX9_peak S).toInt64)  ) (va_cwS 2 hts gX9_digest_X9_fold rfl rfl rfl (by decide +kernel) ⟨Nat.le_of_ble_eq_true rfl, Nat.le_of_ble_eq_true rfl⟩) hK (mA_mono hS.1) hP hS rfl hl.1 rfl (lv_room (Nat.le_of_ble_eq_true rfl)) dX9_digest_43 ⟨Nat.le_of_ble_eq_true rfl, Nat.le_of_ble_eq_true rfl⟩ (fun H locs hP hS _ _ => ?_)
  refine lv_lstore_n (lv' := [(1, .long (rX9_fold (vX9_digest_4 S) ((rX9_peak S).toInt64))), (3, .int 8), (0, .ref (a 0))]) hx hb dX9_digest_46 rfl hl (by decide) rfl (fun ls hl => ?_)
  refine lv_lload_n hx hb dX9_digest_47 rfl (lv_at hl 0 rfl) ?_
  refine lv_aload_n hx hb dX9_digest_48 rfl (lv_at hl 2 rfl) ?_
  refine g_cVi (As := []) (rest := [.long (rX9_fold (vX9_digest_4 S) ((rX9_peak S).toInt64))]) ⟨hx, hb, hml, hown, hts⟩ (c_X9_clipped l G cA a ha S L H.size   ) (cwV 0 hts gX9_digest_X9_clipped rfl rfl rfl (by decide +kernel) ⟨Nat.le_of_ble_eq_true rfl, Nat.le_of_ble_eq_true rfl⟩) (g_recv hK hP (by decide) rfl (C := RX9) (T := TX9) (N := 4) rfl) hK (mA_mono hS.1) hP hS rfl hl.1 rfl (lv_room (Nat.le_of_ble_eq_true rfl)) dX9_digest_49 ⟨Nat.le_of_ble_eq_true rfl, Nat.le_of_ble_eq_true rfl⟩ (fun H locs hP hS _ _ => ?_)
  refine lv_i2l hx hb dX9_digest_52 rfl ?_
  refine g_cSl (As := [.long (rX9_fold (vX9_digest_4 S) ((rX9_peak S).toInt64)), .long ((rX9_clipped S).toInt64)]) (rest := []) ⟨hx, hb, hml, hown, hts⟩ (c_X9_fold l G cA a ha S L H.size (rX9_fold (vX9_digest_4 S) ((rX9_peak S).toInt64)) ((rX9_clipped S).toInt64)  ) (va_cwS 2 hts gX9_digest_X9_fold rfl rfl rfl (by decide +kernel) ⟨Nat.le_of_ble_eq_true rfl, Nat.le_of_ble_eq_true rfl⟩) hK (mA_mono hS.1) hP hS rfl hl.1 rfl (lv_room (Nat.le_of_ble_eq_true rfl)) dX9_digest_53 ⟨Nat.le_of_ble_eq_true rfl, Nat.le_of_ble_eq_true rfl⟩ (fun H locs hP hS _ _ => ?_)
  refine lv_lstore_n (lv' := [(1, .long (rX9_fold (rX9_fold (vX9_digest_4 S) ((rX9_peak S).toInt64)) ((rX9_clipped S).toInt64))), (3, .int 8), (0, .ref (a 0))]) hx hb dX9_digest_56 rfl hl (by decide) rfl (fun ls hl => ?_)
  refine lv_lload_n hx hb dX9_digest_57 rfl (lv_at hl 0 rfl) ?_
  refine lv_aload_n hx hb dX9_digest_58 rfl (lv_at hl 2 rfl) ?_
  refine g_cVi (As := []) (rest := [.long (rX9_fold (rX9_fold (vX9_digest_4 S) ((rX9_peak S).toInt64)) ((rX9_clipped S).toInt64))]) ⟨hx, hb, hml, hown, hts⟩ (c_X9_crossings l G cA a ha S L H.size   ) (cwV 0 hts gX9_digest_X9_crossings rfl rfl rfl (by decide +kernel) ⟨Nat.le_of_ble_eq_true rfl, Nat.le_of_ble_eq_true rfl⟩) (g_recv hK hP (by decide) rfl (C := RX9) (T := TX9) (N := 4) rfl) hK (mA_mono hS.1) hP hS rfl hl.1 rfl (lv_room (Nat.le_of_ble_eq_true rfl)) dX9_digest_59 ⟨Nat.le_of_ble_eq_true rfl, Nat.le_of_ble_eq_true rfl⟩ (fun H locs hP hS _ _ => ?_)
  refine lv_i2l hx hb dX9_digest_62 rfl ?_
  refine g_cSl (As := [.long (rX9_fold (rX9_fold (vX9_digest_4 S) ((rX9_peak S).toInt64)) ((rX9_clipped S).toInt64)), .long ((rX9_crossings S).toInt64)]) (rest := []) ⟨hx, hb, hml, hown, hts⟩ (c_X9_fold l G cA a ha S L H.size (rX9_fold (rX9_fold (vX9_digest_4 S) ((rX9_peak S).toInt64)) ((rX9_clipped S).toInt64)) ((rX9_crossings S).toInt64)  ) (va_cwS 2 hts gX9_digest_X9_fold rfl rfl rfl (by decide +kernel) ⟨Nat.le_of_ble_eq_true rfl, Nat.le_of_ble_eq_true rfl⟩) hK (mA_mono hS.1) hP hS rfl hl.1 rfl (lv_room (Nat.le_of_ble_eq_true rfl)) dX9_digest_63 ⟨Nat.le_of_ble_eq_true rfl, Nat.le_of_ble_eq_true rfl⟩ (fun H locs hP hS _ _ => ?_)
  refine W.eq (g2 := F0 m 66 ls [.long (vX9_digest_5 S)]) rfl ?_
  refine lv_lstore_n (lv' := [(1, .long (vX9_digest_5 S)), (3, .int 8), (0, .ref (a 0))]) hx hb dX9_digest_66 rfl hl (by decide) rfl (fun ls hl => ?_)
  refine lv_lload_n hx hb dX9_digest_67 rfl (lv_at hl 0 rfl) ?_
  refine lv_aload_n hx hb dX9_digest_68 rfl (lv_at hl 2 rfl) ?_
  refine g_cVi (As := []) (rest := [.long (vX9_digest_5 S)]) ⟨hx, hb, hml, hown, hts⟩ (c_X9_sounding l G cA a ha S L H.size   ) (cwV 0 hts gX9_digest_X9_sounding rfl rfl rfl (by decide +kernel) ⟨Nat.le_of_ble_eq_true rfl, Nat.le_of_ble_eq_true rfl⟩) (g_recv hK hP (by decide) rfl (C := RX9) (T := TX9) (N := 4) rfl) hK (mA_mono hS.1) hP hS rfl hl.1 rfl (lv_room (Nat.le_of_ble_eq_true rfl)) dX9_digest_69 ⟨Nat.le_of_ble_eq_true rfl, Nat.le_of_ble_eq_true rfl⟩ (fun H locs hP hS _ _ => ?_)
  refine lv_i2l hx hb dX9_digest_72 rfl ?_
  refine g_cSl (As := [.long (vX9_digest_5 S), .long ((rX9_sounding S).toInt64)]) (rest := []) ⟨hx, hb, hml, hown, hts⟩ (c_X9_fold l G cA a ha S L H.size (vX9_digest_5 S) ((rX9_sounding S).toInt64)  ) (va_cwS 2 hts gX9_digest_X9_fold rfl rfl rfl (by decide +kernel) ⟨Nat.le_of_ble_eq_true rfl, Nat.le_of_ble_eq_true rfl⟩) hK (mA_mono hS.1) hP hS rfl hl.1 rfl (lv_room (Nat.le_of_ble_eq_true rfl)) dX9_digest_73 ⟨Nat.le_of_ble_eq_true rfl, Nat.le_of_ble_eq_true rfl⟩ (fun H locs hP hS _ _ => ?_)
  refine lv_lstore_n (lv' := [(1, .long (rX9_fold (vX9_digest_5 S) ((rX9_sounding S).toInt64))), (3, .int 8), (0, .ref (a 0))]) hx hb dX9_digest_76 rfl hl (by decide) rfl (fun ls hl => ?_)
  refine lv_lload_n hx hb dX9_digest_77 rfl (lv_at hl 0 rfl) ?_
  refine lv_aload_n hx hb dX9_digest_78 rfl (lv_at hl 2 rfl) ?_
  refine g_cVi (As := []) (rest := [.long (rX9_fold (vX9_digest_5 S) ((rX9_sounding S).toInt64))]) ⟨hx, hb, hml, hown, hts⟩ (c_X9_taken l G cA a ha S L H.size   ) (cwV 0 hts gX9_digest_X9_taken rfl rfl rfl (by decide +kernel) ⟨Nat.le_of_ble_eq_true rfl, Nat.le_of_ble_eq_true rfl⟩) (g_recv hK hP (by decide) rfl (C := RX9) (T := TX9) (N := 4) rfl) hK (mA_mono hS.1) hP hS rfl hl.1 rfl (lv_room (Nat.le_of_ble_eq_true rfl)) dX9_digest_79 ⟨Nat.le_of_ble_eq_true rfl, Nat.le_of_ble_eq_true rfl⟩ (fun H locs hP hS _ _ => ?_)
  refine lv_i2l hx hb dX9_digest_82 rfl ?_
  refine g_cSl (As := [.long (rX9_fold (vX9_digest_5 S) ((rX9_sounding S).toInt64)), .long ((rX9_taken S).toInt64)]) (rest := []) ⟨hx, hb, hml, hown, hts⟩ (c_X9_fold l G cA a ha S L H.size (rX9_fold (vX9_digest_5 S) ((rX9_sounding S).toInt64)) ((rX9_taken S).toInt64)  ) (va_cwS 2 hts gX9_digest_X9_fold rfl rfl rfl (by decide +kernel) ⟨Nat.le_of_ble_eq_true rfl, Nat.le_of_ble_eq_true rfl⟩) hK (mA_mono hS.1) hP hS rfl hl.1 rfl (lv_room (Nat.le_of_ble_eq_true rfl)) dX9_digest_83 ⟨Nat.le_of_ble_eq_true rfl, Nat.le_of_ble_eq_true rfl⟩ (fun H locs hP hS _ _ => ?_)
  refine lv_lstore_n (lv' := [(1, .long (rX9_fold (rX9_fold (vX9_digest_5 S) ((rX9_sounding S).toInt64)) ((rX9_taken S).toInt64))), (3, .int 8), (0, .ref (a 0))]) hx hb dX9_digest_86 rfl hl (by decide) rfl (fun ls hl => ?_)
  refine lv_lload_n hx hb dX9_digest_87 rfl (lv_at hl 0 rfl) ?_
  refine lv_aload_n hx hb dX9_digest_88 rfl (lv_at hl 2 rfl) ?_
  refine g_cVi (As := []) (rest := [.long (rX9_fold (rX9_fold (vX9_digest_5 S) ((rX9_sounding S).toInt64)) ((rX9_taken S).toInt64))]) ⟨hx, hb, hml, hown, hts⟩ (c_X9_isPlaying l G cA a ha S L H.size   hh1) (cwV 0 hts gX9_digest_X9_isPlaying rfl rfl rfl (by decide +kernel) ⟨Nat.le_of_ble_eq_true rfl, Nat.le_of_ble_eq_true rfl⟩) (g_recv hK hP (by decide) rfl (C := RX9) (T := TX9) (N := 4) rfl) hK (mA_mono hS.1) hP hS rfl hl.1 rfl (lv_room (Nat.le_of_ble_eq_true rfl)) dX9_digest_89 ⟨Nat.le_of_ble_eq_true rfl, Nat.le_of_ble_eq_true rfl⟩ (fun H locs hP hS _ _ => ?_)
  have hj2 : ∀ (zy0_hj2 : Int64) (H : Heap) (locs : List Loc) (ls : Array Slot), zy0_hj2 = (jX9_digest_6 S) → va_P G vwCl (wG 37 a (cM a cA) S L) H → va_S (mA 37 a s.heap.size) s.heap H locs → lv_has ls 4 [(1, .long (rX9_fold (rX9_fold (vX9_digest_5 S) ((rX9_sounding S).toInt64)) ((rX9_taken S).toInt64))), (3, .int 8), (0, .ref (a 0))] → W p l e ({ frames := 5, cells := 0, slots := 0, locals := 116 } : Room) s m ([.ref (a 0)] : List Value).toArray below meth c H locs 0 0 (MQ below (gQl (rX9_digest S) G 37 a (cM a cA) S L s.heap.size) ([.ref (a 0)] : List Value).toArray s 0 0 (mA 37 a s.heap.size)) (F0 m 100 ls [.long zy0_hj2, .long (rX9_fold (rX9_fold (vX9_digest_5 S) ((rX9_sounding S).toInt64)) ((rX9_taken S).toInt64))]) := by
    intro zy0_hj2 H locs ls ezy0_hj2 hP hS hl
    rw [ezy0_hj2]
    refine g_cSl (As := [.long (rX9_fold (rX9_fold (vX9_digest_5 S) ((rX9_sounding S).toInt64)) ((rX9_taken S).toInt64)), .long (jX9_digest_6 S)]) (rest := []) ⟨hx, hb, hml, hown, hts⟩ (c_X9_fold l G cA a ha S L H.size (rX9_fold (rX9_fold (vX9_digest_5 S) ((rX9_sounding S).toInt64)) ((rX9_taken S).toInt64)) (jX9_digest_6 S)  ) (va_cwS 2 hts gX9_digest_X9_fold rfl rfl rfl (by decide +kernel) ⟨Nat.le_of_ble_eq_true rfl, Nat.le_of_ble_eq_true rfl⟩) hK (mA_mono hS.1) hP hS rfl hl.1 rfl (lv_room (Nat.le_of_ble_eq_true rfl)) dX9_digest_100 ⟨Nat.le_of_ble_eq_true rfl, Nat.le_of_ble_eq_true rfl⟩ (fun H locs hP hS _ _ => ?_)
    refine W.eq (g2 := F0 m 103 ls [.long (vX9_digest_7 S)]) rfl ?_
    refine lv_lstore_n (lv' := [(1, .long (vX9_digest_7 S)), (3, .int 8), (0, .ref (a 0))]) hx hb dX9_digest_103 rfl hl (by decide) rfl (fun ls hl => ?_)
    refine lv_lload_n hx hb dX9_digest_104 rfl (lv_at hl 0 rfl) ?_
    refine lv_aload_n hx hb dX9_digest_105 rfl (lv_at hl 2 rfl) ?_
    refine g_cVi (As := []) (rest := [.long (vX9_digest_7 S)]) ⟨hx, hb, hml, hown, hts⟩ (c_X9_step l G cA a ha S L H.size   ) (cwV 0 hts gX9_digest_X9_step rfl rfl rfl (by decide +kernel) ⟨Nat.le_of_ble_eq_true rfl, Nat.le_of_ble_eq_true rfl⟩) (g_recv hK hP (by decide) rfl (C := RX9) (T := TX9) (N := 4) rfl) hK (mA_mono hS.1) hP hS rfl hl.1 rfl (lv_room (Nat.le_of_ble_eq_true rfl)) dX9_digest_106 ⟨Nat.le_of_ble_eq_true rfl, Nat.le_of_ble_eq_true rfl⟩ (fun H locs hP hS _ _ => ?_)
    refine lv_i2l hx hb dX9_digest_109 rfl ?_
    refine g_cSl (As := [.long (vX9_digest_7 S), .long ((rX9_step S).toInt64)]) (rest := []) ⟨hx, hb, hml, hown, hts⟩ (c_X9_fold l G cA a ha S L H.size (vX9_digest_7 S) ((rX9_step S).toInt64)  ) (va_cwS 2 hts gX9_digest_X9_fold rfl rfl rfl (by decide +kernel) ⟨Nat.le_of_ble_eq_true rfl, Nat.le_of_ble_eq_true rfl⟩) hK (mA_mono hS.1) hP hS rfl hl.1 rfl (lv_room (Nat.le_of_ble_eq_true rfl)) dX9_digest_110 ⟨Nat.le_of_ble_eq_true rfl, Nat.le_of_ble_eq_true rfl⟩ (fun H locs hP hS _ _ => ?_)
    refine lv_lstore_n (lv' := [(1, .long (rX9_fold (vX9_digest_7 S) ((rX9_step S).toInt64))), (3, .int 8), (0, .ref (a 0))]) hx hb dX9_digest_113 rfl hl (by decide) rfl (fun ls hl => ?_)
    refine lv_lload_n hx hb dX9_digest_114 rfl (lv_at hl 0 rfl) ?_
    refine lv_aload_n hx hb dX9_digest_115 rfl (lv_at hl 2 rfl) ?_
    refine g_cVi (As := []) (rest := [.long (rX9_fold (vX9_digest_7 S) ((rX9_step S).toInt64))]) ⟨hx, hb, hml, hown, hts⟩ (c_X9_nextVoice l G cA a ha S L H.size   ) (cwV 0 hts gX9_digest_X9_nextVoice rfl rfl rfl (by decide +kernel) ⟨Nat.le_of_ble_eq_true rfl, Nat.le_of_ble_eq_true rfl⟩) (g_recv hK hP (by decide) rfl (C := RX9) (T := TX9) (N := 4) rfl) hK (mA_mono hS.1) hP hS rfl hl.1 rfl (lv_room (Nat.le_of_ble_eq_true rfl)) dX9_digest_116 ⟨Nat.le_of_ble_eq_true rfl, Nat.le_of_ble_eq_true rfl⟩ (fun H locs hP hS _ _ => ?_)
    refine lv_i2l hx hb dX9_digest_119 rfl ?_
    refine g_cSl (As := [.long (rX9_fold (vX9_digest_7 S) ((rX9_step S).toInt64)), .long ((rX9_nextVoice S).toInt64)]) (rest := []) ⟨hx, hb, hml, hown, hts⟩ (c_X9_fold l G cA a ha S L H.size (rX9_fold (vX9_digest_7 S) ((rX9_step S).toInt64)) ((rX9_nextVoice S).toInt64)  ) (va_cwS 2 hts gX9_digest_X9_fold rfl rfl rfl (by decide +kernel) ⟨Nat.le_of_ble_eq_true rfl, Nat.le_of_ble_eq_true rfl⟩) hK (mA_mono hS.1) hP hS rfl hl.1 rfl (lv_room (Nat.le_of_ble_eq_true rfl)) dX9_digest_120 ⟨Nat.le_of_ble_eq_true rfl, Nat.le_of_ble_eq_true rfl⟩ (fun H locs hP hS _ _ => ?_)
    refine lv_lstore_n (lv' := [(1, .long (rX9_fold (rX9_fold (vX9_digest_7 S) ((rX9_step S).toInt64)) ((rX9_nextVoice S).toInt64))), (3, .int 8), (0, .ref (a 0))]) hx hb dX9_digest_123 rfl hl (by decide) rfl (fun ls hl => ?_)
    refine lv_aload_n hx hb dX9_digest_124 rfl (lv_at hl 2 rfl) ?_
    refine lv_lload_n hx hb dX9_digest_125 rfl (lv_at hl 0 rfl) ?_
    refine g_cVl (As := [.long (rX9_fold (rX9_fold (vX9_digest_7 S) ((rX9_step S).toInt64)) ((rX9_nextVoice S).toInt64))]) (rest := []) ⟨hx, hb, hml, hown, hts⟩ (c_X9_foldVoices l G cA a ha S L H.size (rX9_fold (rX9_fold (vX9_digest_7 S) ((rX9_step S).toInt64)) ((rX9_nextVoice S).toInt64))  ) (cwV 1 hts gX9_digest_X9_foldVoices rfl rfl rfl (by decide +kernel) ⟨Nat.le_of_ble_eq_true rfl, Nat.le_of_ble_eq_true rfl⟩) (g_recv hK hP (by decide) rfl (C := RX9) (T := TX9) (N := 4) rfl) hK (mA_mono hS.1) hP hS rfl hl.1 rfl (lv_room (Nat.le_of_ble_eq_true rfl)) dX9_digest_126 ⟨Nat.le_of_ble_eq_true rfl, Nat.le_of_ble_eq_true rfl⟩ (fun H locs hP hS _ _ => ?_)
    refine W.eq (g2 := F0 m 129 ls [.long (vX9_digest_8 S)]) rfl ?_
    refine lv_lstore_n (lv' := [(1, .long (vX9_digest_8 S)), (3, .int 8), (0, .ref (a 0))]) hx hb dX9_digest_129 rfl hl (by decide) rfl (fun ls hl => ?_)
    refine lv_aload_n hx hb dX9_digest_130 rfl (lv_at hl 2 rfl) ?_
    refine lv_lload_n hx hb dX9_digest_131 rfl (lv_at hl 0 rfl) ?_
    refine g_cVl (As := [.long (vX9_digest_8 S)]) (rest := []) ⟨hx, hb, hml, hown, hts⟩ (c_X9_foldSteps l G cA a ha S L H.size (vX9_digest_8 S)  ) (cwV 1 hts gX9_digest_X9_foldSteps rfl rfl rfl (by decide +kernel) ⟨Nat.le_of_ble_eq_true rfl, Nat.le_of_ble_eq_true rfl⟩) (g_recv hK hP (by decide) rfl (C := RX9) (T := TX9) (N := 4) rfl) hK (mA_mono hS.1) hP hS rfl hl.1 rfl (lv_room (Nat.le_of_ble_eq_true rfl)) dX9_digest_132 ⟨Nat.le_of_ble_eq_true rfl, Nat.le_of_ble_eq_true rfl⟩ (fun H locs hP hS _ _ => ?_)
    refine lv_lstore_n (lv' := [(1, .long (rX9_foldSteps S (vX9_digest_8 S))), (3, .int 8), (0, .ref (a 0))]) hx hb dX9_digest_135 rfl hl (by decide) rfl (fun ls hl => ?_)
    refine lv_aload_n hx hb dX9_digest_136 rfl (lv_at hl 2 rfl) ?_
    refine lv_lload_n hx hb dX9_digest_137 rfl (lv_at hl 0 rfl) ?_
    refine g_cVl (As := [.long (rX9_foldSteps S (vX9_digest_8 S))]) (rest := []) ⟨hx, hb, hml, hown, hts⟩ (c_X9_foldDelay l G cA a ha S L H.size (rX9_foldSteps S (vX9_digest_8 S))  ) (cwV 1 hts gX9_digest_X9_foldDelay rfl rfl rfl (by decide +kernel) ⟨Nat.le_of_ble_eq_true rfl, Nat.le_of_ble_eq_true rfl⟩) (g_recv hK hP (by decide) rfl (C := RX9) (T := TX9) (N := 4) rfl) hK (mA_mono hS.1) hP hS rfl hl.1 rfl (lv_room (Nat.le_of_ble_eq_true rfl)) dX9_digest_138 ⟨Nat.le_of_ble_eq_true rfl, Nat.le_of_ble_eq_true rfl⟩ (fun H locs hP hS _ _ => ?_)
    exact g_lret hx hb hr hlocks (by unfold rX9_digest; rfl) rfl rfl hP hS dX9_digest_141
  refine lv_if_eq (tgt := 99) hx hb dX9_digest_92 (by decide) (fun c1 => ?_) (fun c1 => ?_)
  ·
    refine lv_lconst (v := 0) hx hb dX9_digest_99 (by decide) ?_
    exact hj2 _ _ _ _ (by unfold jX9_digest_6; rw [if_pos c1]) hP hS (lv_sub hl [0, 1, 2] rfl)
  ·
    refine lv_lconst (v := 1) hx hb dX9_digest_95 (by decide) ?_
    refine lv_goto (tgt := 100) hx hb dX9_digest_96 (by decide) ?_
    exact hj2 _ _ _ _ (by unfold jX9_digest_6; rw [if_neg c1]) hP hS (lv_sub hl [0, 1, 2] rfl)

