section
variable {p : Program} {l : Launch} {e : Env} {s : State} {m : MethodId} {below : List Frame} {meth : Method} {c : Code} {H : Heap} {locs : List Loc} {cells slots : Nat} {Q : State → Prop}
variable {ls : Array Slot} {G : va_G} {A0 : Nat → Prop} {cA cJ : ClassId} {a bb : Nat → Nat} {S T : Mm} {L L' : Int64} {o b N i : Nat} {fo : Nat → Int64} {xs : Nat → Int32} {B K : Int}
set_option maxHeartbeats 4000000 in
theorem case_setTempo (C : LCtx p l s m c G A0 cA cJ a bb o b N xs) (D : LSt G A0 s cA cJ a bb o b N i B K S T L L' fo H locs ls cells slots) (kk : LKK p l e s m below meth c Q G A0 cA cJ a bb o b i B K cells slots) : W p l e room_1 s m #[Value.ref b] below meth c H locs cells slots Q (F0 m 1221 ls []) := by
  obtain ⟨hfl, hx, hb, hml, hown, hts, F, hK, hXf⟩ := C
  obtain ⟨hi, hN, h, hB, hK2, hP, hS, hl, hc, hs⟩ := D
  have hX := hXf _ _ _ _ _ _ _ hP hS h.1.1.2.1
  refine lv_aload_n hx hb dL_law_1221 rfl (lv_at hl 2 rfl) ?_
  refine lv_aload_n hx hb dL_law_1222 rfl (lv_at hl 1 rfl) ?_
  refine lv_iload hx hb dL_law_1223 (lv_at hl 0 rfl) ?_
  refine lv_iconst (v := 1) hx hb dL_law_1225 (by decide) ?_
  refine lv_iadd hx hb dL_law_1226 ?_
  refine x_sld hx hb hX (ix_in (j := 1) hi hN (by decide)) dL_law_1227 ?_
  refine lv_aload_n hx hb dL_law_1228 rfl (lv_at hl 1 rfl) ?_
  refine lv_iload hx hb dL_law_1229 (lv_at hl 0 rfl) ?_
  refine lv_iconst (v := 2) hx hb dL_law_1231 (by decide) ?_
  refine lv_iadd hx hb dL_law_1232 ?_
  refine x_sld hx hb hX (ix_in (j := 2) hi hN (by decide)) dL_law_1233 ?_
  refine lv_aload_n hx hb dL_law_1234 rfl (lv_at hl 4 rfl) ?_
  by_cases hk : kX9_setTempo S (xs (nI i + 1).toNatClampNeg) (xs (nI i + 2).toNatClampNeg) = 0
  · obtain ⟨v1, v2, v3⟩ := (sim_setTempo hB hK2 h).1 hk
    refine x_help (S1 := (fX9_setTempo S (xs (nI i + 1).toNatClampNeg) (xs (nI i + 2).toNatClampNeg))) (L1 := L) (As := [.ref (a 0), .int (xs (nI i + 1).toNatClampNeg), .int (xs (nI i + 2).toNatClampNeg), .ref o]) (rest := []) ⟨hx, hb, hml, hown, hts⟩ F (h0_L_setTempo l hfl G cA cJ a F.1 o F.2.2.1 S L fo H.size (xs (nI i + 1).toNatClampNeg) (xs (nI i + 2).toNatClampNeg) hk) (vx_cwSW 4 hts gL_law_L_setTempo rfl rfl rfl (by decide +kernel) ⟨Nat.le_of_ble_eq_true rfl, Nat.le_of_ble_eq_true rfl⟩) hK hP hS rfl hl.1 rfl (lv_room (Nat.le_of_ble_eq_true rfl)) dL_law_1235 (rm_ok (by omega) (by omega)) (fun r f9 H locs hr hP hS => ?_)
    obtain ⟨er, hf⟩ := hr
    subst er
    have hX := hXf _ _ _ _ _ _ _ hP hS v3.1.1.2.1
    refine lv_istore (lv' := (5, .int 0) :: lwL a bb o b i) hx hb dL_law_1238 hl (by decide) rfl (fun ls hl => ?_)
    refine lv_aload_n hx hb dL_law_1240 rfl (lv_at hl 4 rfl) ?_
    refine lv_aload_n hx hb dL_law_1241 rfl (lv_at hl 2 rfl) ?_
    refine lv_iload hx hb dL_law_1242 (lv_at hl 1 rfl) ?_
    refine lv_iconst (v := 1) hx hb dL_law_1244 (by decide) ?_
    refine lv_iadd hx hb dL_law_1245 ?_
    refine x_sld hx hb hX (ix_in (j := 1) hi hN (by decide)) dL_law_1246 ?_
    refine lv_aload_n hx hb dL_law_1247 rfl (lv_at hl 2 rfl) ?_
    refine lv_iload hx hb dL_law_1248 (lv_at hl 1 rfl) ?_
    refine lv_iconst (v := 2) hx hb dL_law_1250 (by decide) ?_
    refine lv_iadd hx hb dL_law_1251 ?_
    refine x_sld hx hb hX (ix_in (j := 2) hi hN (by decide)) dL_law_1252 ?_
    refine x_ref (T1 := (fX11_setTempo T (xs (nI i + 1).toNatClampNeg) (xs (nI i + 2).toNatClampNeg))) (L1' := L') (r := (rX11_setTempo T (xs (nI i + 1).toNatClampNeg) (xs (nI i + 2).toNatClampNeg))) (As := [.int (xs (nI i + 1).toNatClampNeg), .int (xs (nI i + 2).toNatClampNeg)]) (rest := []) ⟨hx, hb, hml, hown, hts⟩ F (c_X11_setTempo l G cA (a 37) bb F.2.1 T L' H.size (xs (nI i + 1).toNatClampNeg) (xs (nI i + 2).toNatClampNeg) ) (cwV 2 hts gL_law_X11_setTempo rfl rfl rfl (by decide +kernel) ⟨Nat.le_of_ble_eq_true rfl, Nat.le_of_ble_eq_true rfl⟩) hK hP hS rfl hl.1 rfl (lv_room (Nat.le_of_ble_eq_true rfl)) dL_law_1253 (rm_ok (by omega) (by omega)) (fun H locs hP hS => ?_)
    exact x_end (E := 1256) hx hb hml hown hts F hK hP hS hl (by omega) (by omega) dL_law_1256 dL_law_1258 dL_law_1259 dL_law_1262 dL_law_1264 dL_law_1269 dL_law_1271 dL_law_1274 dL_law_1275 dL_law_1276 dL_law_1277 dL_law_1279 dL_law_1280 dL_law_1281 dL_law_1286 (by decide) v2 (fun _ => by rw [hf, v1]) (fun H locs ls hP hS hl => kk _ _ _ _ _ H locs ls _ _ (by omega) (by omega) v3 hP hS hl)
  · obtain ⟨v2, v3⟩ := (sim_setTempo hB hK2 h).2 hk
    refine x_help (S1 := S) (L1 := L) (As := [.ref (a 0), .int (xs (nI i + 1).toNatClampNeg), .int (xs (nI i + 2).toNatClampNeg), .ref o]) (rest := []) ⟨hx, hb, hml, hown, hts⟩ F (h1_L_setTempo l hfl G cA cJ a F.1 o F.2.2.1 S L fo H.size (xs (nI i + 1).toNatClampNeg) (xs (nI i + 2).toNatClampNeg) hk) (vx_cwSW 4 hts gL_law_L_setTempo rfl rfl rfl (by decide +kernel) ⟨Nat.le_of_ble_eq_true rfl, Nat.le_of_ble_eq_true rfl⟩) hK hP hS rfl hl.1 rfl (lv_room (Nat.le_of_ble_eq_true rfl)) dL_law_1235 (rm_ok (by omega) (by omega)) (fun r f9 H locs hr hP hS => ?_)
    obtain ⟨er, hf⟩ := hr
    subst er
    have hX := hXf _ _ _ _ _ _ _ hP hS v3.1.1.2.1
    refine lv_istore (lv' := (5, .int 1) :: lwL a bb o b i) hx hb dL_law_1238 hl (by decide) rfl (fun ls hl => ?_)
    refine lv_aload_n hx hb dL_law_1240 rfl (lv_at hl 4 rfl) ?_
    refine lv_aload_n hx hb dL_law_1241 rfl (lv_at hl 2 rfl) ?_
    refine lv_iload hx hb dL_law_1242 (lv_at hl 1 rfl) ?_
    refine lv_iconst (v := 1) hx hb dL_law_1244 (by decide) ?_
    refine lv_iadd hx hb dL_law_1245 ?_
    refine x_sld hx hb hX (ix_in (j := 1) hi hN (by decide)) dL_law_1246 ?_
    refine lv_aload_n hx hb dL_law_1247 rfl (lv_at hl 2 rfl) ?_
    refine lv_iload hx hb dL_law_1248 (lv_at hl 1 rfl) ?_
    refine lv_iconst (v := 2) hx hb dL_law_1250 (by decide) ?_
    refine lv_iadd hx hb dL_law_1251 ?_
    refine x_sld hx hb hX (ix_in (j := 2) hi hN (by decide)) dL_law_1252 ?_
    refine x_ref (T1 := (fX11_setTempo T (xs (nI i + 1).toNatClampNeg) (xs (nI i + 2).toNatClampNeg))) (L1' := L') (r := (rX11_setTempo T (xs (nI i + 1).toNatClampNeg) (xs (nI i + 2).toNatClampNeg))) (As := [.int (xs (nI i + 1).toNatClampNeg), .int (xs (nI i + 2).toNatClampNeg)]) (rest := []) ⟨hx, hb, hml, hown, hts⟩ F (c_X11_setTempo l G cA (a 37) bb F.2.1 T L' H.size (xs (nI i + 1).toNatClampNeg) (xs (nI i + 2).toNatClampNeg) ) (cwV 2 hts gL_law_X11_setTempo rfl rfl rfl (by decide +kernel) ⟨Nat.le_of_ble_eq_true rfl, Nat.le_of_ble_eq_true rfl⟩) hK hP hS rfl hl.1 rfl (lv_room (Nat.le_of_ble_eq_true rfl)) dL_law_1253 (rm_ok (by omega) (by omega)) (fun H locs hP hS => ?_)
    exact x_end (E := 1256) hx hb hml hown hts F hK hP hS hl (by omega) (by omega) dL_law_1256 dL_law_1258 dL_law_1259 dL_law_1262 dL_law_1264 dL_law_1269 dL_law_1271 dL_law_1274 dL_law_1275 dL_law_1276 dL_law_1277 dL_law_1279 dL_law_1280 dL_law_1281 dL_law_1286 (by decide) v2 (fun h9 => absurd h9 (by decide)) (fun H locs ls hP hS hl => kk _ _ _ _ _ H locs ls _ _ (by omega) (by omega) v3 hP hS hl)
set_option maxHeartbeats 4000000 in
theorem case_play (C : LCtx p l s m c G A0 cA cJ a bb o b N xs) (D : LSt G A0 s cA cJ a bb o b N i B K S T L L' fo H locs ls cells slots) (kk : LKK p l e s m below meth c Q G A0 cA cJ a bb o b i B K cells slots) : W p l e room_1 s m #[Value.ref b] below meth c H locs cells slots Q (F0 m 1289 ls []) := by
  obtain ⟨hfl, hx, hb, hml, hown, hts, F, hK, hXf⟩ := C
  obtain ⟨hi, hN, h, hB, hK2, hP, hS, hl, hc, hs⟩ := D
  have hX := hXf _ _ _ _ _ _ _ hP hS h.1.1.2.1
  refine lv_aload_n hx hb dL_law_1289 rfl (lv_at hl 2 rfl) ?_
  refine lv_aload_n hx hb dL_law_1290 rfl (lv_at hl 1 rfl) ?_
  refine lv_iload hx hb dL_law_1291 (lv_at hl 0 rfl) ?_
  refine lv_iconst (v := 1) hx hb dL_law_1293 (by decide) ?_
  refine lv_iadd hx hb dL_law_1294 ?_
  refine x_sld hx hb hX (ix_in (j := 1) hi hN (by decide)) dL_law_1295 ?_
  refine lv_aload_n hx hb dL_law_1296 rfl (lv_at hl 4 rfl) ?_
  by_cases hk : kX9_play S (xs (nI i + 1).toNatClampNeg) = 0
  · obtain ⟨v1, v2, v3⟩ := (sim_play hB hK2 h).1 hk
    refine x_help (S1 := (fX9_play S (xs (nI i + 1).toNatClampNeg))) (L1 := L) (As := [.ref (a 0), .int (xs (nI i + 1).toNatClampNeg), .ref o]) (rest := []) ⟨hx, hb, hml, hown, hts⟩ F (h0_L_play l hfl G cA cJ a F.1 o F.2.2.1 S L fo H.size (xs (nI i + 1).toNatClampNeg) hk (play_b h).1) (vx_cwSW 3 hts gL_law_L_play rfl rfl rfl (by decide +kernel) ⟨Nat.le_of_ble_eq_true rfl, Nat.le_of_ble_eq_true rfl⟩) hK hP hS rfl hl.1 rfl (lv_room (Nat.le_of_ble_eq_true rfl)) dL_law_1297 (rm_ok (by omega) (by omega)) (fun r f9 H locs hr hP hS => ?_)
    obtain ⟨er, hf⟩ := hr
    subst er
    have hX := hXf _ _ _ _ _ _ _ hP hS v3.1.1.2.1
    refine lv_istore (lv' := (5, .int 0) :: lwL a bb o b i) hx hb dL_law_1300 hl (by decide) rfl (fun ls hl => ?_)
    refine lv_aload_n hx hb dL_law_1302 rfl (lv_at hl 4 rfl) ?_
    refine lv_aload_n hx hb dL_law_1303 rfl (lv_at hl 2 rfl) ?_
    refine lv_iload hx hb dL_law_1304 (lv_at hl 1 rfl) ?_
    refine lv_iconst (v := 1) hx hb dL_law_1306 (by decide) ?_
    refine lv_iadd hx hb dL_law_1307 ?_
    refine x_sld hx hb hX (ix_in (j := 1) hi hN (by decide)) dL_law_1308 ?_
    refine x_ref (T1 := (fX11_play T (xs (nI i + 1).toNatClampNeg))) (L1' := L') (r := (rX11_play T (xs (nI i + 1).toNatClampNeg))) (As := [.int (xs (nI i + 1).toNatClampNeg)]) (rest := []) ⟨hx, hb, hml, hown, hts⟩ F (c_X11_play l G cA (a 37) bb F.2.1 T L' H.size (xs (nI i + 1).toNatClampNeg) (by rw [up2_n (by decide)]; exact nar_b (play_b h).2)) (cwV 1 hts gL_law_X11_play rfl rfl rfl (by decide +kernel) ⟨Nat.le_of_ble_eq_true rfl, Nat.le_of_ble_eq_true rfl⟩) hK hP hS rfl hl.1 rfl (lv_room (Nat.le_of_ble_eq_true rfl)) dL_law_1309 (rm_ok (by omega) (by omega)) (fun H locs hP hS => ?_)
    exact x_endP hx hb hml hown hts F hK hP hS hl (by omega) (by omega) v2 (fun _ => by rw [hf, v1]) (fun H locs ls hP hS hl => kk _ _ _ _ _ H locs ls _ _ (by omega) (by omega) v3 hP hS hl)
  · obtain ⟨v2, v3⟩ := (sim_play hB hK2 h).2 hk
    refine x_help (S1 := S) (L1 := L) (As := [.ref (a 0), .int (xs (nI i + 1).toNatClampNeg), .ref o]) (rest := []) ⟨hx, hb, hml, hown, hts⟩ F (h1_L_play l hfl G cA cJ a F.1 o F.2.2.1 S L fo H.size (xs (nI i + 1).toNatClampNeg) hk) (vx_cwSW 3 hts gL_law_L_play rfl rfl rfl (by decide +kernel) ⟨Nat.le_of_ble_eq_true rfl, Nat.le_of_ble_eq_true rfl⟩) hK hP hS rfl hl.1 rfl (lv_room (Nat.le_of_ble_eq_true rfl)) dL_law_1297 (rm_ok (by omega) (by omega)) (fun r f9 H locs hr hP hS => ?_)
    obtain ⟨er, hf⟩ := hr
    subst er
    have hX := hXf _ _ _ _ _ _ _ hP hS v3.1.1.2.1
    refine lv_istore (lv' := (5, .int 1) :: lwL a bb o b i) hx hb dL_law_1300 hl (by decide) rfl (fun ls hl => ?_)
    refine lv_aload_n hx hb dL_law_1302 rfl (lv_at hl 4 rfl) ?_
    refine lv_aload_n hx hb dL_law_1303 rfl (lv_at hl 2 rfl) ?_
    refine lv_iload hx hb dL_law_1304 (lv_at hl 1 rfl) ?_
    refine lv_iconst (v := 1) hx hb dL_law_1306 (by decide) ?_
    refine lv_iadd hx hb dL_law_1307 ?_
    refine x_sld hx hb hX (ix_in (j := 1) hi hN (by decide)) dL_law_1308 ?_
    refine x_ref (T1 := (fX11_play T (xs (nI i + 1).toNatClampNeg))) (L1' := L') (r := (rX11_play T (xs (nI i + 1).toNatClampNeg))) (As := [.int (xs (nI i + 1).toNatClampNeg)]) (rest := []) ⟨hx, hb, hml, hown, hts⟩ F (c_X11_play l G cA (a 37) bb F.2.1 T L' H.size (xs (nI i + 1).toNatClampNeg) (by rw [up2_n (by decide)]; exact nar_b (play_b h).2)) (cwV 1 hts gL_law_X11_play rfl rfl rfl (by decide +kernel) ⟨Nat.le_of_ble_eq_true rfl, Nat.le_of_ble_eq_true rfl⟩) hK hP hS rfl hl.1 rfl (lv_room (Nat.le_of_ble_eq_true rfl)) dL_law_1309 (rm_ok (by omega) (by omega)) (fun H locs hP hS => ?_)
    exact x_endP hx hb hml hown hts F hK hP hS hl (by omega) (by omega) v2 (fun h9 => absurd h9 (by decide)) (fun H locs ls hP hS hl => kk _ _ _ _ _ H locs ls _ _ (by omega) (by omega) v3 hP hS hl)
set_option maxHeartbeats 4000000 in
theorem case_stop (C : LCtx p l s m c G A0 cA cJ a bb o b N xs) (D : LSt G A0 s cA cJ a bb o b N i B K S T L L' fo H locs ls cells slots) (kk : LKK p l e s m below meth c Q G A0 cA cJ a bb o b i B K cells slots) : W p l e room_1 s m #[Value.ref b] below meth c H locs cells slots Q (F0 m 1352 ls []) := by
  obtain ⟨hfl, hx, hb, hml, hown, hts, F, hK, hXf⟩ := C
  obtain ⟨hi, hN, h, hB, hK2, hP, hS, hl, hc, hs⟩ := D
  obtain ⟨v1, v3⟩ := sim_stop hB hK2 h
  refine lv_aload_n hx hb dL_law_1352 rfl (lv_at hl 2 rfl) ?_
  refine x_cls (S1 := (fX9_stop S)) (L1 := L) (r := (rX9_stop S)) (As := []) (rest := []) ⟨hx, hb, hml, hown, hts⟩ F (c_X9_stop l G cA a F.1 S L H.size ) (cwV 0 hts gL_law_X9_stop rfl rfl rfl (by decide +kernel) ⟨Nat.le_of_ble_eq_true rfl, Nat.le_of_ble_eq_true rfl⟩) hK hP hS rfl hl.1 rfl (lv_room (Nat.le_of_ble_eq_true rfl)) dL_law_1353 (rm_ok (by omega) (by omega)) (fun H locs hP hS => ?_)
  refine lv_aload_n hx hb dL_law_1356 rfl (lv_at hl 3 rfl) ?_
  refine x_ref (T1 := (fX11_stop T)) (L1' := L') (r := (rX11_stop T)) (As := []) (rest := [.int (rX9_stop S)]) ⟨hx, hb, hml, hown, hts⟩ F (c_X11_stop l G cA (a 37) bb F.2.1 T L' H.size  ) (cwV 0 hts gL_law_X11_stop rfl rfl rfl (by decide +kernel) ⟨Nat.le_of_ble_eq_true rfl, Nat.le_of_ble_eq_true rfl⟩) hK hP hS rfl hl.1 rfl (lv_room (Nat.le_of_ble_eq_true rfl)) dL_law_1357 (rm_ok (by omega) (by omega)) (fun H locs hP hS => ?_)
  exact lv_icmp_eq (tgt := 1991) hx hb dL_law_1360 (by decide) (fun _ => kk _ _ _ _ _ H locs ls _ _ (by omega) (by omega) v3 hP hS hl) (fun c1 => absurd v1 c1)
set_option maxHeartbeats 4000000 in
theorem case_sample (C : LCtx p l s m c G A0 cA cJ a bb o b N xs) (D : LSt G A0 s cA cJ a bb o b N i B K S T L L' fo H locs ls cells slots) (kk : LKK p l e s m below meth c Q G A0 cA cJ a bb o b i B K cells slots) : W p l e room_1 s m #[Value.ref b] below meth c H locs cells slots Q (F0 m 1365 ls []) := by
  obtain ⟨hfl, hx, hb, hml, hown, hts, F, hK, hXf⟩ := C
  obtain ⟨hi, hN, h, hB, hK2, hP, hS, hl, hc, hs⟩ := D
  obtain ⟨v1, v3⟩ := sim_sample hB hK2 h
  refine lv_aload_n hx hb dL_law_1365 rfl (lv_at hl 2 rfl) ?_
  refine x_cls (S1 := (fX9_sample S L)) (L1 := (lX9_sample S L)) (r := (rX9_sample S L)) (As := []) (rest := []) ⟨hx, hb, hml, hown, hts⟩ F (c_X9_sample l G cA a F.1 S L H.size ) (cwV 0 hts gL_law_X9_sample rfl rfl rfl (by decide +kernel) ⟨Nat.le_of_ble_eq_true rfl, Nat.le_of_ble_eq_true rfl⟩) hK hP hS rfl hl.1 rfl (lv_room (Nat.le_of_ble_eq_true rfl)) dL_law_1366 (rm_ok (by omega) (by omega)) (fun H locs hP hS => ?_)
  refine lv_aload_n hx hb dL_law_1369 rfl (lv_at hl 3 rfl) ?_
  refine x_ref (T1 := (fX11_sample T L')) (L1' := (lX11_sample T L')) (r := (rX11_sample T L')) (As := []) (rest := [.int (rX9_sample S L)]) ⟨hx, hb, hml, hown, hts⟩ F (c_X11_sample l G cA (a 37) bb F.2.1 T L' H.size  K h.2.2) (cwV 0 hts gL_law_X11_sample rfl rfl rfl (by decide +kernel) ⟨Nat.le_of_ble_eq_true rfl, Nat.le_of_ble_eq_true rfl⟩) hK hP hS rfl hl.1 rfl (lv_room (Nat.le_of_ble_eq_true rfl)) dL_law_1370 (rm_ok (by omega) (by omega)) (fun H locs hP hS => ?_)
  exact lv_icmp_eq (tgt := 1991) hx hb dL_law_1373 (by decide) (fun _ => kk _ _ _ _ _ H locs ls _ _ (by omega) (by omega) v3 hP hS hl) (fun c1 => absurd v1 c1)
set_option maxHeartbeats 4000000 in
theorem case_run (C : LCtx p l s m c G A0 cA cJ a bb o b N xs) (D : LSt G A0 s cA cJ a bb o b N i B K S T L L' fo H locs ls cells slots) (kk : LKK p l e s m below meth c Q G A0 cA cJ a bb o b i B K cells slots) : W p l e room_1 s m #[Value.ref b] below meth c H locs cells slots Q (F0 m 1378 ls []) := by
  obtain ⟨hfl, hx, hb, hml, hown, hts, F, hK, hXf⟩ := C
  obtain ⟨hi, hN, h, hB, hK2, hP, hS, hl, hc, hs⟩ := D
  have hX := hXf _ _ _ _ _ _ _ hP hS h.1.1.2.1
  refine lv_aload_n hx hb dL_law_1378 rfl (lv_at hl 2 rfl) ?_
  refine lv_aload_n hx hb dL_law_1379 rfl (lv_at hl 1 rfl) ?_
  refine lv_iload hx hb dL_law_1380 (lv_at hl 0 rfl) ?_
  refine lv_iconst (v := 1) hx hb dL_law_1382 (by decide) ?_
  refine lv_iadd hx hb dL_law_1383 ?_
  refine x_sld hx hb hX (ix_in (j := 1) hi hN (by decide)) dL_law_1384 ?_
  refine lv_aload_n hx hb dL_law_1385 rfl (lv_at hl 4 rfl) ?_
  by_cases hk : kX9_run S (xs (nI i + 1).toNatClampNeg) = 0
  · obtain ⟨v1, v2, v3⟩ := (sim_run hB hK2 h).1 hk
    refine x_help (S1 := (fX9_run S L (xs (nI i + 1).toNatClampNeg))) (L1 := (lX9_run S L (xs (nI i + 1).toNatClampNeg))) (As := [.ref (a 0), .int (xs (nI i + 1).toNatClampNeg), .ref o]) (rest := []) ⟨hx, hb, hml, hown, hts⟩ F (h0_L_run l hfl G cA cJ a F.1 o F.2.2.1 S L fo H.size (xs (nI i + 1).toNatClampNeg) hk) (vx_cwSW 3 hts gL_law_L_run rfl rfl rfl (by decide +kernel) ⟨Nat.le_of_ble_eq_true rfl, Nat.le_of_ble_eq_true rfl⟩) hK hP hS rfl hl.1 rfl (lv_room (Nat.le_of_ble_eq_true rfl)) dL_law_1386 (rm_ok (by omega) (by omega)) (fun r f9 H locs hr hP hS => ?_)
    obtain ⟨er, hf⟩ := hr
    subst er
    have hX := hXf _ _ _ _ _ _ _ hP hS v3.1.1.2.1
    refine lv_istore (lv' := (5, .int 0) :: lwL a bb o b i) hx hb dL_law_1389 hl (by decide) rfl (fun ls hl => ?_)
    refine lv_aload_n hx hb dL_law_1391 rfl (lv_at hl 4 rfl) ?_
    refine lv_aload_n hx hb dL_law_1392 rfl (lv_at hl 2 rfl) ?_
    refine lv_iload hx hb dL_law_1393 (lv_at hl 1 rfl) ?_
    refine lv_iconst (v := 1) hx hb dL_law_1395 (by decide) ?_
    refine lv_iadd hx hb dL_law_1396 ?_
    refine x_sld hx hb hX (ix_in (j := 1) hi hN (by decide)) dL_law_1397 ?_
    refine x_ref (T1 := (fX11_run T L' (xs (nI i + 1).toNatClampNeg))) (L1' := (lX11_run T L' (xs (nI i + 1).toNatClampNeg))) (r := (rX11_run T L' (xs (nI i + 1).toNatClampNeg))) (As := [.int (xs (nI i + 1).toNatClampNeg)]) (rest := []) ⟨hx, hb, hml, hown, hts⟩ F (c_X11_run l G cA (a 37) bb F.2.1 T L' H.size (xs (nI i + 1).toNatClampNeg) K h.2.2 (by omega)) (cwV 1 hts gL_law_X11_run rfl rfl rfl (by decide +kernel) ⟨Nat.le_of_ble_eq_true rfl, Nat.le_of_ble_eq_true rfl⟩) hK hP hS rfl hl.1 rfl (lv_room (Nat.le_of_ble_eq_true rfl)) dL_law_1398 (rm_ok (by omega) (by omega)) (fun H locs hP hS => ?_)
    exact x_end (E := 1401) hx hb hml hown hts F hK hP hS hl (by omega) (by omega) dL_law_1401 dL_law_1403 dL_law_1404 dL_law_1407 dL_law_1409 dL_law_1414 dL_law_1416 dL_law_1419 dL_law_1420 dL_law_1421 dL_law_1422 dL_law_1424 dL_law_1425 dL_law_1426 dL_law_1431 (by decide) v2 (fun _ => by rw [hf, v1]) (fun H locs ls hP hS hl => kk _ _ _ _ _ H locs ls _ _ (by omega) (by omega) v3 hP hS hl)
  · obtain ⟨v2, v3⟩ := (sim_run hB hK2 h).2 hk
    refine x_help (S1 := S) (L1 := L) (As := [.ref (a 0), .int (xs (nI i + 1).toNatClampNeg), .ref o]) (rest := []) ⟨hx, hb, hml, hown, hts⟩ F (h1_L_run l hfl G cA cJ a F.1 o F.2.2.1 S L fo H.size (xs (nI i + 1).toNatClampNeg) hk) (vx_cwSW 3 hts gL_law_L_run rfl rfl rfl (by decide +kernel) ⟨Nat.le_of_ble_eq_true rfl, Nat.le_of_ble_eq_true rfl⟩) hK hP hS rfl hl.1 rfl (lv_room (Nat.le_of_ble_eq_true rfl)) dL_law_1386 (rm_ok (by omega) (by omega)) (fun r f9 H locs hr hP hS => ?_)
    obtain ⟨er, hf⟩ := hr
    subst er
    have hX := hXf _ _ _ _ _ _ _ hP hS v3.1.1.2.1
    refine lv_istore (lv' := (5, .int 1) :: lwL a bb o b i) hx hb dL_law_1389 hl (by decide) rfl (fun ls hl => ?_)
    refine lv_aload_n hx hb dL_law_1391 rfl (lv_at hl 4 rfl) ?_
    refine lv_aload_n hx hb dL_law_1392 rfl (lv_at hl 2 rfl) ?_
    refine lv_iload hx hb dL_law_1393 (lv_at hl 1 rfl) ?_
    refine lv_iconst (v := 1) hx hb dL_law_1395 (by decide) ?_
    refine lv_iadd hx hb dL_law_1396 ?_
    refine x_sld hx hb hX (ix_in (j := 1) hi hN (by decide)) dL_law_1397 ?_
    refine x_ref (T1 := (fX11_run T L' (xs (nI i + 1).toNatClampNeg))) (L1' := (lX11_run T L' (xs (nI i + 1).toNatClampNeg))) (r := (rX11_run T L' (xs (nI i + 1).toNatClampNeg))) (As := [.int (xs (nI i + 1).toNatClampNeg)]) (rest := []) ⟨hx, hb, hml, hown, hts⟩ F (c_X11_run l G cA (a 37) bb F.2.1 T L' H.size (xs (nI i + 1).toNatClampNeg) K h.2.2 (by omega)) (cwV 1 hts gL_law_X11_run rfl rfl rfl (by decide +kernel) ⟨Nat.le_of_ble_eq_true rfl, Nat.le_of_ble_eq_true rfl⟩) hK hP hS rfl hl.1 rfl (lv_room (Nat.le_of_ble_eq_true rfl)) dL_law_1398 (rm_ok (by omega) (by omega)) (fun H locs hP hS => ?_)
    exact x_end (E := 1401) hx hb hml hown hts F hK hP hS hl (by omega) (by omega) dL_law_1401 dL_law_1403 dL_law_1404 dL_law_1407 dL_law_1409 dL_law_1414 dL_law_1416 dL_law_1419 dL_law_1420 dL_law_1421 dL_law_1422 dL_law_1424 dL_law_1425 dL_law_1426 dL_law_1431 (by decide) v2 (fun h9 => absurd h9 (by decide)) (fun H locs ls hP hS hl => kk _ _ _ _ _ H locs ls _ _ (by omega) (by omega) v3 hP hS hl)
set_option maxHeartbeats 4000000 in
theorem case_heard (C : LCtx p l s m c G A0 cA cJ a bb o b N xs) (D : LSt G A0 s cA cJ a bb o b N i B K S T L L' fo H locs ls cells slots) (kk : LKK p l e s m below meth c Q G A0 cA cJ a bb o b i B K cells slots) : W p l e room_1 s m #[Value.ref b] below meth c H locs cells slots Q (F0 m 1434 ls []) := by
  obtain ⟨hfl, hx, hb, hml, hown, hts, F, hK, hXf⟩ := C
  obtain ⟨hi, hN, h, hB, hK2, hP, hS, hl, hc, hs⟩ := D
  have hX := hXf _ _ _ _ _ _ _ hP hS h.1.1.2.1
  refine lv_aload_n hx hb dL_law_1434 rfl (lv_at hl 2 rfl) ?_
  refine lv_aload_n hx hb dL_law_1435 rfl (lv_at hl 1 rfl) ?_
  refine lv_iload hx hb dL_law_1436 (lv_at hl 0 rfl) ?_
  refine lv_iconst (v := 1) hx hb dL_law_1438 (by decide) ?_
  refine lv_iadd hx hb dL_law_1439 ?_
  refine x_sld hx hb hX (ix_in (j := 1) hi hN (by decide)) dL_law_1440 ?_
  refine lv_aload_n hx hb dL_law_1441 rfl (lv_at hl 4 rfl) ?_
  by_cases hk : kX9_heard S (xs (nI i + 1).toNatClampNeg) = 0
  · obtain ⟨v1, v2, v3⟩ := (sim_heard hB hK2 h).1 hk
    refine x_help (S1 := S) (L1 := L) (As := [.ref (a 0), .int (xs (nI i + 1).toNatClampNeg), .ref o]) (rest := []) ⟨hx, hb, hml, hown, hts⟩ F (h0_L_heard l hfl G cA cJ a F.1 o F.2.2.1 S L fo H.size (xs (nI i + 1).toNatClampNeg) hk) (vx_cwSW 3 hts gL_law_L_heard rfl rfl rfl (by decide +kernel) ⟨Nat.le_of_ble_eq_true rfl, Nat.le_of_ble_eq_true rfl⟩) hK hP hS rfl hl.1 rfl (lv_room (Nat.le_of_ble_eq_true rfl)) dL_law_1442 (rm_ok (by omega) (by omega)) (fun r f9 H locs hr hP hS => ?_)
    obtain ⟨er, hf⟩ := hr
    subst er
    have hX := hXf _ _ _ _ _ _ _ hP hS v3.1.1.2.1
    refine lv_istore (lv' := (5, .int 0) :: lwL a bb o b i) hx hb dL_law_1445 hl (by decide) rfl (fun ls hl => ?_)
    refine lv_aload_n hx hb dL_law_1447 rfl (lv_at hl 4 rfl) ?_
    refine lv_aload_n hx hb dL_law_1448 rfl (lv_at hl 2 rfl) ?_
    refine lv_iload hx hb dL_law_1449 (lv_at hl 1 rfl) ?_
    refine lv_iconst (v := 1) hx hb dL_law_1451 (by decide) ?_
    refine lv_iadd hx hb dL_law_1452 ?_
    refine x_sld hx hb hX (ix_in (j := 1) hi hN (by decide)) dL_law_1453 ?_
    refine x_ref (T1 := (fX11_heard T (xs (nI i + 1).toNatClampNeg))) (L1' := L') (r := (rX11_heard T (xs (nI i + 1).toNatClampNeg))) (As := [.int (xs (nI i + 1).toNatClampNeg)]) (rest := []) ⟨hx, hb, hml, hown, hts⟩ F (c_X11_heard l G cA (a 37) bb F.2.1 T L' H.size (xs (nI i + 1).toNatClampNeg) ) (cwV 1 hts gL_law_X11_heard rfl rfl rfl (by decide +kernel) ⟨Nat.le_of_ble_eq_true rfl, Nat.le_of_ble_eq_true rfl⟩) hK hP hS rfl hl.1 rfl (lv_room (Nat.le_of_ble_eq_true rfl)) dL_law_1454 (rm_ok (by omega) (by omega)) (fun H locs hP hS => ?_)
    exact x_end (E := 1457) hx hb hml hown hts F hK hP hS hl (by omega) (by omega) dL_law_1457 dL_law_1459 dL_law_1460 dL_law_1463 dL_law_1465 dL_law_1470 dL_law_1472 dL_law_1475 dL_law_1476 dL_law_1477 dL_law_1478 dL_law_1480 dL_law_1481 dL_law_1482 dL_law_1487 (by decide) v2 (fun _ => by rw [hf, v1]) (fun H locs ls hP hS hl => kk _ _ _ _ _ H locs ls _ _ (by omega) (by omega) v3 hP hS hl)
  · obtain ⟨v2, v3⟩ := (sim_heard hB hK2 h).2 hk
    refine x_help (S1 := S) (L1 := L) (As := [.ref (a 0), .int (xs (nI i + 1).toNatClampNeg), .ref o]) (rest := []) ⟨hx, hb, hml, hown, hts⟩ F (h1_L_heard l hfl G cA cJ a F.1 o F.2.2.1 S L fo H.size (xs (nI i + 1).toNatClampNeg) hk) (vx_cwSW 3 hts gL_law_L_heard rfl rfl rfl (by decide +kernel) ⟨Nat.le_of_ble_eq_true rfl, Nat.le_of_ble_eq_true rfl⟩) hK hP hS rfl hl.1 rfl (lv_room (Nat.le_of_ble_eq_true rfl)) dL_law_1442 (rm_ok (by omega) (by omega)) (fun r f9 H locs hr hP hS => ?_)
    obtain ⟨er, hf⟩ := hr
    subst er
    have hX := hXf _ _ _ _ _ _ _ hP hS v3.1.1.2.1
    refine lv_istore (lv' := (5, .int 1) :: lwL a bb o b i) hx hb dL_law_1445 hl (by decide) rfl (fun ls hl => ?_)
    refine lv_aload_n hx hb dL_law_1447 rfl (lv_at hl 4 rfl) ?_
    refine lv_aload_n hx hb dL_law_1448 rfl (lv_at hl 2 rfl) ?_
    refine lv_iload hx hb dL_law_1449 (lv_at hl 1 rfl) ?_
    refine lv_iconst (v := 1) hx hb dL_law_1451 (by decide) ?_
    refine lv_iadd hx hb dL_law_1452 ?_
    refine x_sld hx hb hX (ix_in (j := 1) hi hN (by decide)) dL_law_1453 ?_
    refine x_ref (T1 := (fX11_heard T (xs (nI i + 1).toNatClampNeg))) (L1' := L') (r := (rX11_heard T (xs (nI i + 1).toNatClampNeg))) (As := [.int (xs (nI i + 1).toNatClampNeg)]) (rest := []) ⟨hx, hb, hml, hown, hts⟩ F (c_X11_heard l G cA (a 37) bb F.2.1 T L' H.size (xs (nI i + 1).toNatClampNeg) ) (cwV 1 hts gL_law_X11_heard rfl rfl rfl (by decide +kernel) ⟨Nat.le_of_ble_eq_true rfl, Nat.le_of_ble_eq_true rfl⟩) hK hP hS rfl hl.1 rfl (lv_room (Nat.le_of_ble_eq_true rfl)) dL_law_1454 (rm_ok (by omega) (by omega)) (fun H locs hP hS => ?_)
    exact x_end (E := 1457) hx hb hml hown hts F hK hP hS hl (by omega) (by omega) dL_law_1457 dL_law_1459 dL_law_1460 dL_law_1463 dL_law_1465 dL_law_1470 dL_law_1472 dL_law_1475 dL_law_1476 dL_law_1477 dL_law_1478 dL_law_1480 dL_law_1481 dL_law_1482 dL_law_1487 (by decide) v2 (fun h9 => absurd h9 (by decide)) (fun H locs ls hP hS hl => kk _ _ _ _ _ H locs ls _ _ (by omega) (by omega) v3 hP hS hl)
set_option maxHeartbeats 4000000 in
theorem case_clock (C : LCtx p l s m c G A0 cA cJ a bb o b N xs) (D : LSt G A0 s cA cJ a bb o b N i B K S T L L' fo H locs ls cells slots) (kk : LKK p l e s m below meth c Q G A0 cA cJ a bb o b i B K cells slots) : W p l e room_1 s m #[Value.ref b] below meth c H locs cells slots Q (F0 m 1490 ls []) := by
  obtain ⟨hfl, hx, hb, hml, hown, hts, F, hK, hXf⟩ := C
  obtain ⟨hi, hN, h, hB, hK2, hP, hS, hl, hc, hs⟩ := D
  obtain ⟨v1, v3⟩ := sim_clock hB hK2 h
  refine lv_aload_n hx hb dL_law_1490 rfl (lv_at hl 2 rfl) ?_
  refine x_cls (S1 := S) (L1 := L) (r := (rX9_clock S)) (As := []) (rest := []) ⟨hx, hb, hml, hown, hts⟩ F (c_X9_clock l G cA a F.1 S L H.size ) (cwV 0 hts gL_law_X9_clock rfl rfl rfl (by decide +kernel) ⟨Nat.le_of_ble_eq_true rfl, Nat.le_of_ble_eq_true rfl⟩) hK hP hS rfl hl.1 rfl (lv_room (Nat.le_of_ble_eq_true rfl)) dL_law_1491 (rm_ok (by omega) (by omega)) (fun H locs hP hS => ?_)
  refine lv_aload_n hx hb dL_law_1494 rfl (lv_at hl 3 rfl) ?_
  refine x_ref (T1 := (fX11_clock T)) (L1' := L') (r := (rX11_clock T)) (As := []) (rest := [.int (rX9_clock S)]) ⟨hx, hb, hml, hown, hts⟩ F (c_X11_clock l G cA (a 37) bb F.2.1 T L' H.size  ) (cwV 0 hts gL_law_X11_clock rfl rfl rfl (by decide +kernel) ⟨Nat.le_of_ble_eq_true rfl, Nat.le_of_ble_eq_true rfl⟩) hK hP hS rfl hl.1 rfl (lv_room (Nat.le_of_ble_eq_true rfl)) dL_law_1495 (rm_ok (by omega) (by omega)) (fun H locs hP hS => ?_)
  exact lv_icmp_eq (tgt := 1991) hx hb dL_law_1498 (by decide) (fun _ => kk _ _ _ _ _ H locs ls _ _ (by omega) (by omega) v3 hP hS hl) (fun c1 => absurd v1 c1)
set_option maxHeartbeats 4000000 in
theorem case_peak (C : LCtx p l s m c G A0 cA cJ a bb o b N xs) (D : LSt G A0 s cA cJ a bb o b N i B K S T L L' fo H locs ls cells slots) (kk : LKK p l e s m below meth c Q G A0 cA cJ a bb o b i B K cells slots) : W p l e room_1 s m #[Value.ref b] below meth c H locs cells slots Q (F0 m 1503 ls []) := by
  obtain ⟨hfl, hx, hb, hml, hown, hts, F, hK, hXf⟩ := C
  obtain ⟨hi, hN, h, hB, hK2, hP, hS, hl, hc, hs⟩ := D
  obtain ⟨v1, v3⟩ := sim_peak hB hK2 h
  refine lv_aload_n hx hb dL_law_1503 rfl (lv_at hl 2 rfl) ?_
  refine x_cls (S1 := S) (L1 := L) (r := (rX9_peak S)) (As := []) (rest := []) ⟨hx, hb, hml, hown, hts⟩ F (c_X9_peak l G cA a F.1 S L H.size ) (cwV 0 hts gL_law_X9_peak rfl rfl rfl (by decide +kernel) ⟨Nat.le_of_ble_eq_true rfl, Nat.le_of_ble_eq_true rfl⟩) hK hP hS rfl hl.1 rfl (lv_room (Nat.le_of_ble_eq_true rfl)) dL_law_1504 (rm_ok (by omega) (by omega)) (fun H locs hP hS => ?_)
  refine lv_aload_n hx hb dL_law_1507 rfl (lv_at hl 3 rfl) ?_
  refine x_ref (T1 := (fX11_peak T)) (L1' := L') (r := (rX11_peak T)) (As := []) (rest := [.int (rX9_peak S)]) ⟨hx, hb, hml, hown, hts⟩ F (c_X11_peak l G cA (a 37) bb F.2.1 T L' H.size  ) (cwV 0 hts gL_law_X11_peak rfl rfl rfl (by decide +kernel) ⟨Nat.le_of_ble_eq_true rfl, Nat.le_of_ble_eq_true rfl⟩) hK hP hS rfl hl.1 rfl (lv_room (Nat.le_of_ble_eq_true rfl)) dL_law_1508 (rm_ok (by omega) (by omega)) (fun H locs hP hS => ?_)
  exact lv_icmp_eq (tgt := 1991) hx hb dL_law_1511 (by decide) (fun _ => kk _ _ _ _ _ H locs ls _ _ (by omega) (by omega) v3 hP hS hl) (fun c1 => absurd v1 c1)
set_option maxHeartbeats 4000000 in
theorem case_clipped (C : LCtx p l s m c G A0 cA cJ a bb o b N xs) (D : LSt G A0 s cA cJ a bb o b N i B K S T L L' fo H locs ls cells slots) (kk : LKK p l e s m below meth c Q G A0 cA cJ a bb o b i B K cells slots) : W p l e room_1 s m #[Value.ref b] below meth c H locs cells slots Q (F0 m 1557 ls []) := by
  obtain ⟨hfl, hx, hb, hml, hown, hts, F, hK, hXf⟩ := C
  obtain ⟨hi, hN, h, hB, hK2, hP, hS, hl, hc, hs⟩ := D
  obtain ⟨v1, v3⟩ := sim_clipped hB hK2 h
  refine lv_aload_n hx hb dL_law_1557 rfl (lv_at hl 2 rfl) ?_
  refine x_cls (S1 := S) (L1 := L) (r := (rX9_clipped S)) (As := []) (rest := []) ⟨hx, hb, hml, hown, hts⟩ F (c_X9_clipped l G cA a F.1 S L H.size ) (cwV 0 hts gL_law_X9_clipped rfl rfl rfl (by decide +kernel) ⟨Nat.le_of_ble_eq_true rfl, Nat.le_of_ble_eq_true rfl⟩) hK hP hS rfl hl.1 rfl (lv_room (Nat.le_of_ble_eq_true rfl)) dL_law_1558 (rm_ok (by omega) (by omega)) (fun H locs hP hS => ?_)
  refine lv_aload_n hx hb dL_law_1561 rfl (lv_at hl 3 rfl) ?_
  refine x_ref (T1 := (fX11_clipped T)) (L1' := L') (r := (rX11_clipped T)) (As := []) (rest := [.int (rX9_clipped S)]) ⟨hx, hb, hml, hown, hts⟩ F (c_X11_clipped l G cA (a 37) bb F.2.1 T L' H.size  ) (cwV 0 hts gL_law_X11_clipped rfl rfl rfl (by decide +kernel) ⟨Nat.le_of_ble_eq_true rfl, Nat.le_of_ble_eq_true rfl⟩) hK hP hS rfl hl.1 rfl (lv_room (Nat.le_of_ble_eq_true rfl)) dL_law_1562 (rm_ok (by omega) (by omega)) (fun H locs hP hS => ?_)
  exact lv_icmp_eq (tgt := 1991) hx hb dL_law_1565 (by decide) (fun _ => kk _ _ _ _ _ H locs ls _ _ (by omega) (by omega) v3 hP hS hl) (fun c1 => absurd v1 c1)
set_option maxHeartbeats 4000000 in
theorem case_crossings (C : LCtx p l s m c G A0 cA cJ a bb o b N xs) (D : LSt G A0 s cA cJ a bb o b N i B K S T L L' fo H locs ls cells slots) (kk : LKK p l e s m below meth c Q G A0 cA cJ a bb o b i B K cells slots) : W p l e room_1 s m #[Value.ref b] below meth c H locs cells slots Q (F0 m 1570 ls []) := by
  obtain ⟨hfl, hx, hb, hml, hown, hts, F, hK, hXf⟩ := C
  obtain ⟨hi, hN, h, hB, hK2, hP, hS, hl, hc, hs⟩ := D
  obtain ⟨v1, v3⟩ := sim_crossings hB hK2 h
  refine lv_aload_n hx hb dL_law_1570 rfl (lv_at hl 2 rfl) ?_
  refine x_cls (S1 := S) (L1 := L) (r := (rX9_crossings S)) (As := []) (rest := []) ⟨hx, hb, hml, hown, hts⟩ F (c_X9_crossings l G cA a F.1 S L H.size ) (cwV 0 hts gL_law_X9_crossings rfl rfl rfl (by decide +kernel) ⟨Nat.le_of_ble_eq_true rfl, Nat.le_of_ble_eq_true rfl⟩) hK hP hS rfl hl.1 rfl (lv_room (Nat.le_of_ble_eq_true rfl)) dL_law_1571 (rm_ok (by omega) (by omega)) (fun H locs hP hS => ?_)
  refine lv_aload_n hx hb dL_law_1574 rfl (lv_at hl 3 rfl) ?_
  refine x_ref (T1 := (fX11_crossings T)) (L1' := L') (r := (rX11_crossings T)) (As := []) (rest := [.int (rX9_crossings S)]) ⟨hx, hb, hml, hown, hts⟩ F (c_X11_crossings l G cA (a 37) bb F.2.1 T L' H.size  ) (cwV 0 hts gL_law_X11_crossings rfl rfl rfl (by decide +kernel) ⟨Nat.le_of_ble_eq_true rfl, Nat.le_of_ble_eq_true rfl⟩) hK hP hS rfl hl.1 rfl (lv_room (Nat.le_of_ble_eq_true rfl)) dL_law_1575 (rm_ok (by omega) (by omega)) (fun H locs hP hS => ?_)
  exact lv_icmp_eq (tgt := 1991) hx hb dL_law_1578 (by decide) (fun _ => kk _ _ _ _ _ H locs ls _ _ (by omega) (by omega) v3 hP hS hl) (fun c1 => absurd v1 c1)
end
