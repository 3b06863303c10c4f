section
variable {p : Program} {l : Launch} {e : Env} {s : State} {m : MethodId} {below : List Frame} {meth : Method} {c : Code} {H : Heap} {locs : List Loc} {cells slots : Nat} {Q : State → Prop}
variable {ls : Array Slot} {G : va_G} {A0 : Nat → Prop} {cA cJ : ClassId} {a bb : Nat → Nat} {S T : Mm} {L L' : Int64} {o b N i : Nat} {fo : Nat → Int64} {xs : Nat → Int32} {B K : Int}
set_option maxHeartbeats 4000000 in
theorem case_draw (C : LCtx p l s m c G A0 cA cJ a bb o b N xs) (D : LSt G A0 s cA cJ a bb o b N i B K S T L L' fo H locs ls cells slots) (kk : LKK p l e s m below meth c Q G A0 cA cJ a bb o b i B K cells slots) : W p l e room_1 s m #[Value.ref b] below meth c H locs cells slots Q (F0 m 204 ls []) := by
  obtain ⟨hfl, hx, hb, hml, hown, hts, F, hK, hXf⟩ := C
  obtain ⟨hi, hN, h, hB, hK2, hP, hS, hl, hc, hs⟩ := D
  have hX := hXf _ _ _ _ _ _ _ hP hS h.1.1.2.1
  refine lv_aload_n hx hb dL_law_204 rfl (lv_at hl 2 rfl) ?_
  refine lv_aload_n hx hb dL_law_205 rfl (lv_at hl 1 rfl) ?_
  refine lv_iload hx hb dL_law_206 (lv_at hl 0 rfl) ?_
  refine lv_iconst (v := 1) hx hb dL_law_208 (by decide) ?_
  refine lv_iadd hx hb dL_law_209 ?_
  refine x_sld hx hb hX (ix_in (j := 1) hi hN (by decide)) dL_law_210 ?_
  refine lv_aload_n hx hb dL_law_211 rfl (lv_at hl 1 rfl) ?_
  refine lv_iload hx hb dL_law_212 (lv_at hl 0 rfl) ?_
  refine lv_iconst (v := 2) hx hb dL_law_214 (by decide) ?_
  refine lv_iadd hx hb dL_law_215 ?_
  refine x_sld hx hb hX (ix_in (j := 2) hi hN (by decide)) dL_law_216 ?_
  refine lv_aload_n hx hb dL_law_217 rfl (lv_at hl 4 rfl) ?_
  by_cases hk : kX9_draw S (xs (nI i + 1).toNatClampNeg) (xs (nI i + 2).toNatClampNeg) = 0
  · obtain ⟨v1, v2, v3⟩ := (sim_draw hB hK2 h).1 hk
    refine x_help (S1 := (fX9_draw S (xs (nI i + 1).toNatClampNeg) (xs (nI i + 2).toNatClampNeg))) (L1 := L) (As := [.ref (a 0), .int (xs (nI i + 1).toNatClampNeg), .int (xs (nI i + 2).toNatClampNeg), .ref o]) (rest := []) ⟨hx, hb, hml, hown, hts⟩ F (h0_L_draw l hfl G cA cJ a F.1 o F.2.2.1 S L fo H.size (xs (nI i + 1).toNatClampNeg) (xs (nI i + 2).toNatClampNeg) hk) (vx_cwSW 4 hts gL_law_L_draw rfl rfl rfl (by decide +kernel) ⟨Nat.le_of_ble_eq_true rfl, Nat.le_of_ble_eq_true rfl⟩) hK hP hS rfl hl.1 rfl (lv_room (Nat.le_of_ble_eq_true rfl)) dL_law_218 (rm_ok (by omega) (by omega)) (fun r f9 H locs hr hP hS => ?_)
    obtain ⟨er, hf⟩ := hr
    subst er
    have hX := hXf _ _ _ _ _ _ _ hP hS v3.1.1.2.1
    refine lv_istore (lv' := (5, .int 0) :: lwL a bb o b i) hx hb dL_law_221 hl (by decide) rfl (fun ls hl => ?_)
    refine lv_aload_n hx hb dL_law_223 rfl (lv_at hl 4 rfl) ?_
    refine lv_aload_n hx hb dL_law_224 rfl (lv_at hl 2 rfl) ?_
    refine lv_iload hx hb dL_law_225 (lv_at hl 1 rfl) ?_
    refine lv_iconst (v := 1) hx hb dL_law_227 (by decide) ?_
    refine lv_iadd hx hb dL_law_228 ?_
    refine x_sld hx hb hX (ix_in (j := 1) hi hN (by decide)) dL_law_229 ?_
    refine lv_aload_n hx hb dL_law_230 rfl (lv_at hl 2 rfl) ?_
    refine lv_iload hx hb dL_law_231 (lv_at hl 1 rfl) ?_
    refine lv_iconst (v := 2) hx hb dL_law_233 (by decide) ?_
    refine lv_iadd hx hb dL_law_234 ?_
    refine x_sld hx hb hX (ix_in (j := 2) hi hN (by decide)) dL_law_235 ?_
    refine x_ref (T1 := (fX11_draw T (xs (nI i + 1).toNatClampNeg) (xs (nI i + 2).toNatClampNeg))) (L1' := L') (r := (rX11_draw T (xs (nI i + 1).toNatClampNeg) (xs (nI i + 2).toNatClampNeg))) (As := [.int (xs (nI i + 1).toNatClampNeg), .int (xs (nI i + 2).toNatClampNeg)]) (rest := []) ⟨hx, hb, hml, hown, hts⟩ F (c_X11_draw l G cA (a 37) bb F.2.1 T L' H.size (xs (nI i + 1).toNatClampNeg) (xs (nI i + 2).toNatClampNeg) ) (cwV 2 hts gL_law_X11_draw rfl rfl rfl (by decide +kernel) ⟨Nat.le_of_ble_eq_true rfl, Nat.le_of_ble_eq_true rfl⟩) hK hP hS rfl hl.1 rfl (lv_room (Nat.le_of_ble_eq_true rfl)) dL_law_236 (rm_ok (by omega) (by omega)) (fun H locs hP hS => ?_)
    exact x_end (E := 239) hx hb hml hown hts F hK hP hS hl (by omega) (by omega) dL_law_239 dL_law_241 dL_law_242 dL_law_245 dL_law_247 dL_law_252 dL_law_254 dL_law_257 dL_law_258 dL_law_259 dL_law_260 dL_law_262 dL_law_263 dL_law_264 dL_law_269 (by decide) v2 (fun _ => by rw [hf, v1]) (fun H locs ls hP hS hl => kk _ _ _ _ _ H locs ls _ _ (by omega) (by omega) v3 hP hS hl)
  · obtain ⟨v2, v3⟩ := (sim_draw hB hK2 h).2 hk
    refine x_help (S1 := S) (L1 := L) (As := [.ref (a 0), .int (xs (nI i + 1).toNatClampNeg), .int (xs (nI i + 2).toNatClampNeg), .ref o]) (rest := []) ⟨hx, hb, hml, hown, hts⟩ F (h1_L_draw l hfl G cA cJ a F.1 o F.2.2.1 S L fo H.size (xs (nI i + 1).toNatClampNeg) (xs (nI i + 2).toNatClampNeg) hk) (vx_cwSW 4 hts gL_law_L_draw rfl rfl rfl (by decide +kernel) ⟨Nat.le_of_ble_eq_true rfl, Nat.le_of_ble_eq_true rfl⟩) hK hP hS rfl hl.1 rfl (lv_room (Nat.le_of_ble_eq_true rfl)) dL_law_218 (rm_ok (by omega) (by omega)) (fun r f9 H locs hr hP hS => ?_)
    obtain ⟨er, hf⟩ := hr
    subst er
    have hX := hXf _ _ _ _ _ _ _ hP hS v3.1.1.2.1
    refine lv_istore (lv' := (5, .int (if kX9_draw S (xs (nI i + 1).toNatClampNeg) (xs (nI i + 2).toNatClampNeg) = 1 then (1 : Int32) else 2)) :: lwL a bb o b i) hx hb dL_law_221 hl (by decide) rfl (fun ls hl => ?_)
    refine lv_aload_n hx hb dL_law_223 rfl (lv_at hl 4 rfl) ?_
    refine lv_aload_n hx hb dL_law_224 rfl (lv_at hl 2 rfl) ?_
    refine lv_iload hx hb dL_law_225 (lv_at hl 1 rfl) ?_
    refine lv_iconst (v := 1) hx hb dL_law_227 (by decide) ?_
    refine lv_iadd hx hb dL_law_228 ?_
    refine x_sld hx hb hX (ix_in (j := 1) hi hN (by decide)) dL_law_229 ?_
    refine lv_aload_n hx hb dL_law_230 rfl (lv_at hl 2 rfl) ?_
    refine lv_iload hx hb dL_law_231 (lv_at hl 1 rfl) ?_
    refine lv_iconst (v := 2) hx hb dL_law_233 (by decide) ?_
    refine lv_iadd hx hb dL_law_234 ?_
    refine x_sld hx hb hX (ix_in (j := 2) hi hN (by decide)) dL_law_235 ?_
    refine x_ref (T1 := (fX11_draw T (xs (nI i + 1).toNatClampNeg) (xs (nI i + 2).toNatClampNeg))) (L1' := L') (r := (rX11_draw T (xs (nI i + 1).toNatClampNeg) (xs (nI i + 2).toNatClampNeg))) (As := [.int (xs (nI i + 1).toNatClampNeg), .int (xs (nI i + 2).toNatClampNeg)]) (rest := []) ⟨hx, hb, hml, hown, hts⟩ F (c_X11_draw l G cA (a 37) bb F.2.1 T L' H.size (xs (nI i + 1).toNatClampNeg) (xs (nI i + 2).toNatClampNeg) ) (cwV 2 hts gL_law_X11_draw rfl rfl rfl (by decide +kernel) ⟨Nat.le_of_ble_eq_true rfl, Nat.le_of_ble_eq_true rfl⟩) hK hP hS rfl hl.1 rfl (lv_room (Nat.le_of_ble_eq_true rfl)) dL_law_236 (rm_ok (by omega) (by omega)) (fun H locs hP hS => ?_)
    exact x_end (E := 239) hx hb hml hown hts F hK hP hS hl (by omega) (by omega) dL_law_239 dL_law_241 dL_law_242 dL_law_245 dL_law_247 dL_law_252 dL_law_254 dL_law_257 dL_law_258 dL_law_259 dL_law_260 dL_law_262 dL_law_263 dL_law_264 dL_law_269 (by decide) v2 (fun h9 => absurd h9 (by split <;> decide)) (fun H locs ls hP hS hl => kk _ _ _ _ _ H locs ls _ _ (by omega) (by omega) v3 hP hS hl)
set_option maxHeartbeats 4000000 in
theorem case_wave (C : LCtx p l s m c G A0 cA cJ a bb o b N xs) (D : LSt G A0 s cA cJ a bb o b N i B K S T L L' fo H locs ls cells slots) (kk : LKK p l e s m below meth c Q G A0 cA cJ a bb o b i B K cells slots) : W p l e room_1 s m #[Value.ref b] below meth c H locs cells slots Q (F0 m 272 ls []) := by
  obtain ⟨hfl, hx, hb, hml, hown, hts, F, hK, hXf⟩ := C
  obtain ⟨hi, hN, h, hB, hK2, hP, hS, hl, hc, hs⟩ := D
  have hX := hXf _ _ _ _ _ _ _ hP hS h.1.1.2.1
  refine lv_aload_n hx hb dL_law_272 rfl (lv_at hl 2 rfl) ?_
  refine lv_aload_n hx hb dL_law_273 rfl (lv_at hl 1 rfl) ?_
  refine lv_iload hx hb dL_law_274 (lv_at hl 0 rfl) ?_
  refine lv_iconst (v := 1) hx hb dL_law_276 (by decide) ?_
  refine lv_iadd hx hb dL_law_277 ?_
  refine x_sld hx hb hX (ix_in (j := 1) hi hN (by decide)) dL_law_278 ?_
  refine lv_aload_n hx hb dL_law_279 rfl (lv_at hl 1 rfl) ?_
  refine lv_iload hx hb dL_law_280 (lv_at hl 0 rfl) ?_
  refine lv_iconst (v := 2) hx hb dL_law_282 (by decide) ?_
  refine lv_iadd hx hb dL_law_283 ?_
  refine x_sld hx hb hX (ix_in (j := 2) hi hN (by decide)) dL_law_284 ?_
  refine lv_aload_n hx hb dL_law_285 rfl (lv_at hl 4 rfl) ?_
  by_cases hk : kX9_wave S (xs (nI i + 1).toNatClampNeg) (xs (nI i + 2).toNatClampNeg) = 0
  · obtain ⟨v1, v2, v3⟩ := (sim_wave hB hK2 h).1 hk
    refine x_help (S1 := S) (L1 := L) (As := [.ref (a 0), .int (xs (nI i + 1).toNatClampNeg), .int (xs (nI i + 2).toNatClampNeg), .ref o]) (rest := []) ⟨hx, hb, hml, hown, hts⟩ F (h0_L_wave l hfl G cA cJ a F.1 o F.2.2.1 S L fo H.size (xs (nI i + 1).toNatClampNeg) (xs (nI i + 2).toNatClampNeg) hk) (vx_cwSW 4 hts gL_law_L_wave rfl rfl rfl (by decide +kernel) ⟨Nat.le_of_ble_eq_true rfl, Nat.le_of_ble_eq_true rfl⟩) hK hP hS rfl hl.1 rfl (lv_room (Nat.le_of_ble_eq_true rfl)) dL_law_286 (rm_ok (by omega) (by omega)) (fun r f9 H locs hr hP hS => ?_)
    obtain ⟨er, hf⟩ := hr
    subst er
    have hX := hXf _ _ _ _ _ _ _ hP hS v3.1.1.2.1
    refine lv_istore (lv' := (5, .int 0) :: lwL a bb o b i) hx hb dL_law_289 hl (by decide) rfl (fun ls hl => ?_)
    refine lv_aload_n hx hb dL_law_291 rfl (lv_at hl 4 rfl) ?_
    refine lv_aload_n hx hb dL_law_292 rfl (lv_at hl 2 rfl) ?_
    refine lv_iload hx hb dL_law_293 (lv_at hl 1 rfl) ?_
    refine lv_iconst (v := 1) hx hb dL_law_295 (by decide) ?_
    refine lv_iadd hx hb dL_law_296 ?_
    refine x_sld hx hb hX (ix_in (j := 1) hi hN (by decide)) dL_law_297 ?_
    refine lv_aload_n hx hb dL_law_298 rfl (lv_at hl 2 rfl) ?_
    refine lv_iload hx hb dL_law_299 (lv_at hl 1 rfl) ?_
    refine lv_iconst (v := 2) hx hb dL_law_301 (by decide) ?_
    refine lv_iadd hx hb dL_law_302 ?_
    refine x_sld hx hb hX (ix_in (j := 2) hi hN (by decide)) dL_law_303 ?_
    refine x_ref (T1 := (fX11_wave T (xs (nI i + 1).toNatClampNeg) (xs (nI i + 2).toNatClampNeg))) (L1' := L') (r := (rX11_wave T (xs (nI i + 1).toNatClampNeg) (xs (nI i + 2).toNatClampNeg))) (As := [.int (xs (nI i + 1).toNatClampNeg), .int (xs (nI i + 2).toNatClampNeg)]) (rest := []) ⟨hx, hb, hml, hown, hts⟩ F (c_X11_wave l G cA (a 37) bb F.2.1 T L' H.size (xs (nI i + 1).toNatClampNeg) (xs (nI i + 2).toNatClampNeg) ) (cwV 2 hts gL_law_X11_wave rfl rfl rfl (by decide +kernel) ⟨Nat.le_of_ble_eq_true rfl, Nat.le_of_ble_eq_true rfl⟩) hK hP hS rfl hl.1 rfl (lv_room (Nat.le_of_ble_eq_true rfl)) dL_law_304 (rm_ok (by omega) (by omega)) (fun H locs hP hS => ?_)
    exact x_end (E := 307) hx hb hml hown hts F hK hP hS hl (by omega) (by omega) dL_law_307 dL_law_309 dL_law_310 dL_law_313 dL_law_315 dL_law_320 dL_law_322 dL_law_325 dL_law_326 dL_law_327 dL_law_328 dL_law_330 dL_law_331 dL_law_332 dL_law_337 (by decide) v2 (fun _ => by rw [hf, v1]) (fun H locs ls hP hS hl => kk _ _ _ _ _ H locs ls _ _ (by omega) (by omega) v3 hP hS hl)
  · obtain ⟨v2, v3⟩ := (sim_wave hB hK2 h).2 hk
    refine x_help (S1 := S) (L1 := L) (As := [.ref (a 0), .int (xs (nI i + 1).toNatClampNeg), .int (xs (nI i + 2).toNatClampNeg), .ref o]) (rest := []) ⟨hx, hb, hml, hown, hts⟩ F (h1_L_wave l hfl G cA cJ a F.1 o F.2.2.1 S L fo H.size (xs (nI i + 1).toNatClampNeg) (xs (nI i + 2).toNatClampNeg) hk) (vx_cwSW 4 hts gL_law_L_wave rfl rfl rfl (by decide +kernel) ⟨Nat.le_of_ble_eq_true rfl, Nat.le_of_ble_eq_true rfl⟩) hK hP hS rfl hl.1 rfl (lv_room (Nat.le_of_ble_eq_true rfl)) dL_law_286 (rm_ok (by omega) (by omega)) (fun r f9 H locs hr hP hS => ?_)
    obtain ⟨er, hf⟩ := hr
    subst er
    have hX := hXf _ _ _ _ _ _ _ hP hS v3.1.1.2.1
    refine lv_istore (lv' := (5, .int (if kX9_wave S (xs (nI i + 1).toNatClampNeg) (xs (nI i + 2).toNatClampNeg) = 1 then (1 : Int32) else 2)) :: lwL a bb o b i) hx hb dL_law_289 hl (by decide) rfl (fun ls hl => ?_)
    refine lv_aload_n hx hb dL_law_291 rfl (lv_at hl 4 rfl) ?_
    refine lv_aload_n hx hb dL_law_292 rfl (lv_at hl 2 rfl) ?_
    refine lv_iload hx hb dL_law_293 (lv_at hl 1 rfl) ?_
    refine lv_iconst (v := 1) hx hb dL_law_295 (by decide) ?_
    refine lv_iadd hx hb dL_law_296 ?_
    refine x_sld hx hb hX (ix_in (j := 1) hi hN (by decide)) dL_law_297 ?_
    refine lv_aload_n hx hb dL_law_298 rfl (lv_at hl 2 rfl) ?_
    refine lv_iload hx hb dL_law_299 (lv_at hl 1 rfl) ?_
    refine lv_iconst (v := 2) hx hb dL_law_301 (by decide) ?_
    refine lv_iadd hx hb dL_law_302 ?_
    refine x_sld hx hb hX (ix_in (j := 2) hi hN (by decide)) dL_law_303 ?_
    refine x_ref (T1 := (fX11_wave T (xs (nI i + 1).toNatClampNeg) (xs (nI i + 2).toNatClampNeg))) (L1' := L') (r := (rX11_wave T (xs (nI i + 1).toNatClampNeg) (xs (nI i + 2).toNatClampNeg))) (As := [.int (xs (nI i + 1).toNatClampNeg), .int (xs (nI i + 2).toNatClampNeg)]) (rest := []) ⟨hx, hb, hml, hown, hts⟩ F (c_X11_wave l G cA (a 37) bb F.2.1 T L' H.size (xs (nI i + 1).toNatClampNeg) (xs (nI i + 2).toNatClampNeg) ) (cwV 2 hts gL_law_X11_wave rfl rfl rfl (by decide +kernel) ⟨Nat.le_of_ble_eq_true rfl, Nat.le_of_ble_eq_true rfl⟩) hK hP hS rfl hl.1 rfl (lv_room (Nat.le_of_ble_eq_true rfl)) dL_law_304 (rm_ok (by omega) (by omega)) (fun H locs hP hS => ?_)
    exact x_end (E := 307) hx hb hml hown hts F hK hP hS hl (by omega) (by omega) dL_law_307 dL_law_309 dL_law_310 dL_law_313 dL_law_315 dL_law_320 dL_law_322 dL_law_325 dL_law_326 dL_law_327 dL_law_328 dL_law_330 dL_law_331 dL_law_332 dL_law_337 (by decide) v2 (fun h9 => absurd h9 (by split <;> decide)) (fun H locs ls hP hS hl => kk _ _ _ _ _ H locs ls _ _ (by omega) (by omega) v3 hP hS hl)
set_option maxHeartbeats 4000000 in
theorem case_stride (C : LCtx p l s m c G A0 cA cJ a bb o b N xs) (D : LSt G A0 s cA cJ a bb o b N i B K S T L L' fo H locs ls cells slots) (kk : LKK p l e s m below meth c Q G A0 cA cJ a bb o b i B K cells slots) : W p l e room_1 s m #[Value.ref b] below meth c H locs cells slots Q (F0 m 340 ls []) := by
  obtain ⟨hfl, hx, hb, hml, hown, hts, F, hK, hXf⟩ := C
  obtain ⟨hi, hN, h, hB, hK2, hP, hS, hl, hc, hs⟩ := D
  have hX := hXf _ _ _ _ _ _ _ hP hS h.1.1.2.1
  refine lv_aload_n hx hb dL_law_340 rfl (lv_at hl 2 rfl) ?_
  refine lv_aload_n hx hb dL_law_341 rfl (lv_at hl 1 rfl) ?_
  refine lv_iload hx hb dL_law_342 (lv_at hl 0 rfl) ?_
  refine lv_iconst (v := 1) hx hb dL_law_344 (by decide) ?_
  refine lv_iadd hx hb dL_law_345 ?_
  refine x_sld hx hb hX (ix_in (j := 1) hi hN (by decide)) dL_law_346 ?_
  refine lv_aload_n hx hb dL_law_347 rfl (lv_at hl 4 rfl) ?_
  by_cases hk : kX9_stride S (xs (nI i + 1).toNatClampNeg) = 0
  · obtain ⟨v1, v2, v3⟩ := (sim_stride hB hK2 h).1 hk
    refine x_help (S1 := S) (L1 := L) (As := [.ref (a 0), .int (xs (nI i + 1).toNatClampNeg), .ref o]) (rest := []) ⟨hx, hb, hml, hown, hts⟩ F (h0_L_stride l hfl G cA cJ a F.1 o F.2.2.1 S L fo H.size (xs (nI i + 1).toNatClampNeg) hk) (vx_cwSW 3 hts gL_law_L_stride rfl rfl rfl (by decide +kernel) ⟨Nat.le_of_ble_eq_true rfl, Nat.le_of_ble_eq_true rfl⟩) hK hP hS rfl hl.1 rfl (lv_room (Nat.le_of_ble_eq_true rfl)) dL_law_348 (rm_ok (by omega) (by omega)) (fun r f9 H locs hr hP hS => ?_)
    obtain ⟨er, hf⟩ := hr
    subst er
    have hX := hXf _ _ _ _ _ _ _ hP hS v3.1.1.2.1
    refine lv_istore (lv' := (5, .int 0) :: lwL a bb o b i) hx hb dL_law_351 hl (by decide) rfl (fun ls hl => ?_)
    refine lv_aload_n hx hb dL_law_353 rfl (lv_at hl 4 rfl) ?_
    refine lv_aload_n hx hb dL_law_354 rfl (lv_at hl 2 rfl) ?_
    refine lv_iload hx hb dL_law_355 (lv_at hl 1 rfl) ?_
    refine lv_iconst (v := 1) hx hb dL_law_357 (by decide) ?_
    refine lv_iadd hx hb dL_law_358 ?_
    refine x_sld hx hb hX (ix_in (j := 1) hi hN (by decide)) dL_law_359 ?_
    refine x_ref (T1 := (fX11_stride T (xs (nI i + 1).toNatClampNeg))) (L1' := L') (r := (rX11_stride T (xs (nI i + 1).toNatClampNeg))) (As := [.int (xs (nI i + 1).toNatClampNeg)]) (rest := []) ⟨hx, hb, hml, hown, hts⟩ F (c_X11_stride l G cA (a 37) bb F.2.1 T L' H.size (xs (nI i + 1).toNatClampNeg) ) (cwV 1 hts gL_law_X11_stride rfl rfl rfl (by decide +kernel) ⟨Nat.le_of_ble_eq_true rfl, Nat.le_of_ble_eq_true rfl⟩) hK hP hS rfl hl.1 rfl (lv_room (Nat.le_of_ble_eq_true rfl)) dL_law_360 (rm_ok (by omega) (by omega)) (fun H locs hP hS => ?_)
    exact x_end (E := 363) hx hb hml hown hts F hK hP hS hl (by omega) (by omega) dL_law_363 dL_law_365 dL_law_366 dL_law_369 dL_law_371 dL_law_376 dL_law_378 dL_law_381 dL_law_382 dL_law_383 dL_law_384 dL_law_386 dL_law_387 dL_law_388 dL_law_393 (by decide) v2 (fun _ => by rw [hf, v1]) (fun H locs ls hP hS hl => kk _ _ _ _ _ H locs ls _ _ (by omega) (by omega) v3 hP hS hl)
  · obtain ⟨v2, v3⟩ := (sim_stride hB hK2 h).2 hk
    refine x_help (S1 := S) (L1 := L) (As := [.ref (a 0), .int (xs (nI i + 1).toNatClampNeg), .ref o]) (rest := []) ⟨hx, hb, hml, hown, hts⟩ F (h1_L_stride l hfl G cA cJ a F.1 o F.2.2.1 S L fo H.size (xs (nI i + 1).toNatClampNeg) hk) (vx_cwSW 3 hts gL_law_L_stride rfl rfl rfl (by decide +kernel) ⟨Nat.le_of_ble_eq_true rfl, Nat.le_of_ble_eq_true rfl⟩) hK hP hS rfl hl.1 rfl (lv_room (Nat.le_of_ble_eq_true rfl)) dL_law_348 (rm_ok (by omega) (by omega)) (fun r f9 H locs hr hP hS => ?_)
    obtain ⟨er, hf⟩ := hr
    subst er
    have hX := hXf _ _ _ _ _ _ _ hP hS v3.1.1.2.1
    refine lv_istore (lv' := (5, .int 1) :: lwL a bb o b i) hx hb dL_law_351 hl (by decide) rfl (fun ls hl => ?_)
    refine lv_aload_n hx hb dL_law_353 rfl (lv_at hl 4 rfl) ?_
    refine lv_aload_n hx hb dL_law_354 rfl (lv_at hl 2 rfl) ?_
    refine lv_iload hx hb dL_law_355 (lv_at hl 1 rfl) ?_
    refine lv_iconst (v := 1) hx hb dL_law_357 (by decide) ?_
    refine lv_iadd hx hb dL_law_358 ?_
    refine x_sld hx hb hX (ix_in (j := 1) hi hN (by decide)) dL_law_359 ?_
    refine x_ref (T1 := (fX11_stride T (xs (nI i + 1).toNatClampNeg))) (L1' := L') (r := (rX11_stride T (xs (nI i + 1).toNatClampNeg))) (As := [.int (xs (nI i + 1).toNatClampNeg)]) (rest := []) ⟨hx, hb, hml, hown, hts⟩ F (c_X11_stride l G cA (a 37) bb F.2.1 T L' H.size (xs (nI i + 1).toNatClampNeg) ) (cwV 1 hts gL_law_X11_stride rfl rfl rfl (by decide +kernel) ⟨Nat.le_of_ble_eq_true rfl, Nat.le_of_ble_eq_true rfl⟩) hK hP hS rfl hl.1 rfl (lv_room (Nat.le_of_ble_eq_true rfl)) dL_law_360 (rm_ok (by omega) (by omega)) (fun H locs hP hS => ?_)
    exact x_end (E := 363) hx hb hml hown hts F hK hP hS hl (by omega) (by omega) dL_law_363 dL_law_365 dL_law_366 dL_law_369 dL_law_371 dL_law_376 dL_law_378 dL_law_381 dL_law_382 dL_law_383 dL_law_384 dL_law_386 dL_law_387 dL_law_388 dL_law_393 (by decide) v2 (fun h9 => absurd h9 (by decide)) (fun H locs ls hP hS hl => kk _ _ _ _ _ H locs ls _ _ (by omega) (by omega) v3 hP hS hl)
set_option maxHeartbeats 4000000 in
theorem case_setWaves (C : LCtx p l s m c G A0 cA cJ a bb o b N xs) (D : LSt G A0 s cA cJ a bb o b N i B K S T L L' fo H locs ls cells slots) (kk : LKK p l e s m below meth c Q G A0 cA cJ a bb o b i B K cells slots) : W p l e room_1 s m #[Value.ref b] below meth c H locs cells slots Q (F0 m 396 ls []) := by
  obtain ⟨hfl, hx, hb, hml, hown, hts, F, hK, hXf⟩ := C
  obtain ⟨hi, hN, h, hB, hK2, hP, hS, hl, hc, hs⟩ := D
  have hX := hXf _ _ _ _ _ _ _ hP hS h.1.1.2.1
  refine lv_aload_n hx hb dL_law_396 rfl (lv_at hl 2 rfl) ?_
  refine lv_aload_n hx hb dL_law_397 rfl (lv_at hl 1 rfl) ?_
  refine lv_iload hx hb dL_law_398 (lv_at hl 0 rfl) ?_
  refine lv_iconst (v := 1) hx hb dL_law_400 (by decide) ?_
  refine lv_iadd hx hb dL_law_401 ?_
  refine x_sld hx hb hX (ix_in (j := 1) hi hN (by decide)) dL_law_402 ?_
  refine lv_aload_n hx hb dL_law_403 rfl (lv_at hl 1 rfl) ?_
  refine lv_iload hx hb dL_law_404 (lv_at hl 0 rfl) ?_
  refine lv_iconst (v := 2) hx hb dL_law_406 (by decide) ?_
  refine lv_iadd hx hb dL_law_407 ?_
  refine x_sld hx hb hX (ix_in (j := 2) hi hN (by decide)) dL_law_408 ?_
  refine lv_aload_n hx hb dL_law_409 rfl (lv_at hl 1 rfl) ?_
  refine lv_iload hx hb dL_law_410 (lv_at hl 0 rfl) ?_
  refine lv_iconst (v := 3) hx hb dL_law_412 (by decide) ?_
  refine lv_iadd hx hb dL_law_413 ?_
  refine x_sld hx hb hX (ix_in (j := 3) hi hN (by decide)) dL_law_414 ?_
  refine lv_aload_n hx hb dL_law_415 rfl (lv_at hl 1 rfl) ?_
  refine lv_iload hx hb dL_law_416 (lv_at hl 0 rfl) ?_
  refine lv_iconst (v := 4) hx hb dL_law_418 (by decide) ?_
  refine lv_iadd hx hb dL_law_419 ?_
  refine x_sld hx hb hX (ix_in (j := 4) hi hN (by decide)) dL_law_420 ?_
  refine lv_aload_n hx hb dL_law_421 rfl (lv_at hl 1 rfl) ?_
  refine lv_iload hx hb dL_law_422 (lv_at hl 0 rfl) ?_
  refine lv_iconst (v := 5) hx hb dL_law_424 (by decide) ?_
  refine lv_iadd hx hb dL_law_425 ?_
  refine x_sld hx hb hX (ix_in (j := 5) hi hN (by decide)) dL_law_426 ?_
  refine lv_aload_n hx hb dL_law_427 rfl (lv_at hl 4 rfl) ?_
  by_cases hk : kX9_setWaves S (xs (nI i + 1).toNatClampNeg) (xs (nI i + 2).toNatClampNeg) (xs (nI i + 3).toNatClampNeg) (xs (nI i + 4).toNatClampNeg) (xs (nI i + 5).toNatClampNeg) = 0
  · obtain ⟨v1, v2, v3⟩ := (sim_setWaves hB hK2 h).1 hk
    refine x_help (S1 := (fX9_setWaves S (xs (nI i + 1).toNatClampNeg) (xs (nI i + 2).toNatClampNeg) (xs (nI i + 3).toNatClampNeg) (xs (nI i + 4).toNatClampNeg) (xs (nI i + 5).toNatClampNeg))) (L1 := L) (As := [.ref (a 0), .int (xs (nI i + 1).toNatClampNeg), .int (xs (nI i + 2).toNatClampNeg), .int (xs (nI i + 3).toNatClampNeg), .int (xs (nI i + 4).toNatClampNeg), .int (xs (nI i + 5).toNatClampNeg), .ref o]) (rest := []) ⟨hx, hb, hml, hown, hts⟩ F (h0_L_setWaves l hfl G cA cJ a F.1 o F.2.2.1 S L fo H.size (xs (nI i + 1).toNatClampNeg) (xs (nI i + 2).toNatClampNeg) (xs (nI i + 3).toNatClampNeg) (xs (nI i + 4).toNatClampNeg) (xs (nI i + 5).toNatClampNeg) hk) (vx_cwSW 7 hts gL_law_L_setWaves rfl rfl rfl (by decide +kernel) ⟨Nat.le_of_ble_eq_true rfl, Nat.le_of_ble_eq_true rfl⟩) hK hP hS rfl hl.1 rfl (lv_room (Nat.le_of_ble_eq_true rfl)) dL_law_428 (rm_ok (by omega) (by omega)) (fun r f9 H locs hr hP hS => ?_)
    obtain ⟨er, hf⟩ := hr
    subst er
    have hX := hXf _ _ _ _ _ _ _ hP hS v3.1.1.2.1
    refine lv_istore (lv' := (5, .int 0) :: lwL a bb o b i) hx hb dL_law_431 hl (by decide) rfl (fun ls hl => ?_)
    refine lv_aload_n hx hb dL_law_433 rfl (lv_at hl 4 rfl) ?_
    refine lv_aload_n hx hb dL_law_434 rfl (lv_at hl 2 rfl) ?_
    refine lv_iload hx hb dL_law_435 (lv_at hl 1 rfl) ?_
    refine lv_iconst (v := 1) hx hb dL_law_437 (by decide) ?_
    refine lv_iadd hx hb dL_law_438 ?_
    refine x_sld hx hb hX (ix_in (j := 1) hi hN (by decide)) dL_law_439 ?_
    refine lv_aload_n hx hb dL_law_440 rfl (lv_at hl 2 rfl) ?_
    refine lv_iload hx hb dL_law_441 (lv_at hl 1 rfl) ?_
    refine lv_iconst (v := 2) hx hb dL_law_443 (by decide) ?_
    refine lv_iadd hx hb dL_law_444 ?_
    refine x_sld hx hb hX (ix_in (j := 2) hi hN (by decide)) dL_law_445 ?_
    refine lv_aload_n hx hb dL_law_446 rfl (lv_at hl 2 rfl) ?_
    refine lv_iload hx hb dL_law_447 (lv_at hl 1 rfl) ?_
    refine lv_iconst (v := 3) hx hb dL_law_449 (by decide) ?_
    refine lv_iadd hx hb dL_law_450 ?_
    refine x_sld hx hb hX (ix_in (j := 3) hi hN (by decide)) dL_law_451 ?_
    refine lv_aload_n hx hb dL_law_452 rfl (lv_at hl 2 rfl) ?_
    refine lv_iload hx hb dL_law_453 (lv_at hl 1 rfl) ?_
    refine lv_iconst (v := 4) hx hb dL_law_455 (by decide) ?_
    refine lv_iadd hx hb dL_law_456 ?_
    refine x_sld hx hb hX (ix_in (j := 4) hi hN (by decide)) dL_law_457 ?_
    refine lv_aload_n hx hb dL_law_458 rfl (lv_at hl 2 rfl) ?_
    refine lv_iload hx hb dL_law_459 (lv_at hl 1 rfl) ?_
    refine lv_iconst (v := 5) hx hb dL_law_461 (by decide) ?_
    refine lv_iadd hx hb dL_law_462 ?_
    refine x_sld hx hb hX (ix_in (j := 5) hi hN (by decide)) dL_law_463 ?_
    refine x_ref (T1 := (fX11_setWaves T (xs (nI i + 1).toNatClampNeg) (xs (nI i + 2).toNatClampNeg) (xs (nI i + 3).toNatClampNeg) (xs (nI i + 4).toNatClampNeg) (xs (nI i + 5).toNatClampNeg))) (L1' := L') (r := (rX11_setWaves T (xs (nI i + 1).toNatClampNeg) (xs (nI i + 2).toNatClampNeg) (xs (nI i + 3).toNatClampNeg) (xs (nI i + 4).toNatClampNeg) (xs (nI i + 5).toNatClampNeg))) (As := [.int (xs (nI i + 1).toNatClampNeg), .int (xs (nI i + 2).toNatClampNeg), .int (xs (nI i + 3).toNatClampNeg), .int (xs (nI i + 4).toNatClampNeg), .int (xs (nI i + 5).toNatClampNeg)]) (rest := []) ⟨hx, hb, hml, hown, hts⟩ F (c_X11_setWaves l G cA (a 37) bb F.2.1 T L' H.size (xs (nI i + 1).toNatClampNeg) (xs (nI i + 2).toNatClampNeg) (xs (nI i + 3).toNatClampNeg) (xs (nI i + 4).toNatClampNeg) (xs (nI i + 5).toNatClampNeg) ) (cwV 5 hts gL_law_X11_setWaves rfl rfl rfl (by decide +kernel) ⟨Nat.le_of_ble_eq_true rfl, Nat.le_of_ble_eq_true rfl⟩) hK hP hS rfl hl.1 rfl (lv_room (Nat.le_of_ble_eq_true rfl)) dL_law_464 (rm_ok (by omega) (by omega)) (fun H locs hP hS => ?_)
    exact x_end (E := 467) hx hb hml hown hts F hK hP hS hl (by omega) (by omega) dL_law_467 dL_law_469 dL_law_470 dL_law_473 dL_law_475 dL_law_480 dL_law_482 dL_law_485 dL_law_486 dL_law_487 dL_law_488 dL_law_490 dL_law_491 dL_law_492 dL_law_497 (by decide) v2 (fun _ => by rw [hf, v1]) (fun H locs ls hP hS hl => kk _ _ _ _ _ H locs ls _ _ (by omega) (by omega) v3 hP hS hl)
  · obtain ⟨v2, v3⟩ := (sim_setWaves hB hK2 h).2 hk
    refine x_help (S1 := S) (L1 := L) (As := [.ref (a 0), .int (xs (nI i + 1).toNatClampNeg), .int (xs (nI i + 2).toNatClampNeg), .int (xs (nI i + 3).toNatClampNeg), .int (xs (nI i + 4).toNatClampNeg), .int (xs (nI i + 5).toNatClampNeg), .ref o]) (rest := []) ⟨hx, hb, hml, hown, hts⟩ F (h1_L_setWaves l hfl G cA cJ a F.1 o F.2.2.1 S L fo H.size (xs (nI i + 1).toNatClampNeg) (xs (nI i + 2).toNatClampNeg) (xs (nI i + 3).toNatClampNeg) (xs (nI i + 4).toNatClampNeg) (xs (nI i + 5).toNatClampNeg) hk) (vx_cwSW 7 hts gL_law_L_setWaves rfl rfl rfl (by decide +kernel) ⟨Nat.le_of_ble_eq_true rfl, Nat.le_of_ble_eq_true rfl⟩) hK hP hS rfl hl.1 rfl (lv_room (Nat.le_of_ble_eq_true rfl)) dL_law_428 (rm_ok (by omega) (by omega)) (fun r f9 H locs hr hP hS => ?_)
    obtain ⟨er, hf⟩ := hr
    subst er
    have hX := hXf _ _ _ _ _ _ _ hP hS v3.1.1.2.1
    refine lv_istore (lv' := (5, .int (if kX9_setWaves S (xs (nI i + 1).toNatClampNeg) (xs (nI i + 2).toNatClampNeg) (xs (nI i + 3).toNatClampNeg) (xs (nI i + 4).toNatClampNeg) (xs (nI i + 5).toNatClampNeg) = 1 then (1 : Int32) else 2)) :: lwL a bb o b i) hx hb dL_law_431 hl (by decide) rfl (fun ls hl => ?_)
    refine lv_aload_n hx hb dL_law_433 rfl (lv_at hl 4 rfl) ?_
    refine lv_aload_n hx hb dL_law_434 rfl (lv_at hl 2 rfl) ?_
    refine lv_iload hx hb dL_law_435 (lv_at hl 1 rfl) ?_
    refine lv_iconst (v := 1) hx hb dL_law_437 (by decide) ?_
    refine lv_iadd hx hb dL_law_438 ?_
    refine x_sld hx hb hX (ix_in (j := 1) hi hN (by decide)) dL_law_439 ?_
    refine lv_aload_n hx hb dL_law_440 rfl (lv_at hl 2 rfl) ?_
    refine lv_iload hx hb dL_law_441 (lv_at hl 1 rfl) ?_
    refine lv_iconst (v := 2) hx hb dL_law_443 (by decide) ?_
    refine lv_iadd hx hb dL_law_444 ?_
    refine x_sld hx hb hX (ix_in (j := 2) hi hN (by decide)) dL_law_445 ?_
    refine lv_aload_n hx hb dL_law_446 rfl (lv_at hl 2 rfl) ?_
    refine lv_iload hx hb dL_law_447 (lv_at hl 1 rfl) ?_
    refine lv_iconst (v := 3) hx hb dL_law_449 (by decide) ?_
    refine lv_iadd hx hb dL_law_450 ?_
    refine x_sld hx hb hX (ix_in (j := 3) hi hN (by decide)) dL_law_451 ?_
    refine lv_aload_n hx hb dL_law_452 rfl (lv_at hl 2 rfl) ?_
    refine lv_iload hx hb dL_law_453 (lv_at hl 1 rfl) ?_
    refine lv_iconst (v := 4) hx hb dL_law_455 (by decide) ?_
    refine lv_iadd hx hb dL_law_456 ?_
    refine x_sld hx hb hX (ix_in (j := 4) hi hN (by decide)) dL_law_457 ?_
    refine lv_aload_n hx hb dL_law_458 rfl (lv_at hl 2 rfl) ?_
    refine lv_iload hx hb dL_law_459 (lv_at hl 1 rfl) ?_
    refine lv_iconst (v := 5) hx hb dL_law_461 (by decide) ?_
    refine lv_iadd hx hb dL_law_462 ?_
    refine x_sld hx hb hX (ix_in (j := 5) hi hN (by decide)) dL_law_463 ?_
    refine x_ref (T1 := (fX11_setWaves T (xs (nI i + 1).toNatClampNeg) (xs (nI i + 2).toNatClampNeg) (xs (nI i + 3).toNatClampNeg) (xs (nI i + 4).toNatClampNeg) (xs (nI i + 5).toNatClampNeg))) (L1' := L') (r := (rX11_setWaves T (xs (nI i + 1).toNatClampNeg) (xs (nI i + 2).toNatClampNeg) (xs (nI i + 3).toNatClampNeg) (xs (nI i + 4).toNatClampNeg) (xs (nI i + 5).toNatClampNeg))) (As := [.int (xs (nI i + 1).toNatClampNeg), .int (xs (nI i + 2).toNatClampNeg), .int (xs (nI i + 3).toNatClampNeg), .int (xs (nI i + 4).toNatClampNeg), .int (xs (nI i + 5).toNatClampNeg)]) (rest := []) ⟨hx, hb, hml, hown, hts⟩ F (c_X11_setWaves l G cA (a 37) bb F.2.1 T L' H.size (xs (nI i + 1).toNatClampNeg) (xs (nI i + 2).toNatClampNeg) (xs (nI i + 3).toNatClampNeg) (xs (nI i + 4).toNatClampNeg) (xs (nI i + 5).toNatClampNeg) ) (cwV 5 hts gL_law_X11_setWaves rfl rfl rfl (by decide +kernel) ⟨Nat.le_of_ble_eq_true rfl, Nat.le_of_ble_eq_true rfl⟩) hK hP hS rfl hl.1 rfl (lv_room (Nat.le_of_ble_eq_true rfl)) dL_law_464 (rm_ok (by omega) (by omega)) (fun H locs hP hS => ?_)
    exact x_end (E := 467) hx hb hml hown hts F hK hP hS hl (by omega) (by omega) dL_law_467 dL_law_469 dL_law_470 dL_law_473 dL_law_475 dL_law_480 dL_law_482 dL_law_485 dL_law_486 dL_law_487 dL_law_488 dL_law_490 dL_law_491 dL_law_492 dL_law_497 (by decide) v2 (fun h9 => absurd h9 (by split <;> decide)) (fun H locs ls hP hS hl => kk _ _ _ _ _ H locs ls _ _ (by omega) (by omega) v3 hP hS hl)
set_option maxHeartbeats 4000000 in
theorem case_setEnvelope (C : LCtx p l s m c G A0 cA cJ a bb o b N xs) (D : LSt G A0 s cA cJ a bb o b N i B K S T L L' fo H locs ls cells slots) (kk : LKK p l e s m below meth c Q G A0 cA cJ a bb o b i B K cells slots) : W p l e room_1 s m #[Value.ref b] below meth c H locs cells slots Q (F0 m 500 ls []) := by
  obtain ⟨hfl, hx, hb, hml, hown, hts, F, hK, hXf⟩ := C
  obtain ⟨hi, hN, h, hB, hK2, hP, hS, hl, hc, hs⟩ := D
  have hX := hXf _ _ _ _ _ _ _ hP hS h.1.1.2.1
  refine lv_aload_n hx hb dL_law_500 rfl (lv_at hl 2 rfl) ?_
  refine lv_aload_n hx hb dL_law_501 rfl (lv_at hl 1 rfl) ?_
  refine lv_iload hx hb dL_law_502 (lv_at hl 0 rfl) ?_
  refine lv_iconst (v := 1) hx hb dL_law_504 (by decide) ?_
  refine lv_iadd hx hb dL_law_505 ?_
  refine x_sld hx hb hX (ix_in (j := 1) hi hN (by decide)) dL_law_506 ?_
  refine lv_aload_n hx hb dL_law_507 rfl (lv_at hl 1 rfl) ?_
  refine lv_iload hx hb dL_law_508 (lv_at hl 0 rfl) ?_
  refine lv_iconst (v := 2) hx hb dL_law_510 (by decide) ?_
  refine lv_iadd hx hb dL_law_511 ?_
  refine x_sld hx hb hX (ix_in (j := 2) hi hN (by decide)) dL_law_512 ?_
  refine lv_aload_n hx hb dL_law_513 rfl (lv_at hl 1 rfl) ?_
  refine lv_iload hx hb dL_law_514 (lv_at hl 0 rfl) ?_
  refine lv_iconst (v := 3) hx hb dL_law_516 (by decide) ?_
  refine lv_iadd hx hb dL_law_517 ?_
  refine x_sld hx hb hX (ix_in (j := 3) hi hN (by decide)) dL_law_518 ?_
  refine lv_aload_n hx hb dL_law_519 rfl (lv_at hl 1 rfl) ?_
  refine lv_iload hx hb dL_law_520 (lv_at hl 0 rfl) ?_
  refine lv_iconst (v := 4) hx hb dL_law_522 (by decide) ?_
  refine lv_iadd hx hb dL_law_523 ?_
  refine x_sld hx hb hX (ix_in (j := 4) hi hN (by decide)) dL_law_524 ?_
  refine lv_aload_n hx hb dL_law_525 rfl (lv_at hl 1 rfl) ?_
  refine lv_iload hx hb dL_law_526 (lv_at hl 0 rfl) ?_
  refine lv_iconst (v := 5) hx hb dL_law_528 (by decide) ?_
  refine lv_iadd hx hb dL_law_529 ?_
  refine x_sld hx hb hX (ix_in (j := 5) hi hN (by decide)) dL_law_530 ?_
  refine lv_aload_n hx hb dL_law_531 rfl (lv_at hl 4 rfl) ?_
  by_cases hk : kX9_setEnvelope S (xs (nI i + 1).toNatClampNeg) (xs (nI i + 2).toNatClampNeg) (xs (nI i + 3).toNatClampNeg) (xs (nI i + 4).toNatClampNeg) (xs (nI i + 5).toNatClampNeg) = 0
  · obtain ⟨v1, v2, v3⟩ := (sim_setEnvelope hB hK2 h).1 hk
    refine x_help (S1 := (fX9_setEnvelope S (xs (nI i + 1).toNatClampNeg) (xs (nI i + 2).toNatClampNeg) (xs (nI i + 3).toNatClampNeg) (xs (nI i + 4).toNatClampNeg) (xs (nI i + 5).toNatClampNeg))) (L1 := L) (As := [.ref (a 0), .int (xs (nI i + 1).toNatClampNeg), .int (xs (nI i + 2).toNatClampNeg), .int (xs (nI i + 3).toNatClampNeg), .int (xs (nI i + 4).toNatClampNeg), .int (xs (nI i + 5).toNatClampNeg), .ref o]) (rest := []) ⟨hx, hb, hml, hown, hts⟩ F (h0_L_setEnvelope l hfl G cA cJ a F.1 o F.2.2.1 S L fo H.size (xs (nI i + 1).toNatClampNeg) (xs (nI i + 2).toNatClampNeg) (xs (nI i + 3).toNatClampNeg) (xs (nI i + 4).toNatClampNeg) (xs (nI i + 5).toNatClampNeg) hk) (vx_cwSW 7 hts gL_law_L_setEnvelope rfl rfl rfl (by decide +kernel) ⟨Nat.le_of_ble_eq_true rfl, Nat.le_of_ble_eq_true rfl⟩) hK hP hS rfl hl.1 rfl (lv_room (Nat.le_of_ble_eq_true rfl)) dL_law_532 (rm_ok (by omega) (by omega)) (fun r f9 H locs hr hP hS => ?_)
    obtain ⟨er, hf⟩ := hr
    subst er
    have hX := hXf _ _ _ _ _ _ _ hP hS v3.1.1.2.1
    refine lv_istore (lv' := (5, .int 0) :: lwL a bb o b i) hx hb dL_law_535 hl (by decide) rfl (fun ls hl => ?_)
    refine lv_aload_n hx hb dL_law_537 rfl (lv_at hl 4 rfl) ?_
    refine lv_aload_n hx hb dL_law_538 rfl (lv_at hl 2 rfl) ?_
    refine lv_iload hx hb dL_law_539 (lv_at hl 1 rfl) ?_
    refine lv_iconst (v := 1) hx hb dL_law_541 (by decide) ?_
    refine lv_iadd hx hb dL_law_542 ?_
    refine x_sld hx hb hX (ix_in (j := 1) hi hN (by decide)) dL_law_543 ?_
    refine lv_aload_n hx hb dL_law_544 rfl (lv_at hl 2 rfl) ?_
    refine lv_iload hx hb dL_law_545 (lv_at hl 1 rfl) ?_
    refine lv_iconst (v := 2) hx hb dL_law_547 (by decide) ?_
    refine lv_iadd hx hb dL_law_548 ?_
    refine x_sld hx hb hX (ix_in (j := 2) hi hN (by decide)) dL_law_549 ?_
    refine lv_aload_n hx hb dL_law_550 rfl (lv_at hl 2 rfl) ?_
    refine lv_iload hx hb dL_law_551 (lv_at hl 1 rfl) ?_
    refine lv_iconst (v := 3) hx hb dL_law_553 (by decide) ?_
    refine lv_iadd hx hb dL_law_554 ?_
    refine x_sld hx hb hX (ix_in (j := 3) hi hN (by decide)) dL_law_555 ?_
    refine lv_aload_n hx hb dL_law_556 rfl (lv_at hl 2 rfl) ?_
    refine lv_iload hx hb dL_law_557 (lv_at hl 1 rfl) ?_
    refine lv_iconst (v := 4) hx hb dL_law_559 (by decide) ?_
    refine lv_iadd hx hb dL_law_560 ?_
    refine x_sld hx hb hX (ix_in (j := 4) hi hN (by decide)) dL_law_561 ?_
    refine lv_aload_n hx hb dL_law_562 rfl (lv_at hl 2 rfl) ?_
    refine lv_iload hx hb dL_law_563 (lv_at hl 1 rfl) ?_
    refine lv_iconst (v := 5) hx hb dL_law_565 (by decide) ?_
    refine lv_iadd hx hb dL_law_566 ?_
    refine x_sld hx hb hX (ix_in (j := 5) hi hN (by decide)) dL_law_567 ?_
    refine x_ref (T1 := (fX11_setEnvelope T (xs (nI i + 1).toNatClampNeg) (xs (nI i + 2).toNatClampNeg) (xs (nI i + 3).toNatClampNeg) (xs (nI i + 4).toNatClampNeg) (xs (nI i + 5).toNatClampNeg))) (L1' := L') (r := (rX11_setEnvelope T (xs (nI i + 1).toNatClampNeg) (xs (nI i + 2).toNatClampNeg) (xs (nI i + 3).toNatClampNeg) (xs (nI i + 4).toNatClampNeg) (xs (nI i + 5).toNatClampNeg))) (As := [.int (xs (nI i + 1).toNatClampNeg), .int (xs (nI i + 2).toNatClampNeg), .int (xs (nI i + 3).toNatClampNeg), .int (xs (nI i + 4).toNatClampNeg), .int (xs (nI i + 5).toNatClampNeg)]) (rest := []) ⟨hx, hb, hml, hown, hts⟩ F (c_X11_setEnvelope l G cA (a 37) bb F.2.1 T L' H.size (xs (nI i + 1).toNatClampNeg) (xs (nI i + 2).toNatClampNeg) (xs (nI i + 3).toNatClampNeg) (xs (nI i + 4).toNatClampNeg) (xs (nI i + 5).toNatClampNeg) ) (cwV 5 hts gL_law_X11_setEnvelope rfl rfl rfl (by decide +kernel) ⟨Nat.le_of_ble_eq_true rfl, Nat.le_of_ble_eq_true rfl⟩) hK hP hS rfl hl.1 rfl (lv_room (Nat.le_of_ble_eq_true rfl)) dL_law_568 (rm_ok (by omega) (by omega)) (fun H locs hP hS => ?_)
    exact x_end (E := 571) hx hb hml hown hts F hK hP hS hl (by omega) (by omega) dL_law_571 dL_law_573 dL_law_574 dL_law_577 dL_law_579 dL_law_584 dL_law_586 dL_law_589 dL_law_590 dL_law_591 dL_law_592 dL_law_594 dL_law_595 dL_law_596 dL_law_601 (by decide) v2 (fun _ => by rw [hf, v1]) (fun H locs ls hP hS hl => kk _ _ _ _ _ H locs ls _ _ (by omega) (by omega) v3 hP hS hl)
  · obtain ⟨v2, v3⟩ := (sim_setEnvelope hB hK2 h).2 hk
    refine x_help (S1 := S) (L1 := L) (As := [.ref (a 0), .int (xs (nI i + 1).toNatClampNeg), .int (xs (nI i + 2).toNatClampNeg), .int (xs (nI i + 3).toNatClampNeg), .int (xs (nI i + 4).toNatClampNeg), .int (xs (nI i + 5).toNatClampNeg), .ref o]) (rest := []) ⟨hx, hb, hml, hown, hts⟩ F (h1_L_setEnvelope l hfl G cA cJ a F.1 o F.2.2.1 S L fo H.size (xs (nI i + 1).toNatClampNeg) (xs (nI i + 2).toNatClampNeg) (xs (nI i + 3).toNatClampNeg) (xs (nI i + 4).toNatClampNeg) (xs (nI i + 5).toNatClampNeg) hk) (vx_cwSW 7 hts gL_law_L_setEnvelope rfl rfl rfl (by decide +kernel) ⟨Nat.le_of_ble_eq_true rfl, Nat.le_of_ble_eq_true rfl⟩) hK hP hS rfl hl.1 rfl (lv_room (Nat.le_of_ble_eq_true rfl)) dL_law_532 (rm_ok (by omega) (by omega)) (fun r f9 H locs hr hP hS => ?_)
    obtain ⟨er, hf⟩ := hr
    subst er
    have hX := hXf _ _ _ _ _ _ _ hP hS v3.1.1.2.1
    refine lv_istore (lv' := (5, .int (if kX9_setEnvelope S (xs (nI i + 1).toNatClampNeg) (xs (nI i + 2).toNatClampNeg) (xs (nI i + 3).toNatClampNeg) (xs (nI i + 4).toNatClampNeg) (xs (nI i + 5).toNatClampNeg) = 1 then (1 : Int32) else 2)) :: lwL a bb o b i) hx hb dL_law_535 hl (by decide) rfl (fun ls hl => ?_)
    refine lv_aload_n hx hb dL_law_537 rfl (lv_at hl 4 rfl) ?_
    refine lv_aload_n hx hb dL_law_538 rfl (lv_at hl 2 rfl) ?_
    refine lv_iload hx hb dL_law_539 (lv_at hl 1 rfl) ?_
    refine lv_iconst (v := 1) hx hb dL_law_541 (by decide) ?_
    refine lv_iadd hx hb dL_law_542 ?_
    refine x_sld hx hb hX (ix_in (j := 1) hi hN (by decide)) dL_law_543 ?_
    refine lv_aload_n hx hb dL_law_544 rfl (lv_at hl 2 rfl) ?_
    refine lv_iload hx hb dL_law_545 (lv_at hl 1 rfl) ?_
    refine lv_iconst (v := 2) hx hb dL_law_547 (by decide) ?_
    refine lv_iadd hx hb dL_law_548 ?_
    refine x_sld hx hb hX (ix_in (j := 2) hi hN (by decide)) dL_law_549 ?_
    refine lv_aload_n hx hb dL_law_550 rfl (lv_at hl 2 rfl) ?_
    refine lv_iload hx hb dL_law_551 (lv_at hl 1 rfl) ?_
    refine lv_iconst (v := 3) hx hb dL_law_553 (by decide) ?_
    refine lv_iadd hx hb dL_law_554 ?_
    refine x_sld hx hb hX (ix_in (j := 3) hi hN (by decide)) dL_law_555 ?_
    refine lv_aload_n hx hb dL_law_556 rfl (lv_at hl 2 rfl) ?_
    refine lv_iload hx hb dL_law_557 (lv_at hl 1 rfl) ?_
    refine lv_iconst (v := 4) hx hb dL_law_559 (by decide) ?_
    refine lv_iadd hx hb dL_law_560 ?_
    refine x_sld hx hb hX (ix_in (j := 4) hi hN (by decide)) dL_law_561 ?_
    refine lv_aload_n hx hb dL_law_562 rfl (lv_at hl 2 rfl) ?_
    refine lv_iload hx hb dL_law_563 (lv_at hl 1 rfl) ?_
    refine lv_iconst (v := 5) hx hb dL_law_565 (by decide) ?_
    refine lv_iadd hx hb dL_law_566 ?_
    refine x_sld hx hb hX (ix_in (j := 5) hi hN (by decide)) dL_law_567 ?_
    refine x_ref (T1 := (fX11_setEnvelope T (xs (nI i + 1).toNatClampNeg) (xs (nI i + 2).toNatClampNeg) (xs (nI i + 3).toNatClampNeg) (xs (nI i + 4).toNatClampNeg) (xs (nI i + 5).toNatClampNeg))) (L1' := L') (r := (rX11_setEnvelope T (xs (nI i + 1).toNatClampNeg) (xs (nI i + 2).toNatClampNeg) (xs (nI i + 3).toNatClampNeg) (xs (nI i + 4).toNatClampNeg) (xs (nI i + 5).toNatClampNeg))) (As := [.int (xs (nI i + 1).toNatClampNeg), .int (xs (nI i + 2).toNatClampNeg), .int (xs (nI i + 3).toNatClampNeg), .int (xs (nI i + 4).toNatClampNeg), .int (xs (nI i + 5).toNatClampNeg)]) (rest := []) ⟨hx, hb, hml, hown, hts⟩ F (c_X11_setEnvelope l G cA (a 37) bb F.2.1 T L' H.size (xs (nI i + 1).toNatClampNeg) (xs (nI i + 2).toNatClampNeg) (xs (nI i + 3).toNatClampNeg) (xs (nI i + 4).toNatClampNeg) (xs (nI i + 5).toNatClampNeg) ) (cwV 5 hts gL_law_X11_setEnvelope rfl rfl rfl (by decide +kernel) ⟨Nat.le_of_ble_eq_true rfl, Nat.le_of_ble_eq_true rfl⟩) hK hP hS rfl hl.1 rfl (lv_room (Nat.le_of_ble_eq_true rfl)) dL_law_568 (rm_ok (by omega) (by omega)) (fun H locs hP hS => ?_)
    exact x_end (E := 571) hx hb hml hown hts F hK hP hS hl (by omega) (by omega) dL_law_571 dL_law_573 dL_law_574 dL_law_577 dL_law_579 dL_law_584 dL_law_586 dL_law_589 dL_law_590 dL_law_591 dL_law_592 dL_law_594 dL_law_595 dL_law_596 dL_law_601 (by decide) v2 (fun h9 => absurd h9 (by split <;> decide)) (fun H locs ls hP hS hl => kk _ _ _ _ _ H locs ls _ _ (by omega) (by omega) v3 hP hS hl)
set_option maxHeartbeats 4000000 in
theorem case_setFilter (C : LCtx p l s m c G A0 cA cJ a bb o b N xs) (D : LSt G A0 s cA cJ a bb o b N i B K S T L L' fo H locs ls cells slots) (kk : LKK p l e s m below meth c Q G A0 cA cJ a bb o b i B K cells slots) : W p l e room_1 s m #[Value.ref b] below meth c H locs cells slots Q (F0 m 604 ls []) := by
  obtain ⟨hfl, hx, hb, hml, hown, hts, F, hK, hXf⟩ := C
  obtain ⟨hi, hN, h, hB, hK2, hP, hS, hl, hc, hs⟩ := D
  have hX := hXf _ _ _ _ _ _ _ hP hS h.1.1.2.1
  refine lv_aload_n hx hb dL_law_604 rfl (lv_at hl 2 rfl) ?_
  refine lv_aload_n hx hb dL_law_605 rfl (lv_at hl 1 rfl) ?_
  refine lv_iload hx hb dL_law_606 (lv_at hl 0 rfl) ?_
  refine lv_iconst (v := 1) hx hb dL_law_608 (by decide) ?_
  refine lv_iadd hx hb dL_law_609 ?_
  refine x_sld hx hb hX (ix_in (j := 1) hi hN (by decide)) dL_law_610 ?_
  refine lv_aload_n hx hb dL_law_611 rfl (lv_at hl 1 rfl) ?_
  refine lv_iload hx hb dL_law_612 (lv_at hl 0 rfl) ?_
  refine lv_iconst (v := 2) hx hb dL_law_614 (by decide) ?_
  refine lv_iadd hx hb dL_law_615 ?_
  refine x_sld hx hb hX (ix_in (j := 2) hi hN (by decide)) dL_law_616 ?_
  refine lv_aload_n hx hb dL_law_617 rfl (lv_at hl 1 rfl) ?_
  refine lv_iload hx hb dL_law_618 (lv_at hl 0 rfl) ?_
  refine lv_iconst (v := 3) hx hb dL_law_620 (by decide) ?_
  refine lv_iadd hx hb dL_law_621 ?_
  refine x_sld hx hb hX (ix_in (j := 3) hi hN (by decide)) dL_law_622 ?_
  refine lv_aload_n hx hb dL_law_623 rfl (lv_at hl 4 rfl) ?_
  by_cases hk : kX9_setFilter S (xs (nI i + 1).toNatClampNeg) (xs (nI i + 2).toNatClampNeg) (xs (nI i + 3).toNatClampNeg) = 0
  · obtain ⟨v1, v2, v3⟩ := (sim_setFilter hB hK2 h).1 hk
    refine x_help (S1 := (fX9_setFilter S (xs (nI i + 1).toNatClampNeg) (xs (nI i + 2).toNatClampNeg) (xs (nI i + 3).toNatClampNeg))) (L1 := L) (As := [.ref (a 0), .int (xs (nI i + 1).toNatClampNeg), .int (xs (nI i + 2).toNatClampNeg), .int (xs (nI i + 3).toNatClampNeg), .ref o]) (rest := []) ⟨hx, hb, hml, hown, hts⟩ F (h0_L_setFilter l hfl G cA cJ a F.1 o F.2.2.1 S L fo H.size (xs (nI i + 1).toNatClampNeg) (xs (nI i + 2).toNatClampNeg) (xs (nI i + 3).toNatClampNeg) hk) (vx_cwSW 5 hts gL_law_L_setFilter rfl rfl rfl (by decide +kernel) ⟨Nat.le_of_ble_eq_true rfl, Nat.le_of_ble_eq_true rfl⟩) hK hP hS rfl hl.1 rfl (lv_room (Nat.le_of_ble_eq_true rfl)) dL_law_624 (rm_ok (by omega) (by omega)) (fun r f9 H locs hr hP hS => ?_)
    obtain ⟨er, hf⟩ := hr
    subst er
    have hX := hXf _ _ _ _ _ _ _ hP hS v3.1.1.2.1
    refine lv_istore (lv' := (5, .int 0) :: lwL a bb o b i) hx hb dL_law_627 hl (by decide) rfl (fun ls hl => ?_)
    refine lv_aload_n hx hb dL_law_629 rfl (lv_at hl 4 rfl) ?_
    refine lv_aload_n hx hb dL_law_630 rfl (lv_at hl 2 rfl) ?_
    refine lv_iload hx hb dL_law_631 (lv_at hl 1 rfl) ?_
    refine lv_iconst (v := 1) hx hb dL_law_633 (by decide) ?_
    refine lv_iadd hx hb dL_law_634 ?_
    refine x_sld hx hb hX (ix_in (j := 1) hi hN (by decide)) dL_law_635 ?_
    refine lv_aload_n hx hb dL_law_636 rfl (lv_at hl 2 rfl) ?_
    refine lv_iload hx hb dL_law_637 (lv_at hl 1 rfl) ?_
    refine lv_iconst (v := 2) hx hb dL_law_639 (by decide) ?_
    refine lv_iadd hx hb dL_law_640 ?_
    refine x_sld hx hb hX (ix_in (j := 2) hi hN (by decide)) dL_law_641 ?_
    refine lv_aload_n hx hb dL_law_642 rfl (lv_at hl 2 rfl) ?_
    refine lv_iload hx hb dL_law_643 (lv_at hl 1 rfl) ?_
    refine lv_iconst (v := 3) hx hb dL_law_645 (by decide) ?_
    refine lv_iadd hx hb dL_law_646 ?_
    refine x_sld hx hb hX (ix_in (j := 3) hi hN (by decide)) dL_law_647 ?_
    refine x_ref (T1 := (fX11_setFilter T (xs (nI i + 1).toNatClampNeg) (xs (nI i + 2).toNatClampNeg) (xs (nI i + 3).toNatClampNeg))) (L1' := L') (r := (rX11_setFilter T (xs (nI i + 1).toNatClampNeg) (xs (nI i + 2).toNatClampNeg) (xs (nI i + 3).toNatClampNeg))) (As := [.int (xs (nI i + 1).toNatClampNeg), .int (xs (nI i + 2).toNatClampNeg), .int (xs (nI i + 3).toNatClampNeg)]) (rest := []) ⟨hx, hb, hml, hown, hts⟩ F (c_X11_setFilter l G cA (a 37) bb F.2.1 T L' H.size (xs (nI i + 1).toNatClampNeg) (xs (nI i + 2).toNatClampNeg) (xs (nI i + 3).toNatClampNeg) ) (cwV 3 hts gL_law_X11_setFilter rfl rfl rfl (by decide +kernel) ⟨Nat.le_of_ble_eq_true rfl, Nat.le_of_ble_eq_true rfl⟩) hK hP hS rfl hl.1 rfl (lv_room (Nat.le_of_ble_eq_true rfl)) dL_law_648 (rm_ok (by omega) (by omega)) (fun H locs hP hS => ?_)
    exact x_end (E := 651) hx hb hml hown hts F hK hP hS hl (by omega) (by omega) dL_law_651 dL_law_653 dL_law_654 dL_law_657 dL_law_659 dL_law_664 dL_law_666 dL_law_669 dL_law_670 dL_law_671 dL_law_672 dL_law_674 dL_law_675 dL_law_676 dL_law_681 (by decide) v2 (fun _ => by rw [hf, v1]) (fun H locs ls hP hS hl => kk _ _ _ _ _ H locs ls _ _ (by omega) (by omega) v3 hP hS hl)
  · obtain ⟨v2, v3⟩ := (sim_setFilter hB hK2 h).2 hk
    refine x_help (S1 := S) (L1 := L) (As := [.ref (a 0), .int (xs (nI i + 1).toNatClampNeg), .int (xs (nI i + 2).toNatClampNeg), .int (xs (nI i + 3).toNatClampNeg), .ref o]) (rest := []) ⟨hx, hb, hml, hown, hts⟩ F (h1_L_setFilter l hfl G cA cJ a F.1 o F.2.2.1 S L fo H.size (xs (nI i + 1).toNatClampNeg) (xs (nI i + 2).toNatClampNeg) (xs (nI i + 3).toNatClampNeg) hk) (vx_cwSW 5 hts gL_law_L_setFilter rfl rfl rfl (by decide +kernel) ⟨Nat.le_of_ble_eq_true rfl, Nat.le_of_ble_eq_true rfl⟩) hK hP hS rfl hl.1 rfl (lv_room (Nat.le_of_ble_eq_true rfl)) dL_law_624 (rm_ok (by omega) (by omega)) (fun r f9 H locs hr hP hS => ?_)
    obtain ⟨er, hf⟩ := hr
    subst er
    have hX := hXf _ _ _ _ _ _ _ hP hS v3.1.1.2.1
    refine lv_istore (lv' := (5, .int (if kX9_setFilter S (xs (nI i + 1).toNatClampNeg) (xs (nI i + 2).toNatClampNeg) (xs (nI i + 3).toNatClampNeg) = 1 then (1 : Int32) else 2)) :: lwL a bb o b i) hx hb dL_law_627 hl (by decide) rfl (fun ls hl => ?_)
    refine lv_aload_n hx hb dL_law_629 rfl (lv_at hl 4 rfl) ?_
    refine lv_aload_n hx hb dL_law_630 rfl (lv_at hl 2 rfl) ?_
    refine lv_iload hx hb dL_law_631 (lv_at hl 1 rfl) ?_
    refine lv_iconst (v := 1) hx hb dL_law_633 (by decide) ?_
    refine lv_iadd hx hb dL_law_634 ?_
    refine x_sld hx hb hX (ix_in (j := 1) hi hN (by decide)) dL_law_635 ?_
    refine lv_aload_n hx hb dL_law_636 rfl (lv_at hl 2 rfl) ?_
    refine lv_iload hx hb dL_law_637 (lv_at hl 1 rfl) ?_
    refine lv_iconst (v := 2) hx hb dL_law_639 (by decide) ?_
    refine lv_iadd hx hb dL_law_640 ?_
    refine x_sld hx hb hX (ix_in (j := 2) hi hN (by decide)) dL_law_641 ?_
    refine lv_aload_n hx hb dL_law_642 rfl (lv_at hl 2 rfl) ?_
    refine lv_iload hx hb dL_law_643 (lv_at hl 1 rfl) ?_
    refine lv_iconst (v := 3) hx hb dL_law_645 (by decide) ?_
    refine lv_iadd hx hb dL_law_646 ?_
    refine x_sld hx hb hX (ix_in (j := 3) hi hN (by decide)) dL_law_647 ?_
    refine x_ref (T1 := (fX11_setFilter T (xs (nI i + 1).toNatClampNeg) (xs (nI i + 2).toNatClampNeg) (xs (nI i + 3).toNatClampNeg))) (L1' := L') (r := (rX11_setFilter T (xs (nI i + 1).toNatClampNeg) (xs (nI i + 2).toNatClampNeg) (xs (nI i + 3).toNatClampNeg))) (As := [.int (xs (nI i + 1).toNatClampNeg), .int (xs (nI i + 2).toNatClampNeg), .int (xs (nI i + 3).toNatClampNeg)]) (rest := []) ⟨hx, hb, hml, hown, hts⟩ F (c_X11_setFilter l G cA (a 37) bb F.2.1 T L' H.size (xs (nI i + 1).toNatClampNeg) (xs (nI i + 2).toNatClampNeg) (xs (nI i + 3).toNatClampNeg) ) (cwV 3 hts gL_law_X11_setFilter rfl rfl rfl (by decide +kernel) ⟨Nat.le_of_ble_eq_true rfl, Nat.le_of_ble_eq_true rfl⟩) hK hP hS rfl hl.1 rfl (lv_room (Nat.le_of_ble_eq_true rfl)) dL_law_648 (rm_ok (by omega) (by omega)) (fun H locs hP hS => ?_)
    exact x_end (E := 651) hx hb hml hown hts F hK hP hS hl (by omega) (by omega) dL_law_651 dL_law_653 dL_law_654 dL_law_657 dL_law_659 dL_law_664 dL_law_666 dL_law_669 dL_law_670 dL_law_671 dL_law_672 dL_law_674 dL_law_675 dL_law_676 dL_law_681 (by decide) v2 (fun h9 => absurd h9 (by split <;> decide)) (fun H locs ls hP hS hl => kk _ _ _ _ _ H locs ls _ _ (by omega) (by omega) v3 hP hS hl)
end
