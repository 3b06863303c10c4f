section LWK
variable {p : Program} {l : Launch} {e : Env} {s : State} {m : MethodId} {args : Array Value} {below : List Frame} {meth : Method} {c : Code} {H : Heap} {locs : List Loc} {cells slots : Nat} {Q : State → Prop}
variable {ls : Array Slot} {G : va_G} {A0 : Nat → Prop} {cA c2 c3 : ClassId} {a β ρ : Nat → Nat} {b N : Nat} {xs : Nat → Int32} {wr : Nat → Nat → Option Nat} {S : Mm} {L : Int64} {B : Mm} {X : va_W}
set_option maxHeartbeats 4000000 in
theorem fi_turn (C : LC p s m c args G A0 cA c2 c3 (a 37) b N xs) {time mm stp ah pk si mo kx stl : Int32} {told qs qn v : Nat} {f g : Nat → Int32} (hv : v < 4) (hP : va_P G vwCl (wB a cA c2 c3 β ρ b wr S L B (X ++ [(qs, .inl (cA, 4, .inl f))] ++ [(qn, .inl (cA, 4, .inl g))])) H) (hD : va_D A0 (wB a cA c2 c3 β ρ b wr S L B (X ++ [(qs, .inl (cA, 4, .inl f))] ++ [(qn, .inl (cA, 4, .inl g))]))) (hS : va_S A0 s.heap H locs) (hc : cells ≤ 682275) (hs : slots ≤ 7054873) (hl : lv_has ls 24 [(18, .int (nI v)), (17, .ref qn), (16, .ref qs), (15, .int stl), (0, .ref b), (1, .int time), (2, .ref (β 0)), (3, .ref (a 0)), (4, .ref told), (5, .int mm), (6, .int stp), (8, .int ah), (11, .int pk), (12, .int si), (13, .int mo), (14, .int kx)])
    (kk : ∀ (H1 : Heap) (locs1 : List Loc) (ls1 : Array Slot), va_P G vwCl (wB a cA c2 c3 β ρ b wr S L B (X ++ [(qs, .inl (cA, 4, .inl (upd f v (S (22 + v) 0))))] ++ [(qn, .inl (cA, 4, .inl (upd g v (S (22 + v) 9))))])) H1 → va_D A0 (wB a cA c2 c3 β ρ b wr S L B (X ++ [(qs, .inl (cA, 4, .inl (upd f v (S (22 + v) 0))))] ++ [(qn, .inl (cA, 4, .inl (upd g v (S (22 + v) 9))))])) → va_S A0 s.heap H1 locs1 → lv_has ls1 24 [(18, .int (nI (v + 1))), (17, .ref qn), (16, .ref qs), (15, .int stl), (0, .ref b), (1, .int time), (2, .ref (β 0)), (3, .ref (a 0)), (4, .ref told), (5, .int mm), (6, .int stp), (8, .int ah), (11, .int pk), (12, .int si), (13, .int mo), (14, .int kx)] → W p l e room_1 s m args below meth c H1 locs1 cells slots Q (F0 m 326 ls1 [])) : W p l e room_1 s m args below meth c H locs cells slots Q (F0 m 326 ls []) := by
  obtain ⟨hx, hb, hml, hown, hts, hK, hA, hN⟩ := C
  obtain ⟨n0, n1, n2⟩ := nI4 hv
  refine lv_iload hx hb dL_law_326 (lv_at hl 0 rfl) ?_
  refine lv_iconst (v := 4) hx hb dL_law_328 (by decide) ?_
  refine lv_icmp_ge (tgt := 363) hx hb dL_law_329 (by decide) (fun c9 => absurd c9 n2) (fun _ => ?_)
  refine lv_aload hx hb dL_law_332 (lv_at hl 2 rfl) ?_
  refine lv_iload hx hb dL_law_334 (lv_at hl 0 rfl) ?_
  refine lv_aload_n hx hb dL_law_336 rfl (lv_at hl 7 rfl) ?_
  refine lv_iload hx hb dL_law_337 (lv_at hl 0 rfl) ?_
  refine lv_iconst (v := 0) hx hb dL_law_339 (by decide) ?_
  refine t_cVi (As := [.int (nI v), .int 0]) (rest := [.int (nI v), .ref qs]) ⟨hx, hb, hml, hown, hts⟩ (c_X9_ofVoice l G cA a (t_ap hD) S L H.size (nI v) 0 n0 n1 (by decide) (by decide)) (cwV 2 hts gL_law_X9_ofVoice rfl rfl rfl (by decide +kernel) ⟨Nat.le_of_ble_eq_true rfl, Nat.le_of_ble_eq_true rfl⟩) hK.1 hA hP hD hS rfl hl.1 rfl (lv_room (Nat.le_of_ble_eq_true rfl)) dL_law_340 ⟨hc, hs⟩ (fun H locs hP hD hS => ?_)
  rw [ov0 hv]
  refine s_ist hx hb hK.2.1 hP hD hS (wB_X x_l2) (vp_in_nI hv (by decide)) (j := v) (nI_clamp (by omega)) dL_law_343 (fun H locs hP hD hS => ?_)
  rw [wB_Xk x_s2] at hP hD
  refine lv_aload hx hb dL_law_344 (lv_at hl 1 rfl) ?_
  refine lv_iload hx hb dL_law_346 (lv_at hl 0 rfl) ?_
  refine lv_aload_n hx hb dL_law_348 rfl (lv_at hl 7 rfl) ?_
  refine lv_iload hx hb dL_law_349 (lv_at hl 0 rfl) ?_
  refine lv_bipush (v := 9) hx hb dL_law_351 (by decide) ?_
  refine t_cVi (As := [.int (nI v), .int 9]) (rest := [.int (nI v), .ref qn]) ⟨hx, hb, hml, hown, hts⟩ (c_X9_ofVoice l G cA a (t_ap hD) S L H.size (nI v) 9 n0 n1 (by decide) (by decide)) (cwV 2 hts gL_law_X9_ofVoice rfl rfl rfl (by decide +kernel) ⟨Nat.le_of_ble_eq_true rfl, Nat.le_of_ble_eq_true rfl⟩) hK.1 hA hP hD hS rfl hl.1 rfl (lv_room (Nat.le_of_ble_eq_true rfl)) dL_law_353 ⟨hc, hs⟩ (fun H locs hP hD hS => ?_)
  rw [ov9 hv]
  refine s_ist hx hb hK.2.1 hP hD hS (wB_X x_last) (vp_in_nI hv (by decide)) (j := v) (nI_clamp (by omega)) dL_law_356 (fun H locs hP hD hS => ?_)
  rw [wB_Xs] at hP hD
  refine lv_iinc (k := 0) (v := nI (v + 1)) (lv' := [(18, .int (nI (v + 1))), (17, .ref qn), (16, .ref qs), (15, .int stl), (0, .ref b), (1, .int time), (2, .ref (β 0)), (3, .ref (a 0)), (4, .ref told), (5, .int mm), (6, .int stp), (8, .int ah), (11, .int pk), (12, .int si), (13, .int mo), (14, .int kx)]) hx hb dL_law_357 hl rfl (by rw [show Int32.ofInt 1 = nI 1 from rfl]; exact nI_add v 1) (by decide) rfl (fun ls hl => ?_)
  refine lv_goto (tgt := 326) hx hb dL_law_360 (by decide) ?_
  exact kk H locs ls hP hD hS hl
theorem nb9 {S : Mm} (h : IV S) : narrow .boolean (.int (S 18 9)) = .int (S 18 9) := by
  rcases h.2.2 with e | e <;> rw [e] <;> rfl
def f4 (S : Mm) (k : Nat) : Nat → Int32 := upd (upd (upd (upd (fun _ => 0) 0 (S (22 + 0) k)) 1 (S (22 + 1) k)) 2 (S (22 + 2) k)) 3 (S (22 + 3) k)
theorem f4_v {S : Mm} {k v : Nat} (hv : v < 4) : f4 S k v = S (22 + v) k := by
  rcases v4 hv with rfl | rfl | rfl | rfl <;> rfl
set_option maxHeartbeats 4000000 in
theorem ah_turn (C : LC p s m c args G A0 cA c2 c3 (a 37) b N xs) {time stp ah pk si mo : Int32} {told mm kx : Nat} {f : Nat → Int32} (hI : IV S) (hM : MT S L mm f) (hm : mm < 400) (hsi : nI (kx + 1) = si → rX6_countSounding (fX9_sample S L) 18 = 0) (hP : va_P G vwCl (wB a cA c2 c3 β ρ b wr S L B (X ++ [(told, .inl (cA, 400, .inl f))])) H) (hD : va_D A0 (wB a cA c2 c3 β ρ b wr S L B (X ++ [(told, .inl (cA, 400, .inl f))]))) (hS : va_S A0 s.heap H locs) (hc : cells + 2 ≤ 682275) (hs : slots + 8 ≤ 7054873) (hl : lv_has ls 24 [(0, .ref b), (1, .int time), (2, .ref (β 0)), (3, .ref (a 0)), (4, .ref told), (5, .int (nI mm)), (6, .int stp), (8, .int ah), (11, .int pk), (12, .int si), (13, .int mo), (14, .int (nI kx))])
    (kk : ∀ (H1 : Heap) (locs1 : List Loc) (ls1 : Array Slot), va_P G vwCl (wB a cA c2 c3 β ρ b wr (fX9_sample S L) (lX9_sample S L) B (X ++ [(told, .inl (cA, 400, .inl (upd f mm (rX9_sample S L))))])) H1 → va_D A0 (wB a cA c2 c3 β ρ b wr (fX9_sample S L) (lX9_sample S L) B (X ++ [(told, .inl (cA, 400, .inl (upd f mm (rX9_sample S L))))])) → va_S A0 s.heap H1 locs1 → lv_has ls1 24 [(0, .ref b), (1, .int time), (2, .ref (β 0)), (3, .ref (a 0)), (4, .ref told), (5, .int (nI (mm + 1))), (6, .int stp), (8, .int ah), (11, .int pk), (12, .int si), (13, .int (if mo < abv (rX9_sample S L) then abv (rX9_sample S L) else mo)), (14, .int (nI (kx + 1)))] → W p l e room_1 s m args below meth c H1 locs1 (cells + 2) (slots + 8) Q (F0 m 292 ls1 [])) : W p l e room_1 s m args below meth c H locs cells slots Q (F0 m 299 ls []) := by
  have CC := C
  obtain ⟨hx, hb, hml, hown, hts, hK, hA, hN⟩ := C
  have hc0 : cells ≤ 682275 := by omega
  have hc1 : cells + 1 ≤ 682275 := by omega
  have hs0 : slots ≤ 7054873 := by omega
  have hs4 : slots + 4 ≤ 7054873 := by omega
  have hI2 : IV (fX9_sample S L) := IV_sample hI
  obtain ⟨F1, hF1⟩ : ∃ F1 : Nat → Int32, F1 = upd f mm (rX9_sample S L) := ⟨_, rfl⟩
  have hM2 : MT (fX9_sample S L) (lX9_sample S L) (mm + 1) F1 := MT_sample hM hm (fun j hj => by rw [hF1, pk_un (by omega)]) (by rw [hF1, pk_us])
  rw [← hF1] at kk
  refine lv_aload_n hx hb dL_law_299 rfl (lv_at hl 3 rfl) ?_
  refine t_cVi (As := []) (rest := []) ⟨hx, hb, hml, hown, hts⟩ (c_X9_isPlaying l G cA a (t_ap hD) S L H.size  (nb9 hI)) (cwV 0 hts gL_law_X9_isPlaying rfl rfl rfl (by decide +kernel) ⟨Nat.le_of_ble_eq_true rfl, Nat.le_of_ble_eq_true rfl⟩) hK.1 hA hP hD hS rfl hl.1 rfl (lv_room (Nat.le_of_ble_eq_true rfl)) dL_law_300 ⟨hc0, hs0⟩ (fun H locs hP hD hS => ?_)
  have hj311 : ∀ x : Int32, (x = 1 ∧ S 18 9 = 0) ∨ x = 0 → W p l e room_1 s m args below meth c H locs (cells + 0) (slots + 0) Q (F0 m 311 ls [.int x]) := by
    intro x hx9
    refine lv_istore (lv' := [(15, .int x), (0, .ref b), (1, .int time), (2, .ref (β 0)), (3, .ref (a 0)), (4, .ref told), (5, .int (nI mm)), (6, .int stp), (8, .int ah), (11, .int pk), (12, .int si), (13, .int mo), (14, .int (nI kx))]) hx hb dL_law_311 hl (by decide) rfl (fun ls hl => ?_)
    refine lv_iconst (v := 4) hx hb dL_law_313 (by decide) ?_
    refine va_newa (atype := .int) (ty := .int) (N' := 4) (a0 := (4, .inl (fun _ => 0))) hx hb (hts (.arrayClass .int) (by decide +kernel)) rfl hK.1.1 hP hD hS hA (fun _ => rfl) (by decide) (by decide) (by decide) hc1 hs4 dL_law_314 (fun qs cQ H hKx hP hD hS => ?_)
    have eQ := cQ_eq2 hKx
    rw [eQ, wB_app] at hP hD
    refine lv_astore (lv' := [(16, .ref qs), (15, .int x), (0, .ref b), (1, .int time), (2, .ref (β 0)), (3, .ref (a 0)), (4, .ref told), (5, .int (nI mm)), (6, .int stp), (8, .int ah), (11, .int pk), (12, .int si), (13, .int mo), (14, .int (nI kx))]) hx hb dL_law_316 hl (by decide) rfl (fun ls hl => ?_)
    refine lv_iconst (v := 4) hx hb dL_law_318 (by decide) ?_
    refine va_newa (atype := .int) (ty := .int) (N' := 4) (a0 := (4, .inl (fun _ => 0))) hx hb (hts (.arrayClass .int) (by decide +kernel)) rfl hK.1.1 hP hD hS hA (fun _ => rfl) (by decide) (by decide) (by decide) hc hs dL_law_319 (fun qn cQ H hKx hP hD hS => ?_)
    have eQ := cQ_eq2 hKx
    rw [eQ, wB_app] at hP hD
    refine lv_astore (lv' := [(17, .ref qn), (16, .ref qs), (15, .int x), (0, .ref b), (1, .int time), (2, .ref (β 0)), (3, .ref (a 0)), (4, .ref told), (5, .int (nI mm)), (6, .int stp), (8, .int ah), (11, .int pk), (12, .int si), (13, .int mo), (14, .int (nI kx))]) hx hb dL_law_321 hl (by decide) rfl (fun ls hl => ?_)
    refine lv_iconst (v := 0) hx hb dL_law_323 (by decide) ?_
    refine lv_istore (lv' := [(18, .int 0), (17, .ref qn), (16, .ref qs), (15, .int x), (0, .ref b), (1, .int time), (2, .ref (β 0)), (3, .ref (a 0)), (4, .ref told), (5, .int (nI mm)), (6, .int stp), (8, .int ah), (11, .int pk), (12, .int si), (13, .int mo), (14, .int (nI kx))]) hx hb dL_law_324 hl (by decide) rfl (fun ls hl => ?_)
    have hl : lv_has ls 24 [(18, .int (nI 0)), (17, .ref qn), (16, .ref qs), (15, .int x), (0, .ref b), (1, .int time), (2, .ref (β 0)), (3, .ref (a 0)), (4, .ref told), (5, .int (nI mm)), (6, .int stp), (8, .int ah), (11, .int pk), (12, .int si), (13, .int mo), (14, .int (nI kx))] := lv_sub hl [0, 1, 2, 3, 4, 5, 6, 7, 8, 9, 10, 11, 12, 13, 14, 15] rfl
    refine fi_turn CC (v := 0) (by decide) hP hD hS hc hs hl (fun H locs ls hP hD hS hl => ?_)
    refine fi_turn CC (v := 1) (by decide) hP hD hS hc hs hl (fun H locs ls hP hD hS hl => ?_)
    refine fi_turn CC (v := 2) (by decide) hP hD hS hc hs hl (fun H locs ls hP hD hS hl => ?_)
    refine fi_turn CC (v := 3) (by decide) hP hD hS hc hs hl (fun H locs ls hP hD hS hl => ?_)
    have hP : va_P G vwCl (wB a cA c2 c3 β ρ b wr S L B (X ++ [(told, .inl (cA, 400, .inl f))] ++ [(qs, .inl (cA, 4, .inl (f4 S 0)))] ++ [(qn, .inl (cA, 4, .inl (f4 S 9)))])) H := hP
    have hD : va_D A0 (wB a cA c2 c3 β ρ b wr S L B (X ++ [(told, .inl (cA, 400, .inl f))] ++ [(qs, .inl (cA, 4, .inl (f4 S 0)))] ++ [(qn, .inl (cA, 4, .inl (f4 S 9)))])) := hD
    refine lv_iload hx hb dL_law_326 (lv_at hl 0 rfl) ?_
    refine lv_iconst (v := 4) hx hb dL_law_328 (by decide) ?_
    refine lv_icmp_ge (tgt := 363) hx hb dL_law_329 (by decide) (fun _ => ?_) (fun c9 => absurd (by decide) c9)
    refine lv_aload_n hx hb dL_law_363 rfl (lv_at hl 7 rfl) ?_
    refine t_cVi (As := []) (rest := []) ⟨hx, hb, hml, hown, hts⟩ (c_X9_sample l G cA a (t_ap hD) S L H.size  ) (cwV 0 hts gL_law_X9_sample rfl rfl rfl (by decide +kernel) ⟨Nat.le_of_ble_eq_true rfl, Nat.le_of_ble_eq_true rfl⟩) hK.1 hA hP hD hS rfl hl.1 rfl (lv_room (Nat.le_of_ble_eq_true rfl)) dL_law_364 ⟨hc, hs⟩ (fun H locs hP hD hS => ?_)
    refine lv_istore (lv' := [(18, .int (rX9_sample S L)), (17, .ref qn), (16, .ref qs), (15, .int x), (0, .ref b), (1, .int time), (2, .ref (β 0)), (3, .ref (a 0)), (4, .ref told), (5, .int (nI mm)), (6, .int stp), (8, .int ah), (11, .int pk), (12, .int si), (13, .int mo), (14, .int (nI kx))]) hx hb dL_law_367 hl (by decide) rfl (fun ls hl => ?_)
    refine lv_aload hx hb dL_law_369 (lv_at hl 8 rfl) ?_
    refine lv_iload hx hb dL_law_371 (lv_at hl 9 rfl) ?_
    refine lv_iinc (k := 9) (v := nI (mm + 1)) (lv' := [(5, .int (nI (mm + 1))), (18, .int (rX9_sample S L)), (17, .ref qn), (16, .ref qs), (15, .int x), (0, .ref b), (1, .int time), (2, .ref (β 0)), (3, .ref (a 0)), (4, .ref told), (6, .int stp), (8, .int ah), (11, .int pk), (12, .int si), (13, .int mo), (14, .int (nI kx))]) hx hb dL_law_373 hl rfl (by rw [show Int32.ofInt 1 = nI 1 from rfl]; exact nI_add mm 1) (by decide) rfl (fun ls hl => ?_)
    refine lv_iload hx hb dL_law_376 (lv_at hl 1 rfl) ?_
    refine s_ist hx hb hK.2.1 hP hD hS (wB_X x_l3) (vp_in_nI hm (by decide)) (j := mm) (nI_clamp (by omega)) dL_law_378 (fun H locs hP hD hS => ?_)
    rw [wB_Xk x_s3, ← hF1] at hP hD
    refine lv_iload hx hb dL_law_379 (lv_at hl 14 rfl) ?_
    refine lv_iload hx hb dL_law_381 (lv_at hl 1 rfl) ?_
    refine va_mabs hx hb (hml.trans hl.1.symm) hown (hts (.methodLink RL 77 Lib.Math.abs.name) (by decide +kernel)) (hts (.static Lib.Math.abs.name) (by decide +kernel)) (hts (.initialized "java/lang/Math") (by decide +kernel)) (hts (.code Lib.Math.abs.name Lib.Math.abs.code 1 (some .int)) (by decide +kernel)) (Nat.le_of_ble_eq_true rfl) (Nat.le_of_ble_eq_true rfl) hc hs dL_law_383 ?_
    refine W.eq (g2 := F0 m 386 ls [.int (abv (rX9_sample S L)), .int mo]) rfl ?_
    refine va_mmax hx hb (hml.trans hl.1.symm) hown (hts (.methodLink RL 82 Lib.Math.max.name) (by decide +kernel)) (hts (.static Lib.Math.max.name) (by decide +kernel)) (hts (.initialized "java/lang/Math") (by decide +kernel)) (hts (.code Lib.Math.max.name Lib.Math.max.code 2 (some .int)) (by decide +kernel)) (Nat.le_of_ble_eq_true rfl) (Nat.le_of_ble_eq_true rfl) hc hs dL_law_386 ?_
    refine W.eq (g2 := F0 m 389 ls [.int (if mo < abv (rX9_sample S L) then abv (rX9_sample S L) else mo)]) rfl ?_
    refine lv_istore (lv' := [(13, .int (if mo < abv (rX9_sample S L) then abv (rX9_sample S L) else mo)), (5, .int (nI (mm + 1))), (18, .int (rX9_sample S L)), (17, .ref qn), (16, .ref qs), (15, .int x), (0, .ref b), (1, .int time), (2, .ref (β 0)), (3, .ref (a 0)), (4, .ref told), (6, .int stp), (8, .int ah), (11, .int pk), (12, .int si), (14, .int (nI kx))]) hx hb dL_law_389 hl (by decide) rfl (fun ls hl => ?_)
    refine lv_iload hx hb dL_law_391 (lv_at hl 2 rfl) ?_
    refine va_mabs hx hb (hml.trans hl.1.symm) hown (hts (.methodLink RL 77 Lib.Math.abs.name) (by decide +kernel)) (hts (.static Lib.Math.abs.name) (by decide +kernel)) (hts (.initialized "java/lang/Math") (by decide +kernel)) (hts (.code Lib.Math.abs.name Lib.Math.abs.code 1 (some .int)) (by decide +kernel)) (Nat.le_of_ble_eq_true rfl) (Nat.le_of_ble_eq_true rfl) hc hs dL_law_393 ?_
    refine W.eq (g2 := F0 m 396 ls [.int (abv (rX9_sample S L))]) rfl ?_
    refine lv_sipush (v := 32767) hx hb dL_law_396 (by decide) ?_
    refine lv_icmp_gt (tgt := 412) hx hb dL_law_399 (by decide) (fun c9 => absurd c9 (abv_le smp_rg (by decide) (by decide))) (fun _ => ?_)
    refine lv_aload_n hx hb dL_law_402 rfl (lv_at hl 9 rfl) ?_
    refine lv_iconst (v := 0) hx hb dL_law_403 (by decide) ?_
    refine t_cVi (As := [.int 0]) (rest := []) ⟨hx, hb, hml, hown, hts⟩ (c_X9_heard l G cA a (t_ap hD) (fX9_sample S L) (lX9_sample S L) H.size 0 (by decide) (by decide)) (cwV 1 hts gL_law_X9_heard rfl rfl rfl (by decide +kernel) ⟨Nat.le_of_ble_eq_true rfl, Nat.le_of_ble_eq_true rfl⟩) hK.1 hA hP hD hS rfl hl.1 rfl (lv_room (Nat.le_of_ble_eq_true rfl)) dL_law_404 ⟨hc, hs⟩ (fun H locs hP hD hS => ?_)
    refine lv_iload hx hb dL_law_407 (lv_at hl 2 rfl) ?_
    have e409 : rX9_heard (fX9_sample S L) 0 = rX9_sample S L := by
      have z9 := heard_MT hM2 (k := 0) (by decide) (by omega)
      rw [show mm + 1 - 1 - 0 = mm by omega, hF1, pk_us] at z9
      exact z9
    refine lv_icmp_eq (tgt := 414) hx hb dL_law_409 (by decide) (fun _ => ?_) (fun c9 => absurd e409 c9)
    have hj682 : ∀ (H : Heap) (locs : List Loc) (ls : Array Slot), va_P G vwCl (wB a cA c2 c3 β ρ b wr (fX9_sample S L) (lX9_sample S L) B (X ++ [(told, .inl (cA, 400, .inl F1))] ++ [(qs, .inl (cA, 4, .inl (f4 S 0)))] ++ [(qn, .inl (cA, 4, .inl (f4 S 9)))])) H → va_D A0 (wB a cA c2 c3 β ρ b wr (fX9_sample S L) (lX9_sample S L) B (X ++ [(told, .inl (cA, 400, .inl F1))] ++ [(qs, .inl (cA, 4, .inl (f4 S 0)))] ++ [(qn, .inl (cA, 4, .inl (f4 S 9)))])) → va_S A0 s.heap H locs → lv_has ls 24 [(17, .ref qn), (16, .ref qs), (15, .int x), (0, .ref b), (1, .int time), (2, .ref (β 0)), (3, .ref (a 0)), (4, .ref told), (5, .int (nI (mm + 1))), (6, .int stp), (8, .int ah), (11, .int pk), (12, .int si), (13, .int (if mo < abv (rX9_sample S L) then abv (rX9_sample S L) else mo)), (14, .int (nI kx))] → W p l e room_1 s m args below meth c H locs (cells + 2) (slots + 8) Q (F0 m 682 ls []) := by
      intro H locs ls hP hD hS hl
      refine lv_iload hx hb dL_law_682 (lv_at hl 14 rfl) ?_
      refine lv_iconst (v := 1) hx hb dL_law_684 (by decide) ?_
      refine lv_iadd hx hb dL_law_685 ?_
      refine lv_iload hx hb dL_law_686 (lv_at hl 12 rfl) ?_
      refine lv_icmp_ne (tgt := 700) hx hb dL_law_688 (by decide) (fun c1 => ?_) (fun c1 => ?_)
      ·
        refine lv_iinc (k := 14) (v := nI (kx + 1)) (lv' := [(14, .int (nI (kx + 1))), (17, .ref qn), (16, .ref qs), (15, .int x), (0, .ref b), (1, .int time), (2, .ref (β 0)), (3, .ref (a 0)), (4, .ref told), (5, .int (nI (mm + 1))), (6, .int stp), (8, .int ah), (11, .int pk), (12, .int si), (13, .int (if mo < abv (rX9_sample S L) then abv (rX9_sample S L) else mo))]) hx hb dL_law_700 hl rfl (by rw [show Int32.ofInt 1 = nI 1 from rfl]; exact nI_add kx 1) (by decide) rfl (fun ls hl => ?_)
        refine lv_goto (tgt := 292) hx hb dL_law_703 (by decide) ?_
        exact kk H locs ls (P_dropL (P_dropL hP)) (D_dropL (D_dropL hD)) hS (lv_sub hl [4, 5, 6, 7, 8, 9, 10, 11, 12, 13, 14, 0] rfl)
      ·
        refine lv_aload_n hx hb dL_law_691 rfl (lv_at hl 6 rfl) ?_
        refine t_cVi (As := []) (rest := []) ⟨hx, hb, hml, hown, hts⟩ (c_X9_sounding l G cA a (t_ap hD) (fX9_sample S L) (lX9_sample S L) H.size  ) (cwV 0 hts gL_law_X9_sounding rfl rfl rfl (by decide +kernel) ⟨Nat.le_of_ble_eq_true rfl, Nat.le_of_ble_eq_true rfl⟩) hK.1 hA hP hD hS rfl hl.1 rfl (lv_room (Nat.le_of_ble_eq_true rfl)) dL_law_692 ⟨hc, hs⟩ (fun H locs hP hD hS => ?_)
        have z1 : rX9_sounding (fX9_sample S L) = 0 := hsi (by rw [← c1, show (1 : Int32) = nI 1 from rfl, nI_add])
        refine lv_if_eq (tgt := 700) hx hb dL_law_695 (by decide) (fun _ => ?_) (fun c9 => absurd z1 c9)
        refine lv_iinc (k := 14) (v := nI (kx + 1)) (lv' := [(14, .int (nI (kx + 1))), (17, .ref qn), (16, .ref qs), (15, .int x), (0, .ref b), (1, .int time), (2, .ref (β 0)), (3, .ref (a 0)), (4, .ref told), (5, .int (nI (mm + 1))), (6, .int stp), (8, .int ah), (11, .int pk), (12, .int si), (13, .int (if mo < abv (rX9_sample S L) then abv (rX9_sample S L) else mo))]) hx hb dL_law_700 hl rfl (by rw [show Int32.ofInt 1 = nI 1 from rfl]; exact nI_add kx 1) (by decide) rfl (fun ls hl => ?_)
        refine lv_goto (tgt := 292) hx hb dL_law_703 (by decide) ?_
        exact kk H locs ls (P_dropL (P_dropL hP)) (D_dropL (D_dropL hD)) hS (lv_sub hl [4, 5, 6, 7, 8, 9, 10, 11, 12, 13, 14, 0] rfl)
    refine lv_iconst (v := 0) hx hb dL_law_414 (by decide) ?_
    refine lv_istore (lv' := [(19, .int 0), (13, .int (if mo < abv (rX9_sample S L) then abv (rX9_sample S L) else mo)), (5, .int (nI (mm + 1))), (18, .int (rX9_sample S L)), (17, .ref qn), (16, .ref qs), (15, .int x), (0, .ref b), (1, .int time), (2, .ref (β 0)), (3, .ref (a 0)), (4, .ref told), (6, .int stp), (8, .int ah), (11, .int pk), (12, .int si), (14, .int (nI kx))]) hx hb dL_law_415 hl (by decide) rfl (fun ls hl => ?_)
    rcases hx9 with ⟨e9, z9⟩ | e9
    ·
      rw [e9] at hj682
      have hTr := tr_sample (L := L) hI z9
      have hl : lv_has ls 24 [(19, .int (nI 0)), (17, .ref qn), (16, .ref qs), (15, .int x), (0, .ref b), (1, .int time), (2, .ref (β 0)), (3, .ref (a 0)), (4, .ref told), (5, .int (nI (mm + 1))), (6, .int stp), (8, .int ah), (11, .int pk), (12, .int si), (13, .int (if mo < abv (rX9_sample S L) then abv (rX9_sample S L) else mo)), (14, .int (nI kx))] := by
        exact lv_sub hl [0, 4, 5, 6, 7, 8, 9, 10, 11, 2, 12, 13, 14, 15, 1, 16] rfl
      rw [e9] at hl
      refine ck_turn CC (v := 0) (by decide) (hI2.1 0 (by decide)) (hI.1 0 (by decide)).1 (hTr 0 (by decide)) (f4_v (by decide)) (f4_v (by decide)) hP hD hS hc hs hl (fun H locs ls hP hD hS hl => ?_)
      refine ck_turn CC (v := 1) (by decide) (hI2.1 1 (by decide)) (hI.1 1 (by decide)).1 (hTr 1 (by decide)) (f4_v (by decide)) (f4_v (by decide)) hP hD hS hc hs hl (fun H locs ls hP hD hS hl => ?_)
      refine ck_turn CC (v := 2) (by decide) (hI2.1 2 (by decide)) (hI.1 2 (by decide)).1 (hTr 2 (by decide)) (f4_v (by decide)) (f4_v (by decide)) hP hD hS hc hs hl (fun H locs ls hP hD hS hl => ?_)
      refine ck_turn CC (v := 3) (by decide) (hI2.1 3 (by decide)) (hI.1 3 (by decide)).1 (hTr 3 (by decide)) (f4_v (by decide)) (f4_v (by decide)) hP hD hS hc hs hl (fun H locs ls hP hD hS hl => ?_)
      refine lv_iload hx hb dL_law_417 (lv_at hl 0 rfl) ?_
      refine lv_iconst (v := 4) hx hb dL_law_419 (by decide) ?_
      refine lv_icmp_ge (tgt := 682) hx hb dL_law_420 (by decide) (fun _ => ?_) (fun c9 => absurd (by decide) c9)
      exact hj682 H locs ls hP hD hS (lv_sub hl [1, 2, 3, 4, 5, 6, 7, 8, 9, 10, 11, 12, 13, 14, 15] rfl)
    ·
      rw [e9] at hj682
      have hl : lv_has ls 24 [(19, .int 0), (17, .ref qn), (16, .ref qs), (15, .int x), (0, .ref b), (1, .int time), (2, .ref (β 0)), (3, .ref (a 0)), (4, .ref told), (5, .int (nI (mm + 1))), (6, .int stp), (8, .int ah), (11, .int pk), (12, .int si), (13, .int (if mo < abv (rX9_sample S L) then abv (rX9_sample S L) else mo)), (14, .int (nI kx))] := lv_sub hl [0, 4, 5, 6, 7, 8, 9, 10, 11, 2, 12, 13, 14, 15, 1, 16] rfl
      rw [e9] at hl
      refine lv_iload hx hb dL_law_417 (lv_at hl 0 rfl) ?_
      refine lv_iconst (v := 4) hx hb dL_law_419 (by decide) ?_
      refine lv_icmp_ge (tgt := 682) hx hb dL_law_420 (by decide) (fun c9 => absurd c9 (by decide)) (fun _ => ?_)
      refine lv_iload hx hb dL_law_423 (lv_at hl 3 rfl) ?_
      refine lv_if_eq (tgt := 682) hx hb dL_law_425 (by decide) (fun _ => ?_) (fun c9 => absurd rfl c9)
      exact hj682 H locs ls hP hD hS (lv_sub hl [1, 2, 3, 4, 5, 6, 7, 8, 9, 10, 11, 12, 13, 14, 15] rfl)
  refine lv_if_ne (tgt := 310) hx hb dL_law_303 (by decide) (fun c1 => ?_) (fun c1 => ?_)
  ·
    refine lv_iconst (v := 0) hx hb dL_law_310 (by decide) ?_
    exact hj311 0 (Or.inr rfl)
  ·
    refine lv_iconst (v := 1) hx hb dL_law_306 (by decide) ?_
    refine lv_goto (tgt := 311) hx hb dL_law_307 (by decide) ?_
    exact hj311 1 (Or.inl ⟨rfl, c1⟩)
end LWK
