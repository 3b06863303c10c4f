/-! loudness, the one call that may draw -/
theorem nan_dec {x : UInt64} (h : isNaN64 x = true) : FP.Core.decode FP.Core.b64 x.toNat = .nan := by
  rw [isNaN64_iff] at h
  have h2 : x.toNat &&& 0x7fffffffffffffff = x.toNat % 2 ^ 63 := Nat.and_two_pow_sub_one_eq_mod x.toNat 63
  rw [h2] at h
  have e1 : FP.Core.fieldE FP.Core.b64 x.toNat = FP.Core.b64.exps - 1 := by
    show x.toNat / 4503599627370496 % 2048 = 2047
    omega
  have e2 : ¬ FP.Core.fieldT FP.Core.b64 x.toNat = 0 := by
    show ¬ x.toNat % 4503599627370496 = 0
    omega
  unfold FP.Core.decode
  rw [if_pos e1, if_neg e2]
theorem nan_cmp {x : UInt64} (h : isNaN64 x = true) : FP.dcmp x x = none := by
  show FP.Core.order (FP.Core.decode FP.Core.b64 x.toNat) (FP.Core.decode FP.Core.b64 x.toNat) = none
  rw [nan_dec h]
  rfl
theorem alike_or {r v : UInt64} (h : alike64 r v = true) : r = v ∨ (isNaN64 r = true ∧ isNaN64 v = true) := by
  unfold alike64 at h
  rw [Bool.or_eq_true, decide_eq_true_eq, Bool.and_eq_true] at h
  exact h
section LWD
variable {p : Program} {l : Launch} {e : Env} {s : State} {m : MethodId} {below : List Frame} {meth : Method} {c : Code} {H : Heap} {locs : List Loc} {cells slots : Nat} {Q : State → Prop}
variable {ls : Array Slot} {G : va_G} {A0 : Nat → Prop} {cA cJ : ClassId} {a bb : Nat → Nat} {S T : Mm} {L L' : Int64} {o b N i : Nat} {fo : Nat → Int64} {xs : Nat → Int32} {B K : Int}
set_option maxHeartbeats 4000000 in
theorem case_loudness {d0 : Drawn} (hd0 : s.drawn.sameBut d0 lw_cs) (C : ∀ d : Drawn, LCtx p l (s.setDrawn d) m c G A0 cA cJ a bb o b N xs) (D : LSt G A0 s cA cJ a bb o b N i B K S T L L' fo H locs ls cells slots) (kk : ∀ d : Drawn, s.drawn.sameBut d lw_cs → LKK p l e (s.setDrawn d) m below meth c Q G A0 cA cJ a bb o b i B K cells slots) : W p l e room_1 (s.setDrawn d0) m #[Value.ref b] below meth c H locs cells slots Q (F0 m 1516 ls []) := by
  obtain ⟨hfl, hx, hb, hml, hown, hts, F, hK, hXf⟩ := C d0
  obtain ⟨hi, hN, h, hB, hK2, hP, hS, hl, hc, hs⟩ := D
  obtain ⟨v1, v3⟩ := sim_loudness hB hK2 h
  have hP0 := wx_of hP.1
  refine lv_aload_n hx hb dL_law_1516 rfl (lv_at hl 2 rfl) ?_
  refine g_cVd (b := a 0) (C := RX9) (As := []) (rest := []) hd0 ⟨hx, hb, hml, hown, hts⟩ (c_X9_loudness l G cA a F.1 S L H.size) (cwV 0 hts gL_law_X9_loudness rfl rfl rfl (by decide +kernel) ⟨Nat.le_of_ble_eq_true rfl, Nat.le_of_ble_eq_true rfl⟩) (g_recv hK.1 hP0 (o := 0) (by decide) rfl (C := RX9) (T := TX9) (N := 4) rfl) hK.1 (kA_M F hS) hP0 hS rfl hl.1 rfl (lv_room (Nat.le_of_ble_eq_true rfl)) dL_law_1517 (rm_ok (by omega) (by omega)) (fun r d1 H1 locs1 hd1 hr hP1 hS1 hz1 hk1 => ?_)
  have hP := k_C F hP hk1 hP1
  obtain ⟨-, -, -, -, -, hts1, -, hK1, -⟩ := C d1
  refine lv_dstore (lv' := (5, .double r) :: lwL a bb o b i) hx hb dL_law_1520 hl (by decide) rfl (fun ls hl => ?_)
  refine lv_aload_n hx hb dL_law_1522 rfl (lv_at hl 4 rfl) ?_
  refine g_cVd (b := bb 18) (C := RX11) (As := []) (rest := []) hd1 ⟨hx, hb, hml, hown, hts1⟩ (c_X11_loudness l G cA (a 37) bb F.2.1 T L' H1.size) (cwV 0 hts1 gL_law_X11_loudness rfl rfl rfl (by decide +kernel) ⟨Nat.le_of_ble_eq_true rfl, Nat.le_of_ble_eq_true rfl⟩) (g_recv hK1.1 hP.2 (o := 18) (by decide) cD_Mo (C := RX11) (T := TX11) (N := 2) rfl) hK1.1 (kA_D F hS1) hP.2 hS1 rfl hl.1 rfl (lv_room (Nat.le_of_ble_eq_true rfl)) dL_law_1523 (rm_ok (by omega) (by omega)) (fun r2 d2 H2 locs2 hd2 hr2 hP2 hS2 hz2 hk2 => ?_)
  have hP : lwP G cA cJ a bb S L o fo (up2 T 18 0 0) L' H2 := ⟨k_S F hP.1 hk2, hP2⟩
  refine lv_dstore (lv' := (7, .double r2) :: (5, .double r) :: lwL a bb o b i) hx hb dL_law_1526 hl (by decide) rfl (fun ls hl => ?_)
  have kq : W p l e room_1 (s.setDrawn d2) m #[Value.ref b] below meth c H2 locs2 (cells + 0 + 0) (slots + 0 + 0) Q (F0 m 1991 ls []) := kk d2 hd2 _ _ _ _ _ H2 locs2 ls _ _ (by omega) (by omega) v3 hP hS2 (lv_sub hl [2, 3, 4, 5, 6] rfl)
  rw [← v1] at hr2
  refine lv_dload hx hb dL_law_1528 (lv_at hl 1 rfl) ?_
  refine lv_dload hx hb dL_law_1530 (lv_at hl 0 rfl) ?_
  refine lv_dcmp hx hb dL_law_1532 ?_
  refine lv_if_eq (tgt := 1554) hx hb dL_law_1533 (by decide) (fun _ => lv_goto (tgt := 1991) hx hb dL_law_1554 (by decide) kq) (fun c1 => ?_)
  have nz : ¬ Op.cmpValue (FP.dcmp r r) .l = 0 ∧ ¬ Op.cmpValue (FP.dcmp r2 r2) .l = 0 := by
    by_cases q : r = r2
    · rw [← q] at c1 ⊢
      exact ⟨c1, c1⟩
    · have hn : isNaN64 r = true ∧ isNaN64 r2 = true := by
        rcases alike_or hr with e1 | e1
        · rcases alike_or hr2 with e2 | e2
          · exact absurd (e1.trans e2.symm) q
          · exact ⟨by rw [e1]; exact e2.2, e2.1⟩
        · rcases alike_or hr2 with e2 | e2
          · exact ⟨e1.1, by rw [e2]; exact e1.2⟩
          · exact ⟨e1.1, e2.1⟩
      rw [nan_cmp hn.1, nan_cmp hn.2]
      exact ⟨by decide, by decide⟩
  refine lv_dload hx hb dL_law_1536 (lv_at hl 1 rfl) ?_
  refine lv_dload hx hb dL_law_1538 (lv_at hl 1 rfl) ?_
  refine lv_dcmp hx hb dL_law_1540 ?_
  refine lv_if_eq (tgt := 1552) hx hb dL_law_1541 (by decide) (fun c2 => absurd c2 nz.1) (fun _ => ?_)
  refine lv_dload hx hb dL_law_1544 (lv_at hl 0 rfl) ?_
  refine lv_dload hx hb dL_law_1546 (lv_at hl 0 rfl) ?_
  refine lv_dcmp hx hb dL_law_1548 ?_
  exact lv_if_ne (tgt := 1554) hx hb dL_law_1549 (by decide) (fun _ => lv_goto (tgt := 1991) hx hb dL_law_1554 (by decide) kq) (fun c3 => absurd c3 nz.2)
end LWD
