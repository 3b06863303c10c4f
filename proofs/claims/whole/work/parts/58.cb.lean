section
variable {p : Program} {l : Launch} {e : Env} {s : State} {m : MethodId} {below : List Frame} {meth : Method} {c : Code} {H : Heap} {locs : List Loc} {cells slots : Nat} {Q : State → Prop}
variable {ls : Array Slot} {G : va_G} {A0 : Nat → Prop} {cA cJ : ClassId} {a bb : Nat → Nat} {S T : Mm} {L L' : Int64} {o b N i : Nat} {fo : Nat → Int64} {xs : Nat → Int32} {B K : Int}
set_option maxHeartbeats 4000000 in
theorem case_setVibrato (C : LCtx p l s m c G A0 cA cJ a bb o b N xs) (D : LSt G A0 s cA cJ a bb o b N i B K S T L L' fo H locs ls cells slots) (kk : LKK p l e s m below meth c Q G A0 cA cJ a bb o b i B K cells slots) : W p l e room_1 s m #[Value.ref b] below meth c H locs cells slots Q (F0 m 684 ls []) := by
  obtain ⟨hfl, hx, hb, hml, hown, hts, F, hK, hXf⟩ := C
  obtain ⟨hi, hN, h, hB, hK2, hP, hS, hl, hc, hs⟩ := D
  have hX := hXf _ _ _ _ _ _ _ hP hS h.1.1.2.1
  refine lv_aload_n hx hb dL_law_684 rfl (lv_at hl 2 rfl) ?_
  refine lv_aload_n hx hb dL_law_685 rfl (lv_at hl 1 rfl) ?_
  refine lv_iload hx hb dL_law_686 (lv_at hl 0 rfl) ?_
  refine lv_iconst (v := 1) hx hb dL_law_688 (by decide) ?_
  refine lv_iadd hx hb dL_law_689 ?_
  refine x_sld hx hb hX (ix_in (j := 1) hi hN (by decide)) dL_law_690 ?_
  refine lv_aload_n hx hb dL_law_691 rfl (lv_at hl 1 rfl) ?_
  refine lv_iload hx hb dL_law_692 (lv_at hl 0 rfl) ?_
  refine lv_iconst (v := 2) hx hb dL_law_694 (by decide) ?_
  refine lv_iadd hx hb dL_law_695 ?_
  refine x_sld hx hb hX (ix_in (j := 2) hi hN (by decide)) dL_law_696 ?_
  refine lv_aload_n hx hb dL_law_697 rfl (lv_at hl 1 rfl) ?_
  refine lv_iload hx hb dL_law_698 (lv_at hl 0 rfl) ?_
  refine lv_iconst (v := 3) hx hb dL_law_700 (by decide) ?_
  refine lv_iadd hx hb dL_law_701 ?_
  refine x_sld hx hb hX (ix_in (j := 3) hi hN (by decide)) dL_law_702 ?_
  refine lv_aload_n hx hb dL_law_703 rfl (lv_at hl 4 rfl) ?_
  by_cases hk : kX9_setVibrato S (xs (nI i + 1).toNatClampNeg) (xs (nI i + 2).toNatClampNeg) (xs (nI i + 3).toNatClampNeg) = 0
  · obtain ⟨v1, v2, v3⟩ := (sim_setVibrato hB hK2 h).1 hk
    refine x_help (S1 := (fX9_setVibrato S (xs (nI i + 1).toNatClampNeg) (xs (nI i + 2).toNatClampNeg) (xs (nI i + 3).toNatClampNeg))) (L1 := L) (As := [.ref (a 0), .int (xs (nI i + 1).toNatClampNeg), .int (xs (nI i + 2).toNatClampNeg), .int (xs (nI i + 3).toNatClampNeg), .ref o]) (rest := []) ⟨hx, hb, hml, hown, hts⟩ F (h0_L_setVibrato l hfl G cA cJ a F.1 o F.2.2.1 S L fo H.size (xs (nI i + 1).toNatClampNeg) (xs (nI i + 2).toNatClampNeg) (xs (nI i + 3).toNatClampNeg) hk) (vx_cwSW 5 hts gL_law_L_setVibrato rfl rfl rfl (by decide +kernel) ⟨Nat.le_of_ble_eq_true rfl, Nat.le_of_ble_eq_true rfl⟩) hK hP hS rfl hl.1 rfl (lv_room (Nat.le_of_ble_eq_true rfl)) dL_law_704 (rm_ok (by omega) (by omega)) (fun r f9 H locs hr hP hS => ?_)
    obtain ⟨er, hf⟩ := hr
    subst er
    have hX := hXf _ _ _ _ _ _ _ hP hS v3.1.1.2.1
    refine lv_istore (lv' := (5, .int 0) :: lwL a bb o b i) hx hb dL_law_707 hl (by decide) rfl (fun ls hl => ?_)
    refine lv_aload_n hx hb dL_law_709 rfl (lv_at hl 4 rfl) ?_
    refine lv_aload_n hx hb dL_law_710 rfl (lv_at hl 2 rfl) ?_
    refine lv_iload hx hb dL_law_711 (lv_at hl 1 rfl) ?_
    refine lv_iconst (v := 1) hx hb dL_law_713 (by decide) ?_
    refine lv_iadd hx hb dL_law_714 ?_
    refine x_sld hx hb hX (ix_in (j := 1) hi hN (by decide)) dL_law_715 ?_
    refine lv_aload_n hx hb dL_law_716 rfl (lv_at hl 2 rfl) ?_
    refine lv_iload hx hb dL_law_717 (lv_at hl 1 rfl) ?_
    refine lv_iconst (v := 2) hx hb dL_law_719 (by decide) ?_
    refine lv_iadd hx hb dL_law_720 ?_
    refine x_sld hx hb hX (ix_in (j := 2) hi hN (by decide)) dL_law_721 ?_
    refine lv_aload_n hx hb dL_law_722 rfl (lv_at hl 2 rfl) ?_
    refine lv_iload hx hb dL_law_723 (lv_at hl 1 rfl) ?_
    refine lv_iconst (v := 3) hx hb dL_law_725 (by decide) ?_
    refine lv_iadd hx hb dL_law_726 ?_
    refine x_sld hx hb hX (ix_in (j := 3) hi hN (by decide)) dL_law_727 ?_
    refine x_ref (T1 := (fX11_setVibrato T (xs (nI i + 1).toNatClampNeg) (xs (nI i + 2).toNatClampNeg) (xs (nI i + 3).toNatClampNeg))) (L1' := L') (r := (rX11_setVibrato T (xs (nI i + 1).toNatClampNeg) (xs (nI i + 2).toNatClampNeg) (xs (nI i + 3).toNatClampNeg))) (As := [.int (xs (nI i + 1).toNatClampNeg), .int (xs (nI i + 2).toNatClampNeg), .int (xs (nI i + 3).toNatClampNeg)]) (rest := []) ⟨hx, hb, hml, hown, hts⟩ F (c_X11_setVibrato l G cA (a 37) bb F.2.1 T L' H.size (xs (nI i + 1).toNatClampNeg) (xs (nI i + 2).toNatClampNeg) (xs (nI i + 3).toNatClampNeg) ) (cwV 3 hts gL_law_X11_setVibrato rfl rfl rfl (by decide +kernel) ⟨Nat.le_of_ble_eq_true rfl, Nat.le_of_ble_eq_true rfl⟩) hK hP hS rfl hl.1 rfl (lv_room (Nat.le_of_ble_eq_true rfl)) dL_law_728 (rm_ok (by omega) (by omega)) (fun H locs hP hS => ?_)
    exact x_end (E := 731) hx hb hml hown hts F hK hP hS hl (by omega) (by omega) dL_law_731 dL_law_733 dL_law_734 dL_law_737 dL_law_739 dL_law_744 dL_law_746 dL_law_749 dL_law_750 dL_law_751 dL_law_752 dL_law_754 dL_law_755 dL_law_756 dL_law_761 (by decide) v2 (fun _ => by rw [hf, v1]) (fun H locs ls hP hS hl => kk _ _ _ _ _ H locs ls _ _ (by omega) (by omega) v3 hP hS hl)
  · obtain ⟨v2, v3⟩ := (sim_setVibrato hB hK2 h).2 hk
    refine x_help (S1 := S) (L1 := L) (As := [.ref (a 0), .int (xs (nI i + 1).toNatClampNeg), .int (xs (nI i + 2).toNatClampNeg), .int (xs (nI i + 3).toNatClampNeg), .ref o]) (rest := []) ⟨hx, hb, hml, hown, hts⟩ F (h1_L_setVibrato l hfl G cA cJ a F.1 o F.2.2.1 S L fo H.size (xs (nI i + 1).toNatClampNeg) (xs (nI i + 2).toNatClampNeg) (xs (nI i + 3).toNatClampNeg) hk) (vx_cwSW 5 hts gL_law_L_setVibrato rfl rfl rfl (by decide +kernel) ⟨Nat.le_of_ble_eq_true rfl, Nat.le_of_ble_eq_true rfl⟩) hK hP hS rfl hl.1 rfl (lv_room (Nat.le_of_ble_eq_true rfl)) dL_law_704 (rm_ok (by omega) (by omega)) (fun r f9 H locs hr hP hS => ?_)
    obtain ⟨er, hf⟩ := hr
    subst er
    have hX := hXf _ _ _ _ _ _ _ hP hS v3.1.1.2.1
    refine lv_istore (lv' := (5, .int (if kX9_setVibrato S (xs (nI i + 1).toNatClampNeg) (xs (nI i + 2).toNatClampNeg) (xs (nI i + 3).toNatClampNeg) = 1 then (1 : Int32) else 2)) :: lwL a bb o b i) hx hb dL_law_707 hl (by decide) rfl (fun ls hl => ?_)
    refine lv_aload_n hx hb dL_law_709 rfl (lv_at hl 4 rfl) ?_
    refine lv_aload_n hx hb dL_law_710 rfl (lv_at hl 2 rfl) ?_
    refine lv_iload hx hb dL_law_711 (lv_at hl 1 rfl) ?_
    refine lv_iconst (v := 1) hx hb dL_law_713 (by decide) ?_
    refine lv_iadd hx hb dL_law_714 ?_
    refine x_sld hx hb hX (ix_in (j := 1) hi hN (by decide)) dL_law_715 ?_
    refine lv_aload_n hx hb dL_law_716 rfl (lv_at hl 2 rfl) ?_
    refine lv_iload hx hb dL_law_717 (lv_at hl 1 rfl) ?_
    refine lv_iconst (v := 2) hx hb dL_law_719 (by decide) ?_
    refine lv_iadd hx hb dL_law_720 ?_
    refine x_sld hx hb hX (ix_in (j := 2) hi hN (by decide)) dL_law_721 ?_
    refine lv_aload_n hx hb dL_law_722 rfl (lv_at hl 2 rfl) ?_
    refine lv_iload hx hb dL_law_723 (lv_at hl 1 rfl) ?_
    refine lv_iconst (v := 3) hx hb dL_law_725 (by decide) ?_
    refine lv_iadd hx hb dL_law_726 ?_
    refine x_sld hx hb hX (ix_in (j := 3) hi hN (by decide)) dL_law_727 ?_
    refine x_ref (T1 := (fX11_setVibrato T (xs (nI i + 1).toNatClampNeg) (xs (nI i + 2).toNatClampNeg) (xs (nI i + 3).toNatClampNeg))) (L1' := L') (r := (rX11_setVibrato T (xs (nI i + 1).toNatClampNeg) (xs (nI i + 2).toNatClampNeg) (xs (nI i + 3).toNatClampNeg))) (As := [.int (xs (nI i + 1).toNatClampNeg), .int (xs (nI i + 2).toNatClampNeg), .int (xs (nI i + 3).toNatClampNeg)]) (rest := []) ⟨hx, hb, hml, hown, hts⟩ F (c_X11_setVibrato l G cA (a 37) bb F.2.1 T L' H.size (xs (nI i + 1).toNatClampNeg) (xs (nI i + 2).toNatClampNeg) (xs (nI i + 3).toNatClampNeg) ) (cwV 3 hts gL_law_X11_setVibrato rfl rfl rfl (by decide +kernel) ⟨Nat.le_of_ble_eq_true rfl, Nat.le_of_ble_eq_true rfl⟩) hK hP hS rfl hl.1 rfl (lv_room (Nat.le_of_ble_eq_true rfl)) dL_law_728 (rm_ok (by omega) (by omega)) (fun H locs hP hS => ?_)
    exact x_end (E := 731) hx hb hml hown hts F hK hP hS hl (by omega) (by omega) dL_law_731 dL_law_733 dL_law_734 dL_law_737 dL_law_739 dL_law_744 dL_law_746 dL_law_749 dL_law_750 dL_law_751 dL_law_752 dL_law_754 dL_law_755 dL_law_756 dL_law_761 (by decide) v2 (fun h9 => absurd h9 (by split <;> decide)) (fun H locs ls hP hS hl => kk _ _ _ _ _ H locs ls _ _ (by omega) (by omega) v3 hP hS hl)
set_option maxHeartbeats 4000000 in
theorem case_setGain (C : LCtx p l s m c G A0 cA cJ a bb o b N xs) (D : LSt G A0 s cA cJ a bb o b N i B K S T L L' fo H locs ls cells slots) (kk : LKK p l e s m below meth c Q G A0 cA cJ a bb o b i B K cells slots) : W p l e room_1 s m #[Value.ref b] below meth c H locs cells slots Q (F0 m 764 ls []) := by
  obtain ⟨hfl, hx, hb, hml, hown, hts, F, hK, hXf⟩ := C
  obtain ⟨hi, hN, h, hB, hK2, hP, hS, hl, hc, hs⟩ := D
  have hX := hXf _ _ _ _ _ _ _ hP hS h.1.1.2.1
  refine lv_aload_n hx hb dL_law_764 rfl (lv_at hl 2 rfl) ?_
  refine lv_aload_n hx hb dL_law_765 rfl (lv_at hl 1 rfl) ?_
  refine lv_iload hx hb dL_law_766 (lv_at hl 0 rfl) ?_
  refine lv_iconst (v := 1) hx hb dL_law_768 (by decide) ?_
  refine lv_iadd hx hb dL_law_769 ?_
  refine x_sld hx hb hX (ix_in (j := 1) hi hN (by decide)) dL_law_770 ?_
  refine lv_aload_n hx hb dL_law_771 rfl (lv_at hl 4 rfl) ?_
  by_cases hk : kX9_setGain S (xs (nI i + 1).toNatClampNeg) = 0
  · obtain ⟨v1, v2, v3⟩ := (sim_setGain hB hK2 h).1 hk
    refine x_help (S1 := (fX9_setGain S (xs (nI i + 1).toNatClampNeg))) (L1 := L) (As := [.ref (a 0), .int (xs (nI i + 1).toNatClampNeg), .ref o]) (rest := []) ⟨hx, hb, hml, hown, hts⟩ F (h0_L_setGain l hfl G cA cJ a F.1 o F.2.2.1 S L fo H.size (xs (nI i + 1).toNatClampNeg) hk) (vx_cwSW 3 hts gL_law_L_setGain rfl rfl rfl (by decide +kernel) ⟨Nat.le_of_ble_eq_true rfl, Nat.le_of_ble_eq_true rfl⟩) hK hP hS rfl hl.1 rfl (lv_room (Nat.le_of_ble_eq_true rfl)) dL_law_772 (rm_ok (by omega) (by omega)) (fun r f9 H locs hr hP hS => ?_)
    obtain ⟨er, hf⟩ := hr
    subst er
    have hX := hXf _ _ _ _ _ _ _ hP hS v3.1.1.2.1
    refine lv_istore (lv' := (5, .int 0) :: lwL a bb o b i) hx hb dL_law_775 hl (by decide) rfl (fun ls hl => ?_)
    refine lv_aload_n hx hb dL_law_777 rfl (lv_at hl 4 rfl) ?_
    refine lv_aload_n hx hb dL_law_778 rfl (lv_at hl 2 rfl) ?_
    refine lv_iload hx hb dL_law_779 (lv_at hl 1 rfl) ?_
    refine lv_iconst (v := 1) hx hb dL_law_781 (by decide) ?_
    refine lv_iadd hx hb dL_law_782 ?_
    refine x_sld hx hb hX (ix_in (j := 1) hi hN (by decide)) dL_law_783 ?_
    refine x_ref (T1 := (fX11_setGain T (xs (nI i + 1).toNatClampNeg))) (L1' := L') (r := (rX11_setGain T (xs (nI i + 1).toNatClampNeg))) (As := [.int (xs (nI i + 1).toNatClampNeg)]) (rest := []) ⟨hx, hb, hml, hown, hts⟩ F (c_X11_setGain l G cA (a 37) bb F.2.1 T L' H.size (xs (nI i + 1).toNatClampNeg) ) (cwV 1 hts gL_law_X11_setGain rfl rfl rfl (by decide +kernel) ⟨Nat.le_of_ble_eq_true rfl, Nat.le_of_ble_eq_true rfl⟩) hK hP hS rfl hl.1 rfl (lv_room (Nat.le_of_ble_eq_true rfl)) dL_law_784 (rm_ok (by omega) (by omega)) (fun H locs hP hS => ?_)
    exact x_end (E := 787) hx hb hml hown hts F hK hP hS hl (by omega) (by omega) dL_law_787 dL_law_789 dL_law_790 dL_law_793 dL_law_795 dL_law_800 dL_law_802 dL_law_805 dL_law_806 dL_law_807 dL_law_808 dL_law_810 dL_law_811 dL_law_812 dL_law_817 (by decide) v2 (fun _ => by rw [hf, v1]) (fun H locs ls hP hS hl => kk _ _ _ _ _ H locs ls _ _ (by omega) (by omega) v3 hP hS hl)
  · obtain ⟨v2, v3⟩ := (sim_setGain hB hK2 h).2 hk
    refine x_help (S1 := S) (L1 := L) (As := [.ref (a 0), .int (xs (nI i + 1).toNatClampNeg), .ref o]) (rest := []) ⟨hx, hb, hml, hown, hts⟩ F (h1_L_setGain l hfl G cA cJ a F.1 o F.2.2.1 S L fo H.size (xs (nI i + 1).toNatClampNeg) hk) (vx_cwSW 3 hts gL_law_L_setGain rfl rfl rfl (by decide +kernel) ⟨Nat.le_of_ble_eq_true rfl, Nat.le_of_ble_eq_true rfl⟩) hK hP hS rfl hl.1 rfl (lv_room (Nat.le_of_ble_eq_true rfl)) dL_law_772 (rm_ok (by omega) (by omega)) (fun r f9 H locs hr hP hS => ?_)
    obtain ⟨er, hf⟩ := hr
    subst er
    have hX := hXf _ _ _ _ _ _ _ hP hS v3.1.1.2.1
    refine lv_istore (lv' := (5, .int 1) :: lwL a bb o b i) hx hb dL_law_775 hl (by decide) rfl (fun ls hl => ?_)
    refine lv_aload_n hx hb dL_law_777 rfl (lv_at hl 4 rfl) ?_
    refine lv_aload_n hx hb dL_law_778 rfl (lv_at hl 2 rfl) ?_
    refine lv_iload hx hb dL_law_779 (lv_at hl 1 rfl) ?_
    refine lv_iconst (v := 1) hx hb dL_law_781 (by decide) ?_
    refine lv_iadd hx hb dL_law_782 ?_
    refine x_sld hx hb hX (ix_in (j := 1) hi hN (by decide)) dL_law_783 ?_
    refine x_ref (T1 := (fX11_setGain T (xs (nI i + 1).toNatClampNeg))) (L1' := L') (r := (rX11_setGain T (xs (nI i + 1).toNatClampNeg))) (As := [.int (xs (nI i + 1).toNatClampNeg)]) (rest := []) ⟨hx, hb, hml, hown, hts⟩ F (c_X11_setGain l G cA (a 37) bb F.2.1 T L' H.size (xs (nI i + 1).toNatClampNeg) ) (cwV 1 hts gL_law_X11_setGain rfl rfl rfl (by decide +kernel) ⟨Nat.le_of_ble_eq_true rfl, Nat.le_of_ble_eq_true rfl⟩) hK hP hS rfl hl.1 rfl (lv_room (Nat.le_of_ble_eq_true rfl)) dL_law_784 (rm_ok (by omega) (by omega)) (fun H locs hP hS => ?_)
    exact x_end (E := 787) hx hb hml hown hts F hK hP hS hl (by omega) (by omega) dL_law_787 dL_law_789 dL_law_790 dL_law_793 dL_law_795 dL_law_800 dL_law_802 dL_law_805 dL_law_806 dL_law_807 dL_law_808 dL_law_810 dL_law_811 dL_law_812 dL_law_817 (by decide) v2 (fun h9 => absurd h9 (by decide)) (fun H locs ls hP hS hl => kk _ _ _ _ _ H locs ls _ _ (by omega) (by omega) v3 hP hS hl)
set_option maxHeartbeats 4000000 in
theorem case_setDelay (C : LCtx p l s m c G A0 cA cJ a bb o b N xs) (D : LSt G A0 s cA cJ a bb o b N i B K S T L L' fo H locs ls cells slots) (kk : LKK p l e s m below meth c Q G A0 cA cJ a bb o b i B K cells slots) : W p l e room_1 s m #[Value.ref b] below meth c H locs cells slots Q (F0 m 820 ls []) := by
  obtain ⟨hfl, hx, hb, hml, hown, hts, F, hK, hXf⟩ := C
  obtain ⟨hi, hN, h, hB, hK2, hP, hS, hl, hc, hs⟩ := D
  have hX := hXf _ _ _ _ _ _ _ hP hS h.1.1.2.1
  refine lv_aload_n hx hb dL_law_820 rfl (lv_at hl 2 rfl) ?_
  refine lv_aload_n hx hb dL_law_821 rfl (lv_at hl 1 rfl) ?_
  refine lv_iload hx hb dL_law_822 (lv_at hl 0 rfl) ?_
  refine lv_iconst (v := 1) hx hb dL_law_824 (by decide) ?_
  refine lv_iadd hx hb dL_law_825 ?_
  refine x_sld hx hb hX (ix_in (j := 1) hi hN (by decide)) dL_law_826 ?_
  refine lv_aload_n hx hb dL_law_827 rfl (lv_at hl 1 rfl) ?_
  refine lv_iload hx hb dL_law_828 (lv_at hl 0 rfl) ?_
  refine lv_iconst (v := 2) hx hb dL_law_830 (by decide) ?_
  refine lv_iadd hx hb dL_law_831 ?_
  refine x_sld hx hb hX (ix_in (j := 2) hi hN (by decide)) dL_law_832 ?_
  refine lv_aload_n hx hb dL_law_833 rfl (lv_at hl 1 rfl) ?_
  refine lv_iload hx hb dL_law_834 (lv_at hl 0 rfl) ?_
  refine lv_iconst (v := 3) hx hb dL_law_836 (by decide) ?_
  refine lv_iadd hx hb dL_law_837 ?_
  refine x_sld hx hb hX (ix_in (j := 3) hi hN (by decide)) dL_law_838 ?_
  refine lv_aload_n hx hb dL_law_839 rfl (lv_at hl 4 rfl) ?_
  by_cases hk : kX9_setDelay S (xs (nI i + 1).toNatClampNeg) (xs (nI i + 2).toNatClampNeg) (xs (nI i + 3).toNatClampNeg) = 0
  · obtain ⟨v1, v2, v3⟩ := (sim_setDelay hB hK2 h).1 hk
    refine x_help (S1 := (fX9_setDelay S (xs (nI i + 1).toNatClampNeg) (xs (nI i + 2).toNatClampNeg) (xs (nI i + 3).toNatClampNeg))) (L1 := L) (As := [.ref (a 0), .int (xs (nI i + 1).toNatClampNeg), .int (xs (nI i + 2).toNatClampNeg), .int (xs (nI i + 3).toNatClampNeg), .ref o]) (rest := []) ⟨hx, hb, hml, hown, hts⟩ F (h0_L_setDelay l hfl G cA cJ a F.1 o F.2.2.1 S L fo H.size (xs (nI i + 1).toNatClampNeg) (xs (nI i + 2).toNatClampNeg) (xs (nI i + 3).toNatClampNeg) hk) (vx_cwSW 5 hts gL_law_L_setDelay rfl rfl rfl (by decide +kernel) ⟨Nat.le_of_ble_eq_true rfl, Nat.le_of_ble_eq_true rfl⟩) hK hP hS rfl hl.1 rfl (lv_room (Nat.le_of_ble_eq_true rfl)) dL_law_840 (rm_ok (by omega) (by omega)) (fun r f9 H locs hr hP hS => ?_)
    obtain ⟨er, hf⟩ := hr
    subst er
    have hX := hXf _ _ _ _ _ _ _ hP hS v3.1.1.2.1
    refine lv_istore (lv' := (5, .int 0) :: lwL a bb o b i) hx hb dL_law_843 hl (by decide) rfl (fun ls hl => ?_)
    refine lv_aload_n hx hb dL_law_845 rfl (lv_at hl 4 rfl) ?_
    refine lv_aload_n hx hb dL_law_846 rfl (lv_at hl 2 rfl) ?_
    refine lv_iload hx hb dL_law_847 (lv_at hl 1 rfl) ?_
    refine lv_iconst (v := 1) hx hb dL_law_849 (by decide) ?_
    refine lv_iadd hx hb dL_law_850 ?_
    refine x_sld hx hb hX (ix_in (j := 1) hi hN (by decide)) dL_law_851 ?_
    refine lv_aload_n hx hb dL_law_852 rfl (lv_at hl 2 rfl) ?_
    refine lv_iload hx hb dL_law_853 (lv_at hl 1 rfl) ?_
    refine lv_iconst (v := 2) hx hb dL_law_855 (by decide) ?_
    refine lv_iadd hx hb dL_law_856 ?_
    refine x_sld hx hb hX (ix_in (j := 2) hi hN (by decide)) dL_law_857 ?_
    refine lv_aload_n hx hb dL_law_858 rfl (lv_at hl 2 rfl) ?_
    refine lv_iload hx hb dL_law_859 (lv_at hl 1 rfl) ?_
    refine lv_iconst (v := 3) hx hb dL_law_861 (by decide) ?_
    refine lv_iadd hx hb dL_law_862 ?_
    refine x_sld hx hb hX (ix_in (j := 3) hi hN (by decide)) dL_law_863 ?_
    refine x_ref (T1 := (fX11_setDelay T (xs (nI i + 1).toNatClampNeg) (xs (nI i + 2).toNatClampNeg) (xs (nI i + 3).toNatClampNeg))) (L1' := L') (r := (rX11_setDelay T (xs (nI i + 1).toNatClampNeg) (xs (nI i + 2).toNatClampNeg) (xs (nI i + 3).toNatClampNeg))) (As := [.int (xs (nI i + 1).toNatClampNeg), .int (xs (nI i + 2).toNatClampNeg), .int (xs (nI i + 3).toNatClampNeg)]) (rest := []) ⟨hx, hb, hml, hown, hts⟩ F (c_X11_setDelay l G cA (a 37) bb F.2.1 T L' H.size (xs (nI i + 1).toNatClampNeg) (xs (nI i + 2).toNatClampNeg) (xs (nI i + 3).toNatClampNeg) ) (cwV 3 hts gL_law_X11_setDelay rfl rfl rfl (by decide +kernel) ⟨Nat.le_of_ble_eq_true rfl, Nat.le_of_ble_eq_true rfl⟩) hK hP hS rfl hl.1 rfl (lv_room (Nat.le_of_ble_eq_true rfl)) dL_law_864 (rm_ok (by omega) (by omega)) (fun H locs hP hS => ?_)
    exact x_end (E := 867) hx hb hml hown hts F hK hP hS hl (by omega) (by omega) dL_law_867 dL_law_869 dL_law_870 dL_law_873 dL_law_875 dL_law_880 dL_law_882 dL_law_885 dL_law_886 dL_law_887 dL_law_888 dL_law_890 dL_law_891 dL_law_892 dL_law_897 (by decide) v2 (fun _ => by rw [hf, v1]) (fun H locs ls hP hS hl => kk _ _ _ _ _ H locs ls _ _ (by omega) (by omega) v3 hP hS hl)
  · obtain ⟨v2, v3⟩ := (sim_setDelay hB hK2 h).2 hk
    refine x_help (S1 := S) (L1 := L) (As := [.ref (a 0), .int (xs (nI i + 1).toNatClampNeg), .int (xs (nI i + 2).toNatClampNeg), .int (xs (nI i + 3).toNatClampNeg), .ref o]) (rest := []) ⟨hx, hb, hml, hown, hts⟩ F (h1_L_setDelay l hfl G cA cJ a F.1 o F.2.2.1 S L fo H.size (xs (nI i + 1).toNatClampNeg) (xs (nI i + 2).toNatClampNeg) (xs (nI i + 3).toNatClampNeg) hk) (vx_cwSW 5 hts gL_law_L_setDelay rfl rfl rfl (by decide +kernel) ⟨Nat.le_of_ble_eq_true rfl, Nat.le_of_ble_eq_true rfl⟩) hK hP hS rfl hl.1 rfl (lv_room (Nat.le_of_ble_eq_true rfl)) dL_law_840 (rm_ok (by omega) (by omega)) (fun r f9 H locs hr hP hS => ?_)
    obtain ⟨er, hf⟩ := hr
    subst er
    have hX := hXf _ _ _ _ _ _ _ hP hS v3.1.1.2.1
    refine lv_istore (lv' := (5, .int 1) :: lwL a bb o b i) hx hb dL_law_843 hl (by decide) rfl (fun ls hl => ?_)
    refine lv_aload_n hx hb dL_law_845 rfl (lv_at hl 4 rfl) ?_
    refine lv_aload_n hx hb dL_law_846 rfl (lv_at hl 2 rfl) ?_
    refine lv_iload hx hb dL_law_847 (lv_at hl 1 rfl) ?_
    refine lv_iconst (v := 1) hx hb dL_law_849 (by decide) ?_
    refine lv_iadd hx hb dL_law_850 ?_
    refine x_sld hx hb hX (ix_in (j := 1) hi hN (by decide)) dL_law_851 ?_
    refine lv_aload_n hx hb dL_law_852 rfl (lv_at hl 2 rfl) ?_
    refine lv_iload hx hb dL_law_853 (lv_at hl 1 rfl) ?_
    refine lv_iconst (v := 2) hx hb dL_law_855 (by decide) ?_
    refine lv_iadd hx hb dL_law_856 ?_
    refine x_sld hx hb hX (ix_in (j := 2) hi hN (by decide)) dL_law_857 ?_
    refine lv_aload_n hx hb dL_law_858 rfl (lv_at hl 2 rfl) ?_
    refine lv_iload hx hb dL_law_859 (lv_at hl 1 rfl) ?_
    refine lv_iconst (v := 3) hx hb dL_law_861 (by decide) ?_
    refine lv_iadd hx hb dL_law_862 ?_
    refine x_sld hx hb hX (ix_in (j := 3) hi hN (by decide)) dL_law_863 ?_
    refine x_ref (T1 := (fX11_setDelay T (xs (nI i + 1).toNatClampNeg) (xs (nI i + 2).toNatClampNeg) (xs (nI i + 3).toNatClampNeg))) (L1' := L') (r := (rX11_setDelay T (xs (nI i + 1).toNatClampNeg) (xs (nI i + 2).toNatClampNeg) (xs (nI i + 3).toNatClampNeg))) (As := [.int (xs (nI i + 1).toNatClampNeg), .int (xs (nI i + 2).toNatClampNeg), .int (xs (nI i + 3).toNatClampNeg)]) (rest := []) ⟨hx, hb, hml, hown, hts⟩ F (c_X11_setDelay l G cA (a 37) bb F.2.1 T L' H.size (xs (nI i + 1).toNatClampNeg) (xs (nI i + 2).toNatClampNeg) (xs (nI i + 3).toNatClampNeg) ) (cwV 3 hts gL_law_X11_setDelay rfl rfl rfl (by decide +kernel) ⟨Nat.le_of_ble_eq_true rfl, Nat.le_of_ble_eq_true rfl⟩) hK hP hS rfl hl.1 rfl (lv_room (Nat.le_of_ble_eq_true rfl)) dL_law_864 (rm_ok (by omega) (by omega)) (fun H locs hP hS => ?_)
    exact x_end (E := 867) hx hb hml hown hts F hK hP hS hl (by omega) (by omega) dL_law_867 dL_law_869 dL_law_870 dL_law_873 dL_law_875 dL_law_880 dL_law_882 dL_law_885 dL_law_886 dL_law_887 dL_law_888 dL_law_890 dL_law_891 dL_law_892 dL_law_897 (by decide) v2 (fun h9 => absurd h9 (by decide)) (fun H locs ls hP hS hl => kk _ _ _ _ _ H locs ls _ _ (by omega) (by omega) v3 hP hS hl)
set_option maxHeartbeats 4000000 in
theorem case_begin (C : LCtx p l s m c G A0 cA cJ a bb o b N xs) (D : LSt G A0 s cA cJ a bb o b N i B K S T L L' fo H locs ls cells slots) (kk : LKK p l e s m below meth c Q G A0 cA cJ a bb o b i B K cells slots) : W p l e room_1 s m #[Value.ref b] below meth c H locs cells slots Q (F0 m 900 ls []) := by
  obtain ⟨hfl, hx, hb, hml, hown, hts, F, hK, hXf⟩ := C
  obtain ⟨hi, hN, h, hB, hK2, hP, hS, hl, hc, hs⟩ := D
  have hX := hXf _ _ _ _ _ _ _ hP hS h.1.1.2.1
  refine lv_aload_n hx hb dL_law_900 rfl (lv_at hl 2 rfl) ?_
  refine lv_aload_n hx hb dL_law_901 rfl (lv_at hl 1 rfl) ?_
  refine lv_iload hx hb dL_law_902 (lv_at hl 0 rfl) ?_
  refine lv_iconst (v := 1) hx hb dL_law_904 (by decide) ?_
  refine lv_iadd hx hb dL_law_905 ?_
  refine x_sld hx hb hX (ix_in (j := 1) hi hN (by decide)) dL_law_906 ?_
  refine lv_aload_n hx hb dL_law_907 rfl (lv_at hl 1 rfl) ?_
  refine lv_iload hx hb dL_law_908 (lv_at hl 0 rfl) ?_
  refine lv_iconst (v := 2) hx hb dL_law_910 (by decide) ?_
  refine lv_iadd hx hb dL_law_911 ?_
  refine x_sld hx hb hX (ix_in (j := 2) hi hN (by decide)) dL_law_912 ?_
  refine lv_aload_n hx hb dL_law_913 rfl (lv_at hl 1 rfl) ?_
  refine lv_iload hx hb dL_law_914 (lv_at hl 0 rfl) ?_
  refine lv_iconst (v := 3) hx hb dL_law_916 (by decide) ?_
  refine lv_iadd hx hb dL_law_917 ?_
  refine x_sld hx hb hX (ix_in (j := 3) hi hN (by decide)) dL_law_918 ?_
  refine lv_aload_n hx hb dL_law_919 rfl (lv_at hl 4 rfl) ?_
  by_cases hk : kX9_begin S (xs (nI i + 1).toNatClampNeg) (xs (nI i + 2).toNatClampNeg) (xs (nI i + 3).toNatClampNeg) = 0
  · obtain ⟨v1, v2, v3⟩ := (sim_begin hB hK2 h).1 hk
    refine x_help (S1 := (fX9_begin S (xs (nI i + 1).toNatClampNeg) (xs (nI i + 2).toNatClampNeg) (xs (nI i + 3).toNatClampNeg))) (L1 := L) (As := [.ref (a 0), .int (xs (nI i + 1).toNatClampNeg), .int (xs (nI i + 2).toNatClampNeg), .int (xs (nI i + 3).toNatClampNeg), .ref o]) (rest := []) ⟨hx, hb, hml, hown, hts⟩ F (h0_L_begin l hfl G cA cJ a F.1 o F.2.2.1 S L fo H.size (xs (nI i + 1).toNatClampNeg) (xs (nI i + 2).toNatClampNeg) (xs (nI i + 3).toNatClampNeg) hk) (vx_cwSW 5 hts gL_law_L_begin rfl rfl rfl (by decide +kernel) ⟨Nat.le_of_ble_eq_true rfl, Nat.le_of_ble_eq_true rfl⟩) hK hP hS rfl hl.1 rfl (lv_room (Nat.le_of_ble_eq_true rfl)) dL_law_920 (rm_ok (by omega) (by omega)) (fun r f9 H locs hr hP hS => ?_)
    obtain ⟨er, hf⟩ := hr
    subst er
    have hX := hXf _ _ _ _ _ _ _ hP hS v3.1.1.2.1
    refine lv_istore (lv' := (5, .int 0) :: lwL a bb o b i) hx hb dL_law_923 hl (by decide) rfl (fun ls hl => ?_)
    refine lv_aload_n hx hb dL_law_925 rfl (lv_at hl 4 rfl) ?_
    refine lv_aload_n hx hb dL_law_926 rfl (lv_at hl 2 rfl) ?_
    refine lv_iload hx hb dL_law_927 (lv_at hl 1 rfl) ?_
    refine lv_iconst (v := 1) hx hb dL_law_929 (by decide) ?_
    refine lv_iadd hx hb dL_law_930 ?_
    refine x_sld hx hb hX (ix_in (j := 1) hi hN (by decide)) dL_law_931 ?_
    refine lv_aload_n hx hb dL_law_932 rfl (lv_at hl 2 rfl) ?_
    refine lv_iload hx hb dL_law_933 (lv_at hl 1 rfl) ?_
    refine lv_iconst (v := 2) hx hb dL_law_935 (by decide) ?_
    refine lv_iadd hx hb dL_law_936 ?_
    refine x_sld hx hb hX (ix_in (j := 2) hi hN (by decide)) dL_law_937 ?_
    refine lv_aload_n hx hb dL_law_938 rfl (lv_at hl 2 rfl) ?_
    refine lv_iload hx hb dL_law_939 (lv_at hl 1 rfl) ?_
    refine lv_iconst (v := 3) hx hb dL_law_941 (by decide) ?_
    refine lv_iadd hx hb dL_law_942 ?_
    refine x_sld hx hb hX (ix_in (j := 3) hi hN (by decide)) dL_law_943 ?_
    refine x_ref (T1 := (fX11_begin T (xs (nI i + 1).toNatClampNeg) (xs (nI i + 2).toNatClampNeg) (xs (nI i + 3).toNatClampNeg))) (L1' := L') (r := (rX11_begin T (xs (nI i + 1).toNatClampNeg) (xs (nI i + 2).toNatClampNeg) (xs (nI i + 3).toNatClampNeg))) (As := [.int (xs (nI i + 1).toNatClampNeg), .int (xs (nI i + 2).toNatClampNeg), .int (xs (nI i + 3).toNatClampNeg)]) (rest := []) ⟨hx, hb, hml, hown, hts⟩ F (c_X11_begin l G cA (a 37) bb F.2.1 T L' H.size (xs (nI i + 1).toNatClampNeg) (xs (nI i + 2).toNatClampNeg) (xs (nI i + 3).toNatClampNeg) ) (cwV 3 hts gL_law_X11_begin rfl rfl rfl (by decide +kernel) ⟨Nat.le_of_ble_eq_true rfl, Nat.le_of_ble_eq_true rfl⟩) hK hP hS rfl hl.1 rfl (lv_room (Nat.le_of_ble_eq_true rfl)) dL_law_944 (rm_ok (by omega) (by omega)) (fun H locs hP hS => ?_)
    exact x_end (E := 947) hx hb hml hown hts F hK hP hS hl (by omega) (by omega) dL_law_947 dL_law_949 dL_law_950 dL_law_953 dL_law_955 dL_law_960 dL_law_962 dL_law_965 dL_law_966 dL_law_967 dL_law_968 dL_law_970 dL_law_971 dL_law_972 dL_law_977 (by decide) v2 (fun _ => by rw [hf, v1]) (fun H locs ls hP hS hl => kk _ _ _ _ _ H locs ls _ _ (by omega) (by omega) v3 hP hS hl)
  · obtain ⟨v2, v3⟩ := (sim_begin hB hK2 h).2 hk
    refine x_help (S1 := S) (L1 := L) (As := [.ref (a 0), .int (xs (nI i + 1).toNatClampNeg), .int (xs (nI i + 2).toNatClampNeg), .int (xs (nI i + 3).toNatClampNeg), .ref o]) (rest := []) ⟨hx, hb, hml, hown, hts⟩ F (h1_L_begin l hfl G cA cJ a F.1 o F.2.2.1 S L fo H.size (xs (nI i + 1).toNatClampNeg) (xs (nI i + 2).toNatClampNeg) (xs (nI i + 3).toNatClampNeg) hk) (vx_cwSW 5 hts gL_law_L_begin rfl rfl rfl (by decide +kernel) ⟨Nat.le_of_ble_eq_true rfl, Nat.le_of_ble_eq_true rfl⟩) hK hP hS rfl hl.1 rfl (lv_room (Nat.le_of_ble_eq_true rfl)) dL_law_920 (rm_ok (by omega) (by omega)) (fun r f9 H locs hr hP hS => ?_)
    obtain ⟨er, hf⟩ := hr
    subst er
    have hX := hXf _ _ _ _ _ _ _ hP hS v3.1.1.2.1
    refine lv_istore (lv' := (5, .int (if kX9_begin S (xs (nI i + 1).toNatClampNeg) (xs (nI i + 2).toNatClampNeg) (xs (nI i + 3).toNatClampNeg) = 1 then (1 : Int32) else 2)) :: lwL a bb o b i) hx hb dL_law_923 hl (by decide) rfl (fun ls hl => ?_)
    refine lv_aload_n hx hb dL_law_925 rfl (lv_at hl 4 rfl) ?_
    refine lv_aload_n hx hb dL_law_926 rfl (lv_at hl 2 rfl) ?_
    refine lv_iload hx hb dL_law_927 (lv_at hl 1 rfl) ?_
    refine lv_iconst (v := 1) hx hb dL_law_929 (by decide) ?_
    refine lv_iadd hx hb dL_law_930 ?_
    refine x_sld hx hb hX (ix_in (j := 1) hi hN (by decide)) dL_law_931 ?_
    refine lv_aload_n hx hb dL_law_932 rfl (lv_at hl 2 rfl) ?_
    refine lv_iload hx hb dL_law_933 (lv_at hl 1 rfl) ?_
    refine lv_iconst (v := 2) hx hb dL_law_935 (by decide) ?_
    refine lv_iadd hx hb dL_law_936 ?_
    refine x_sld hx hb hX (ix_in (j := 2) hi hN (by decide)) dL_law_937 ?_
    refine lv_aload_n hx hb dL_law_938 rfl (lv_at hl 2 rfl) ?_
    refine lv_iload hx hb dL_law_939 (lv_at hl 1 rfl) ?_
    refine lv_iconst (v := 3) hx hb dL_law_941 (by decide) ?_
    refine lv_iadd hx hb dL_law_942 ?_
    refine x_sld hx hb hX (ix_in (j := 3) hi hN (by decide)) dL_law_943 ?_
    refine x_ref (T1 := (fX11_begin T (xs (nI i + 1).toNatClampNeg) (xs (nI i + 2).toNatClampNeg) (xs (nI i + 3).toNatClampNeg))) (L1' := L') (r := (rX11_begin T (xs (nI i + 1).toNatClampNeg) (xs (nI i + 2).toNatClampNeg) (xs (nI i + 3).toNatClampNeg))) (As := [.int (xs (nI i + 1).toNatClampNeg), .int (xs (nI i + 2).toNatClampNeg), .int (xs (nI i + 3).toNatClampNeg)]) (rest := []) ⟨hx, hb, hml, hown, hts⟩ F (c_X11_begin l G cA (a 37) bb F.2.1 T L' H.size (xs (nI i + 1).toNatClampNeg) (xs (nI i + 2).toNatClampNeg) (xs (nI i + 3).toNatClampNeg) ) (cwV 3 hts gL_law_X11_begin rfl rfl rfl (by decide +kernel) ⟨Nat.le_of_ble_eq_true rfl, Nat.le_of_ble_eq_true rfl⟩) hK hP hS rfl hl.1 rfl (lv_room (Nat.le_of_ble_eq_true rfl)) dL_law_944 (rm_ok (by omega) (by omega)) (fun H locs hP hS => ?_)
    exact x_end (E := 947) hx hb hml hown hts F hK hP hS hl (by omega) (by omega) dL_law_947 dL_law_949 dL_law_950 dL_law_953 dL_law_955 dL_law_960 dL_law_962 dL_law_965 dL_law_966 dL_law_967 dL_law_968 dL_law_970 dL_law_971 dL_law_972 dL_law_977 (by decide) v2 (fun h9 => absurd h9 (by split <;> decide)) (fun H locs ls hP hS hl => kk _ _ _ _ _ H locs ls _ _ (by omega) (by omega) v3 hP hS hl)
set_option maxHeartbeats 4000000 in
theorem case_end (C : LCtx p l s m c G A0 cA cJ a bb o b N xs) (D : LSt G A0 s cA cJ a bb o b N i B K S T L L' fo H locs ls cells slots) (kk : LKK p l e s m below meth c Q G A0 cA cJ a bb o b i B K cells slots) : W p l e room_1 s m #[Value.ref b] below meth c H locs cells slots Q (F0 m 980 ls []) := by
  obtain ⟨hfl, hx, hb, hml, hown, hts, F, hK, hXf⟩ := C
  obtain ⟨hi, hN, h, hB, hK2, hP, hS, hl, hc, hs⟩ := D
  have hX := hXf _ _ _ _ _ _ _ hP hS h.1.1.2.1
  refine lv_aload_n hx hb dL_law_980 rfl (lv_at hl 2 rfl) ?_
  refine lv_aload_n hx hb dL_law_981 rfl (lv_at hl 1 rfl) ?_
  refine lv_iload hx hb dL_law_982 (lv_at hl 0 rfl) ?_
  refine lv_iconst (v := 1) hx hb dL_law_984 (by decide) ?_
  refine lv_iadd hx hb dL_law_985 ?_
  refine x_sld hx hb hX (ix_in (j := 1) hi hN (by decide)) dL_law_986 ?_
  refine lv_aload_n hx hb dL_law_987 rfl (lv_at hl 4 rfl) ?_
  by_cases hk : kX9_end S (xs (nI i + 1).toNatClampNeg) = 0
  · obtain ⟨v1, v2, v3⟩ := (sim_end hB hK2 h).1 hk
    refine x_help (S1 := (fX9_end S (xs (nI i + 1).toNatClampNeg))) (L1 := L) (As := [.ref (a 0), .int (xs (nI i + 1).toNatClampNeg), .ref o]) (rest := []) ⟨hx, hb, hml, hown, hts⟩ F (h0_L_end l hfl G cA cJ a F.1 o F.2.2.1 S L fo H.size (xs (nI i + 1).toNatClampNeg) hk) (vx_cwSW 3 hts gL_law_L_end rfl rfl rfl (by decide +kernel) ⟨Nat.le_of_ble_eq_true rfl, Nat.le_of_ble_eq_true rfl⟩) hK hP hS rfl hl.1 rfl (lv_room (Nat.le_of_ble_eq_true rfl)) dL_law_988 (rm_ok (by omega) (by omega)) (fun r f9 H locs hr hP hS => ?_)
    obtain ⟨er, hf⟩ := hr
    subst er
    have hX := hXf _ _ _ _ _ _ _ hP hS v3.1.1.2.1
    refine lv_istore (lv' := (5, .int 0) :: lwL a bb o b i) hx hb dL_law_991 hl (by decide) rfl (fun ls hl => ?_)
    refine lv_aload_n hx hb dL_law_993 rfl (lv_at hl 4 rfl) ?_
    refine lv_aload_n hx hb dL_law_994 rfl (lv_at hl 2 rfl) ?_
    refine lv_iload hx hb dL_law_995 (lv_at hl 1 rfl) ?_
    refine lv_iconst (v := 1) hx hb dL_law_997 (by decide) ?_
    refine lv_iadd hx hb dL_law_998 ?_
    refine x_sld hx hb hX (ix_in (j := 1) hi hN (by decide)) dL_law_999 ?_
    refine x_ref (T1 := (fX11_end T (xs (nI i + 1).toNatClampNeg))) (L1' := L') (r := (rX11_end T (xs (nI i + 1).toNatClampNeg))) (As := [.int (xs (nI i + 1).toNatClampNeg)]) (rest := []) ⟨hx, hb, hml, hown, hts⟩ F (c_X11_end l G cA (a 37) bb F.2.1 T L' H.size (xs (nI i + 1).toNatClampNeg) ) (cwV 1 hts gL_law_X11_end rfl rfl rfl (by decide +kernel) ⟨Nat.le_of_ble_eq_true rfl, Nat.le_of_ble_eq_true rfl⟩) hK hP hS rfl hl.1 rfl (lv_room (Nat.le_of_ble_eq_true rfl)) dL_law_1000 (rm_ok (by omega) (by omega)) (fun H locs hP hS => ?_)
    exact x_end (E := 1003) hx hb hml hown hts F hK hP hS hl (by omega) (by omega) dL_law_1003 dL_law_1005 dL_law_1006 dL_law_1009 dL_law_1011 dL_law_1016 dL_law_1018 dL_law_1021 dL_law_1022 dL_law_1023 dL_law_1024 dL_law_1026 dL_law_1027 dL_law_1028 dL_law_1033 (by decide) v2 (fun _ => by rw [hf, v1]) (fun H locs ls hP hS hl => kk _ _ _ _ _ H locs ls _ _ (by omega) (by omega) v3 hP hS hl)
  · obtain ⟨v2, v3⟩ := (sim_end hB hK2 h).2 hk
    refine x_help (S1 := S) (L1 := L) (As := [.ref (a 0), .int (xs (nI i + 1).toNatClampNeg), .ref o]) (rest := []) ⟨hx, hb, hml, hown, hts⟩ F (h1_L_end l hfl G cA cJ a F.1 o F.2.2.1 S L fo H.size (xs (nI i + 1).toNatClampNeg) hk) (vx_cwSW 3 hts gL_law_L_end rfl rfl rfl (by decide +kernel) ⟨Nat.le_of_ble_eq_true rfl, Nat.le_of_ble_eq_true rfl⟩) hK hP hS rfl hl.1 rfl (lv_room (Nat.le_of_ble_eq_true rfl)) dL_law_988 (rm_ok (by omega) (by omega)) (fun r f9 H locs hr hP hS => ?_)
    obtain ⟨er, hf⟩ := hr
    subst er
    have hX := hXf _ _ _ _ _ _ _ hP hS v3.1.1.2.1
    refine lv_istore (lv' := (5, .int 1) :: lwL a bb o b i) hx hb dL_law_991 hl (by decide) rfl (fun ls hl => ?_)
    refine lv_aload_n hx hb dL_law_993 rfl (lv_at hl 4 rfl) ?_
    refine lv_aload_n hx hb dL_law_994 rfl (lv_at hl 2 rfl) ?_
    refine lv_iload hx hb dL_law_995 (lv_at hl 1 rfl) ?_
    refine lv_iconst (v := 1) hx hb dL_law_997 (by decide) ?_
    refine lv_iadd hx hb dL_law_998 ?_
    refine x_sld hx hb hX (ix_in (j := 1) hi hN (by decide)) dL_law_999 ?_
    refine x_ref (T1 := (fX11_end T (xs (nI i + 1).toNatClampNeg))) (L1' := L') (r := (rX11_end T (xs (nI i + 1).toNatClampNeg))) (As := [.int (xs (nI i + 1).toNatClampNeg)]) (rest := []) ⟨hx, hb, hml, hown, hts⟩ F (c_X11_end l G cA (a 37) bb F.2.1 T L' H.size (xs (nI i + 1).toNatClampNeg) ) (cwV 1 hts gL_law_X11_end rfl rfl rfl (by decide +kernel) ⟨Nat.le_of_ble_eq_true rfl, Nat.le_of_ble_eq_true rfl⟩) hK hP hS rfl hl.1 rfl (lv_room (Nat.le_of_ble_eq_true rfl)) dL_law_1000 (rm_ok (by omega) (by omega)) (fun H locs hP hS => ?_)
    exact x_end (E := 1003) hx hb hml hown hts F hK hP hS hl (by omega) (by omega) dL_law_1003 dL_law_1005 dL_law_1006 dL_law_1009 dL_law_1011 dL_law_1016 dL_law_1018 dL_law_1021 dL_law_1022 dL_law_1023 dL_law_1024 dL_law_1026 dL_law_1027 dL_law_1028 dL_law_1033 (by decide) v2 (fun h9 => absurd h9 (by decide)) (fun H locs ls hP hS hl => kk _ _ _ _ _ H locs ls _ _ (by omega) (by omega) v3 hP hS hl)
set_option maxHeartbeats 4000000 in
theorem case_hush (C : LCtx p l s m c G A0 cA cJ a bb o b N xs) (D : LSt G A0 s cA cJ a bb o b N i B K S T L L' fo H locs ls cells slots) (kk : LKK p l e s m below meth c Q G A0 cA cJ a bb o b i B K cells slots) : W p l e room_1 s m #[Value.ref b] below meth c H locs cells slots Q (F0 m 1036 ls []) := by
  obtain ⟨hfl, hx, hb, hml, hown, hts, F, hK, hXf⟩ := C
  obtain ⟨hi, hN, h, hB, hK2, hP, hS, hl, hc, hs⟩ := D
  obtain ⟨v1, v3⟩ := sim_hush hB hK2 h
  refine lv_aload_n hx hb dL_law_1036 rfl (lv_at hl 2 rfl) ?_
  refine x_cls (S1 := (fX9_hush S)) (L1 := L) (r := (rX9_hush S)) (As := []) (rest := []) ⟨hx, hb, hml, hown, hts⟩ F (c_X9_hush l G cA a F.1 S L H.size ) (cwV 0 hts gL_law_X9_hush rfl rfl rfl (by decide +kernel) ⟨Nat.le_of_ble_eq_true rfl, Nat.le_of_ble_eq_true rfl⟩) hK hP hS rfl hl.1 rfl (lv_room (Nat.le_of_ble_eq_true rfl)) dL_law_1037 (rm_ok (by omega) (by omega)) (fun H locs hP hS => ?_)
  refine lv_aload_n hx hb dL_law_1040 rfl (lv_at hl 3 rfl) ?_
  refine x_ref (T1 := (fX11_hush T)) (L1' := L') (r := (rX11_hush T)) (As := []) (rest := [.int (rX9_hush S)]) ⟨hx, hb, hml, hown, hts⟩ F (c_X11_hush l G cA (a 37) bb F.2.1 T L' H.size  ) (cwV 0 hts gL_law_X11_hush rfl rfl rfl (by decide +kernel) ⟨Nat.le_of_ble_eq_true rfl, Nat.le_of_ble_eq_true rfl⟩) hK hP hS rfl hl.1 rfl (lv_room (Nat.le_of_ble_eq_true rfl)) dL_law_1041 (rm_ok (by omega) (by omega)) (fun H locs hP hS => ?_)
  exact lv_icmp_eq (tgt := 1991) hx hb dL_law_1044 (by decide) (fun _ => kk _ _ _ _ _ H locs ls _ _ (by omega) (by omega) v3 hP hS hl) (fun c1 => absurd v1 c1)
set_option maxHeartbeats 4000000 in
theorem case_write (C : LCtx p l s m c G A0 cA cJ a bb o b N xs) (D : LSt G A0 s cA cJ a bb o b N i B K S T L L' fo H locs ls cells slots) (kk : LKK p l e s m below meth c Q G A0 cA cJ a bb o b i B K cells slots) : W p l e room_1 s m #[Value.ref b] below meth c H locs cells slots Q (F0 m 1049 ls []) := by
  obtain ⟨hfl, hx, hb, hml, hown, hts, F, hK, hXf⟩ := C
  obtain ⟨hi, hN, h, hB, hK2, hP, hS, hl, hc, hs⟩ := D
  have hX := hXf _ _ _ _ _ _ _ hP hS h.1.1.2.1
  refine lv_aload_n hx hb dL_law_1049 rfl (lv_at hl 2 rfl) ?_
  refine lv_aload_n hx hb dL_law_1050 rfl (lv_at hl 1 rfl) ?_
  refine lv_iload hx hb dL_law_1051 (lv_at hl 0 rfl) ?_
  refine lv_iconst (v := 1) hx hb dL_law_1053 (by decide) ?_
  refine lv_iadd hx hb dL_law_1054 ?_
  refine x_sld hx hb hX (ix_in (j := 1) hi hN (by decide)) dL_law_1055 ?_
  refine lv_aload_n hx hb dL_law_1056 rfl (lv_at hl 1 rfl) ?_
  refine lv_iload hx hb dL_law_1057 (lv_at hl 0 rfl) ?_
  refine lv_iconst (v := 2) hx hb dL_law_1059 (by decide) ?_
  refine lv_iadd hx hb dL_law_1060 ?_
  refine x_sld hx hb hX (ix_in (j := 2) hi hN (by decide)) dL_law_1061 ?_
  refine lv_aload_n hx hb dL_law_1062 rfl (lv_at hl 1 rfl) ?_
  refine lv_iload hx hb dL_law_1063 (lv_at hl 0 rfl) ?_
  refine lv_iconst (v := 3) hx hb dL_law_1065 (by decide) ?_
  refine lv_iadd hx hb dL_law_1066 ?_
  refine x_sld hx hb hX (ix_in (j := 3) hi hN (by decide)) dL_law_1067 ?_
  refine lv_aload_n hx hb dL_law_1068 rfl (lv_at hl 1 rfl) ?_
  refine lv_iload hx hb dL_law_1069 (lv_at hl 0 rfl) ?_
  refine lv_iconst (v := 4) hx hb dL_law_1071 (by decide) ?_
  refine lv_iadd hx hb dL_law_1072 ?_
  refine x_sld hx hb hX (ix_in (j := 4) hi hN (by decide)) dL_law_1073 ?_
  refine lv_aload_n hx hb dL_law_1074 rfl (lv_at hl 1 rfl) ?_
  refine lv_iload hx hb dL_law_1075 (lv_at hl 0 rfl) ?_
  refine lv_iconst (v := 5) hx hb dL_law_1077 (by decide) ?_
  refine lv_iadd hx hb dL_law_1078 ?_
  refine x_sld hx hb hX (ix_in (j := 5) hi hN (by decide)) dL_law_1079 ?_
  refine lv_aload_n hx hb dL_law_1080 rfl (lv_at hl 4 rfl) ?_
  by_cases hk : kX9_write S (xs (nI i + 1).toNatClampNeg) (xs (nI i + 2).toNatClampNeg) (xs (nI i + 3).toNatClampNeg) (xs (nI i + 4).toNatClampNeg) (xs (nI i + 5).toNatClampNeg) = 0
  · obtain ⟨v1, v2, v3⟩ := (sim_write hB hK2 h).1 hk
    refine x_help (S1 := (fX9_write S (xs (nI i + 1).toNatClampNeg) (xs (nI i + 2).toNatClampNeg) (xs (nI i + 3).toNatClampNeg) (xs (nI i + 4).toNatClampNeg) (xs (nI i + 5).toNatClampNeg))) (L1 := L) (As := [.ref (a 0), .int (xs (nI i + 1).toNatClampNeg), .int (xs (nI i + 2).toNatClampNeg), .int (xs (nI i + 3).toNatClampNeg), .int (xs (nI i + 4).toNatClampNeg), .int (xs (nI i + 5).toNatClampNeg), .ref o]) (rest := []) ⟨hx, hb, hml, hown, hts⟩ F (h0_L_write l hfl G cA cJ a F.1 o F.2.2.1 S L fo H.size (xs (nI i + 1).toNatClampNeg) (xs (nI i + 2).toNatClampNeg) (xs (nI i + 3).toNatClampNeg) (xs (nI i + 4).toNatClampNeg) (xs (nI i + 5).toNatClampNeg) hk) (vx_cwSW 7 hts gL_law_L_write rfl rfl rfl (by decide +kernel) ⟨Nat.le_of_ble_eq_true rfl, Nat.le_of_ble_eq_true rfl⟩) hK hP hS rfl hl.1 rfl (lv_room (Nat.le_of_ble_eq_true rfl)) dL_law_1081 (rm_ok (by omega) (by omega)) (fun r f9 H locs hr hP hS => ?_)
    obtain ⟨er, hf⟩ := hr
    subst er
    have hX := hXf _ _ _ _ _ _ _ hP hS v3.1.1.2.1
    refine lv_istore (lv' := (5, .int 0) :: lwL a bb o b i) hx hb dL_law_1084 hl (by decide) rfl (fun ls hl => ?_)
    refine lv_aload_n hx hb dL_law_1086 rfl (lv_at hl 4 rfl) ?_
    refine lv_aload_n hx hb dL_law_1087 rfl (lv_at hl 2 rfl) ?_
    refine lv_iload hx hb dL_law_1088 (lv_at hl 1 rfl) ?_
    refine lv_iconst (v := 1) hx hb dL_law_1090 (by decide) ?_
    refine lv_iadd hx hb dL_law_1091 ?_
    refine x_sld hx hb hX (ix_in (j := 1) hi hN (by decide)) dL_law_1092 ?_
    refine lv_aload_n hx hb dL_law_1093 rfl (lv_at hl 2 rfl) ?_
    refine lv_iload hx hb dL_law_1094 (lv_at hl 1 rfl) ?_
    refine lv_iconst (v := 2) hx hb dL_law_1096 (by decide) ?_
    refine lv_iadd hx hb dL_law_1097 ?_
    refine x_sld hx hb hX (ix_in (j := 2) hi hN (by decide)) dL_law_1098 ?_
    refine lv_aload_n hx hb dL_law_1099 rfl (lv_at hl 2 rfl) ?_
    refine lv_iload hx hb dL_law_1100 (lv_at hl 1 rfl) ?_
    refine lv_iconst (v := 3) hx hb dL_law_1102 (by decide) ?_
    refine lv_iadd hx hb dL_law_1103 ?_
    refine x_sld hx hb hX (ix_in (j := 3) hi hN (by decide)) dL_law_1104 ?_
    refine lv_aload_n hx hb dL_law_1105 rfl (lv_at hl 2 rfl) ?_
    refine lv_iload hx hb dL_law_1106 (lv_at hl 1 rfl) ?_
    refine lv_iconst (v := 4) hx hb dL_law_1108 (by decide) ?_
    refine lv_iadd hx hb dL_law_1109 ?_
    refine x_sld hx hb hX (ix_in (j := 4) hi hN (by decide)) dL_law_1110 ?_
    refine lv_aload_n hx hb dL_law_1111 rfl (lv_at hl 2 rfl) ?_
    refine lv_iload hx hb dL_law_1112 (lv_at hl 1 rfl) ?_
    refine lv_iconst (v := 5) hx hb dL_law_1114 (by decide) ?_
    refine lv_iadd hx hb dL_law_1115 ?_
    refine x_sld hx hb hX (ix_in (j := 5) hi hN (by decide)) dL_law_1116 ?_
    refine x_ref (T1 := (fX11_write T (xs (nI i + 1).toNatClampNeg) (xs (nI i + 2).toNatClampNeg) (xs (nI i + 3).toNatClampNeg) (xs (nI i + 4).toNatClampNeg) (xs (nI i + 5).toNatClampNeg))) (L1' := L') (r := (rX11_write T (xs (nI i + 1).toNatClampNeg) (xs (nI i + 2).toNatClampNeg) (xs (nI i + 3).toNatClampNeg) (xs (nI i + 4).toNatClampNeg) (xs (nI i + 5).toNatClampNeg))) (As := [.int (xs (nI i + 1).toNatClampNeg), .int (xs (nI i + 2).toNatClampNeg), .int (xs (nI i + 3).toNatClampNeg), .int (xs (nI i + 4).toNatClampNeg), .int (xs (nI i + 5).toNatClampNeg)]) (rest := []) ⟨hx, hb, hml, hown, hts⟩ F (c_X11_write l G cA (a 37) bb F.2.1 T L' H.size (xs (nI i + 1).toNatClampNeg) (xs (nI i + 2).toNatClampNeg) (xs (nI i + 3).toNatClampNeg) (xs (nI i + 4).toNatClampNeg) (xs (nI i + 5).toNatClampNeg) ) (cwV 5 hts gL_law_X11_write rfl rfl rfl (by decide +kernel) ⟨Nat.le_of_ble_eq_true rfl, Nat.le_of_ble_eq_true rfl⟩) hK hP hS rfl hl.1 rfl (lv_room (Nat.le_of_ble_eq_true rfl)) dL_law_1117 (rm_ok (by omega) (by omega)) (fun H locs hP hS => ?_)
    exact x_end (E := 1120) hx hb hml hown hts F hK hP hS hl (by omega) (by omega) dL_law_1120 dL_law_1122 dL_law_1123 dL_law_1126 dL_law_1128 dL_law_1133 dL_law_1135 dL_law_1138 dL_law_1139 dL_law_1140 dL_law_1141 dL_law_1143 dL_law_1144 dL_law_1145 dL_law_1150 (by decide) v2 (fun _ => by rw [hf, v1]) (fun H locs ls hP hS hl => kk _ _ _ _ _ H locs ls _ _ (by omega) (by omega) v3 hP hS hl)
  · obtain ⟨v2, v3⟩ := (sim_write hB hK2 h).2 hk
    refine x_help (S1 := S) (L1 := L) (As := [.ref (a 0), .int (xs (nI i + 1).toNatClampNeg), .int (xs (nI i + 2).toNatClampNeg), .int (xs (nI i + 3).toNatClampNeg), .int (xs (nI i + 4).toNatClampNeg), .int (xs (nI i + 5).toNatClampNeg), .ref o]) (rest := []) ⟨hx, hb, hml, hown, hts⟩ F (h1_L_write l hfl G cA cJ a F.1 o F.2.2.1 S L fo H.size (xs (nI i + 1).toNatClampNeg) (xs (nI i + 2).toNatClampNeg) (xs (nI i + 3).toNatClampNeg) (xs (nI i + 4).toNatClampNeg) (xs (nI i + 5).toNatClampNeg) hk) (vx_cwSW 7 hts gL_law_L_write rfl rfl rfl (by decide +kernel) ⟨Nat.le_of_ble_eq_true rfl, Nat.le_of_ble_eq_true rfl⟩) hK hP hS rfl hl.1 rfl (lv_room (Nat.le_of_ble_eq_true rfl)) dL_law_1081 (rm_ok (by omega) (by omega)) (fun r f9 H locs hr hP hS => ?_)
    obtain ⟨er, hf⟩ := hr
    subst er
    have hX := hXf _ _ _ _ _ _ _ hP hS v3.1.1.2.1
    refine lv_istore (lv' := (5, .int (if kX9_write S (xs (nI i + 1).toNatClampNeg) (xs (nI i + 2).toNatClampNeg) (xs (nI i + 3).toNatClampNeg) (xs (nI i + 4).toNatClampNeg) (xs (nI i + 5).toNatClampNeg) = 1 then (1 : Int32) else 2)) :: lwL a bb o b i) hx hb dL_law_1084 hl (by decide) rfl (fun ls hl => ?_)
    refine lv_aload_n hx hb dL_law_1086 rfl (lv_at hl 4 rfl) ?_
    refine lv_aload_n hx hb dL_law_1087 rfl (lv_at hl 2 rfl) ?_
    refine lv_iload hx hb dL_law_1088 (lv_at hl 1 rfl) ?_
    refine lv_iconst (v := 1) hx hb dL_law_1090 (by decide) ?_
    refine lv_iadd hx hb dL_law_1091 ?_
    refine x_sld hx hb hX (ix_in (j := 1) hi hN (by decide)) dL_law_1092 ?_
    refine lv_aload_n hx hb dL_law_1093 rfl (lv_at hl 2 rfl) ?_
    refine lv_iload hx hb dL_law_1094 (lv_at hl 1 rfl) ?_
    refine lv_iconst (v := 2) hx hb dL_law_1096 (by decide) ?_
    refine lv_iadd hx hb dL_law_1097 ?_
    refine x_sld hx hb hX (ix_in (j := 2) hi hN (by decide)) dL_law_1098 ?_
    refine lv_aload_n hx hb dL_law_1099 rfl (lv_at hl 2 rfl) ?_
    refine lv_iload hx hb dL_law_1100 (lv_at hl 1 rfl) ?_
    refine lv_iconst (v := 3) hx hb dL_law_1102 (by decide) ?_
    refine lv_iadd hx hb dL_law_1103 ?_
    refine x_sld hx hb hX (ix_in (j := 3) hi hN (by decide)) dL_law_1104 ?_
    refine lv_aload_n hx hb dL_law_1105 rfl (lv_at hl 2 rfl) ?_
    refine lv_iload hx hb dL_law_1106 (lv_at hl 1 rfl) ?_
    refine lv_iconst (v := 4) hx hb dL_law_1108 (by decide) ?_
    refine lv_iadd hx hb dL_law_1109 ?_
    refine x_sld hx hb hX (ix_in (j := 4) hi hN (by decide)) dL_law_1110 ?_
    refine lv_aload_n hx hb dL_law_1111 rfl (lv_at hl 2 rfl) ?_
    refine lv_iload hx hb dL_law_1112 (lv_at hl 1 rfl) ?_
    refine lv_iconst (v := 5) hx hb dL_law_1114 (by decide) ?_
    refine lv_iadd hx hb dL_law_1115 ?_
    refine x_sld hx hb hX (ix_in (j := 5) hi hN (by decide)) dL_law_1116 ?_
    refine x_ref (T1 := (fX11_write T (xs (nI i + 1).toNatClampNeg) (xs (nI i + 2).toNatClampNeg) (xs (nI i + 3).toNatClampNeg) (xs (nI i + 4).toNatClampNeg) (xs (nI i + 5).toNatClampNeg))) (L1' := L') (r := (rX11_write T (xs (nI i + 1).toNatClampNeg) (xs (nI i + 2).toNatClampNeg) (xs (nI i + 3).toNatClampNeg) (xs (nI i + 4).toNatClampNeg) (xs (nI i + 5).toNatClampNeg))) (As := [.int (xs (nI i + 1).toNatClampNeg), .int (xs (nI i + 2).toNatClampNeg), .int (xs (nI i + 3).toNatClampNeg), .int (xs (nI i + 4).toNatClampNeg), .int (xs (nI i + 5).toNatClampNeg)]) (rest := []) ⟨hx, hb, hml, hown, hts⟩ F (c_X11_write l G cA (a 37) bb F.2.1 T L' H.size (xs (nI i + 1).toNatClampNeg) (xs (nI i + 2).toNatClampNeg) (xs (nI i + 3).toNatClampNeg) (xs (nI i + 4).toNatClampNeg) (xs (nI i + 5).toNatClampNeg) ) (cwV 5 hts gL_law_X11_write rfl rfl rfl (by decide +kernel) ⟨Nat.le_of_ble_eq_true rfl, Nat.le_of_ble_eq_true rfl⟩) hK hP hS rfl hl.1 rfl (lv_room (Nat.le_of_ble_eq_true rfl)) dL_law_1117 (rm_ok (by omega) (by omega)) (fun H locs hP hS => ?_)
    exact x_end (E := 1120) hx hb hml hown hts F hK hP hS hl (by omega) (by omega) dL_law_1120 dL_law_1122 dL_law_1123 dL_law_1126 dL_law_1128 dL_law_1133 dL_law_1135 dL_law_1138 dL_law_1139 dL_law_1140 dL_law_1141 dL_law_1143 dL_law_1144 dL_law_1145 dL_law_1150 (by decide) v2 (fun h9 => absurd h9 (by split <;> decide)) (fun H locs ls hP hS hl => kk _ _ _ _ _ H locs ls _ _ (by omega) (by omega) v3 hP hS hl)
set_option maxHeartbeats 4000000 in
theorem case_setTrack (C : LCtx p l s m c G A0 cA cJ a bb o b N xs) (D : LSt G A0 s cA cJ a bb o b N i B K S T L L' fo H locs ls cells slots) (kk : LKK p l e s m below meth c Q G A0 cA cJ a bb o b i B K cells slots) : W p l e room_1 s m #[Value.ref b] below meth c H locs cells slots Q (F0 m 1153 ls []) := by
  obtain ⟨hfl, hx, hb, hml, hown, hts, F, hK, hXf⟩ := C
  obtain ⟨hi, hN, h, hB, hK2, hP, hS, hl, hc, hs⟩ := D
  have hX := hXf _ _ _ _ _ _ _ hP hS h.1.1.2.1
  refine lv_aload_n hx hb dL_law_1153 rfl (lv_at hl 2 rfl) ?_
  refine lv_aload_n hx hb dL_law_1154 rfl (lv_at hl 1 rfl) ?_
  refine lv_iload hx hb dL_law_1155 (lv_at hl 0 rfl) ?_
  refine lv_iconst (v := 1) hx hb dL_law_1157 (by decide) ?_
  refine lv_iadd hx hb dL_law_1158 ?_
  refine x_sld hx hb hX (ix_in (j := 1) hi hN (by decide)) dL_law_1159 ?_
  refine lv_aload_n hx hb dL_law_1160 rfl (lv_at hl 1 rfl) ?_
  refine lv_iload hx hb dL_law_1161 (lv_at hl 0 rfl) ?_
  refine lv_iconst (v := 2) hx hb dL_law_1163 (by decide) ?_
  refine lv_iadd hx hb dL_law_1164 ?_
  refine x_sld hx hb hX (ix_in (j := 2) hi hN (by decide)) dL_law_1165 ?_
  refine lv_aload_n hx hb dL_law_1166 rfl (lv_at hl 4 rfl) ?_
  by_cases hk : kX9_setTrack S (xs (nI i + 1).toNatClampNeg) (xs (nI i + 2).toNatClampNeg) = 0
  · obtain ⟨v1, v2, v3⟩ := (sim_setTrack hB hK2 h).1 hk
    refine x_help (S1 := (fX9_setTrack S (xs (nI i + 1).toNatClampNeg) (xs (nI i + 2).toNatClampNeg))) (L1 := L) (As := [.ref (a 0), .int (xs (nI i + 1).toNatClampNeg), .int (xs (nI i + 2).toNatClampNeg), .ref o]) (rest := []) ⟨hx, hb, hml, hown, hts⟩ F (h0_L_setTrack l hfl G cA cJ a F.1 o F.2.2.1 S L fo H.size (xs (nI i + 1).toNatClampNeg) (xs (nI i + 2).toNatClampNeg) hk) (vx_cwSW 4 hts gL_law_L_setTrack rfl rfl rfl (by decide +kernel) ⟨Nat.le_of_ble_eq_true rfl, Nat.le_of_ble_eq_true rfl⟩) hK hP hS rfl hl.1 rfl (lv_room (Nat.le_of_ble_eq_true rfl)) dL_law_1167 (rm_ok (by omega) (by omega)) (fun r f9 H locs hr hP hS => ?_)
    obtain ⟨er, hf⟩ := hr
    subst er
    have hX := hXf _ _ _ _ _ _ _ hP hS v3.1.1.2.1
    refine lv_istore (lv' := (5, .int 0) :: lwL a bb o b i) hx hb dL_law_1170 hl (by decide) rfl (fun ls hl => ?_)
    refine lv_aload_n hx hb dL_law_1172 rfl (lv_at hl 4 rfl) ?_
    refine lv_aload_n hx hb dL_law_1173 rfl (lv_at hl 2 rfl) ?_
    refine lv_iload hx hb dL_law_1174 (lv_at hl 1 rfl) ?_
    refine lv_iconst (v := 1) hx hb dL_law_1176 (by decide) ?_
    refine lv_iadd hx hb dL_law_1177 ?_
    refine x_sld hx hb hX (ix_in (j := 1) hi hN (by decide)) dL_law_1178 ?_
    refine lv_aload_n hx hb dL_law_1179 rfl (lv_at hl 2 rfl) ?_
    refine lv_iload hx hb dL_law_1180 (lv_at hl 1 rfl) ?_
    refine lv_iconst (v := 2) hx hb dL_law_1182 (by decide) ?_
    refine lv_iadd hx hb dL_law_1183 ?_
    refine x_sld hx hb hX (ix_in (j := 2) hi hN (by decide)) dL_law_1184 ?_
    refine x_ref (T1 := (fX11_setTrack T (xs (nI i + 1).toNatClampNeg) (xs (nI i + 2).toNatClampNeg))) (L1' := L') (r := (rX11_setTrack T (xs (nI i + 1).toNatClampNeg) (xs (nI i + 2).toNatClampNeg))) (As := [.int (xs (nI i + 1).toNatClampNeg), .int (xs (nI i + 2).toNatClampNeg)]) (rest := []) ⟨hx, hb, hml, hown, hts⟩ F (c_X11_setTrack l G cA (a 37) bb F.2.1 T L' H.size (xs (nI i + 1).toNatClampNeg) (xs (nI i + 2).toNatClampNeg) ) (cwV 2 hts gL_law_X11_setTrack rfl rfl rfl (by decide +kernel) ⟨Nat.le_of_ble_eq_true rfl, Nat.le_of_ble_eq_true rfl⟩) hK hP hS rfl hl.1 rfl (lv_room (Nat.le_of_ble_eq_true rfl)) dL_law_1185 (rm_ok (by omega) (by omega)) (fun H locs hP hS => ?_)
    exact x_end (E := 1188) hx hb hml hown hts F hK hP hS hl (by omega) (by omega) dL_law_1188 dL_law_1190 dL_law_1191 dL_law_1194 dL_law_1196 dL_law_1201 dL_law_1203 dL_law_1206 dL_law_1207 dL_law_1208 dL_law_1209 dL_law_1211 dL_law_1212 dL_law_1213 dL_law_1218 (by decide) v2 (fun _ => by rw [hf, v1]) (fun H locs ls hP hS hl => kk _ _ _ _ _ H locs ls _ _ (by omega) (by omega) v3 hP hS hl)
  · obtain ⟨v2, v3⟩ := (sim_setTrack hB hK2 h).2 hk
    refine x_help (S1 := S) (L1 := L) (As := [.ref (a 0), .int (xs (nI i + 1).toNatClampNeg), .int (xs (nI i + 2).toNatClampNeg), .ref o]) (rest := []) ⟨hx, hb, hml, hown, hts⟩ F (h1_L_setTrack l hfl G cA cJ a F.1 o F.2.2.1 S L fo H.size (xs (nI i + 1).toNatClampNeg) (xs (nI i + 2).toNatClampNeg) hk) (vx_cwSW 4 hts gL_law_L_setTrack rfl rfl rfl (by decide +kernel) ⟨Nat.le_of_ble_eq_true rfl, Nat.le_of_ble_eq_true rfl⟩) hK hP hS rfl hl.1 rfl (lv_room (Nat.le_of_ble_eq_true rfl)) dL_law_1167 (rm_ok (by omega) (by omega)) (fun r f9 H locs hr hP hS => ?_)
    obtain ⟨er, hf⟩ := hr
    subst er
    have hX := hXf _ _ _ _ _ _ _ hP hS v3.1.1.2.1
    refine lv_istore (lv' := (5, .int 1) :: lwL a bb o b i) hx hb dL_law_1170 hl (by decide) rfl (fun ls hl => ?_)
    refine lv_aload_n hx hb dL_law_1172 rfl (lv_at hl 4 rfl) ?_
    refine lv_aload_n hx hb dL_law_1173 rfl (lv_at hl 2 rfl) ?_
    refine lv_iload hx hb dL_law_1174 (lv_at hl 1 rfl) ?_
    refine lv_iconst (v := 1) hx hb dL_law_1176 (by decide) ?_
    refine lv_iadd hx hb dL_law_1177 ?_
    refine x_sld hx hb hX (ix_in (j := 1) hi hN (by decide)) dL_law_1178 ?_
    refine lv_aload_n hx hb dL_law_1179 rfl (lv_at hl 2 rfl) ?_
    refine lv_iload hx hb dL_law_1180 (lv_at hl 1 rfl) ?_
    refine lv_iconst (v := 2) hx hb dL_law_1182 (by decide) ?_
    refine lv_iadd hx hb dL_law_1183 ?_
    refine x_sld hx hb hX (ix_in (j := 2) hi hN (by decide)) dL_law_1184 ?_
    refine x_ref (T1 := (fX11_setTrack T (xs (nI i + 1).toNatClampNeg) (xs (nI i + 2).toNatClampNeg))) (L1' := L') (r := (rX11_setTrack T (xs (nI i + 1).toNatClampNeg) (xs (nI i + 2).toNatClampNeg))) (As := [.int (xs (nI i + 1).toNatClampNeg), .int (xs (nI i + 2).toNatClampNeg)]) (rest := []) ⟨hx, hb, hml, hown, hts⟩ F (c_X11_setTrack l G cA (a 37) bb F.2.1 T L' H.size (xs (nI i + 1).toNatClampNeg) (xs (nI i + 2).toNatClampNeg) ) (cwV 2 hts gL_law_X11_setTrack rfl rfl rfl (by decide +kernel) ⟨Nat.le_of_ble_eq_true rfl, Nat.le_of_ble_eq_true rfl⟩) hK hP hS rfl hl.1 rfl (lv_room (Nat.le_of_ble_eq_true rfl)) dL_law_1185 (rm_ok (by omega) (by omega)) (fun H locs hP hS => ?_)
    exact x_end (E := 1188) hx hb hml hown hts F hK hP hS hl (by omega) (by omega) dL_law_1188 dL_law_1190 dL_law_1191 dL_law_1194 dL_law_1196 dL_law_1201 dL_law_1203 dL_law_1206 dL_law_1207 dL_law_1208 dL_law_1209 dL_law_1211 dL_law_1212 dL_law_1213 dL_law_1218 (by decide) v2 (fun h9 => absurd h9 (by decide)) (fun H locs ls hP hS hl => kk _ _ _ _ _ H locs ls _ _ (by omega) (by omega) v3 hP hS hl)
end
