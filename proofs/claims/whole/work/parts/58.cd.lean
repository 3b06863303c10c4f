section
variable {p : Program} {l : Launch} {e : Env} {s : State} {m : MethodId} {below : List Frame} {meth : Method} {c : Code} {H : Heap} {locs : List Loc} {cells slots : Nat} {Q : State → Prop}
variable {ls : Array Slot} {G : va_G} {A0 : Nat → Prop} {cA cJ : ClassId} {a bb : Nat → Nat} {S T : Mm} {L L' : Int64} {o b N i : Nat} {fo : Nat → Int64} {xs : Nat → Int32} {B K : Int}
set_option maxHeartbeats 4000000 in
theorem case_reset (C : LCtx p l s m c G A0 cA cJ a bb o b N xs) (D : LSt G A0 s cA cJ a bb o b N i B K S T L L' fo H locs ls cells slots) (kk : LKK p l e s m below meth c Q G A0 cA cJ a bb o b i B K cells slots) : W p l e room_1 s m #[Value.ref b] below meth c H locs cells slots Q (F0 m 1583 ls []) := by
  obtain ⟨hfl, hx, hb, hml, hown, hts, F, hK, hXf⟩ := C
  obtain ⟨hi, hN, h, hB, hK2, hP, hS, hl, hc, hs⟩ := D
  obtain ⟨v1, v3⟩ := sim_reset hB hK2 h
  refine lv_aload_n hx hb dL_law_1583 rfl (lv_at hl 2 rfl) ?_
  refine x_cls (S1 := (fX9_reset S L)) (L1 := (lX9_reset S L)) (r := (rX9_reset S L)) (As := []) (rest := []) ⟨hx, hb, hml, hown, hts⟩ F (c_X9_reset l G cA a F.1 S L H.size ) (cwV 0 hts gL_law_X9_reset rfl rfl rfl (by decide +kernel) ⟨Nat.le_of_ble_eq_true rfl, Nat.le_of_ble_eq_true rfl⟩) hK hP hS rfl hl.1 rfl (lv_room (Nat.le_of_ble_eq_true rfl)) dL_law_1584 (rm_ok (by omega) (by omega)) (fun H locs hP hS => ?_)
  refine lv_aload_n hx hb dL_law_1587 rfl (lv_at hl 3 rfl) ?_
  refine x_ref (T1 := (fX11_reset T L')) (L1' := (lX11_reset T L')) (r := (rX11_reset T L')) (As := []) (rest := [.int (rX9_reset S L)]) ⟨hx, hb, hml, hown, hts⟩ F (c_X11_reset l G cA (a 37) bb F.2.1 T L' H.size  ) (cwV 0 hts gL_law_X11_reset rfl rfl rfl (by decide +kernel) ⟨Nat.le_of_ble_eq_true rfl, Nat.le_of_ble_eq_true rfl⟩) hK hP hS rfl hl.1 rfl (lv_room (Nat.le_of_ble_eq_true rfl)) dL_law_1588 (rm_ok (by omega) (by omega)) (fun H locs hP hS => ?_)
  exact lv_icmp_eq (tgt := 1991) hx hb dL_law_1591 (by decide) (fun _ => kk _ _ _ _ _ H locs ls _ _ (by omega) (by omega) v3 hP hS hl) (fun c1 => absurd v1 c1)
set_option maxHeartbeats 4000000 in
theorem case_ofVoice (C : LCtx p l s m c G A0 cA cJ a bb o b N xs) (D : LSt G A0 s cA cJ a bb o b N i B K S T L L' fo H locs ls cells slots) (kk : LKK p l e s m below meth c Q G A0 cA cJ a bb o b i B K cells slots) : W p l e room_1 s m #[Value.ref b] below meth c H locs cells slots Q (F0 m 1596 ls []) := by
  obtain ⟨hfl, hx, hb, hml, hown, hts, F, hK, hXf⟩ := C
  obtain ⟨hi, hN, h, hB, hK2, hP, hS, hl, hc, hs⟩ := D
  have hX := hXf _ _ _ _ _ _ _ hP hS h.1.1.2.1
  refine lv_aload_n hx hb dL_law_1596 rfl (lv_at hl 2 rfl) ?_
  refine lv_aload_n hx hb dL_law_1597 rfl (lv_at hl 1 rfl) ?_
  refine lv_iload hx hb dL_law_1598 (lv_at hl 0 rfl) ?_
  refine lv_iconst (v := 1) hx hb dL_law_1600 (by decide) ?_
  refine lv_iadd hx hb dL_law_1601 ?_
  refine x_sld hx hb hX (ix_in (j := 1) hi hN (by decide)) dL_law_1602 ?_
  refine lv_aload_n hx hb dL_law_1603 rfl (lv_at hl 1 rfl) ?_
  refine lv_iload hx hb dL_law_1604 (lv_at hl 0 rfl) ?_
  refine lv_iconst (v := 2) hx hb dL_law_1606 (by decide) ?_
  refine lv_iadd hx hb dL_law_1607 ?_
  refine x_sld hx hb hX (ix_in (j := 2) hi hN (by decide)) dL_law_1608 ?_
  refine lv_aload_n hx hb dL_law_1609 rfl (lv_at hl 4 rfl) ?_
  by_cases hk : kX9_ofVoice S (xs (nI i + 1).toNatClampNeg) (xs (nI i + 2).toNatClampNeg) = 0
  · obtain ⟨v1, v2, v3⟩ := (sim_ofVoice hB hK2 h).1 hk
    refine x_help (S1 := S) (L1 := L) (As := [.ref (a 0), .int (xs (nI i + 1).toNatClampNeg), .int (xs (nI i + 2).toNatClampNeg), .ref o]) (rest := []) ⟨hx, hb, hml, hown, hts⟩ F (h0_L_ofVoice l hfl G cA cJ a F.1 o F.2.2.1 S L fo H.size (xs (nI i + 1).toNatClampNeg) (xs (nI i + 2).toNatClampNeg) hk) (vx_cwSW 4 hts gL_law_L_ofVoice rfl rfl rfl (by decide +kernel) ⟨Nat.le_of_ble_eq_true rfl, Nat.le_of_ble_eq_true rfl⟩) hK hP hS rfl hl.1 rfl (lv_room (Nat.le_of_ble_eq_true rfl)) dL_law_1610 (rm_ok (by omega) (by omega)) (fun r f9 H locs hr hP hS => ?_)
    obtain ⟨er, hf⟩ := hr
    subst er
    have hX := hXf _ _ _ _ _ _ _ hP hS v3.1.1.2.1
    refine lv_istore (lv' := (5, .int 0) :: lwL a bb o b i) hx hb dL_law_1613 hl (by decide) rfl (fun ls hl => ?_)
    refine lv_aload_n hx hb dL_law_1615 rfl (lv_at hl 4 rfl) ?_
    refine lv_aload_n hx hb dL_law_1616 rfl (lv_at hl 2 rfl) ?_
    refine lv_iload hx hb dL_law_1617 (lv_at hl 1 rfl) ?_
    refine lv_iconst (v := 1) hx hb dL_law_1619 (by decide) ?_
    refine lv_iadd hx hb dL_law_1620 ?_
    refine x_sld hx hb hX (ix_in (j := 1) hi hN (by decide)) dL_law_1621 ?_
    refine lv_aload_n hx hb dL_law_1622 rfl (lv_at hl 2 rfl) ?_
    refine lv_iload hx hb dL_law_1623 (lv_at hl 1 rfl) ?_
    refine lv_iconst (v := 2) hx hb dL_law_1625 (by decide) ?_
    refine lv_iadd hx hb dL_law_1626 ?_
    refine x_sld hx hb hX (ix_in (j := 2) hi hN (by decide)) dL_law_1627 ?_
    refine x_ref (T1 := (fX11_ofVoice T (xs (nI i + 1).toNatClampNeg) (xs (nI i + 2).toNatClampNeg))) (L1' := L') (r := (rX11_ofVoice T (xs (nI i + 1).toNatClampNeg) (xs (nI i + 2).toNatClampNeg))) (As := [.int (xs (nI i + 1).toNatClampNeg), .int (xs (nI i + 2).toNatClampNeg)]) (rest := []) ⟨hx, hb, hml, hown, hts⟩ F (c_X11_ofVoice l G cA (a 37) bb F.2.1 T L' H.size (xs (nI i + 1).toNatClampNeg) (xs (nI i + 2).toNatClampNeg) ) (cwV 2 hts gL_law_X11_ofVoice rfl rfl rfl (by decide +kernel) ⟨Nat.le_of_ble_eq_true rfl, Nat.le_of_ble_eq_true rfl⟩) hK hP hS rfl hl.1 rfl (lv_room (Nat.le_of_ble_eq_true rfl)) dL_law_1628 (rm_ok (by omega) (by omega)) (fun H locs hP hS => ?_)
    exact x_end (E := 1631) hx hb hml hown hts F hK hP hS hl (by omega) (by omega) dL_law_1631 dL_law_1633 dL_law_1634 dL_law_1637 dL_law_1639 dL_law_1644 dL_law_1646 dL_law_1649 dL_law_1650 dL_law_1651 dL_law_1652 dL_law_1654 dL_law_1655 dL_law_1656 dL_law_1661 (by decide) v2 (fun _ => by rw [hf, v1]) (fun H locs ls hP hS hl => kk _ _ _ _ _ H locs ls _ _ (by omega) (by omega) v3 hP hS hl)
  · obtain ⟨v2, v3⟩ := (sim_ofVoice hB hK2 h).2 hk
    refine x_help (S1 := S) (L1 := L) (As := [.ref (a 0), .int (xs (nI i + 1).toNatClampNeg), .int (xs (nI i + 2).toNatClampNeg), .ref o]) (rest := []) ⟨hx, hb, hml, hown, hts⟩ F (h1_L_ofVoice l hfl G cA cJ a F.1 o F.2.2.1 S L fo H.size (xs (nI i + 1).toNatClampNeg) (xs (nI i + 2).toNatClampNeg) hk) (vx_cwSW 4 hts gL_law_L_ofVoice rfl rfl rfl (by decide +kernel) ⟨Nat.le_of_ble_eq_true rfl, Nat.le_of_ble_eq_true rfl⟩) hK hP hS rfl hl.1 rfl (lv_room (Nat.le_of_ble_eq_true rfl)) dL_law_1610 (rm_ok (by omega) (by omega)) (fun r f9 H locs hr hP hS => ?_)
    obtain ⟨er, hf⟩ := hr
    subst er
    have hX := hXf _ _ _ _ _ _ _ hP hS v3.1.1.2.1
    refine lv_istore (lv' := (5, .int (if kX9_ofVoice S (xs (nI i + 1).toNatClampNeg) (xs (nI i + 2).toNatClampNeg) = 1 then (1 : Int32) else 2)) :: lwL a bb o b i) hx hb dL_law_1613 hl (by decide) rfl (fun ls hl => ?_)
    refine lv_aload_n hx hb dL_law_1615 rfl (lv_at hl 4 rfl) ?_
    refine lv_aload_n hx hb dL_law_1616 rfl (lv_at hl 2 rfl) ?_
    refine lv_iload hx hb dL_law_1617 (lv_at hl 1 rfl) ?_
    refine lv_iconst (v := 1) hx hb dL_law_1619 (by decide) ?_
    refine lv_iadd hx hb dL_law_1620 ?_
    refine x_sld hx hb hX (ix_in (j := 1) hi hN (by decide)) dL_law_1621 ?_
    refine lv_aload_n hx hb dL_law_1622 rfl (lv_at hl 2 rfl) ?_
    refine lv_iload hx hb dL_law_1623 (lv_at hl 1 rfl) ?_
    refine lv_iconst (v := 2) hx hb dL_law_1625 (by decide) ?_
    refine lv_iadd hx hb dL_law_1626 ?_
    refine x_sld hx hb hX (ix_in (j := 2) hi hN (by decide)) dL_law_1627 ?_
    refine x_ref (T1 := (fX11_ofVoice T (xs (nI i + 1).toNatClampNeg) (xs (nI i + 2).toNatClampNeg))) (L1' := L') (r := (rX11_ofVoice T (xs (nI i + 1).toNatClampNeg) (xs (nI i + 2).toNatClampNeg))) (As := [.int (xs (nI i + 1).toNatClampNeg), .int (xs (nI i + 2).toNatClampNeg)]) (rest := []) ⟨hx, hb, hml, hown, hts⟩ F (c_X11_ofVoice l G cA (a 37) bb F.2.1 T L' H.size (xs (nI i + 1).toNatClampNeg) (xs (nI i + 2).toNatClampNeg) ) (cwV 2 hts gL_law_X11_ofVoice rfl rfl rfl (by decide +kernel) ⟨Nat.le_of_ble_eq_true rfl, Nat.le_of_ble_eq_true rfl⟩) hK hP hS rfl hl.1 rfl (lv_room (Nat.le_of_ble_eq_true rfl)) dL_law_1628 (rm_ok (by omega) (by omega)) (fun H locs hP hS => ?_)
    exact x_end (E := 1631) hx hb hml hown hts F hK hP hS hl (by omega) (by omega) dL_law_1631 dL_law_1633 dL_law_1634 dL_law_1637 dL_law_1639 dL_law_1644 dL_law_1646 dL_law_1649 dL_law_1650 dL_law_1651 dL_law_1652 dL_law_1654 dL_law_1655 dL_law_1656 dL_law_1661 (by decide) v2 (fun h9 => absurd h9 (by split <;> decide)) (fun H locs ls hP hS hl => kk _ _ _ _ _ H locs ls _ _ (by omega) (by omega) v3 hP hS hl)
set_option maxHeartbeats 4000000 in
theorem case_sounding (C : LCtx p l s m c G A0 cA cJ a bb o b N xs) (D : LSt G A0 s cA cJ a bb o b N i B K S T L L' fo H locs ls cells slots) (kk : LKK p l e s m below meth c Q G A0 cA cJ a bb o b i B K cells slots) : W p l e room_1 s m #[Value.ref b] below meth c H locs cells slots Q (F0 m 1664 ls []) := by
  obtain ⟨hfl, hx, hb, hml, hown, hts, F, hK, hXf⟩ := C
  obtain ⟨hi, hN, h, hB, hK2, hP, hS, hl, hc, hs⟩ := D
  obtain ⟨v1, v3⟩ := sim_sounding hB hK2 h
  refine lv_aload_n hx hb dL_law_1664 rfl (lv_at hl 2 rfl) ?_
  refine x_cls (S1 := S) (L1 := L) (r := (rX9_sounding S)) (As := []) (rest := []) ⟨hx, hb, hml, hown, hts⟩ F (c_X9_sounding l G cA a F.1 S L H.size ) (cwV 0 hts gL_law_X9_sounding rfl rfl rfl (by decide +kernel) ⟨Nat.le_of_ble_eq_true rfl, Nat.le_of_ble_eq_true rfl⟩) hK hP hS rfl hl.1 rfl (lv_room (Nat.le_of_ble_eq_true rfl)) dL_law_1665 (rm_ok (by omega) (by omega)) (fun H locs hP hS => ?_)
  refine lv_aload_n hx hb dL_law_1668 rfl (lv_at hl 3 rfl) ?_
  refine x_ref (T1 := (fX11_sounding T)) (L1' := L') (r := (rX11_sounding T)) (As := []) (rest := [.int (rX9_sounding S)]) ⟨hx, hb, hml, hown, hts⟩ F (c_X11_sounding l G cA (a 37) bb F.2.1 T L' H.size  ) (cwV 0 hts gL_law_X11_sounding rfl rfl rfl (by decide +kernel) ⟨Nat.le_of_ble_eq_true rfl, Nat.le_of_ble_eq_true rfl⟩) hK hP hS rfl hl.1 rfl (lv_room (Nat.le_of_ble_eq_true rfl)) dL_law_1669 (rm_ok (by omega) (by omega)) (fun H locs hP hS => ?_)
  exact lv_icmp_eq (tgt := 1991) hx hb dL_law_1672 (by decide) (fun _ => kk _ _ _ _ _ H locs ls _ _ (by omega) (by omega) v3 hP hS hl) (fun c1 => absurd v1 c1)
set_option maxHeartbeats 4000000 in
theorem case_taken (C : LCtx p l s m c G A0 cA cJ a bb o b N xs) (D : LSt G A0 s cA cJ a bb o b N i B K S T L L' fo H locs ls cells slots) (kk : LKK p l e s m below meth c Q G A0 cA cJ a bb o b i B K cells slots) : W p l e room_1 s m #[Value.ref b] below meth c H locs cells slots Q (F0 m 1677 ls []) := by
  obtain ⟨hfl, hx, hb, hml, hown, hts, F, hK, hXf⟩ := C
  obtain ⟨hi, hN, h, hB, hK2, hP, hS, hl, hc, hs⟩ := D
  obtain ⟨v1, v3⟩ := sim_taken hB hK2 h
  refine lv_aload_n hx hb dL_law_1677 rfl (lv_at hl 2 rfl) ?_
  refine x_cls (S1 := S) (L1 := L) (r := (rX9_taken S)) (As := []) (rest := []) ⟨hx, hb, hml, hown, hts⟩ F (c_X9_taken l G cA a F.1 S L H.size ) (cwV 0 hts gL_law_X9_taken rfl rfl rfl (by decide +kernel) ⟨Nat.le_of_ble_eq_true rfl, Nat.le_of_ble_eq_true rfl⟩) hK hP hS rfl hl.1 rfl (lv_room (Nat.le_of_ble_eq_true rfl)) dL_law_1678 (rm_ok (by omega) (by omega)) (fun H locs hP hS => ?_)
  refine lv_aload_n hx hb dL_law_1681 rfl (lv_at hl 3 rfl) ?_
  refine x_ref (T1 := (fX11_taken T)) (L1' := L') (r := (rX11_taken T)) (As := []) (rest := [.int (rX9_taken S)]) ⟨hx, hb, hml, hown, hts⟩ F (c_X11_taken l G cA (a 37) bb F.2.1 T L' H.size  ) (cwV 0 hts gL_law_X11_taken rfl rfl rfl (by decide +kernel) ⟨Nat.le_of_ble_eq_true rfl, Nat.le_of_ble_eq_true rfl⟩) hK hP hS rfl hl.1 rfl (lv_room (Nat.le_of_ble_eq_true rfl)) dL_law_1682 (rm_ok (by omega) (by omega)) (fun H locs hP hS => ?_)
  exact lv_icmp_eq (tgt := 1991) hx hb dL_law_1685 (by decide) (fun _ => kk _ _ _ _ _ H locs ls _ _ (by omega) (by omega) v3 hP hS hl) (fun c1 => absurd v1 c1)
set_option maxHeartbeats 4000000 in
theorem case_isPlaying (C : LCtx p l s m c G A0 cA cJ a bb o b N xs) (D : LSt G A0 s cA cJ a bb o b N i B K S T L L' fo H locs ls cells slots) (kk : LKK p l e s m below meth c Q G A0 cA cJ a bb o b i B K cells slots) : W p l e room_1 s m #[Value.ref b] below meth c H locs cells slots Q (F0 m 1690 ls []) := by
  obtain ⟨hfl, hx, hb, hml, hown, hts, F, hK, hXf⟩ := C
  obtain ⟨hi, hN, h, hB, hK2, hP, hS, hl, hc, hs⟩ := D
  obtain ⟨v1, v3⟩ := sim_isPlaying hB hK2 h
  refine lv_aload_n hx hb dL_law_1690 rfl (lv_at hl 2 rfl) ?_
  refine x_cls (S1 := S) (L1 := L) (r := (rX9_isPlaying S)) (As := []) (rest := []) ⟨hx, hb, hml, hown, hts⟩ F (c_X9_isPlaying l G cA a F.1 S L H.size (nar_b (play_b h).1)) (cwV 0 hts gL_law_X9_isPlaying rfl rfl rfl (by decide +kernel) ⟨Nat.le_of_ble_eq_true rfl, Nat.le_of_ble_eq_true rfl⟩) hK hP hS rfl hl.1 rfl (lv_room (Nat.le_of_ble_eq_true rfl)) dL_law_1691 (rm_ok (by omega) (by omega)) (fun H locs hP hS => ?_)
  refine lv_aload_n hx hb dL_law_1694 rfl (lv_at hl 3 rfl) ?_
  refine x_ref (T1 := (fX11_isPlaying T)) (L1' := L') (r := (rX11_isPlaying T)) (As := []) (rest := [.int (rX9_isPlaying S)]) ⟨hx, hb, hml, hown, hts⟩ F (c_X11_isPlaying l G cA (a 37) bb F.2.1 T L' H.size  (by rw [up2_n (by decide)]; exact nar_b (play_b h).2)) (cwV 0 hts gL_law_X11_isPlaying rfl rfl rfl (by decide +kernel) ⟨Nat.le_of_ble_eq_true rfl, Nat.le_of_ble_eq_true rfl⟩) hK hP hS rfl hl.1 rfl (lv_room (Nat.le_of_ble_eq_true rfl)) dL_law_1695 (rm_ok (by omega) (by omega)) (fun H locs hP hS => ?_)
  exact lv_icmp_eq (tgt := 1991) hx hb dL_law_1698 (by decide) (fun _ => kk _ _ _ _ _ H locs ls _ _ (by omega) (by omega) v3 hP hS hl) (fun c1 => absurd v1 c1)
set_option maxHeartbeats 4000000 in
theorem case_step (C : LCtx p l s m c G A0 cA cJ a bb o b N xs) (D : LSt G A0 s cA cJ a bb o b N i B K S T L L' fo H locs ls cells slots) (kk : LKK p l e s m below meth c Q G A0 cA cJ a bb o b i B K cells slots) : W p l e room_1 s m #[Value.ref b] below meth c H locs cells slots Q (F0 m 1703 ls []) := by
  obtain ⟨hfl, hx, hb, hml, hown, hts, F, hK, hXf⟩ := C
  obtain ⟨hi, hN, h, hB, hK2, hP, hS, hl, hc, hs⟩ := D
  obtain ⟨v1, v3⟩ := sim_step hB hK2 h
  refine lv_aload_n hx hb dL_law_1703 rfl (lv_at hl 2 rfl) ?_
  refine x_cls (S1 := S) (L1 := L) (r := (rX9_step S)) (As := []) (rest := []) ⟨hx, hb, hml, hown, hts⟩ F (c_X9_step l G cA a F.1 S L H.size ) (cwV 0 hts gL_law_X9_step rfl rfl rfl (by decide +kernel) ⟨Nat.le_of_ble_eq_true rfl, Nat.le_of_ble_eq_true rfl⟩) hK hP hS rfl hl.1 rfl (lv_room (Nat.le_of_ble_eq_true rfl)) dL_law_1704 (rm_ok (by omega) (by omega)) (fun H locs hP hS => ?_)
  refine lv_aload_n hx hb dL_law_1707 rfl (lv_at hl 3 rfl) ?_
  refine x_ref (T1 := (fX11_step T)) (L1' := L') (r := (rX11_step T)) (As := []) (rest := [.int (rX9_step S)]) ⟨hx, hb, hml, hown, hts⟩ F (c_X11_step l G cA (a 37) bb F.2.1 T L' H.size  ) (cwV 0 hts gL_law_X11_step rfl rfl rfl (by decide +kernel) ⟨Nat.le_of_ble_eq_true rfl, Nat.le_of_ble_eq_true rfl⟩) hK hP hS rfl hl.1 rfl (lv_room (Nat.le_of_ble_eq_true rfl)) dL_law_1708 (rm_ok (by omega) (by omega)) (fun H locs hP hS => ?_)
  exact lv_icmp_eq (tgt := 1991) hx hb dL_law_1711 (by decide) (fun _ => kk _ _ _ _ _ H locs ls _ _ (by omega) (by omega) v3 hP hS hl) (fun c1 => absurd v1 c1)
set_option maxHeartbeats 4000000 in
theorem case_ofStep (C : LCtx p l s m c G A0 cA cJ a bb o b N xs) (D : LSt G A0 s cA cJ a bb o b N i B K S T L L' fo H locs ls cells slots) (kk : LKK p l e s m below meth c Q G A0 cA cJ a bb o b i B K cells slots) : W p l e room_1 s m #[Value.ref b] below meth c H locs cells slots Q (F0 m 1716 ls []) := by
  obtain ⟨hfl, hx, hb, hml, hown, hts, F, hK, hXf⟩ := C
  obtain ⟨hi, hN, h, hB, hK2, hP, hS, hl, hc, hs⟩ := D
  have hX := hXf _ _ _ _ _ _ _ hP hS h.1.1.2.1
  refine lv_aload_n hx hb dL_law_1716 rfl (lv_at hl 2 rfl) ?_
  refine lv_aload_n hx hb dL_law_1717 rfl (lv_at hl 1 rfl) ?_
  refine lv_iload hx hb dL_law_1718 (lv_at hl 0 rfl) ?_
  refine lv_iconst (v := 1) hx hb dL_law_1720 (by decide) ?_
  refine lv_iadd hx hb dL_law_1721 ?_
  refine x_sld hx hb hX (ix_in (j := 1) hi hN (by decide)) dL_law_1722 ?_
  refine lv_aload_n hx hb dL_law_1723 rfl (lv_at hl 1 rfl) ?_
  refine lv_iload hx hb dL_law_1724 (lv_at hl 0 rfl) ?_
  refine lv_iconst (v := 2) hx hb dL_law_1726 (by decide) ?_
  refine lv_iadd hx hb dL_law_1727 ?_
  refine x_sld hx hb hX (ix_in (j := 2) hi hN (by decide)) dL_law_1728 ?_
  refine lv_aload_n hx hb dL_law_1729 rfl (lv_at hl 1 rfl) ?_
  refine lv_iload hx hb dL_law_1730 (lv_at hl 0 rfl) ?_
  refine lv_iconst (v := 3) hx hb dL_law_1732 (by decide) ?_
  refine lv_iadd hx hb dL_law_1733 ?_
  refine x_sld hx hb hX (ix_in (j := 3) hi hN (by decide)) dL_law_1734 ?_
  refine lv_aload_n hx hb dL_law_1735 rfl (lv_at hl 4 rfl) ?_
  by_cases hk : kX9_ofStep S (xs (nI i + 1).toNatClampNeg) (xs (nI i + 2).toNatClampNeg) (xs (nI i + 3).toNatClampNeg) = 0
  · obtain ⟨v1, v2, v3⟩ := (sim_ofStep hB hK2 h).1 hk
    refine x_help (S1 := S) (L1 := L) (As := [.ref (a 0), .int (xs (nI i + 1).toNatClampNeg), .int (xs (nI i + 2).toNatClampNeg), .int (xs (nI i + 3).toNatClampNeg), .ref o]) (rest := []) ⟨hx, hb, hml, hown, hts⟩ F (h0_L_ofStep l hfl G cA cJ a F.1 o F.2.2.1 S L fo H.size (xs (nI i + 1).toNatClampNeg) (xs (nI i + 2).toNatClampNeg) (xs (nI i + 3).toNatClampNeg) hk) (vx_cwSW 5 hts gL_law_L_ofStep rfl rfl rfl (by decide +kernel) ⟨Nat.le_of_ble_eq_true rfl, Nat.le_of_ble_eq_true rfl⟩) hK hP hS rfl hl.1 rfl (lv_room (Nat.le_of_ble_eq_true rfl)) dL_law_1736 (rm_ok (by omega) (by omega)) (fun r f9 H locs hr hP hS => ?_)
    obtain ⟨er, hf⟩ := hr
    subst er
    have hX := hXf _ _ _ _ _ _ _ hP hS v3.1.1.2.1
    refine lv_istore (lv' := (5, .int 0) :: lwL a bb o b i) hx hb dL_law_1739 hl (by decide) rfl (fun ls hl => ?_)
    refine lv_aload_n hx hb dL_law_1741 rfl (lv_at hl 4 rfl) ?_
    refine lv_aload_n hx hb dL_law_1742 rfl (lv_at hl 2 rfl) ?_
    refine lv_iload hx hb dL_law_1743 (lv_at hl 1 rfl) ?_
    refine lv_iconst (v := 1) hx hb dL_law_1745 (by decide) ?_
    refine lv_iadd hx hb dL_law_1746 ?_
    refine x_sld hx hb hX (ix_in (j := 1) hi hN (by decide)) dL_law_1747 ?_
    refine lv_aload_n hx hb dL_law_1748 rfl (lv_at hl 2 rfl) ?_
    refine lv_iload hx hb dL_law_1749 (lv_at hl 1 rfl) ?_
    refine lv_iconst (v := 2) hx hb dL_law_1751 (by decide) ?_
    refine lv_iadd hx hb dL_law_1752 ?_
    refine x_sld hx hb hX (ix_in (j := 2) hi hN (by decide)) dL_law_1753 ?_
    refine lv_aload_n hx hb dL_law_1754 rfl (lv_at hl 2 rfl) ?_
    refine lv_iload hx hb dL_law_1755 (lv_at hl 1 rfl) ?_
    refine lv_iconst (v := 3) hx hb dL_law_1757 (by decide) ?_
    refine lv_iadd hx hb dL_law_1758 ?_
    refine x_sld hx hb hX (ix_in (j := 3) hi hN (by decide)) dL_law_1759 ?_
    refine x_ref (T1 := (fX11_ofStep T (xs (nI i + 1).toNatClampNeg) (xs (nI i + 2).toNatClampNeg) (xs (nI i + 3).toNatClampNeg))) (L1' := L') (r := (rX11_ofStep T (xs (nI i + 1).toNatClampNeg) (xs (nI i + 2).toNatClampNeg) (xs (nI i + 3).toNatClampNeg))) (As := [.int (xs (nI i + 1).toNatClampNeg), .int (xs (nI i + 2).toNatClampNeg), .int (xs (nI i + 3).toNatClampNeg)]) (rest := []) ⟨hx, hb, hml, hown, hts⟩ F (c_X11_ofStep l G cA (a 37) bb F.2.1 T L' H.size (xs (nI i + 1).toNatClampNeg) (xs (nI i + 2).toNatClampNeg) (xs (nI i + 3).toNatClampNeg) ) (cwV 3 hts gL_law_X11_ofStep rfl rfl rfl (by decide +kernel) ⟨Nat.le_of_ble_eq_true rfl, Nat.le_of_ble_eq_true rfl⟩) hK hP hS rfl hl.1 rfl (lv_room (Nat.le_of_ble_eq_true rfl)) dL_law_1760 (rm_ok (by omega) (by omega)) (fun H locs hP hS => ?_)
    exact x_end (E := 1763) hx hb hml hown hts F hK hP hS hl (by omega) (by omega) dL_law_1763 dL_law_1765 dL_law_1766 dL_law_1769 dL_law_1771 dL_law_1776 dL_law_1778 dL_law_1781 dL_law_1782 dL_law_1783 dL_law_1784 dL_law_1786 dL_law_1787 dL_law_1788 dL_law_1793 (by decide) v2 (fun _ => by rw [hf, v1]) (fun H locs ls hP hS hl => kk _ _ _ _ _ H locs ls _ _ (by omega) (by omega) v3 hP hS hl)
  · obtain ⟨v2, v3⟩ := (sim_ofStep hB hK2 h).2 hk
    refine x_help (S1 := S) (L1 := L) (As := [.ref (a 0), .int (xs (nI i + 1).toNatClampNeg), .int (xs (nI i + 2).toNatClampNeg), .int (xs (nI i + 3).toNatClampNeg), .ref o]) (rest := []) ⟨hx, hb, hml, hown, hts⟩ F (h1_L_ofStep l hfl G cA cJ a F.1 o F.2.2.1 S L fo H.size (xs (nI i + 1).toNatClampNeg) (xs (nI i + 2).toNatClampNeg) (xs (nI i + 3).toNatClampNeg) hk) (vx_cwSW 5 hts gL_law_L_ofStep rfl rfl rfl (by decide +kernel) ⟨Nat.le_of_ble_eq_true rfl, Nat.le_of_ble_eq_true rfl⟩) hK hP hS rfl hl.1 rfl (lv_room (Nat.le_of_ble_eq_true rfl)) dL_law_1736 (rm_ok (by omega) (by omega)) (fun r f9 H locs hr hP hS => ?_)
    obtain ⟨er, hf⟩ := hr
    subst er
    have hX := hXf _ _ _ _ _ _ _ hP hS v3.1.1.2.1
    refine lv_istore (lv' := (5, .int (if kX9_ofStep S (xs (nI i + 1).toNatClampNeg) (xs (nI i + 2).toNatClampNeg) (xs (nI i + 3).toNatClampNeg) = 1 then (1 : Int32) else 2)) :: lwL a bb o b i) hx hb dL_law_1739 hl (by decide) rfl (fun ls hl => ?_)
    refine lv_aload_n hx hb dL_law_1741 rfl (lv_at hl 4 rfl) ?_
    refine lv_aload_n hx hb dL_law_1742 rfl (lv_at hl 2 rfl) ?_
    refine lv_iload hx hb dL_law_1743 (lv_at hl 1 rfl) ?_
    refine lv_iconst (v := 1) hx hb dL_law_1745 (by decide) ?_
    refine lv_iadd hx hb dL_law_1746 ?_
    refine x_sld hx hb hX (ix_in (j := 1) hi hN (by decide)) dL_law_1747 ?_
    refine lv_aload_n hx hb dL_law_1748 rfl (lv_at hl 2 rfl) ?_
    refine lv_iload hx hb dL_law_1749 (lv_at hl 1 rfl) ?_
    refine lv_iconst (v := 2) hx hb dL_law_1751 (by decide) ?_
    refine lv_iadd hx hb dL_law_1752 ?_
    refine x_sld hx hb hX (ix_in (j := 2) hi hN (by decide)) dL_law_1753 ?_
    refine lv_aload_n hx hb dL_law_1754 rfl (lv_at hl 2 rfl) ?_
    refine lv_iload hx hb dL_law_1755 (lv_at hl 1 rfl) ?_
    refine lv_iconst (v := 3) hx hb dL_law_1757 (by decide) ?_
    refine lv_iadd hx hb dL_law_1758 ?_
    refine x_sld hx hb hX (ix_in (j := 3) hi hN (by decide)) dL_law_1759 ?_
    refine x_ref (T1 := (fX11_ofStep T (xs (nI i + 1).toNatClampNeg) (xs (nI i + 2).toNatClampNeg) (xs (nI i + 3).toNatClampNeg))) (L1' := L') (r := (rX11_ofStep T (xs (nI i + 1).toNatClampNeg) (xs (nI i + 2).toNatClampNeg) (xs (nI i + 3).toNatClampNeg))) (As := [.int (xs (nI i + 1).toNatClampNeg), .int (xs (nI i + 2).toNatClampNeg), .int (xs (nI i + 3).toNatClampNeg)]) (rest := []) ⟨hx, hb, hml, hown, hts⟩ F (c_X11_ofStep l G cA (a 37) bb F.2.1 T L' H.size (xs (nI i + 1).toNatClampNeg) (xs (nI i + 2).toNatClampNeg) (xs (nI i + 3).toNatClampNeg) ) (cwV 3 hts gL_law_X11_ofStep rfl rfl rfl (by decide +kernel) ⟨Nat.le_of_ble_eq_true rfl, Nat.le_of_ble_eq_true rfl⟩) hK hP hS rfl hl.1 rfl (lv_room (Nat.le_of_ble_eq_true rfl)) dL_law_1760 (rm_ok (by omega) (by omega)) (fun H locs hP hS => ?_)
    exact x_end (E := 1763) hx hb hml hown hts F hK hP hS hl (by omega) (by omega) dL_law_1763 dL_law_1765 dL_law_1766 dL_law_1769 dL_law_1771 dL_law_1776 dL_law_1778 dL_law_1781 dL_law_1782 dL_law_1783 dL_law_1784 dL_law_1786 dL_law_1787 dL_law_1788 dL_law_1793 (by decide) v2 (fun h9 => absurd h9 (by split <;> decide)) (fun H locs ls hP hS hl => kk _ _ _ _ _ H locs ls _ _ (by omega) (by omega) v3 hP hS hl)
set_option maxHeartbeats 4000000 in
theorem case_inDelay (C : LCtx p l s m c G A0 cA cJ a bb o b N xs) (D : LSt G A0 s cA cJ a bb o b N i B K S T L L' fo H locs ls cells slots) (kk : LKK p l e s m below meth c Q G A0 cA cJ a bb o b i B K cells slots) : W p l e room_1 s m #[Value.ref b] below meth c H locs cells slots Q (F0 m 1796 ls []) := by
  obtain ⟨hfl, hx, hb, hml, hown, hts, F, hK, hXf⟩ := C
  obtain ⟨hi, hN, h, hB, hK2, hP, hS, hl, hc, hs⟩ := D
  have hX := hXf _ _ _ _ _ _ _ hP hS h.1.1.2.1
  refine lv_aload_n hx hb dL_law_1796 rfl (lv_at hl 2 rfl) ?_
  refine lv_aload_n hx hb dL_law_1797 rfl (lv_at hl 1 rfl) ?_
  refine lv_iload hx hb dL_law_1798 (lv_at hl 0 rfl) ?_
  refine lv_iconst (v := 1) hx hb dL_law_1800 (by decide) ?_
  refine lv_iadd hx hb dL_law_1801 ?_
  refine x_sld hx hb hX (ix_in (j := 1) hi hN (by decide)) dL_law_1802 ?_
  refine lv_aload_n hx hb dL_law_1803 rfl (lv_at hl 4 rfl) ?_
  by_cases hk : kX9_inDelay S (xs (nI i + 1).toNatClampNeg) = 0
  · obtain ⟨v1, v2, v3⟩ := (sim_inDelay hB hK2 h).1 hk
    refine x_help (S1 := S) (L1 := L) (As := [.ref (a 0), .int (xs (nI i + 1).toNatClampNeg), .ref o]) (rest := []) ⟨hx, hb, hml, hown, hts⟩ F (h0_L_inDelay l hfl G cA cJ a F.1 o F.2.2.1 S L fo H.size (xs (nI i + 1).toNatClampNeg) hk) (vx_cwSW 3 hts gL_law_L_inDelay rfl rfl rfl (by decide +kernel) ⟨Nat.le_of_ble_eq_true rfl, Nat.le_of_ble_eq_true rfl⟩) hK hP hS rfl hl.1 rfl (lv_room (Nat.le_of_ble_eq_true rfl)) dL_law_1804 (rm_ok (by omega) (by omega)) (fun r f9 H locs hr hP hS => ?_)
    obtain ⟨er, hf⟩ := hr
    subst er
    have hX := hXf _ _ _ _ _ _ _ hP hS v3.1.1.2.1
    refine lv_istore (lv' := (5, .int 0) :: lwL a bb o b i) hx hb dL_law_1807 hl (by decide) rfl (fun ls hl => ?_)
    refine lv_aload_n hx hb dL_law_1809 rfl (lv_at hl 4 rfl) ?_
    refine lv_aload_n hx hb dL_law_1810 rfl (lv_at hl 2 rfl) ?_
    refine lv_iload hx hb dL_law_1811 (lv_at hl 1 rfl) ?_
    refine lv_iconst (v := 1) hx hb dL_law_1813 (by decide) ?_
    refine lv_iadd hx hb dL_law_1814 ?_
    refine x_sld hx hb hX (ix_in (j := 1) hi hN (by decide)) dL_law_1815 ?_
    refine x_ref (T1 := (fX11_inDelay T (xs (nI i + 1).toNatClampNeg))) (L1' := L') (r := (rX11_inDelay T (xs (nI i + 1).toNatClampNeg))) (As := [.int (xs (nI i + 1).toNatClampNeg)]) (rest := []) ⟨hx, hb, hml, hown, hts⟩ F (c1_X11_inDelay l G cA (a 37) bb F.2.1 T L' H.size (xs (nI i + 1).toNatClampNeg) h.2.2.2.2.2.1) (cwV 1 hts gL_law_X11_inDelay rfl rfl rfl (by decide +kernel) ⟨Nat.le_of_ble_eq_true rfl, Nat.le_of_ble_eq_true rfl⟩) hK hP hS rfl hl.1 rfl (lv_room (Nat.le_of_ble_eq_true rfl)) dL_law_1816 (rm_ok (by omega) (by omega)) (fun H locs hP hS => ?_)
    exact x_end (E := 1819) hx hb hml hown hts F hK hP hS hl (by omega) (by omega) dL_law_1819 dL_law_1821 dL_law_1822 dL_law_1825 dL_law_1827 dL_law_1832 dL_law_1834 dL_law_1837 dL_law_1838 dL_law_1839 dL_law_1840 dL_law_1842 dL_law_1843 dL_law_1844 dL_law_1849 (by decide) v2 (fun _ => by rw [hf, v1]) (fun H locs ls hP hS hl => kk _ _ _ _ _ H locs ls _ _ (by omega) (by omega) v3 hP hS hl)
  · obtain ⟨v2, v3⟩ := (sim_inDelay hB hK2 h).2 hk
    refine x_help (S1 := S) (L1 := L) (As := [.ref (a 0), .int (xs (nI i + 1).toNatClampNeg), .ref o]) (rest := []) ⟨hx, hb, hml, hown, hts⟩ F (h1_L_inDelay l hfl G cA cJ a F.1 o F.2.2.1 S L fo H.size (xs (nI i + 1).toNatClampNeg) hk) (vx_cwSW 3 hts gL_law_L_inDelay rfl rfl rfl (by decide +kernel) ⟨Nat.le_of_ble_eq_true rfl, Nat.le_of_ble_eq_true rfl⟩) hK hP hS rfl hl.1 rfl (lv_room (Nat.le_of_ble_eq_true rfl)) dL_law_1804 (rm_ok (by omega) (by omega)) (fun r f9 H locs hr hP hS => ?_)
    obtain ⟨er, hf⟩ := hr
    subst er
    have hX := hXf _ _ _ _ _ _ _ hP hS v3.1.1.2.1
    refine lv_istore (lv' := (5, .int 1) :: lwL a bb o b i) hx hb dL_law_1807 hl (by decide) rfl (fun ls hl => ?_)
    refine lv_aload_n hx hb dL_law_1809 rfl (lv_at hl 4 rfl) ?_
    refine lv_aload_n hx hb dL_law_1810 rfl (lv_at hl 2 rfl) ?_
    refine lv_iload hx hb dL_law_1811 (lv_at hl 1 rfl) ?_
    refine lv_iconst (v := 1) hx hb dL_law_1813 (by decide) ?_
    refine lv_iadd hx hb dL_law_1814 ?_
    refine x_sld hx hb hX (ix_in (j := 1) hi hN (by decide)) dL_law_1815 ?_
    refine x_ref (T1 := (fX11_inDelay T (xs (nI i + 1).toNatClampNeg))) (L1' := L') (r := (rX11_inDelay T (xs (nI i + 1).toNatClampNeg))) (As := [.int (xs (nI i + 1).toNatClampNeg)]) (rest := []) ⟨hx, hb, hml, hown, hts⟩ F (c1_X11_inDelay l G cA (a 37) bb F.2.1 T L' H.size (xs (nI i + 1).toNatClampNeg) h.2.2.2.2.2.1) (cwV 1 hts gL_law_X11_inDelay rfl rfl rfl (by decide +kernel) ⟨Nat.le_of_ble_eq_true rfl, Nat.le_of_ble_eq_true rfl⟩) hK hP hS rfl hl.1 rfl (lv_room (Nat.le_of_ble_eq_true rfl)) dL_law_1816 (rm_ok (by omega) (by omega)) (fun H locs hP hS => ?_)
    exact x_end (E := 1819) hx hb hml hown hts F hK hP hS hl (by omega) (by omega) dL_law_1819 dL_law_1821 dL_law_1822 dL_law_1825 dL_law_1827 dL_law_1832 dL_law_1834 dL_law_1837 dL_law_1838 dL_law_1839 dL_law_1840 dL_law_1842 dL_law_1843 dL_law_1844 dL_law_1849 (by decide) v2 (fun h9 => absurd h9 (by decide)) (fun H locs ls hP hS hl => kk _ _ _ _ _ H locs ls _ _ (by omega) (by omega) v3 hP hS hl)
set_option maxHeartbeats 4000000 in
theorem case_wouldPeak (C : LCtx p l s m c G A0 cA cJ a bb o b N xs) (D : LSt G A0 s cA cJ a bb o b N i B K S T L L' fo H locs ls cells slots) (kk : LKK p l e s m below meth c Q G A0 cA cJ a bb o b i B K cells slots) : W p l e room_1 s m #[Value.ref b] below meth c H locs cells slots Q (F0 m 1852 ls []) := by
  obtain ⟨hfl, hx, hb, hml, hown, hts, F, hK, hXf⟩ := C
  obtain ⟨hi, hN, h, hB, hK2, hP, hS, hl, hc, hs⟩ := D
  have hX := hXf _ _ _ _ _ _ _ hP hS h.1.1.2.1
  refine lv_aload_n hx hb dL_law_1852 rfl (lv_at hl 2 rfl) ?_
  refine lv_aload_n hx hb dL_law_1853 rfl (lv_at hl 1 rfl) ?_
  refine lv_iload hx hb dL_law_1854 (lv_at hl 0 rfl) ?_
  refine lv_iconst (v := 1) hx hb dL_law_1856 (by decide) ?_
  refine lv_iadd hx hb dL_law_1857 ?_
  refine x_sld hx hb hX (ix_in (j := 1) hi hN (by decide)) dL_law_1858 ?_
  refine lv_aload_n hx hb dL_law_1859 rfl (lv_at hl 4 rfl) ?_
  by_cases hk : kX9_wouldPeak S (xs (nI i + 1).toNatClampNeg) = 0
  · obtain ⟨v1, v2, v3⟩ := (sim_wouldPeak hB hK2 h).1 hk
    refine x_help (S1 := (fX9_wouldPeak S (xs (nI i + 1).toNatClampNeg))) (L1 := L) (As := [.ref (a 0), .int (xs (nI i + 1).toNatClampNeg), .ref o]) (rest := []) ⟨hx, hb, hml, hown, hts⟩ F (h0_L_wouldPeak l hfl G cA cJ a F.1 o F.2.2.1 S L fo H.size (xs (nI i + 1).toNatClampNeg) hk (play_b h).1) (vx_cwSW 3 hts gL_law_L_wouldPeak rfl rfl rfl (by decide +kernel) ⟨Nat.le_of_ble_eq_true rfl, Nat.le_of_ble_eq_true rfl⟩) hK hP hS rfl hl.1 rfl (lv_room (Nat.le_of_ble_eq_true rfl)) dL_law_1860 (rm_ok (by omega) (by omega)) (fun r f9 H locs hr hP hS => ?_)
    obtain ⟨er, hf⟩ := hr
    subst er
    have hX := hXf _ _ _ _ _ _ _ hP hS v3.1.1.2.1
    refine lv_istore (lv' := (5, .int 0) :: lwL a bb o b i) hx hb dL_law_1863 hl (by decide) rfl (fun ls hl => ?_)
    refine lv_aload_n hx hb dL_law_1865 rfl (lv_at hl 4 rfl) ?_
    refine lv_aload_n hx hb dL_law_1866 rfl (lv_at hl 2 rfl) ?_
    refine lv_iload hx hb dL_law_1867 (lv_at hl 1 rfl) ?_
    refine lv_iconst (v := 1) hx hb dL_law_1869 (by decide) ?_
    refine lv_iadd hx hb dL_law_1870 ?_
    refine x_sld hx hb hX (ix_in (j := 1) hi hN (by decide)) dL_law_1871 ?_
    refine x_ref (T1 := (fX11_wouldPeak T (xs (nI i + 1).toNatClampNeg))) (L1' := L') (r := (rX11_wouldPeak T (xs (nI i + 1).toNatClampNeg))) (As := [.int (xs (nI i + 1).toNatClampNeg)]) (rest := []) ⟨hx, hb, hml, hown, hts⟩ F (c_X11_wouldPeak l G cA (a 37) bb F.2.1 T L' H.size (xs (nI i + 1).toNatClampNeg) K h.2.2 (by omega) (play_b h).2) (cwV 1 hts gL_law_X11_wouldPeak rfl rfl rfl (by decide +kernel) ⟨Nat.le_of_ble_eq_true rfl, Nat.le_of_ble_eq_true rfl⟩) hK hP hS rfl hl.1 rfl (lv_room (Nat.le_of_ble_eq_true rfl)) dL_law_1872 (rm_ok (by omega) (by omega)) (fun H locs hP hS => ?_)
    exact x_end (E := 1875) hx hb hml hown hts F hK hP hS hl (by omega) (by omega) dL_law_1875 dL_law_1877 dL_law_1878 dL_law_1881 dL_law_1883 dL_law_1888 dL_law_1890 dL_law_1893 dL_law_1894 dL_law_1895 dL_law_1896 dL_law_1898 dL_law_1899 dL_law_1900 dL_law_1905 (by decide) v2 (fun _ => by rw [hf, v1]) (fun H locs ls hP hS hl => kk _ _ _ _ _ H locs ls _ _ (by omega) (by omega) v3 hP hS hl)
  · obtain ⟨v2, v3⟩ := (sim_wouldPeak hB hK2 h).2 hk
    refine x_help (S1 := S) (L1 := L) (As := [.ref (a 0), .int (xs (nI i + 1).toNatClampNeg), .ref o]) (rest := []) ⟨hx, hb, hml, hown, hts⟩ F (h1_L_wouldPeak l hfl G cA cJ a F.1 o F.2.2.1 S L fo H.size (xs (nI i + 1).toNatClampNeg) hk) (vx_cwSW 3 hts gL_law_L_wouldPeak rfl rfl rfl (by decide +kernel) ⟨Nat.le_of_ble_eq_true rfl, Nat.le_of_ble_eq_true rfl⟩) hK hP hS rfl hl.1 rfl (lv_room (Nat.le_of_ble_eq_true rfl)) dL_law_1860 (rm_ok (by omega) (by omega)) (fun r f9 H locs hr hP hS => ?_)
    obtain ⟨er, hf⟩ := hr
    subst er
    have hX := hXf _ _ _ _ _ _ _ hP hS v3.1.1.2.1
    refine lv_istore (lv' := (5, .int 1) :: lwL a bb o b i) hx hb dL_law_1863 hl (by decide) rfl (fun ls hl => ?_)
    refine lv_aload_n hx hb dL_law_1865 rfl (lv_at hl 4 rfl) ?_
    refine lv_aload_n hx hb dL_law_1866 rfl (lv_at hl 2 rfl) ?_
    refine lv_iload hx hb dL_law_1867 (lv_at hl 1 rfl) ?_
    refine lv_iconst (v := 1) hx hb dL_law_1869 (by decide) ?_
    refine lv_iadd hx hb dL_law_1870 ?_
    refine x_sld hx hb hX (ix_in (j := 1) hi hN (by decide)) dL_law_1871 ?_
    refine x_ref (T1 := (fX11_wouldPeak T (xs (nI i + 1).toNatClampNeg))) (L1' := L') (r := (rX11_wouldPeak T (xs (nI i + 1).toNatClampNeg))) (As := [.int (xs (nI i + 1).toNatClampNeg)]) (rest := []) ⟨hx, hb, hml, hown, hts⟩ F (c_X11_wouldPeak l G cA (a 37) bb F.2.1 T L' H.size (xs (nI i + 1).toNatClampNeg) K h.2.2 (by omega) (play_b h).2) (cwV 1 hts gL_law_X11_wouldPeak rfl rfl rfl (by decide +kernel) ⟨Nat.le_of_ble_eq_true rfl, Nat.le_of_ble_eq_true rfl⟩) hK hP hS rfl hl.1 rfl (lv_room (Nat.le_of_ble_eq_true rfl)) dL_law_1872 (rm_ok (by omega) (by omega)) (fun H locs hP hS => ?_)
    exact x_end (E := 1875) hx hb hml hown hts F hK hP hS hl (by omega) (by omega) dL_law_1875 dL_law_1877 dL_law_1878 dL_law_1881 dL_law_1883 dL_law_1888 dL_law_1890 dL_law_1893 dL_law_1894 dL_law_1895 dL_law_1896 dL_law_1898 dL_law_1899 dL_law_1900 dL_law_1905 (by decide) v2 (fun h9 => absurd h9 (by decide)) (fun H locs ls hP hS hl => kk _ _ _ _ _ H locs ls _ _ (by omega) (by omega) v3 hP hS hl)
set_option maxHeartbeats 4000000 in
theorem case_silentIn (C : LCtx p l s m c G A0 cA cJ a bb o b N xs) (D : LSt G A0 s cA cJ a bb o b N i B K S T L L' fo H locs ls cells slots) (kk : LKK p l e s m below meth c Q G A0 cA cJ a bb o b i B K cells slots) : W p l e room_1 s m #[Value.ref b] below meth c H locs cells slots Q (F0 m 1908 ls []) := by
  obtain ⟨hfl, hx, hb, hml, hown, hts, F, hK, hXf⟩ := C
  obtain ⟨hi, hN, h, hB, hK2, hP, hS, hl, hc, hs⟩ := D
  have hX := hXf _ _ _ _ _ _ _ hP hS h.1.1.2.1
  refine lv_aload_n hx hb dL_law_1908 rfl (lv_at hl 2 rfl) ?_
  refine lv_aload_n hx hb dL_law_1909 rfl (lv_at hl 1 rfl) ?_
  refine lv_iload hx hb dL_law_1910 (lv_at hl 0 rfl) ?_
  refine lv_iconst (v := 1) hx hb dL_law_1912 (by decide) ?_
  refine lv_iadd hx hb dL_law_1913 ?_
  refine x_sld hx hb hX (ix_in (j := 1) hi hN (by decide)) dL_law_1914 ?_
  refine lv_aload_n hx hb dL_law_1915 rfl (lv_at hl 4 rfl) ?_
  by_cases hk : kX9_silentIn S (xs (nI i + 1).toNatClampNeg) = 0
  · obtain ⟨v1, v2, v3⟩ := (sim_silentIn hB hK2 h).1 hk
    refine x_help (S1 := (fX9_silentIn S (xs (nI i + 1).toNatClampNeg))) (L1 := L) (As := [.ref (a 0), .int (xs (nI i + 1).toNatClampNeg), .ref o]) (rest := []) ⟨hx, hb, hml, hown, hts⟩ F (h0_L_silentIn l hfl G cA cJ a F.1 o F.2.2.1 S L fo H.size (xs (nI i + 1).toNatClampNeg) hk (play_b h).1) (vx_cwSW 3 hts gL_law_L_silentIn rfl rfl rfl (by decide +kernel) ⟨Nat.le_of_ble_eq_true rfl, Nat.le_of_ble_eq_true rfl⟩) hK hP hS rfl hl.1 rfl (lv_room (Nat.le_of_ble_eq_true rfl)) dL_law_1916 (rm_ok (by omega) (by omega)) (fun r f9 H locs hr hP hS => ?_)
    obtain ⟨er, hf⟩ := hr
    subst er
    have hX := hXf _ _ _ _ _ _ _ hP hS v3.1.1.2.1
    refine lv_istore (lv' := (5, .int 0) :: lwL a bb o b i) hx hb dL_law_1919 hl (by decide) rfl (fun ls hl => ?_)
    refine lv_aload_n hx hb dL_law_1921 rfl (lv_at hl 4 rfl) ?_
    refine lv_aload_n hx hb dL_law_1922 rfl (lv_at hl 2 rfl) ?_
    refine lv_iload hx hb dL_law_1923 (lv_at hl 1 rfl) ?_
    refine lv_iconst (v := 1) hx hb dL_law_1925 (by decide) ?_
    refine lv_iadd hx hb dL_law_1926 ?_
    refine x_sld hx hb hX (ix_in (j := 1) hi hN (by decide)) dL_law_1927 ?_
    refine x_ref (T1 := (fX11_silentIn T (xs (nI i + 1).toNatClampNeg))) (L1' := L') (r := (rX11_silentIn T (xs (nI i + 1).toNatClampNeg))) (As := [.int (xs (nI i + 1).toNatClampNeg)]) (rest := []) ⟨hx, hb, hml, hown, hts⟩ F (c_X11_silentIn l G cA (a 37) bb F.2.1 T L' H.size (xs (nI i + 1).toNatClampNeg) K h.2.2 (by omega) (play_b h).2) (cwV 1 hts gL_law_X11_silentIn rfl rfl rfl (by decide +kernel) ⟨Nat.le_of_ble_eq_true rfl, Nat.le_of_ble_eq_true rfl⟩) hK hP hS rfl hl.1 rfl (lv_room (Nat.le_of_ble_eq_true rfl)) dL_law_1928 (rm_ok (by omega) (by omega)) (fun H locs hP hS => ?_)
    exact x_end (E := 1931) hx hb hml hown hts F hK hP hS hl (by omega) (by omega) dL_law_1931 dL_law_1933 dL_law_1934 dL_law_1937 dL_law_1939 dL_law_1944 dL_law_1946 dL_law_1949 dL_law_1950 dL_law_1951 dL_law_1952 dL_law_1954 dL_law_1955 dL_law_1956 dL_law_1961 (by decide) v2 (fun _ => by rw [hf, v1]) (fun H locs ls hP hS hl => kk _ _ _ _ _ H locs ls _ _ (by omega) (by omega) v3 hP hS hl)
  · obtain ⟨v2, v3⟩ := (sim_silentIn hB hK2 h).2 hk
    refine x_help (S1 := S) (L1 := L) (As := [.ref (a 0), .int (xs (nI i + 1).toNatClampNeg), .ref o]) (rest := []) ⟨hx, hb, hml, hown, hts⟩ F (h1_L_silentIn l hfl G cA cJ a F.1 o F.2.2.1 S L fo H.size (xs (nI i + 1).toNatClampNeg) hk) (vx_cwSW 3 hts gL_law_L_silentIn rfl rfl rfl (by decide +kernel) ⟨Nat.le_of_ble_eq_true rfl, Nat.le_of_ble_eq_true rfl⟩) hK hP hS rfl hl.1 rfl (lv_room (Nat.le_of_ble_eq_true rfl)) dL_law_1916 (rm_ok (by omega) (by omega)) (fun r f9 H locs hr hP hS => ?_)
    obtain ⟨er, hf⟩ := hr
    subst er
    have hX := hXf _ _ _ _ _ _ _ hP hS v3.1.1.2.1
    refine lv_istore (lv' := (5, .int 1) :: lwL a bb o b i) hx hb dL_law_1919 hl (by decide) rfl (fun ls hl => ?_)
    refine lv_aload_n hx hb dL_law_1921 rfl (lv_at hl 4 rfl) ?_
    refine lv_aload_n hx hb dL_law_1922 rfl (lv_at hl 2 rfl) ?_
    refine lv_iload hx hb dL_law_1923 (lv_at hl 1 rfl) ?_
    refine lv_iconst (v := 1) hx hb dL_law_1925 (by decide) ?_
    refine lv_iadd hx hb dL_law_1926 ?_
    refine x_sld hx hb hX (ix_in (j := 1) hi hN (by decide)) dL_law_1927 ?_
    refine x_ref (T1 := (fX11_silentIn T (xs (nI i + 1).toNatClampNeg))) (L1' := L') (r := (rX11_silentIn T (xs (nI i + 1).toNatClampNeg))) (As := [.int (xs (nI i + 1).toNatClampNeg)]) (rest := []) ⟨hx, hb, hml, hown, hts⟩ F (c_X11_silentIn l G cA (a 37) bb F.2.1 T L' H.size (xs (nI i + 1).toNatClampNeg) K h.2.2 (by omega) (play_b h).2) (cwV 1 hts gL_law_X11_silentIn rfl rfl rfl (by decide +kernel) ⟨Nat.le_of_ble_eq_true rfl, Nat.le_of_ble_eq_true rfl⟩) hK hP hS rfl hl.1 rfl (lv_room (Nat.le_of_ble_eq_true rfl)) dL_law_1928 (rm_ok (by omega) (by omega)) (fun H locs hP hS => ?_)
    exact x_end (E := 1931) hx hb hml hown hts F hK hP hS hl (by omega) (by omega) dL_law_1931 dL_law_1933 dL_law_1934 dL_law_1937 dL_law_1939 dL_law_1944 dL_law_1946 dL_law_1949 dL_law_1950 dL_law_1951 dL_law_1952 dL_law_1954 dL_law_1955 dL_law_1956 dL_law_1961 (by decide) v2 (fun h9 => absurd h9 (by decide)) (fun H locs ls hP hS hl => kk _ _ _ _ _ H locs ls _ _ (by omega) (by omega) v3 hP hS hl)
set_option maxHeartbeats 4000000 in
theorem case_nextVoice (C : LCtx p l s m c G A0 cA cJ a bb o b N xs) (D : LSt G A0 s cA cJ a bb o b N i B K S T L L' fo H locs ls cells slots) (kk : LKK p l e s m below meth c Q G A0 cA cJ a bb o b i B K cells slots) : W p l e room_1 s m #[Value.ref b] below meth c H locs cells slots Q (F0 m 1964 ls []) := by
  obtain ⟨hfl, hx, hb, hml, hown, hts, F, hK, hXf⟩ := C
  obtain ⟨hi, hN, h, hB, hK2, hP, hS, hl, hc, hs⟩ := D
  obtain ⟨v1, v3⟩ := sim_nextVoice hB hK2 h
  refine lv_aload_n hx hb dL_law_1964 rfl (lv_at hl 2 rfl) ?_
  refine x_cls (S1 := S) (L1 := L) (r := (rX9_nextVoice S)) (As := []) (rest := []) ⟨hx, hb, hml, hown, hts⟩ F (c_X9_nextVoice l G cA a F.1 S L H.size ) (cwV 0 hts gL_law_X9_nextVoice rfl rfl rfl (by decide +kernel) ⟨Nat.le_of_ble_eq_true rfl, Nat.le_of_ble_eq_true rfl⟩) hK hP hS rfl hl.1 rfl (lv_room (Nat.le_of_ble_eq_true rfl)) dL_law_1965 (rm_ok (by omega) (by omega)) (fun H locs hP hS => ?_)
  refine lv_aload_n hx hb dL_law_1968 rfl (lv_at hl 3 rfl) ?_
  refine x_ref (T1 := (fX11_nextVoice T)) (L1' := L') (r := (rX11_nextVoice T)) (As := []) (rest := [.int (rX9_nextVoice S)]) ⟨hx, hb, hml, hown, hts⟩ F (c_X11_nextVoice l G cA (a 37) bb F.2.1 T L' H.size  ) (cwV 0 hts gL_law_X11_nextVoice rfl rfl rfl (by decide +kernel) ⟨Nat.le_of_ble_eq_true rfl, Nat.le_of_ble_eq_true rfl⟩) hK hP hS rfl hl.1 rfl (lv_room (Nat.le_of_ble_eq_true rfl)) dL_law_1969 (rm_ok (by omega) (by omega)) (fun H locs hP hS => ?_)
  exact lv_icmp_eq (tgt := 1991) hx hb dL_law_1972 (by decide) (fun _ => kk _ _ _ _ _ H locs ls _ _ (by omega) (by omega) v3 hP hS hl) (fun c1 => absurd v1 c1)
set_option maxHeartbeats 4000000 in
theorem case_digest (C : LCtx p l s m c G A0 cA cJ a bb o b N xs) (D : LSt G A0 s cA cJ a bb o b N i B K S T L L' fo H locs ls cells slots) (kk : LKK p l e s m below meth c Q G A0 cA cJ a bb o b i B K cells slots) : W p l e room_1 s m #[Value.ref b] below meth c H locs cells slots Q (F0 m 1977 ls []) := by
  obtain ⟨hfl, hx, hb, hml, hown, hts, F, hK, hXf⟩ := C
  obtain ⟨hi, hN, h, hB, hK2, hP, hS, hl, hc, hs⟩ := D
  obtain ⟨v1, v3⟩ := sim_digest hB hK2 h
  refine lv_aload_n hx hb dL_law_1977 rfl (lv_at hl 2 rfl) ?_
  refine x_clsl (S1 := S) (L1 := L) (r := (rX9_digest S)) (As := []) (rest := []) ⟨hx, hb, hml, hown, hts⟩ F (c_X9_digest l G cA a F.1 S L H.size (nar_b (play_b h).1)) (cwV 0 hts gL_law_X9_digest rfl rfl rfl (by decide +kernel) ⟨Nat.le_of_ble_eq_true rfl, Nat.le_of_ble_eq_true rfl⟩) hK hP hS rfl hl.1 rfl (lv_room (Nat.le_of_ble_eq_true rfl)) dL_law_1978 (rm_ok (by omega) (by omega)) (fun H locs hP hS => ?_)
  refine lv_aload_n hx hb dL_law_1981 rfl (lv_at hl 3 rfl) ?_
  refine x_refl (T1 := (fX11_digest T)) (L1' := L') (r := (rX11_digest T)) (As := []) (rest := [.long (rX9_digest S)]) ⟨hx, hb, hml, hown, hts⟩ F (c_X11_digest l G cA (a 37) bb F.2.1 T L' H.size  (by rw [up2_n (by decide)]; exact h.2.2.2.2.2.1)) (cwV 0 hts gL_law_X11_digest rfl rfl rfl (by decide +kernel) ⟨Nat.le_of_ble_eq_true rfl, Nat.le_of_ble_eq_true rfl⟩) hK hP hS rfl hl.1 rfl (lv_room (Nat.le_of_ble_eq_true rfl)) dL_law_1982 (rm_ok (by omega) (by omega)) (fun H locs hP hS => ?_)
  refine W.lcmp hx hb dL_law_1985 ?_
  rw [v1, cmp_same]
  exact lv_if_eq (tgt := 1991) hx hb dL_law_1986 (by decide) (fun _ => kk _ _ _ _ _ H locs ls _ _ (by omega) (by omega) v3 hP hS hl) (fun c1 => absurd rfl c1)
end
