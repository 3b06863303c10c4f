/-! the law's object sets the delay -/
def ρU (ρ : Nat → Nat) (q : Nat) : Nat → Nat := fun k => if k = 11 then q else ρ k
section WD
variable {G : va_G} {H : Heap} {A : Nat → Prop} {a : Nat → Nat} {cA c2 c3 : ClassId} {β ρ : Nat → Nat} {b : Nat} {wr : Nat → Nat → Option Nat} {S : Mm} {L : Int64} {B : Mm} {X : va_W}
theorem wB_ρ {q : Nat} : (wB a cA c2 c3 β ρ b wr S L B X).set 37 (β 0, .inr (10, (bcl a β ρ b (B 0)).set 11 (.ref q))) = wB a cA c2 c3 β (ρU ρ q) b wr S L B X := by
  show (wG 37 a (cM a cA) S L ++ _).set (37 + 0) _ = _
  rw [List.set_append_right _ _ (by rw [wG_len]; omega), wG_len, Nat.add_sub_cancel_left, List.set_append_left _ _ (by rw [wG_len]; omega)]
  rw [wG_F (e := .inr (10, (bcl a β ρ b (B 0)).set 11 (.ref q))) (f' := cB a cA c2 c3 β (ρU ρ q) b wr) (by decide) rfl (fun o ho hne => ?_)]
  rcases (show o = 1 ∨ o = 2 ∨ o = 3 ∨ o = 4 ∨ o = 5 ∨ o = 6 ∨ o = 7 ∨ o = 8 ∨ o = 9 ∨ o = 10 by omega) with rfl | rfl | rfl | rfl | rfl | rfl | rfl | rfl | rfl | rfl <;> rfl
theorem P_dropX (h : va_P G vwCl (wB a cA c2 c3 β ρ b wr S L B X) H) : va_P G vwCl (wB a cA c2 c3 β ρ b wr S L B []) H := (P_fst h).app ((P_fst (P_snd h)).app P_nil)
theorem D_dropX (h : va_D A (wB a cA c2 c3 β ρ b wr S L B X)) : va_D A (wB a cA c2 c3 β ρ b wr S L B []) := by
  have e : wB a cA c2 c3 β ρ b wr S L B X = (wG 37 a (cM a cA) S L ++ wG 11 β (cB a cA c2 c3 β ρ b wr) B 0) ++ X := (List.append_assoc _ _ _).symm
  have e2 : wB a cA c2 c3 β ρ b wr S L B [] = (wG 37 a (cM a cA) S L ++ wG 11 β (cB a cA c2 c3 β ρ b wr) B 0) := by
    show _ ++ (_ ++ []) = _
    rw [List.append_nil]
  rw [e] at h
  rw [e2]
  exact D_fst h
end WD
def sdP (S : Mm) (K : Int) (_ : Int32) (u : Mm × Mm × (Nat → Nat)) : Prop := (∃ p q r, u.1 = fX9_setDelay S p q r) ∧ RB u.1 u.2.1 ∧ rg (u.2.1 0 2) 0 (K + 10)
theorem iX10_setDelay_X10 : ∀ w ∈ u_ws RX10 TX10 22, w ∈ wsX10_setDelay := by decide +kernel
set_option maxHeartbeats 16000000 in
set_option maxRecDepth 100000 in
theorem c_X10_setDelay (l : Launch) (G : va_G) (cA c2 c3 : ClassId) (b N : Nat) (xs : Nat → Int32) (sz : Nat) (a β ρ : Nat → Nat) (wr : Nat → Nat → Option Nat) (S : Mm) (L : Int64) (B : Mm) (nd : Nat) (f0 : Nat → Int32) (hN : N ≤ 260) {K : Int} (hKK : K ≤ 1000000) (hd : rg (B 0 2) 0 K) (hRB : RB S B) (hW : va_D (fun _ => True) (wB a cA c2 c3 β ρ b wr S L B [(ρ 11, .inl (cA, nd, .inl f0))])) : Met l yX10_setDelay wsX10_setDelay ({ frames := 3, cells := 1, slots := 11, locals := 69 } : Room) (va_Pc [.ref (β 0)] (bI G cA c2 c3 (a 37) b N xs (wB a cA c2 c3 β ρ b wr S L B [(ρ 11, .inl (cA, nd, .inl f0))]) sz)) (bQi (sdP S K) (fun u => wB a cA c2 c3 β u.2.2 b wr u.1 L u.2.1 []) G (wB a cA c2 c3 β ρ b wr S L B [(ρ 11, .inl (cA, nd, .inl f0))]) sz) 1 11 (va_A (wB a cA c2 c3 β ρ b wr S L B [(ρ 11, .inl (cA, nd, .inl f0))]) sz) := by
  refine b_met (cc := cX10_setDelay) (maxL := 2) (ret := some .boolean) (by decide) rfl (Nat.le_of_ble_eq_true rfl) hW ?_
  intro p e s m below meth c ls hx hb hr hlocks hml hts hown hnm hsz hK hP hD hA hS hl
  subst hsz
  have hl : lv_has ls 2 [(0, .ref (β 0))] := hl
  refine lv_aload_n hx hb dX10_setDelay_0 rfl (lv_at hl 0 rfl) ?_
  refine va_get (D := G) (ci := 10) (v := .ref (ρ 11)) (C := RX10) (T := TX10) (N := 22) hx hb hts iX10_setDelay_X10 hown hK.1.1 hP 37 (wB_get (o := 0) (by decide)) rfl 11 (by decide) (hts (.fieldLink RX10 32 "MelodeonLaw$Bench" "delay" "[I") (by decide +kernel)) (fun _ h9 => h9) rfl dX10_setDelay_1 ?_
  refine va_alen hx hb hK.2.1 hP 48 0 (wB_X (n := 0) rfl) rfl (v := Int32.ofNat nd) rfl dX10_setDelay_4 ?_
  refine lv_istore_n (lv' := [(1, .int (Int32.ofNat nd)), (0, .ref (β 0))]) hx hb dX10_setDelay_5 rfl hl (by decide) rfl (fun ls hl => ?_)
  refine lv_aload_n hx hb dX10_setDelay_6 rfl (lv_at hl 1 rfl) ?_
  refine lv_aload_n hx hb dX10_setDelay_7 rfl (lv_at hl 1 rfl) ?_
  refine lv_bipush (v := 12) hx hb dX10_setDelay_8 (by decide) ?_
  refine v_cVi (k0 := 37) (q0 := β 0) (e0 := .inr (10, bcl a β ρ b (B 0))) (e1 := .inr (10, bcl a β ρ b (upd (B 0) 2 (B 0 2 + 1)))) (As := [.int 12]) (rest := [.ref (β 0)]) ⟨hx, hb, hml, hown, hts⟩ (c_X10_draw l G cA c2 c3 (a 37) b N xs s.heap.size a β ρ (β 0) (B 0) 12 (by decide) (by decide) hN hd) (cwV 1 hts gX10_setDelay_X10_draw rfl rfl rfl (by decide +kernel) ⟨Nat.le_of_ble_eq_true rfl, Nat.le_of_ble_eq_true rfl⟩) (wB_recv hK.1.1 hP) hK hA hP hD (wB_get (o := 0) (by decide)) hS rfl hl.1 rfl (lv_room (Nat.le_of_ble_eq_true rfl)) dX10_setDelay_10 ⟨Nat.le_of_ble_eq_true rfl, Nat.le_of_ble_eq_true rfl⟩ (fun w1 H locs hw1 hP hD hS => ?_)
  rw [wB_d] at hP hD
  obtain ⟨B1, hB1⟩ : ∃ Z9 : Mm, Z9 = up2 B 0 2 (B 0 2 + 1) := ⟨_, rfl⟩
  rw [← hB1] at hP hD
  have hd1 := dr_rg hd (by omega) (B' := B1) hB1
  obtain ⟨n1, hn1, en1⟩ := vp_nI hw1 (by decide)
  rw [en1]
  refine va_newa (atype := .int) (ty := .int) (N' := n1) (a0 := (n1, .inl (fun _ => 0))) hx hb (hts (.arrayClass .int) (by decide +kernel)) rfl hK.1.1 hP hD hS hA (fun _ => rfl) (nI_pos (by omega)) (nI_clamp (by omega)) (by show n1 * 4 ≤ 536870912; omega) (Nat.le_of_ble_eq_true rfl) (by show 0 + 0 + n1 ≤ 11; omega) dX10_setDelay_13 (fun q9 cQ H hKx hP hD hS => ?_)
  refine W.widen (k := 1) (n := 11) (by decide) (by show 0 + 0 + n1 ≤ 11; omega) ?_
  have eQ := cQ_eq2 hKx
  rw [eQ] at hP hD
  rw [wB_app] at hP hD
  refine va_put (D := G) (ci := 10) (v := .ref q9) (ty := .array .int) (C := RX10) (T := TX10) (N := 22) hx hb hts iX10_setDelay_X10 tyX10 tyX10_ok nmX10 hown hK.1.1 hP hD hS 37 (wB_get (o := 0) (by decide)) rfl 11 (by decide) (hts (.fieldLink RX10 32 "MelodeonLaw$Bench" "delay" "[I") (by decide +kernel)) (fun _ h9 => h9) rfl (by decide +kernel) rfl rfl (Nat.le_of_ble_eq_true rfl) dX10_setDelay_15 (fun H locs hP hD hS => ?_)
  rw [wB_ρ] at hP hD
  refine lv_aload_n hx hb dX10_setDelay_18 rfl (lv_at hl 1 rfl) ?_
  refine lv_aload_n hx hb dX10_setDelay_19 rfl (lv_at hl 1 rfl) ?_
  refine lv_sipush (v := 257) hx hb dX10_setDelay_20 (by decide) ?_
  refine v_cVi (k0 := 37) (q0 := β 0) (e0 := .inr (10, bcl a β (ρU ρ q9) b (B1 0))) (e1 := .inr (10, bcl a β (ρU ρ q9) b (upd (B1 0) 2 (B1 0 2 + 1)))) (As := [.int 257]) (rest := [.ref (β 0)]) ⟨hx, hb, hml, hown, hts⟩ (c_X10_draw l G cA c2 c3 (a 37) b N xs H.size a β (ρU ρ q9) (β 0) (B1 0) 257 (by decide) (by decide) hN hd1) (cwV 1 hts gX10_setDelay_X10_draw rfl rfl rfl (by decide +kernel) ⟨Nat.le_of_ble_eq_true rfl, Nat.le_of_ble_eq_true rfl⟩) (wB_recv hK.1.1 hP) hK hA hP hD (wB_get (o := 0) (by decide)) hS rfl hl.1 rfl (lv_room (Nat.le_of_ble_eq_true rfl)) dX10_setDelay_23 ⟨Nat.le_of_ble_eq_true rfl, Nat.le_of_ble_eq_true rfl⟩ (fun w2 H locs hw2 hP hD hS => ?_)
  rw [wB_d] at hP hD
  obtain ⟨B2, hB2⟩ : ∃ Z9 : Mm, Z9 = up2 B1 0 2 (B1 0 2 + 1) := ⟨_, rfl⟩
  rw [← hB2] at hP hD
  have hd2 := dr_rg hd1 (by omega) (B' := B2) hB2
  refine va_put (D := G) (ci := 10) (v := .int w2) (ty := .int) (C := RX10) (T := TX10) (N := 22) hx hb hts iX10_setDelay_X10 tyX10 tyX10_ok nmX10 hown hK.1.1 hP hD hS 37 (wB_get (o := 0) (by decide)) rfl 9 (by decide) (hts (.fieldLink RX10 91 "MelodeonLaw$Bench" "wet" "I") (by decide +kernel)) (fun _ h9 => h9) rfl (by decide +kernel) rfl rfl (Nat.le_of_ble_eq_true rfl) dX10_setDelay_26 (fun H locs hP hD hS => ?_)
  rw [wB_f9] at hP hD
  obtain ⟨B3, hB3⟩ : ∃ Z9 : Mm, Z9 = up2 B2 0 9 w2 := ⟨_, rfl⟩
  rw [← hB3] at hP hD
  have hd3 := fld_rg hd2 (by decide) hB3
  refine lv_aload_n hx hb dX10_setDelay_29 rfl (lv_at hl 1 rfl) ?_
  refine lv_aload_n hx hb dX10_setDelay_30 rfl (lv_at hl 1 rfl) ?_
  refine lv_sipush (v := 257) hx hb dX10_setDelay_31 (by decide) ?_
  refine v_cVi (k0 := 37) (q0 := β 0) (e0 := .inr (10, bcl a β (ρU ρ q9) b (B3 0))) (e1 := .inr (10, bcl a β (ρU ρ q9) b (upd (B3 0) 2 (B3 0 2 + 1)))) (As := [.int 257]) (rest := [.ref (β 0)]) ⟨hx, hb, hml, hown, hts⟩ (c_X10_draw l G cA c2 c3 (a 37) b N xs H.size a β (ρU ρ q9) (β 0) (B3 0) 257 (by decide) (by decide) hN hd3) (cwV 1 hts gX10_setDelay_X10_draw rfl rfl rfl (by decide +kernel) ⟨Nat.le_of_ble_eq_true rfl, Nat.le_of_ble_eq_true rfl⟩) (wB_recv hK.1.1 hP) hK hA hP hD (wB_get (o := 0) (by decide)) hS rfl hl.1 rfl (lv_room (Nat.le_of_ble_eq_true rfl)) dX10_setDelay_34 ⟨Nat.le_of_ble_eq_true rfl, Nat.le_of_ble_eq_true rfl⟩ (fun w3 H locs hw3 hP hD hS => ?_)
  rw [wB_d] at hP hD
  obtain ⟨B4, hB4⟩ : ∃ Z9 : Mm, Z9 = up2 B3 0 2 (B3 0 2 + 1) := ⟨_, rfl⟩
  rw [← hB4] at hP hD
  have hd4 := dr_rg hd3 (by omega) (B' := B4) hB4
  refine va_put (D := G) (ci := 10) (v := .int w3) (ty := .int) (C := RX10) (T := TX10) (N := 22) hx hb hts iX10_setDelay_X10 tyX10 tyX10_ok nmX10 hown hK.1.1 hP hD hS 37 (wB_get (o := 0) (by decide)) rfl 10 (by decide) (hts (.fieldLink RX10 94 "MelodeonLaw$Bench" "back" "I") (by decide +kernel)) (fun _ h9 => h9) rfl (by decide +kernel) rfl rfl (Nat.le_of_ble_eq_true rfl) dX10_setDelay_37 (fun H locs hP hD hS => ?_)
  rw [wB_f10] at hP hD
  obtain ⟨B5, hB5⟩ : ∃ Z9 : Mm, Z9 = up2 B4 0 10 w3 := ⟨_, rfl⟩
  rw [← hB5] at hP hD
  have hd5 := fld_rg hd4 (by decide) hB5
  refine lv_aload_n hx hb dX10_setDelay_40 rfl (lv_at hl 1 rfl) ?_
  refine va_get (D := G) (ci := 10) (v := .ref (a 0)) (C := RX10) (T := TX10) (N := 22) hx hb hts iX10_setDelay_X10 hown hK.1.1 hP 37 (wB_get (o := 0) (by decide)) rfl 0 (by decide) (hts (.fieldLink RX10 10 "MelodeonLaw$Bench" "m" "LMelodeon;") (by decide +kernel)) (fun _ h9 => h9) rfl dX10_setDelay_41 ?_
  refine lv_aload_n hx hb dX10_setDelay_44 rfl (lv_at hl 1 rfl) ?_
  refine va_get (D := G) (ci := 10) (v := .ref q9) (C := RX10) (T := TX10) (N := 22) hx hb hts iX10_setDelay_X10 hown hK.1.1 hP 37 (wB_get (o := 0) (by decide)) rfl 11 (by decide) (hts (.fieldLink RX10 32 "MelodeonLaw$Bench" "delay" "[I") (by decide +kernel)) (fun _ h9 => h9) rfl dX10_setDelay_45 ?_
  refine va_alen hx hb hK.2.1 hP 49 0 (wB_X (n := 1) rfl) rfl (v := nI n1) rfl dX10_setDelay_48 ?_
  refine lv_aload_n hx hb dX10_setDelay_49 rfl (lv_at hl 1 rfl) ?_
  refine va_get (D := G) (ci := 10) (v := .int (B5 0 9)) (C := RX10) (T := TX10) (N := 22) hx hb hts iX10_setDelay_X10 hown hK.1.1 hP 37 (wB_get (o := 0) (by decide)) rfl 9 (by decide) (hts (.fieldLink RX10 91 "MelodeonLaw$Bench" "wet" "I") (by decide +kernel)) (fun _ h9 => h9) rfl dX10_setDelay_50 ?_
  rw [show B5 0 9 = w2 from by rw [hB5, up2_k (by decide), hB4, up2_k (by decide), hB3, up2_h]]
  refine lv_aload_n hx hb dX10_setDelay_53 rfl (lv_at hl 1 rfl) ?_
  refine va_get (D := G) (ci := 10) (v := .int (B5 0 10)) (C := RX10) (T := TX10) (N := 22) hx hb hts iX10_setDelay_X10 hown hK.1.1 hP 37 (wB_get (o := 0) (by decide)) rfl 10 (by decide) (hts (.fieldLink RX10 94 "MelodeonLaw$Bench" "back" "I") (by decide +kernel)) (fun _ h9 => h9) rfl dX10_setDelay_54 ?_
  rw [show B5 0 10 = w3 from by rw [hB5, up2_h]]
  refine t_cVi (As := [.int (nI n1), .int w2, .int w3]) (rest := []) ⟨hx, hb, hml, hown, hts⟩ (c_X9_setDelay l G cA a (t_ap hD) S L H.size (nI n1) w2 w3 (rg_ge (vp_rg 11 (vp_in_nI hn1 (by decide)) (by decide) (by decide)) (C := 0) (by decide) (by decide)) (rg_le (vp_rg 11 (vp_in_nI hn1 (by decide)) (by decide) (by decide)) (C := 200) (by decide) (by decide)) (rg_ge (vp_rg 256 hw2 (by decide) (by decide)) (C := 0) (by decide) (by decide)) (rg_le (vp_rg 256 hw2 (by decide) (by decide)) (C := 256) (by decide) (by decide)) (rg_ge (vp_rg 256 hw3 (by decide) (by decide)) (C := 0) (by decide) (by decide)) (rg_le (vp_rg 256 hw3 (by decide) (by decide)) (C := 256) (by decide) (by decide))) (cwV 3 hts gX10_setDelay_X9_setDelay rfl rfl rfl (by decide +kernel) ⟨Nat.le_of_ble_eq_true rfl, Nat.le_of_ble_eq_true rfl⟩) hK.1 hA hP hD hS rfl hl.1 rfl (lv_room (Nat.le_of_ble_eq_true rfl)) dX10_setDelay_57 ⟨Nat.le_of_ble_eq_true rfl, Nat.le_of_ble_eq_true rfl⟩ (fun H locs hP hD hS => ?_)
  refine lv_iload_n hx hb dX10_setDelay_60 rfl (lv_at hl 0 rfl) ?_
  refine lv_icmp_ne (tgt := 68) hx hb dX10_setDelay_61 (by decide) (fun _ => ?_) (fun _ => ?_)
  ·
    refine lv_iconst (v := 0) hx hb dX10_setDelay_68 (by decide) ?_
    refine b_zret (u := (fX9_setDelay S (nI n1) w2 w3, B5, ρU ρ q9)) hx hb hr hlocks rfl ⟨⟨_, _, _, rfl⟩, ?_, ?_⟩ (P_dropX hP) (D_dropX hD) hS dX10_setDelay_69
    · show RB (fX9_setDelay S (nI n1) w2 w3) B5
      refine RB_fr (S := S) ?_ (fun o ho => dl_n (by omega) (by omega))
      rw [hB5, hB4, hB3, hB2, hB1]
      exact RB_dr (by decide) (RB_dr (by decide) (RB_dr (by decide) (RB_dr (by decide) (RB_dr (by decide) (hRB)))))
    · exact rg_w hd5 (by omega) (by omega)
  ·
    refine lv_iconst (v := 1) hx hb dX10_setDelay_64 (by decide) ?_
    refine lv_goto (tgt := 69) hx hb dX10_setDelay_65 (by decide) ?_
    refine b_zret (u := (fX9_setDelay S (nI n1) w2 w3, B5, ρU ρ q9)) hx hb hr hlocks rfl ⟨⟨_, _, _, rfl⟩, ?_, ?_⟩ (P_dropX hP) (D_dropX hD) hS dX10_setDelay_69
    · show RB (fX9_setDelay S (nI n1) w2 w3) B5
      refine RB_fr (S := S) ?_ (fun o ho => dl_n (by omega) (by omega))
      rw [hB5, hB4, hB3, hB2, hB1]
      exact RB_dr (by decide) (RB_dr (by decide) (RB_dr (by decide) (RB_dr (by decide) (RB_dr (by decide) (hRB)))))
    · exact rg_w hd5 (by omega) (by omega)
