theorem rg_nn {x : Int32} {A B : Int} (h : rg x A B) (h0 : 0 ≤ A) : 0 ≤ x := by
  rw [Int32.le_iff_toInt_le, show (0 : Int32).toInt = 0 from by decide]
  unfold rg at h
  omega
section LWK
variable {p : Program} {l : Launch} {e : Env} {s : State} {m : MethodId} {args : Array Value} {below : List Frame} {meth : Method} {c : Code} {H : Heap} {locs : List Loc} {cells slots : Nat} {Q : State → Prop}
variable {ls : Array Slot} {G : va_G} {A0 : Nat → Prop} {cA c2 c3 : ClassId} {a β ρ : Nat → Nat} {b N : Nat} {xs : Nat → Int32} {wr : Nat → Nat → Option Nat} {S : Mm} {L : Int64} {B : Mm} {X : va_W}
theorem MT_0 {t : Nat → Int32} : MT SM0 0 0 t := ⟨rfl, rfl, rfl, fun j h => absurd h (Nat.not_lt_zero j), 0, 0, by decide, rfl, fun j h => absurd h (Nat.not_lt_zero j), rfl, by decide⟩
theorem VI_0 {o : Nat} (h : ∀ k, k < 10 → SM0 o k = (if k = 9 then -1 else 0)) : VI SM0 o := by
  have h0 := h 0 (by decide)
  have h1 := h 1 (by decide)
  have h5 := h 5 (by decide)
  have h6 := h 6 (by decide)
  have h7 := h 7 (by decide)
  have h8 := h 8 (by decide)
  unfold VI
  rw [h0, h1, h5, h6, h7, h8]
  refine ⟨by unfold vp_in; decide, rg_z (by decide) (by decide), fun _ => rfl, rg_z (by decide) (by decide), rg_z (by decide) (by decide), rg_z (by decide) (by decide), rg_z (by decide) (by decide)⟩
theorem JI_0 : JI SM0 := by
  intro i h1 h2
  rcases (show i = 14 ∨ i = 15 ∨ i = 16 ∨ i = 17 by omega) with rfl | rfl | rfl | rfl <;> exact ⟨by unfold rg; decide, by unfold rg; decide, by unfold rg; decide, by unfold rg; decide⟩
theorem IV_0 : IV SM0 := ⟨fun v hv => by rcases v4 hv with rfl | rfl | rfl | rfl <;> exact VI_0 (by decide +kernel), JI_0, Or.inl rfl⟩
theorem RB_0 {d : Int32} : RB SM0 (B0 d) := by
  refine ⟨fun i hi => ?_, ?_, rfl⟩
  · rcases v4 hi with rfl | rfl | rfl | rfl
    · show ∀ k, k < 12 → SM0 (14 + 0) k = f12 k
      decide +kernel
    · show ∀ k, k < 12 → SM0 (14 + 1) k = f12 k
      decide +kernel
    · show ∀ k, k < 12 → SM0 (14 + 2) k = f12 k
      decide +kernel
    · show ∀ k, k < 12 → SM0 (14 + 3) k = f12 k
      decide +kernel
  · show ∀ k, k < 32 → SM0 4 (96 + k) = 0
    decide +kernel
theorem PR_0 : PR SM0 (fun _ _ => none) [] := by
  intro t ht k hk
  refine ⟨fun _ => ?_, fun q h => by cases h⟩
  revert t k
  decide +kernel
theorem PR_fr {S S' : Mm} {wr : Nat → Nat → Option Nat} {P : List (Nat × (Nat → Int32))} (h : PR S wr P) (e : S' 9 = S 9) : PR S' wr P := by
  intro t ht k hk
  rw [e]
  exact h t ht k hk
theorem P_mid {G : va_G} {H : Heap} {us zs ws : va_W} (h : va_P G vwCl (us ++ (zs ++ ws)) H) : va_P G vwCl (us ++ ws) H := (P_fst h).app (P_snd (P_snd h))
theorem D_mid {A : Nat → Prop} {us zs ws : va_W} (h : va_D A (us ++ (zs ++ ws))) : va_D A (us ++ ws) :=
  va_D.app (D_fst h) (D_snd (D_snd h)) (fun i j p q hi hj => D_apart h hi (j := zs.length + j) (by rw [List.getElem?_append_right (by omega), Nat.add_sub_cancel_left]; exact hj))
theorem P_dropF {G : va_G} {H : Heap} {Z Y : va_W} (h : va_P G vwCl (wB a cA c2 c3 β ρ b wr S L B (Z ++ Y)) H) : va_P G vwCl (wB a cA c2 c3 β ρ b wr S L B Y) H := by
  have e : ∀ Q : va_W, wB a cA c2 c3 β ρ b wr S L B Q = (wG 37 a (cM a cA) S L ++ wG 11 β (cB a cA c2 c3 β ρ b wr) B 0) ++ Q := fun Q => (List.append_assoc _ _ _).symm
  rw [e] at h ⊢
  exact P_mid h
theorem D_dropF {A : Nat → Prop} {Z Y : va_W} (h : va_D A (wB a cA c2 c3 β ρ b wr S L B (Z ++ Y))) : va_D A (wB a cA c2 c3 β ρ b wr S L B Y) := by
  have e : ∀ Q : va_W, wB a cA c2 c3 β ρ b wr S L B Q = (wG 37 a (cM a cA) S L ++ wG 11 β (cB a cA c2 c3 β ρ b wr) B 0) ++ Q := fun Q => (List.append_assoc _ _ _).symm
  rw [e] at h ⊢
  exact D_mid h
set_option maxHeartbeats 4000000 in
theorem wl_loop (C : LC p s m c args G A0 cA c2 c3 (a 37) b N xs) {time : Int32} {told mm : Nat} {t : Nat → Int32} {X1 : va_W} : ∀ (n k : Nat) (S B : Mm) (wr : Nat → Nat → Option Nat) (Pn : List (Nat × (Nat → Int32))) (K : Int) (H : Heap) (locs : List Loc) (ls : Array Slot) (cells slots : Nat), k + n = 6 → IV S → RB S B → MT S L mm t → PR S wr Pn → K + 20 * n ≤ 1000 → rg (B 0 2) 0 K → va_P G vwCl (wB a cA c2 c3 β ρ b wr S L B (X1 ++ pw cA Pn)) H → va_D A0 (wB a cA c2 c3 β ρ b wr S L B (X1 ++ pw cA Pn)) → va_S A0 s.heap H locs → cells + n ≤ 682275 → slots + 3 * n ≤ 7054873 → lv_has ls 24 [(0, .ref b), (1, .int time), (2, .ref (β 0)), (3, .ref (a 0)), (4, .ref told), (5, .int (nI mm)), (6, .int (nI k))] →
    (∀ (S1 B1 : Mm) (wr1 : Nat → Nat → Option Nat) (P1 : List (Nat × (Nat → Int32))) (H1 : Heap) (locs1 : List Loc) (ls1 : Array Slot), IV S1 → RB S1 B1 → MT S1 L mm t → rg (B1 0 2) 0 (K + 20 * n) → va_P G vwCl (wB a cA c2 c3 β ρ b wr1 S1 L B1 (X1 ++ pw cA P1)) H1 → va_D A0 (wB a cA c2 c3 β ρ b wr1 S1 L B1 (X1 ++ pw cA P1)) → va_S A0 s.heap H1 locs1 → lv_has ls1 24 [(0, .ref b), (1, .int time), (2, .ref (β 0)), (3, .ref (a 0)), (4, .ref told), (5, .int (nI mm)), (6, .int (nI 6))] → W p l e room_1 s m args below meth c H1 locs1 (cells + n) (slots + 3 * n) Q (F0 m 70 ls1 [])) → W p l e room_1 s m args below meth c H locs cells slots Q (F0 m 41 ls []) := by
  obtain ⟨hx, hb, hml, hown, hts, hK, hA, hN⟩ := C
  intro n
  induction n with
  | zero =>
    intro k S B wr Pn K H locs ls cells slots hn hI hR hM hW hKK hd hP hD hS hc hs hl kk
    have e : k = 6 := by omega
    subst e
    refine lv_iload hx hb dL_law_41 (lv_at hl 6 rfl) ?_
    refine lv_bipush (v := 6) hx hb dL_law_43 (by decide) ?_
    refine lv_icmp_ge (tgt := 70) hx hb dL_law_45 (by decide) (fun _ => ?_) (fun c9 => absurd (by decide) c9)
    rw [show K + 20 * ((0 : Nat) : Int) = K by omega] at kk
    exact kk S B wr Pn H locs ls hI hR hM hd hP hD hS hl
  | succ n ih =>
    intro k S B wr Pn K H locs ls cells slots hn hI hR hM hW hKK hd hP hD hS hc hs hl kk
    have hc0 : cells ≤ 682275 := by omega
    have hc1 : cells + 1 ≤ 682275 := by omega
    have hs0 : slots ≤ 7054873 := by omega
    have hs3 : slots + 3 ≤ 7054873 := by omega
    refine lv_iload hx hb dL_law_41 (lv_at hl 6 rfl) ?_
    refine lv_bipush (v := 6) hx hb dL_law_43 (by decide) ?_
    refine lv_icmp_ge (tgt := 70) hx hb dL_law_45 (by decide) (fun c9 => absurd c9 (show ¬ nI 6 ≤ nI k from nI_ge (by omega) (by omega))) (fun _ => ?_)
    refine lv_aload_n hx hb dL_law_48 rfl (lv_at hl 2 rfl) ?_
    refine u_cVi (As := []) (rest := []) (wr := []) ⟨hx, hb, hml, hown, hts⟩ (c_X10_set l G cA c2 c3 b N xs H.size a β ρ wr S L B (X1 ++ pw cA Pn) hN (K := K) (by omega) hd hR hI.2.1 (D_any hD)) (cwV 0 hts gL_law_X10_set rfl rfl rfl (by decide +kernel) ⟨Nat.le_of_ble_eq_true rfl, Nat.le_of_ble_eq_true rfl⟩) (wB_recv hK.1.1 hP) hK hA (P_nilR hP) (D_nilR hD) hS rfl hl.1 rfl (lv_room (Nat.le_of_ble_eq_true rfl)) dL_law_49 ⟨hc0, hs0⟩ (fun r u H locs hr hP hD hS => ?_)
    rw [List.append_nil] at hP hD
    obtain ⟨r1, r2, r3, r4, r5⟩ := hr
    refine lv_if_eq (tgt := 62) hx hb dL_law_52 (by decide) (fun c9 => absurd c9 (by rw [r1]; decide)) (fun _ => ?_)
    refine lv_aload_n hx hb dL_law_55 rfl (lv_at hl 2 rfl) ?_
    refine u_cVi (As := []) (rest := []) (wr := []) ⟨hx, hb, hml, hown, hts⟩ (c_X10_write l G cA c2 c3 b N xs H.size a β ρ wr u.1 L u.2 X1 Pn hN (K := K + 10) (by omega) r5 r2 (PR_fr hW (r4 9 (by decide) (by decide) (by decide))) (D_any hD)) (cwV 0 hts gL_law_X10_write rfl rfl rfl (by decide +kernel) ⟨Nat.le_of_ble_eq_true rfl, Nat.le_of_ble_eq_true rfl⟩) (wB_recv hK.1.1 hP) hK hA (P_nilR hP) (D_nilR hD) hS rfl hl.1 rfl (lv_room (Nat.le_of_ble_eq_true rfl)) dL_law_56 ⟨hc1, hs3⟩ (fun r' v H locs hr hP hD hS => ?_)
    rw [List.append_nil] at hP hD
    obtain ⟨y1, y2, y3, y4, y5⟩ := hr
    refine lv_if_ne (tgt := 64) hx hb dL_law_59 (by decide) (fun _ => ?_) (fun c9 => absurd c9 (by rw [y1]; decide))
    refine lv_iinc (k := 6) (v := nI (k + 1)) (lv' := [(6, .int (nI (k + 1))), (0, .ref b), (1, .int time), (2, .ref (β 0)), (3, .ref (a 0)), (4, .ref told), (5, .int (nI mm))]) hx hb dL_law_64 hl rfl (by rw [show Int32.ofInt 1 = nI 1 from rfl]; exact nI_add k 1) (by decide) rfl (fun ls hl => ?_)
    refine lv_goto (tgt := 41) hx hb dL_law_67 (by decide) ?_
    have hl : lv_has ls 24 [(0, .ref b), (1, .int time), (2, .ref (β 0)), (3, .ref (a 0)), (4, .ref told), (5, .int (nI mm)), (6, .int (nI (k + 1)))] := lv_sub hl [1, 2, 3, 4, 5, 6, 0] rfl
    have hIu : IV u.1 := ⟨VS_fr hI.1 (fun o h1 h2 => r4 o (by omega) (by omega) (by omega)), r3, by rw [r4 18 (by decide) (by decide) (by decide)]; exact hI.2.2⟩
    have hIv : IV v.1 := ⟨VS_fr hIu.1 (fun o h1 h2 => y4 o (by omega) (by omega) (by omega)), JI_fr (fun i h1 h2 => y4 i (by omega) (by omega) (by omega)) hIu.2.1, by rw [y4 18 (by decide) (by decide) (by decide)]; exact hIu.2.2⟩
    have hMu : MT u.1 L mm t := MT_fr hM (by rw [r4 18 (by decide) (by decide) (by decide)]) (r4 34 (by decide) (by decide) (by decide)) (r4 36 (by decide) (by decide) (by decide))
    have hMv : MT v.1 L mm t := MT_fr hMu (by rw [y4 18 (by decide) (by decide) (by decide)]) (y4 34 (by decide) (by decide) (by decide)) (y4 36 (by decide) (by decide) (by decide))
    refine ih (k + 1) v.1 v.2.1 v.2.2.1 v.2.2.2 (K + 20) H locs ls (cells + 1) (slots + 3) (by omega) hIv y3 hMv y2 (by omega) (rg_w y5 (by omega) (by omega)) hP hD hS (by omega) (by omega) hl (fun S1 B1 wr1 P1 H1 locs1 ls1 j1 j2 j3 j4 j5 j6 j7 j8 => ?_)
    rw [show cells + 1 + n = cells + (n + 1) by omega, show slots + 3 + 3 * n = slots + 3 * (n + 1) by omega]
    exact kk S1 B1 wr1 P1 H1 locs1 ls1 j1 j2 j3 (rg_w j4 (by omega) (by omega)) j5 j6 j7 j8
set_option maxHeartbeats 4000000 in
theorem tb_b (C : LC p s m c args G A0 cA c2 c3 (a 37) b N xs) {time : Int32} {told mm : Nat} {t : Nat → Int32} {K : Int} (hKK : K ≤ 500) (hI : IV S) (hR : RB S B) (hM : MT S L mm t) (hd : rg (B 0 2) 0 K) (hP : va_P G vwCl (wB a cA c2 c3 β ρ b wr S L B ([(ρ 11, .inl (cA, 0, .inl (fun _ => 0)))] ++ [(told, .inl (cA, 400, .inl t))])) H) (hD : va_D A0 (wB a cA c2 c3 β ρ b wr S L B ([(ρ 11, .inl (cA, 0, .inl (fun _ => 0)))] ++ [(told, .inl (cA, 400, .inl t))]))) (hS : va_S A0 s.heap H locs) (hc : cells + 1 ≤ 682275) (hs : slots + 11 ≤ 7054873) (hl : lv_has ls 24 [(0, .ref b), (1, .int time), (2, .ref (β 0)), (3, .ref (a 0)), (4, .ref told), (5, .int (nI mm)), (6, .int (nI 6))])
    (kk : ∀ (ρ : Nat → Nat) (S1 B1 : Mm) (H1 : Heap) (locs1 : List Loc) (ls1 : Array Slot), IV S1 → RB S1 B1 → MT S1 L mm t → rg (B1 0 2) 0 (K + 20) → va_P G vwCl (wB a cA c2 c3 β ρ b wr S1 L B1 ([] ++ [(told, .inl (cA, 400, .inl t))])) H1 → va_D A0 (wB a cA c2 c3 β ρ b wr S1 L B1 ([] ++ [(told, .inl (cA, 400, .inl t))])) → va_S A0 s.heap H1 locs1 → lv_has ls1 24 [(0, .ref b), (1, .int time), (2, .ref (β 0)), (3, .ref (a 0)), (4, .ref told), (5, .int (nI mm)), (6, .int (nI 0))] → W p l e room_1 s m args below meth c H1 locs1 (cells + 1) (slots + 11) Q (F0 m 130 ls1 [])) : W p l e room_1 s m args below meth c H locs cells slots Q (F0 m 70 ls []) := by
  obtain ⟨hx, hb, hml, hown, hts, hK, hA, hN⟩ := C
  have hc0 : cells ≤ 682275 := by omega
  have hs0 : slots ≤ 7054873 := by omega
  have hj127 : ∀ (ρ : Nat → Nat) (S B : Mm) (H : Heap) (locs : List Loc), IV S → RB S B → MT S L mm t → rg (B 0 2) 0 (K + 15) → va_P G vwCl (wB a cA c2 c3 β ρ b wr S L B ([] ++ [(told, .inl (cA, 400, .inl t))])) H → va_D A0 (wB a cA c2 c3 β ρ b wr S L B ([] ++ [(told, .inl (cA, 400, .inl t))])) → va_S A0 s.heap H locs → W p l e room_1 s m args below meth c H locs (cells + 1) (slots + 11) Q (F0 m 127 ls []) := by
    intro ρ S B H locs hI hR hM hd hP hD hS
    refine lv_iconst (v := 0) hx hb dL_law_127 (by decide) ?_
    refine lv_istore (lv' := [(6, .int 0), (0, .ref b), (1, .int time), (2, .ref (β 0)), (3, .ref (a 0)), (4, .ref told), (5, .int (nI mm))]) hx hb dL_law_128 hl (by decide) rfl (fun ls hl => ?_)
    exact kk ρ S B H locs ls hI hR hM (rg_w hd (by omega) (by omega)) hP hD hS (lv_sub hl [1, 2, 3, 4, 5, 6, 0] rfl)
  have hj94 : ∀ (ρ : Nat → Nat) (S B : Mm) (H : Heap) (locs : List Loc), IV S → RB S B → MT S L mm t → rg (B 0 2) 0 (K + 11) → va_P G vwCl (wB a cA c2 c3 β ρ b wr S L B ([] ++ [(told, .inl (cA, 400, .inl t))])) H → va_D A0 (wB a cA c2 c3 β ρ b wr S L B ([] ++ [(told, .inl (cA, 400, .inl t))])) → va_S A0 s.heap H locs → W p l e room_1 s m args below meth c H locs (cells + 1) (slots + 11) Q (F0 m 94 ls []) := by
    intro ρ S B H locs hI hR hM hd hP hD hS
    refine lv_aload_n hx hb dL_law_94 rfl (lv_at hl 3 rfl) ?_
    refine lv_iconst (v := 1) hx hb dL_law_95 (by decide) ?_
    refine lv_aload_n hx hb dL_law_96 rfl (lv_at hl 2 rfl) ?_
    refine lv_bipush (v := 9) hx hb dL_law_97 (by decide) ?_
    refine v_cVi (k0 := 37) (q0 := β 0) (e0 := .inr (10, bcl a β ρ b (B 0))) (e1 := .inr (10, bcl a β ρ b (upd (B 0) 2 (B 0 2 + 1)))) (As := [.int 9]) (rest := [.int 1, .ref (a 0)]) ⟨hx, hb, hml, hown, hts⟩ (c_X10_draw l G cA c2 c3 (a 37) b N xs H.size a β ρ (β 0) (B 0) 9 (by decide) (by decide) hN hd) (cwV 1 hts gL_law_X10_draw rfl rfl rfl (by decide +kernel) ⟨Nat.le_of_ble_eq_true rfl, Nat.le_of_ble_eq_true rfl⟩) (wB_recv hK.1.1 hP) hK hA hP hD (wB_get (o := 0) (by decide)) hS rfl hl.1 rfl (lv_room (Nat.le_of_ble_eq_true rfl)) dL_law_99 ⟨hc, hs⟩ (fun w1 H locs hw1 hP hD hS => ?_)
    rw [wB_d] at hP hD
    obtain ⟨Bd1, hBd1⟩ : ∃ Z9 : Mm, Z9 = up2 B 0 2 (B 0 2 + 1) := ⟨_, rfl⟩
    rw [← hBd1] at hP hD
    have hd1 : rg (Bd1 0 2) 0 (K + 11 + 1) := dr_rg hd (by omega) (B' := Bd1) hBd1
    have hR1 : RB S Bd1 := by
      rw [hBd1]; exact RB_dr (by decide) hR
    refine lv_iadd hx hb dL_law_102 ?_
    refine lv_iconst (v := 0) hx hb dL_law_103 (by decide) ?_
    have g1 := (rg_add (rg_c (show (1 : Int32).toInt = 1 from by decide)) (vp_rg 8 hw1 (by decide) (by decide)) (by decide) (by decide)).1
    have g2 := (rg_sub g1 (rg_c (show (1 : Int32).toInt = 1 from by decide)) (by decide) (by decide)).1
    refine t_cVi (As := [.int (1 + w1), .int 0]) (rest := []) ⟨hx, hb, hml, hown, hts⟩ (c_X9_setTempo l G cA a (t_ap hD) S L H.size (1 + w1) 0 (rg_ge g1 (C := 1) (by decide) (by decide)) (rg_le g1 (C := 200) (by decide) (by decide)) (by decide) (rg_nn g2 (by decide))) (cwV 2 hts gL_law_X9_setTempo rfl rfl rfl (by decide +kernel) ⟨Nat.le_of_ble_eq_true rfl, Nat.le_of_ble_eq_true rfl⟩) hK.1 hA hP hD hS rfl hl.1 rfl (lv_room (Nat.le_of_ble_eq_true rfl)) dL_law_104 ⟨hc, hs⟩ (fun H locs hP hD hS => ?_)
    obtain ⟨S1, hS1⟩ : ∃ Z9 : Mm, Z9 = fX9_setTempo S (1 + w1) 0 := ⟨_, rfl⟩
    rw [← hS1] at hP hD
    have hI1 : IV S1 := by rw [hS1]; exact IV_tempo hI
    have hR1 : RB S1 Bd1 := by rw [hS1]; exact RB_fr hR1 (fun o ho => tp_n (by omega))
    have hM1 : MT S1 L mm t := by rw [hS1]; exact MT_fr hM (by rw [tp_n (by decide)]) (tp_n (by decide)) (tp_n (by decide))
    refine lv_pop hx hb dL_law_107 rfl ?_
    refine lv_aload_n hx hb dL_law_108 rfl (lv_at hl 2 rfl) ?_
    refine lv_iconst (v := 2) hx hb dL_law_109 (by decide) ?_
    refine v_cVi (k0 := 37) (q0 := β 0) (e0 := .inr (10, bcl a β ρ b (Bd1 0))) (e1 := .inr (10, bcl a β ρ b (upd (Bd1 0) 2 (Bd1 0 2 + 1)))) (As := [.int 2]) (rest := []) ⟨hx, hb, hml, hown, hts⟩ (c_X10_draw l G cA c2 c3 (a 37) b N xs H.size a β ρ (β 0) (Bd1 0) 2 (by decide) (by decide) hN hd1) (cwV 1 hts gL_law_X10_draw rfl rfl rfl (by decide +kernel) ⟨Nat.le_of_ble_eq_true rfl, Nat.le_of_ble_eq_true rfl⟩) (wB_recv hK.1.1 hP) hK hA hP hD (wB_get (o := 0) (by decide)) hS rfl hl.1 rfl (lv_room (Nat.le_of_ble_eq_true rfl)) dL_law_110 ⟨hc, hs⟩ (fun w2 H locs hw2 hP hD hS => ?_)
    rw [wB_d] at hP hD
    obtain ⟨Bd2, hBd2⟩ : ∃ Z9 : Mm, Z9 = up2 Bd1 0 2 (Bd1 0 2 + 1) := ⟨_, rfl⟩
    rw [← hBd2] at hP hD
    have hd2 : rg (Bd2 0 2) 0 (K + 11 + 1 + 1) := dr_rg hd1 (by omega) (B' := Bd2) hBd2
    have hR2 : RB S1 Bd2 := by
      rw [hBd2]; exact RB_dr (by decide) hR1
    refine lv_if_ne (tgt := 127) hx hb dL_law_113 (by decide) (fun c1 => ?_) (fun c1 => ?_)
    · exact hj127 ρ S1 Bd2 H locs hI1 hR2 hM1 (rg_w hd2 (by omega) (by omega)) hP hD hS
    ·
      refine lv_aload_n hx hb dL_law_116 rfl (lv_at hl 3 rfl) ?_
      refine lv_aload_n hx hb dL_law_117 rfl (lv_at hl 2 rfl) ?_
      refine lv_bipush (v := 8) hx hb dL_law_118 (by decide) ?_
      refine v_cVi (k0 := 37) (q0 := β 0) (e0 := .inr (10, bcl a β ρ b (Bd2 0))) (e1 := .inr (10, bcl a β ρ b (upd (Bd2 0) 2 (Bd2 0 2 + 1)))) (As := [.int 8]) (rest := [.ref (a 0)]) ⟨hx, hb, hml, hown, hts⟩ (c_X10_draw l G cA c2 c3 (a 37) b N xs H.size a β ρ (β 0) (Bd2 0) 8 (by decide) (by decide) hN hd2) (cwV 1 hts gL_law_X10_draw rfl rfl rfl (by decide +kernel) ⟨Nat.le_of_ble_eq_true rfl, Nat.le_of_ble_eq_true rfl⟩) (wB_recv hK.1.1 hP) hK hA hP hD (wB_get (o := 0) (by decide)) hS rfl hl.1 rfl (lv_room (Nat.le_of_ble_eq_true rfl)) dL_law_120 ⟨hc, hs⟩ (fun w3 H locs hw3 hP hD hS => ?_)
      rw [wB_d] at hP hD
      obtain ⟨Bd3, hBd3⟩ : ∃ Z9 : Mm, Z9 = up2 Bd2 0 2 (Bd2 0 2 + 1) := ⟨_, rfl⟩
      rw [← hBd3] at hP hD
      have hd3 : rg (Bd3 0 2) 0 (K + 11 + 1 + 1 + 1) := dr_rg hd2 (by omega) (B' := Bd3) hBd3
      have hR3 : RB S1 Bd3 := by
        rw [hBd3]; exact RB_dr (by decide) hR2
      have g3 := vp_rg 7 hw3 (by decide) (by decide)
      refine t_cVi (As := [.int w3]) (rest := []) ⟨hx, hb, hml, hown, hts⟩ (c_X9_play l G cA a (t_ap hD) S1 L H.size w3 (nb9 hI1) (rg_ge g3 (C := 0) (by decide) (by decide)) (rg_lt g3 (C := 8) (by decide) (by decide))) (cwV 1 hts gL_law_X9_play rfl rfl rfl (by decide +kernel) ⟨Nat.le_of_ble_eq_true rfl, Nat.le_of_ble_eq_true rfl⟩) hK.1 hA hP hD hS rfl hl.1 rfl (lv_room (Nat.le_of_ble_eq_true rfl)) dL_law_123 ⟨hc, hs⟩ (fun H locs hP hD hS => ?_)
      refine lv_pop hx hb dL_law_126 rfl ?_
      exact hj127 ρ (fX9_play S1 w3) Bd3 H locs (IV_play hI1) (RB_fr hR3 (fun o ho => py_n (by omega))) (MT_fr hM1 py_6 (py_n (by decide)) (py_n (by decide))) (rg_w hd3 (by omega) (by omega)) hP hD hS
  refine lv_aload_n hx hb dL_law_70 rfl (lv_at hl 2 rfl) ?_
  refine lv_iconst (v := 2) hx hb dL_law_71 (by decide) ?_
  refine v_cVi (k0 := 37) (q0 := β 0) (e0 := .inr (10, bcl a β ρ b (B 0))) (e1 := .inr (10, bcl a β ρ b (upd (B 0) 2 (B 0 2 + 1)))) (As := [.int 2]) (rest := []) ⟨hx, hb, hml, hown, hts⟩ (c_X10_draw l G cA c2 c3 (a 37) b N xs H.size a β ρ (β 0) (B 0) 2 (by decide) (by decide) hN hd) (cwV 1 hts gL_law_X10_draw rfl rfl rfl (by decide +kernel) ⟨Nat.le_of_ble_eq_true rfl, Nat.le_of_ble_eq_true rfl⟩) (wB_recv hK.1.1 hP) hK hA hP hD (wB_get (o := 0) (by decide)) hS rfl hl.1 rfl (lv_room (Nat.le_of_ble_eq_true rfl)) dL_law_72 ⟨hc0, hs0⟩ (fun w4 H locs hw4 hP hD hS => ?_)
  rw [wB_d] at hP hD
  obtain ⟨Bd4, hBd4⟩ : ∃ Z9 : Mm, Z9 = up2 B 0 2 (B 0 2 + 1) := ⟨_, rfl⟩
  rw [← hBd4] at hP hD
  have hd4 : rg (Bd4 0 2) 0 (K + 1) := dr_rg hd (by omega) (B' := Bd4) hBd4
  have hR4 : RB S Bd4 := by
    rw [hBd4]; exact RB_dr (by decide) hR
  refine lv_if_ne (tgt := 89) hx hb dL_law_75 (by decide) (fun c1 => ?_) (fun c1 => ?_)
  ·
    refine lv_aload_n hx hb dL_law_89 rfl (lv_at hl 2 rfl) ?_
    rw [← wB_app] at hP hD
    refine u_cVi (As := []) (rest := []) (wr := [(told, .inl (cA, 400, .inl t))]) ⟨hx, hb, hml, hown, hts⟩ (c_X10_setDelay l G cA c2 c3 b N xs H.size a β ρ wr S L Bd4 0 (fun _ => 0) hN (K := K + 1) (by omega) hd4 hR4 (D_any (D_fst hD))) (cwV 0 hts gL_law_X10_setDelay rfl rfl rfl (by decide +kernel) ⟨Nat.le_of_ble_eq_true rfl, Nat.le_of_ble_eq_true rfl⟩) (wB_recv hK.1.1 hP) hK hA hP hD hS rfl hl.1 rfl (lv_room (Nat.le_of_ble_eq_true rfl)) dL_law_90 ⟨hc, hs⟩ (fun r u H locs hr hP hD hS => ?_)
    rw [wB_app] at hP hD
    obtain ⟨⟨p1, p2, p3, e1⟩, y2, y3⟩ := hr
    refine lv_pop hx hb dL_law_93 rfl ?_
    have hI2 : IV u.1 := by rw [e1]; exact IV_delay hI
    have hM2 : MT u.1 L mm t := by rw [e1]; exact MT_fr hM (by rw [dl_n (by decide) (by decide)]) (dl_n (by decide) (by decide)) (dl_n (by decide) (by decide))
    exact hj94 u.2.2 u.1 u.2.1 H locs hI2 y2 hM2 (rg_w y3 (by omega) (by omega)) hP hD hS
  ·
    refine lv_aload_n hx hb dL_law_78 rfl (lv_at hl 3 rfl) ?_
    refine lv_iconst (v := 0) hx hb dL_law_79 (by decide) ?_
    refine lv_iconst (v := 0) hx hb dL_law_80 (by decide) ?_
    refine lv_iconst (v := 0) hx hb dL_law_81 (by decide) ?_
    refine t_cVi (As := [.int 0, .int 0, .int 0]) (rest := []) ⟨hx, hb, hml, hown, hts⟩ (c_X9_setDelay l G cA a (t_ap hD) S L H.size 0 0 0 (by decide) (by decide) (by decide) (by decide) (by decide) (by decide)) (cwV 3 hts gL_law_X9_setDelay rfl rfl rfl (by decide +kernel) ⟨Nat.le_of_ble_eq_true rfl, Nat.le_of_ble_eq_true rfl⟩) hK.1 hA hP hD hS rfl hl.1 rfl (lv_room (Nat.le_of_ble_eq_true rfl)) dL_law_82 ⟨hc0, hs0⟩ (fun H locs hP hD hS => ?_)
    refine lv_pop hx hb dL_law_85 rfl ?_
    refine lv_goto (tgt := 94) hx hb dL_law_86 (by decide) ?_
    refine W.widen (k := cells + 1) (n := slots + 11) (by show cells ≤ _; omega) (by show slots ≤ _; omega) ?_
    exact hj94 ρ (fX9_setDelay S 0 0 0) Bd4 H locs (IV_delay hI) (RB_fr hR4 (fun o ho => dl_n (by omega) (by omega))) (MT_fr hM (by rw [dl_n (by decide) (by decide)]) (dl_n (by decide) (by decide)) (dl_n (by decide) (by decide))) (rg_w hd4 (by omega) (by omega)) (P_dropF hP) (D_dropF hD) hS
abbrev wsT : List Cond := wsL_law ++ [.classLink RX10 38 "[[[I"]
theorem gBiL : GoodIn wsT wsBi := by
  intro w h
  rcases List.mem_append.mp h with h | h
  · exact ⟨List.mem_append_left _ (gL_law_X10_init w h).1, (gL_law_X10_init w h).2⟩
  · rw [List.mem_singleton.mp h]
    exact ⟨List.mem_append_right _ (List.mem_singleton.mpr rfl), Or.inl (by decide)⟩
theorem bi_pre {As : List Value} {zq q0 k : Nat} {e0 : va_E} {ws : va_W} (hK : KB G cA c2 c3 zq b N xs A0 s) (hAO : AO2 s) (hP : va_P G vwCl ws H) (hD : va_D A0 ws) (hS : va_S A0 s.heap H locs) (hA : ∀ x, s.heap.size ≤ x → A0 x) (hk : ws[k]? = some (q0, e0)) : PreS s H (va_Pc (.ref q0 :: As) (aI G cA c2 c3 zq b N xs [(q0, e0)] H.size)) (.ref q0 :: As) :=
  ⟨aI_blind, fun U hU hW => ⟨rfl, ⟨by rw [hU], by rw [hU]; exact hP.sub [k] (by simp [hk]), KB_go hK (va_free (wc := [(q0, e0)]) hD hS hA [k] (by simp [hk])) hS hU hW⟩, AOt.moved hW.alike hAO.1, AOt.moved hW.alike hAO.2⟩⟩
set_option maxHeartbeats 4000000 in
theorem tb_a {zq : Nat} (C : LC p s m c args G A0 cA c2 c3 zq b N xs) (htsT : ∀ w ∈ wsT, w.before args s = true) (hAO : AO2 s) {time : Int32} (hS : va_S A0 s.heap H locs) (hc : cells + 57 ≤ 682275) (hs : slots + 1455 ≤ 7054873) (hl : lv_has ls 24 [(1, .int time), (0, .ref b)])
    (kk : ∀ (a β ρ : Nat → Nat) (told : Nat) (d : Int32) (H1 : Heap) (locs1 : List Loc) (ls1 : Array Slot), a 37 = zq → d = 31 * time + 7 → va_P G vwCl (wB a cA c2 c3 β ρ b (fun _ _ => none) SM0 0 (B0 d) ([(ρ 11, .inl (cA, 0, .inl (fun _ => 0)))] ++ [(told, .inl (cA, 400, .inl (fun _ => 0)))])) H1 → va_D A0 (wB a cA c2 c3 β ρ b (fun _ _ => none) SM0 0 (B0 d) ([(ρ 11, .inl (cA, 0, .inl (fun _ => 0)))] ++ [(told, .inl (cA, 400, .inl (fun _ => 0)))])) → va_S A0 s.heap H1 locs1 → lv_has ls1 24 [(0, .ref b), (1, .int time), (2, .ref (β 0)), (3, .ref (a 0)), (4, .ref told), (5, .int (nI 0)), (6, .int (nI 0))] → W p l e room_1 s m args below meth c H1 locs1 (cells + 57) (slots + 1455) Q (F0 m 41 ls1 [])) : W p l e room_1 s m args below meth c H locs cells slots Q (F0 m 7 ls []) := by
  obtain ⟨hx, hb, hml, hown, hts, hK, hA, hN⟩ := C
  have hc1 : cells + 1 ≤ 682275 := by omega
  have hs1 : slots + 22 ≤ 7054873 := by omega
  have hc2 : cells + 1 + 55 ≤ 682275 := by omega
  have hs2 : slots + 22 + 1033 ≤ 7054873 := by omega
  have hc3 : cells + 1 + 55 + 1 ≤ 682275 := by omega
  have hs3 : slots + 22 + 1033 + 400 ≤ 7054873 := by omega
  refine va_new (ci := 10) (fs := bN) (C := RX10) (T := TX10) (N := 22) hx hb hts inlX10 tyX10 tyX10_ok hown (hts (.classLink RL 9 RX10) (by decide +kernel)) (hts (.instantiable RX10 22) (by decide +kernel)) (hts (.initialized RX10) (by decide +kernel)) hK.1.1 (P_nil (H := H)) (D_nil (A := A0)) hS hA rfl (fun j hj => by rcases (show j = 0 ∨ j = 1 ∨ j = 2 ∨ j = 3 ∨ j = 4 ∨ j = 5 ∨ j = 6 ∨ j = 7 ∨ j = 8 ∨ j = 9 ∨ j = 10 ∨ j = 11 ∨ j = 12 ∨ j = 13 ∨ j = 14 ∨ j = 15 ∨ j = 16 ∨ j = 17 ∨ j = 18 ∨ j = 19 ∨ j = 20 ∨ j = 21 by omega) with rfl | rfl | rfl | rfl | rfl | rfl | rfl | rfl | rfl | rfl | rfl | rfl | rfl | rfl | rfl | rfl | rfl | rfl | rfl | rfl | rfl | rfl <;> rfl) hc1 hs1 dL_law_7 (fun h0 H hP hD hS => ?_)
  have hP : va_P G vwCl [(h0, .inr (10, bN))] H := hP
  have hD : va_D A0 [(h0, .inr (10, bN))] := hD
  refine lv_dup hx hb dL_law_10 rfl ?_
  refine lv_aload_n hx hb dL_law_11 rfl (lv_at hl 1 rfl) ?_
  refine lv_bipush (v := 31) hx hb dL_law_12 (by decide) ?_
  refine lv_iload_n hx hb dL_law_14 rfl (lv_at hl 0 rfl) ?_
  refine lv_imul hx hb dL_law_15 ?_
  refine lv_bipush (v := 7) hx hb dL_law_16 (by decide) ?_
  refine lv_iadd hx hb dL_law_18 ?_
  refine j_next (wr := []) (wl := fun u => wB0 zq cA c2 c3 b (31 * time + 7) u) (va_runI (As := [.ref b, .int (31 * time + 7)]) (rest := [.ref h0]) ⟨hx, hb, hml, hown, htsT⟩ (c_X10_init l G cA c2 c3 zq b N xs H.size h0 (31 * time + 7)) (cwI 2 htsT gBiL rfl rfl rfl (hts (.initialized RX10) (by decide +kernel)) (hts (.methodLink RL 11 yX10_init) (by decide +kernel)) (hts (.instanceMethod yX10_init) (by decide +kernel)) rfl (by decide +kernel) ⟨Nat.le_of_ble_eq_true rfl, Nat.le_of_ble_eq_true rfl⟩) (bi_pre (k := 0) hK hAO hP hD hS hA rfl) rfl rfl hl.1 rfl (lv_room (Nat.le_of_ble_eq_true rfl)) dL_law_19 ⟨hc2, hs2⟩) hP hD hS hA 0 [] rfl rfl (by decide) (by decide) (fun u H locs hq hP hD hS => ?_)
  obtain ⟨a, ρ, hz, hP, hD⟩ : ∃ a ρ : Nat → Nat, a 37 = zq ∧ va_P G vwCl (wB a cA c2 c3 u ρ b (fun _ _ => none) SM0 0 (B0 (31 * time + 7)) [(ρ 11, .inl (cA, 0, .inl (fun _ => 0)))]) H ∧ va_D A0 (wB a cA c2 c3 u ρ b (fun _ _ => none) SM0 0 (B0 (31 * time + 7)) [(ρ 11, .inl (cA, 0, .inl (fun _ => 0)))]) := ⟨a38 zq (fun k => u (100 + k)), fun k => u (200 + k), a38_z, hP, hD⟩
  rw [← hq]
  refine lv_astore_n (lv' := [(2, .ref (u 0)), (1, .int time), (0, .ref b)]) hx hb dL_law_22 rfl hl (by decide) rfl (fun ls hl => ?_)
  refine lv_aload_n hx hb dL_law_23 rfl (lv_at hl 0 rfl) ?_
  refine va_get (D := G) (ci := 10) (v := .ref (a 0)) (C := RX10) (T := TX10) (N := 22) hx hb hts inlX10 hown hK.1.1 hP 37 (wB_get (o := 0) (by decide)) rfl 0 (by decide) (hts (.fieldLink RL 14 "MelodeonLaw$Bench" "m" "LMelodeon;") (by decide +kernel)) (fun _ h9 => h9) rfl dL_law_24 ?_
  refine lv_astore_n (lv' := [(3, .ref (a 0)), (2, .ref (u 0)), (1, .int time), (0, .ref b)]) hx hb dL_law_27 rfl hl (by decide) rfl (fun ls hl => ?_)
  refine lv_sipush (v := 400) hx hb dL_law_28 (by decide) ?_
  refine va_newa (atype := .int) (ty := .int) (N' := 400) (a0 := (400, .inl (fun _ => 0))) hx hb (hts (.arrayClass .int) (by decide +kernel)) rfl hK.1.1 hP hD hS hA (fun _ => rfl) (by decide) (by decide) (by decide) hc3 hs3 dL_law_31 (fun told cQ H hKx hP hD hS => ?_)
  have eQ := cQ_eq2 hKx
  rw [eQ, wB_app] at hP hD
  refine lv_astore (lv' := [(4, .ref told), (3, .ref (a 0)), (2, .ref (u 0)), (1, .int time), (0, .ref b)]) hx hb dL_law_33 hl (by decide) rfl (fun ls hl => ?_)
  refine lv_iconst (v := 0) hx hb dL_law_35 (by decide) ?_
  refine lv_istore (lv' := [(5, .int 0), (4, .ref told), (3, .ref (a 0)), (2, .ref (u 0)), (1, .int time), (0, .ref b)]) hx hb dL_law_36 hl (by decide) rfl (fun ls hl => ?_)
  refine lv_iconst (v := 0) hx hb dL_law_38 (by decide) ?_
  refine lv_istore (lv' := [(6, .int 0), (5, .int 0), (4, .ref told), (3, .ref (a 0)), (2, .ref (u 0)), (1, .int time), (0, .ref b)]) hx hb dL_law_39 hl (by decide) rfl (fun ls hl => ?_)
  exact kk a u ρ told _ H locs ls hz rfl hP hD hS (lv_sub hl [6, 5, 4, 3, 2, 1, 0] rfl)
end LWK
