theorem rg_ngt {x hi : Int32} {A B C : Int} (h : rg x A B) (hl : hi.toInt = C) (hC : B ≤ C) : ¬ hi < x := by
  rw [Int32.lt_iff_toInt_lt, hl]
  unfold rg at h
  omega
theorem v5c {x : Int32} (h : vp_in x 5) : x = 0 ∨ x = 1 ∨ x = 2 ∨ x = 3 ∨ x = 4 := by
  obtain ⟨i, hi, e⟩ := vp_nI h (by decide)
  subst e
  rcases (show i = 0 ∨ i = 1 ∨ i = 2 ∨ i = 3 ∨ i = 4 by omega) with rfl | rfl | rfl | rfl | rfl
  · exact Or.inl rfl
  · exact Or.inr (Or.inl rfl)
  · exact Or.inr (Or.inr (Or.inl rfl))
  · exact Or.inr (Or.inr (Or.inr (Or.inl rfl)))
  · exact Or.inr (Or.inr (Or.inr (Or.inr rfl)))
theorem cgs_z {x : Int32} (h : vp_in x 5) (h0 : x ≤ 0) : x = 0 := by
  rcases v5c h with rfl | rfl | rfl | rfl | rfl
  · rfl
  all_goals exact absurd h0 (by decide)
theorem cgs_4 {x g : Int32} (h : vp_in x 5) (h0 : 4 ≤ x) (hg : g = 0) : cgS x g = x := by
  rcases v5c h with rfl | rfl | rfl | rfl | rfl
  · exact absurd h0 (by decide)
  · exact absurd h0 (by decide)
  · exact absurd h0 (by decide)
  · exact absurd h0 (by decide)
  · subst hg; rfl
theorem cgs_1 {x g : Int32} (h0 : ¬ x ≤ 0) (hg : g = 0) : cgS x g = 4 := by
  unfold cgS
  rw [if_pos hg, if_neg (fun z => h0 (by subst z; decide))]
section LWK
variable {p : Program} {l : Launch} {e : Env} {s : State} {m : MethodId} {args : Array Value} {below : List Frame} {meth : Method} {c : Code} {H : Heap} {locs : List Loc} {cells slots : Nat} {Q : State → Prop}
variable {ls : Array Slot} {G : va_G} {A0 : Nat → Prop} {cA c2 c3 : ClassId} {a β ρ : Nat → Nat} {b N : Nat} {xs : Nat → Int32} {wr : Nat → Nat → Option Nat} {S : Mm} {L : Int64} {B : Mm} {X : va_W}
set_option maxHeartbeats 4000000 in
theorem ck_turn (C : LC p s m c args G A0 cA c2 c3 (a 37) b N xs) {time mm stp ah pk si mo kx : Int32} {told : Nat} {qs qn v : Nat} {f g : Nat → Int32} {sv gv : Int32} (hv : v < 4) (hV : VI S (22 + v)) (h5 : vp_in sv 5) (hTr : Tr (cgS sv gv) (S (22 + v) 0)) (hf : f v = sv) (hg : g v = gv) (hP : va_P G vwCl (wB a cA c2 c3 β ρ b wr S L B (X ++ [(qs, .inl (cA, 4, .inl f))] ++ [(qn, .inl (cA, 4, .inl g))])) H) (hD : va_D A0 (wB a cA c2 c3 β ρ b wr S L B (X ++ [(qs, .inl (cA, 4, .inl f))] ++ [(qn, .inl (cA, 4, .inl g))]))) (hS : va_S A0 s.heap H locs) (hc : cells ≤ 682275) (hs : slots ≤ 7054873) (hl : lv_has ls 24 [(19, .int (nI v)), (17, .ref qn), (16, .ref qs), (15, .int 1), (0, .ref b), (1, .int time), (2, .ref (β 0)), (3, .ref (a 0)), (4, .ref told), (5, .int mm), (6, .int stp), (8, .int ah), (11, .int pk), (12, .int si), (13, .int mo), (14, .int kx)])
    (kk : ∀ (H1 : Heap) (locs1 : List Loc) (ls1 : Array Slot), va_P G vwCl (wB a cA c2 c3 β ρ b wr S L B (X ++ [(qs, .inl (cA, 4, .inl f))] ++ [(qn, .inl (cA, 4, .inl g))])) H1 → va_D A0 (wB a cA c2 c3 β ρ b wr S L B (X ++ [(qs, .inl (cA, 4, .inl f))] ++ [(qn, .inl (cA, 4, .inl g))])) → va_S A0 s.heap H1 locs1 → lv_has ls1 24 [(19, .int (nI (v + 1))), (17, .ref qn), (16, .ref qs), (15, .int 1), (0, .ref b), (1, .int time), (2, .ref (β 0)), (3, .ref (a 0)), (4, .ref told), (5, .int mm), (6, .int stp), (8, .int ah), (11, .int pk), (12, .int si), (13, .int mo), (14, .int kx)] → W p l e room_1 s m args below meth c H1 locs1 cells slots Q (F0 m 417 ls1 [])) : W p l e room_1 s m args below meth c H locs cells slots Q (F0 m 417 ls []) := by
  obtain ⟨hx, hb, hml, hown, hts, hK, hA, hN⟩ := C
  obtain ⟨n0, n1, n2⟩ := nI4 hv
  obtain ⟨V0, V1, V2, V5, V6, V7, V8⟩ := hV
  refine lv_iload hx hb dL_law_417 (lv_at hl 0 rfl) ?_
  refine lv_iconst (v := 4) hx hb dL_law_419 (by decide) ?_
  refine lv_icmp_ge (tgt := 682) hx hb dL_law_420 (by decide) (fun c9 => absurd c9 n2) (fun _ => ?_)
  refine lv_iload hx hb dL_law_423 (lv_at hl 3 rfl) ?_
  refine lv_if_eq (tgt := 682) hx hb dL_law_425 (by decide) (fun c9 => absurd c9 (by decide)) (fun _ => ?_)
  refine lv_aload_n hx hb dL_law_428 rfl (lv_at hl 7 rfl) ?_
  refine lv_iload hx hb dL_law_429 (lv_at hl 0 rfl) ?_
  refine lv_iconst (v := 0) hx hb dL_law_431 (by decide) ?_
  refine t_cVi (As := [.int (nI v), .int 0]) (rest := []) ⟨hx, hb, hml, hown, hts⟩ (c_X9_ofVoice l G cA a (t_ap hD) S L H.size (nI v) 0 n0 n1 (by decide) (by decide)) (cwV 2 hts gL_law_X9_ofVoice rfl rfl rfl (by decide +kernel) ⟨Nat.le_of_ble_eq_true rfl, Nat.le_of_ble_eq_true rfl⟩) hK.1 hA hP hD hS rfl hl.1 rfl (lv_room (Nat.le_of_ble_eq_true rfl)) dL_law_432 ⟨hc, hs⟩ (fun H locs hP hD hS => ?_)
  rw [ov0 hv]
  refine lv_istore (lv' := [(20, .int (S (22 + v) 0)), (19, .int (nI v)), (17, .ref qn), (16, .ref qs), (15, .int 1), (0, .ref b), (1, .int time), (2, .ref (β 0)), (3, .ref (a 0)), (4, .ref told), (5, .int mm), (6, .int stp), (8, .int ah), (11, .int pk), (12, .int si), (13, .int mo), (14, .int kx)]) hx hb dL_law_435 hl (by decide) rfl (fun ls hl => ?_)
  have hj527 : ∀ (x21 : Int32) (ls : Array Slot), lv_has ls 24 [(22, .int (cgS sv gv)), (21, .int x21), (20, .int (S (22 + v) 0)), (19, .int (nI v)), (17, .ref qn), (16, .ref qs), (15, .int 1), (0, .ref b), (1, .int time), (2, .ref (β 0)), (3, .ref (a 0)), (4, .ref told), (5, .int mm), (6, .int stp), (8, .int ah), (11, .int pk), (12, .int si), (13, .int mo), (14, .int kx)] → W p l e room_1 s m args below meth c H locs (cells + 0) (slots + 0) Q (F0 m 527 ls []) := by
    intro x21 ls hl
    refine lv_iconst (v := 1) hx hb dL_law_527 (by decide) ?_
    refine lv_goto (tgt := 532) hx hb dL_law_528 (by decide) ?_
    refine lv_istore (lv' := [(23, .int 1), (22, .int (cgS sv gv)), (21, .int x21), (20, .int (S (22 + v) 0)), (19, .int (nI v)), (17, .ref qn), (16, .ref qs), (15, .int 1), (0, .ref b), (1, .int time), (2, .ref (β 0)), (3, .ref (a 0)), (4, .ref told), (5, .int mm), (6, .int stp), (8, .int ah), (11, .int pk), (12, .int si), (13, .int mo), (14, .int kx)]) hx hb dL_law_532 hl (by decide) rfl (fun ls hl => ?_)
    refine lv_iload hx hb dL_law_534 (lv_at hl 0 rfl) ?_
    refine lv_if_eq (tgt := 674) hx hb dL_law_536 (by decide) (fun c9 => absurd c9 (by decide)) (fun _ => ?_)
    refine lv_aload_n hx hb dL_law_539 rfl (lv_at hl 11 rfl) ?_
    refine lv_iload hx hb dL_law_540 (lv_at hl 4 rfl) ?_
    refine lv_iconst (v := 1) hx hb dL_law_542 (by decide) ?_
    refine t_cVi (As := [.int (nI v), .int 1]) (rest := []) ⟨hx, hb, hml, hown, hts⟩ (c_X9_ofVoice l G cA a (t_ap hD) S L H.size (nI v) 1 n0 n1 (by decide) (by decide)) (cwV 2 hts gL_law_X9_ofVoice rfl rfl rfl (by decide +kernel) ⟨Nat.le_of_ble_eq_true rfl, Nat.le_of_ble_eq_true rfl⟩) hK.1 hA hP hD hS rfl hl.1 rfl (lv_room (Nat.le_of_ble_eq_true rfl)) dL_law_543 ⟨hc, hs⟩ (fun H locs hP hD hS => ?_)
    rw [ov1 hv]
    refine lv_if_lt (tgt := 674) hx hb dL_law_546 (by decide) (fun c9 => absurd c9 (rg_ge V1 (show (0 : Int32).toInt = 0 from by decide) (by decide))) (fun _ => ?_)
    refine lv_aload_n hx hb dL_law_549 rfl (lv_at hl 11 rfl) ?_
    refine lv_iload hx hb dL_law_550 (lv_at hl 4 rfl) ?_
    refine lv_iconst (v := 1) hx hb dL_law_552 (by decide) ?_
    refine t_cVi (As := [.int (nI v), .int 1]) (rest := []) ⟨hx, hb, hml, hown, hts⟩ (c_X9_ofVoice l G cA a (t_ap hD) S L H.size (nI v) 1 n0 n1 (by decide) (by decide)) (cwV 2 hts gL_law_X9_ofVoice rfl rfl rfl (by decide +kernel) ⟨Nat.le_of_ble_eq_true rfl, Nat.le_of_ble_eq_true rfl⟩) hK.1 hA hP hD hS rfl hl.1 rfl (lv_room (Nat.le_of_ble_eq_true rfl)) dL_law_553 ⟨hc, hs⟩ (fun H locs hP hD hS => ?_)
    rw [ov1 hv]
    refine lv_ldc (v := 1000000) hx hb hown (hts (.constant RL 88 1000000) (by decide +kernel)) dL_law_556 ?_
    refine lv_icmp_gt (tgt := 674) hx hb dL_law_558 (by decide) (fun c9 => absurd c9 (rg_ngt V1 (show (1000000 : Int32).toInt = 1000000 from by decide) (by decide))) (fun _ => ?_)
    have hj594 : ∀ (H : Heap) (locs : List Loc), va_P G vwCl (wB a cA c2 c3 β ρ b wr S L B (X ++ [(qs, .inl (cA, 4, .inl f))] ++ [(qn, .inl (cA, 4, .inl g))])) H → va_D A0 (wB a cA c2 c3 β ρ b wr S L B (X ++ [(qs, .inl (cA, 4, .inl f))] ++ [(qn, .inl (cA, 4, .inl g))])) → va_S A0 s.heap H locs → W p l e room_1 s m args below meth c H locs cells slots Q (F0 m 594 ls []) := by
      intro H locs hP hD hS
      refine lv_aload_n hx hb dL_law_594 rfl (lv_at hl 11 rfl) ?_
      refine lv_iload hx hb dL_law_595 (lv_at hl 4 rfl) ?_
      refine lv_bipush (v := 7) hx hb dL_law_597 (by decide) ?_
      refine t_cVi (As := [.int (nI v), .int 7]) (rest := []) ⟨hx, hb, hml, hown, hts⟩ (c_X9_ofVoice l G cA a (t_ap hD) S L H.size (nI v) 7 n0 n1 (by decide) (by decide)) (cwV 2 hts gL_law_X9_ofVoice rfl rfl rfl (by decide +kernel) ⟨Nat.le_of_ble_eq_true rfl, Nat.le_of_ble_eq_true rfl⟩) hK.1 hA hP hD hS rfl hl.1 rfl (lv_room (Nat.le_of_ble_eq_true rfl)) dL_law_599 ⟨hc, hs⟩ (fun H locs hP hD hS => ?_)
      rw [ov7 hv]
      refine va_mabs hx hb (hml.trans hl.1.symm) hown (hts (.methodLink RL 77 Lib.Math.abs.name) (by decide +kernel)) (hts (.static Lib.Math.abs.name) (by decide +kernel)) (hts (.initialized "java/lang/Math") (by decide +kernel)) (hts (.code Lib.Math.abs.name Lib.Math.abs.code 1 (some .int)) (by decide +kernel)) (Nat.le_of_ble_eq_true rfl) (Nat.le_of_ble_eq_true rfl) hc hs dL_law_602 ?_
      refine W.eq (g2 := F0 m 605 ls [.int (abv (S (22 + v) 7))]) rfl ?_
      refine lv_sipush (v := 4000) hx hb dL_law_605 (by decide) ?_
      refine lv_icmp_gt (tgt := 674) hx hb dL_law_608 (by decide) (fun c9 => absurd c9 (abv_le V7 (by decide) (by decide))) (fun _ => ?_)
      refine lv_aload_n hx hb dL_law_611 rfl (lv_at hl 11 rfl) ?_
      refine lv_iload hx hb dL_law_612 (lv_at hl 4 rfl) ?_
      refine lv_bipush (v := 8) hx hb dL_law_614 (by decide) ?_
      refine t_cVi (As := [.int (nI v), .int 8]) (rest := []) ⟨hx, hb, hml, hown, hts⟩ (c_X9_ofVoice l G cA a (t_ap hD) S L H.size (nI v) 8 n0 n1 (by decide) (by decide)) (cwV 2 hts gL_law_X9_ofVoice rfl rfl rfl (by decide +kernel) ⟨Nat.le_of_ble_eq_true rfl, Nat.le_of_ble_eq_true rfl⟩) hK.1 hA hP hD hS rfl hl.1 rfl (lv_room (Nat.le_of_ble_eq_true rfl)) dL_law_616 ⟨hc, hs⟩ (fun H locs hP hD hS => ?_)
      rw [ov8 hv]
      refine va_mabs hx hb (hml.trans hl.1.symm) hown (hts (.methodLink RL 77 Lib.Math.abs.name) (by decide +kernel)) (hts (.static Lib.Math.abs.name) (by decide +kernel)) (hts (.initialized "java/lang/Math") (by decide +kernel)) (hts (.code Lib.Math.abs.name Lib.Math.abs.code 1 (some .int)) (by decide +kernel)) (Nat.le_of_ble_eq_true rfl) (Nat.le_of_ble_eq_true rfl) hc hs dL_law_619 ?_
      refine W.eq (g2 := F0 m 622 ls [.int (abv (S (22 + v) 8))]) rfl ?_
      refine lv_sipush (v := 4000) hx hb dL_law_622 (by decide) ?_
      refine lv_icmp_gt (tgt := 674) hx hb dL_law_625 (by decide) (fun c9 => absurd c9 (abv_le V8 (by decide) (by decide))) (fun _ => ?_)
      refine lv_aload_n hx hb dL_law_628 rfl (lv_at hl 11 rfl) ?_
      refine lv_iload hx hb dL_law_629 (lv_at hl 4 rfl) ?_
      refine lv_iconst (v := 5) hx hb dL_law_631 (by decide) ?_
      refine t_cVi (As := [.int (nI v), .int 5]) (rest := []) ⟨hx, hb, hml, hown, hts⟩ (c_X9_ofVoice l G cA a (t_ap hD) S L H.size (nI v) 5 n0 n1 (by decide) (by decide)) (cwV 2 hts gL_law_X9_ofVoice rfl rfl rfl (by decide +kernel) ⟨Nat.le_of_ble_eq_true rfl, Nat.le_of_ble_eq_true rfl⟩) hK.1 hA hP hD hS rfl hl.1 rfl (lv_room (Nat.le_of_ble_eq_true rfl)) dL_law_632 ⟨hc, hs⟩ (fun H locs hP hD hS => ?_)
      rw [ov5 hv]
      refine lv_if_lt (tgt := 674) hx hb dL_law_635 (by decide) (fun c9 => absurd c9 (rg_ge V5 (show (0 : Int32).toInt = 0 from by decide) (by decide))) (fun _ => ?_)
      refine lv_aload_n hx hb dL_law_638 rfl (lv_at hl 11 rfl) ?_
      refine lv_iload hx hb dL_law_639 (lv_at hl 4 rfl) ?_
      refine lv_iconst (v := 5) hx hb dL_law_641 (by decide) ?_
      refine t_cVi (As := [.int (nI v), .int 5]) (rest := []) ⟨hx, hb, hml, hown, hts⟩ (c_X9_ofVoice l G cA a (t_ap hD) S L H.size (nI v) 5 n0 n1 (by decide) (by decide)) (cwV 2 hts gL_law_X9_ofVoice rfl rfl rfl (by decide +kernel) ⟨Nat.le_of_ble_eq_true rfl, Nat.le_of_ble_eq_true rfl⟩) hK.1 hA hP hD hS rfl hl.1 rfl (lv_room (Nat.le_of_ble_eq_true rfl)) dL_law_642 ⟨hc, hs⟩ (fun H locs hP hD hS => ?_)
      rw [ov5 hv]
      refine lv_ldc (v := 65535) hx hb hown (hts (.constant RL 89 65535) (by decide +kernel)) dL_law_645 ?_
      refine lv_icmp_gt (tgt := 674) hx hb dL_law_647 (by decide) (fun c9 => absurd c9 (rg_ngt V5 (show (65535 : Int32).toInt = 65535 from by decide) (by decide))) (fun _ => ?_)
      refine lv_aload_n hx hb dL_law_650 rfl (lv_at hl 11 rfl) ?_
      refine lv_iload hx hb dL_law_651 (lv_at hl 4 rfl) ?_
      refine lv_bipush (v := 6) hx hb dL_law_653 (by decide) ?_
      refine t_cVi (As := [.int (nI v), .int 6]) (rest := []) ⟨hx, hb, hml, hown, hts⟩ (c_X9_ofVoice l G cA a (t_ap hD) S L H.size (nI v) 6 n0 n1 (by decide) (by decide)) (cwV 2 hts gL_law_X9_ofVoice rfl rfl rfl (by decide +kernel) ⟨Nat.le_of_ble_eq_true rfl, Nat.le_of_ble_eq_true rfl⟩) hK.1 hA hP hD hS rfl hl.1 rfl (lv_room (Nat.le_of_ble_eq_true rfl)) dL_law_655 ⟨hc, hs⟩ (fun H locs hP hD hS => ?_)
      rw [ov6 hv]
      refine lv_if_lt (tgt := 674) hx hb dL_law_658 (by decide) (fun c9 => absurd c9 (rg_ge V6 (show (0 : Int32).toInt = 0 from by decide) (by decide))) (fun _ => ?_)
      refine lv_aload_n hx hb dL_law_661 rfl (lv_at hl 11 rfl) ?_
      refine lv_iload hx hb dL_law_662 (lv_at hl 4 rfl) ?_
      refine lv_bipush (v := 6) hx hb dL_law_664 (by decide) ?_
      refine t_cVi (As := [.int (nI v), .int 6]) (rest := []) ⟨hx, hb, hml, hown, hts⟩ (c_X9_ofVoice l G cA a (t_ap hD) S L H.size (nI v) 6 n0 n1 (by decide) (by decide)) (cwV 2 hts gL_law_X9_ofVoice rfl rfl rfl (by decide +kernel) ⟨Nat.le_of_ble_eq_true rfl, Nat.le_of_ble_eq_true rfl⟩) hK.1 hA hP hD hS rfl hl.1 rfl (lv_room (Nat.le_of_ble_eq_true rfl)) dL_law_666 ⟨hc, hs⟩ (fun H locs hP hD hS => ?_)
      rw [ov6 hv]
      refine lv_ldc (v := 65535) hx hb hown (hts (.constant RL 89 65535) (by decide +kernel)) dL_law_669 ?_
      refine lv_icmp_le (tgt := 676) hx hb dL_law_671 (by decide) (fun _ => ?_) (fun c9 => absurd (rg_le V6 (show (65535 : Int32).toInt = 65535 from by decide) (by decide)) c9)
      refine lv_iinc (k := 4) (v := nI (v + 1)) (lv' := [(19, .int (nI (v + 1))), (23, .int 1), (22, .int (cgS sv gv)), (21, .int x21), (20, .int (S (22 + v) 0)), (17, .ref qn), (16, .ref qs), (15, .int 1), (0, .ref b), (1, .int time), (2, .ref (β 0)), (3, .ref (a 0)), (4, .ref told), (5, .int mm), (6, .int stp), (8, .int ah), (11, .int pk), (12, .int si), (13, .int mo), (14, .int kx)]) hx hb dL_law_676 hl rfl (by rw [show Int32.ofInt 1 = nI 1 from rfl]; exact nI_add v 1) (by decide) rfl (fun ls hl => ?_)
      refine lv_goto (tgt := 417) hx hb dL_law_679 (by decide) ?_
      exact kk H locs ls hP hD hS (lv_sub hl [0, 5, 6, 7, 8, 9, 10, 11, 12, 13, 14, 15, 16, 17, 18, 19] rfl)
    refine lv_iload hx hb dL_law_561 (lv_at hl 3 rfl) ?_
    refine lv_if_ne (tgt := 570) hx hb dL_law_563 (by decide) (fun c1 => ?_) (fun c1 => ?_)
    ·
      refine lv_iconst (v := 0) hx hb dL_law_570 (by decide) ?_
      refine lv_aload_n hx hb dL_law_571 rfl (lv_at hl 11 rfl) ?_
      refine lv_iload hx hb dL_law_572 (lv_at hl 4 rfl) ?_
      refine lv_iconst (v := 1) hx hb dL_law_574 (by decide) ?_
      refine t_cVi (As := [.int (nI v), .int 1]) (rest := [.int 0]) ⟨hx, hb, hml, hown, hts⟩ (c_X9_ofVoice l G cA a (t_ap hD) S L H.size (nI v) 1 n0 n1 (by decide) (by decide)) (cwV 2 hts gL_law_X9_ofVoice rfl rfl rfl (by decide +kernel) ⟨Nat.le_of_ble_eq_true rfl, Nat.le_of_ble_eq_true rfl⟩) hK.1 hA hP hD hS rfl hl.1 rfl (lv_room (Nat.le_of_ble_eq_true rfl)) dL_law_575 ⟨hc, hs⟩ (fun H locs hP hD hS => ?_)
      rw [ov1 hv]
      have c1 : ¬ S (22 + v) 0 = 0 := c1
      refine lv_if_ne (tgt := 585) hx hb dL_law_578 (by decide) (fun c2 => ?_) (fun c2 => ?_)
      ·
        refine lv_iconst (v := 0) hx hb dL_law_585 (by decide) ?_
        refine lv_icmp_eq (tgt := 594) hx hb dL_law_586 (by decide) (fun _ => ?_) (fun c9 => absurd rfl c9)
        exact hj594 H locs hP hD hS
      ·
        refine lv_iconst (v := 1) hx hb dL_law_581 (by decide) ?_
        refine lv_goto (tgt := 586) hx hb dL_law_582 (by decide) ?_
        refine lv_icmp_eq (tgt := 594) hx hb dL_law_586 (by decide) (fun c9 => absurd c9 (by decide)) (fun _ => ?_)
        refine lv_iload hx hb dL_law_589 (lv_at hl 3 rfl) ?_
        refine lv_if_eq (tgt := 674) hx hb dL_law_591 (by decide) (fun c9 => absurd c9 c1) (fun _ => ?_)
        exact hj594 H locs hP hD hS
    ·
      refine lv_iconst (v := 1) hx hb dL_law_566 (by decide) ?_
      refine lv_goto (tgt := 571) hx hb dL_law_567 (by decide) ?_
      refine lv_aload_n hx hb dL_law_571 rfl (lv_at hl 11 rfl) ?_
      refine lv_iload hx hb dL_law_572 (lv_at hl 4 rfl) ?_
      refine lv_iconst (v := 1) hx hb dL_law_574 (by decide) ?_
      refine t_cVi (As := [.int (nI v), .int 1]) (rest := [.int 1]) ⟨hx, hb, hml, hown, hts⟩ (c_X9_ofVoice l G cA a (t_ap hD) S L H.size (nI v) 1 n0 n1 (by decide) (by decide)) (cwV 2 hts gL_law_X9_ofVoice rfl rfl rfl (by decide +kernel) ⟨Nat.le_of_ble_eq_true rfl, Nat.le_of_ble_eq_true rfl⟩) hK.1 hA hP hD hS rfl hl.1 rfl (lv_room (Nat.le_of_ble_eq_true rfl)) dL_law_575 ⟨hc, hs⟩ (fun H locs hP hD hS => ?_)
      rw [ov1 hv]
      have c1 : S (22 + v) 0 = 0 := c1
      refine lv_if_ne (tgt := 585) hx hb dL_law_578 (by decide) (fun c9 => absurd c9 (fun c8 => c8 (V2 c1))) (fun _ => ?_)
      refine lv_iconst (v := 1) hx hb dL_law_581 (by decide) ?_
      refine lv_goto (tgt := 586) hx hb dL_law_582 (by decide) ?_
      refine lv_icmp_eq (tgt := 594) hx hb dL_law_586 (by decide) (fun _ => ?_) (fun c9 => absurd rfl c9)
      exact hj594 H locs hP hD hS
  have hj483 : ∀ (x21 : Int32) (ls : Array Slot), lv_has ls 24 [(21, .int x21), (20, .int (S (22 + v) 0)), (19, .int (nI v)), (17, .ref qn), (16, .ref qs), (15, .int 1), (0, .ref b), (1, .int time), (2, .ref (β 0)), (3, .ref (a 0)), (4, .ref told), (5, .int mm), (6, .int stp), (8, .int ah), (11, .int pk), (12, .int si), (13, .int mo), (14, .int kx)] → W p l e room_1 s m args below meth c H locs (cells + 0) (slots + 0) Q (F0 m 483 ls [.int (cgS sv gv)]) := by
    intro x21 ls hl
    refine lv_istore (lv' := [(22, .int (cgS sv gv)), (21, .int x21), (20, .int (S (22 + v) 0)), (19, .int (nI v)), (17, .ref qn), (16, .ref qs), (15, .int 1), (0, .ref b), (1, .int time), (2, .ref (β 0)), (3, .ref (a 0)), (4, .ref told), (5, .int mm), (6, .int stp), (8, .int ah), (11, .int pk), (12, .int si), (13, .int mo), (14, .int kx)]) hx hb dL_law_483 hl (by decide) rfl (fun ls hl => ?_)
    refine lv_iload hx hb dL_law_485 (lv_at hl 2 rfl) ?_
    refine lv_iload hx hb dL_law_487 (lv_at hl 0 rfl) ?_
    have d1 : S (22 + v) 0 = cgS sv gv ∨ (cgS sv gv = 1 ∧ S (22 + v) 0 = 2) ∨ (cgS sv gv = 2 ∧ S (22 + v) 0 = 3) ∨ (cgS sv gv = 4 ∧ S (22 + v) 0 = 0) := hTr
    refine lv_icmp_eq (tgt := 527) hx hb dL_law_489 (by decide) (fun c1 => ?_) (fun c1 => ?_)
    · exact hj527 x21 ls hl
    ·
      have d2 := d1.resolve_left c1
      refine lv_iload hx hb dL_law_492 (lv_at hl 0 rfl) ?_
      refine lv_iconst (v := 1) hx hb dL_law_494 (by decide) ?_
      refine lv_icmp_ne (tgt := 504) hx hb dL_law_495 (by decide) (fun c2 => ?_) (fun c2 => ?_)
      ·
        have d3 := d2.resolve_left (fun z => c2 z.1)
        refine lv_iload hx hb dL_law_504 (lv_at hl 0 rfl) ?_
        refine lv_iconst (v := 2) hx hb dL_law_506 (by decide) ?_
        refine lv_icmp_ne (tgt := 516) hx hb dL_law_507 (by decide) (fun c4 => ?_) (fun c4 => ?_)
        ·
          have d4 := (d3).resolve_left (fun z => c4 z.1)
          refine lv_iload hx hb dL_law_516 (lv_at hl 0 rfl) ?_
          refine lv_iconst (v := 4) hx hb dL_law_518 (by decide) ?_
          refine lv_icmp_ne (tgt := 531) hx hb dL_law_519 (by decide) (fun c9 => absurd c9 (fun c8 => c8 (d4).1)) (fun _ => ?_)
          refine lv_iload hx hb dL_law_522 (lv_at hl 2 rfl) ?_
          refine lv_if_ne (tgt := 531) hx hb dL_law_524 (by decide) (fun c9 => absurd c9 (fun c8 => c8 (d4).2)) (fun _ => ?_)
          exact hj527 x21 ls hl
        ·
          refine lv_iload hx hb dL_law_510 (lv_at hl 2 rfl) ?_
          refine lv_iconst (v := 3) hx hb dL_law_512 (by decide) ?_
          refine lv_icmp_eq (tgt := 527) hx hb dL_law_513 (by decide) (fun c5 => ?_) (fun c5 => ?_)
          · exact hj527 x21 ls hl
          ·
            have d4 := (d3).resolve_left (fun z => c5 z.2)
            refine lv_iload hx hb dL_law_516 (lv_at hl 0 rfl) ?_
            refine lv_iconst (v := 4) hx hb dL_law_518 (by decide) ?_
            refine lv_icmp_ne (tgt := 531) hx hb dL_law_519 (by decide) (fun c9 => absurd c9 (fun c8 => c8 (d4).1)) (fun _ => ?_)
            refine lv_iload hx hb dL_law_522 (lv_at hl 2 rfl) ?_
            refine lv_if_ne (tgt := 531) hx hb dL_law_524 (by decide) (fun c9 => absurd c9 (fun c8 => c8 (d4).2)) (fun _ => ?_)
            exact hj527 x21 ls hl
      ·
        refine lv_iload hx hb dL_law_498 (lv_at hl 2 rfl) ?_
        refine lv_iconst (v := 2) hx hb dL_law_500 (by decide) ?_
        refine lv_icmp_eq (tgt := 527) hx hb dL_law_501 (by decide) (fun c3 => ?_) (fun c3 => ?_)
        · exact hj527 x21 ls hl
        ·
          have d3 := d2.resolve_left (fun z => c3 z.2)
          refine lv_iload hx hb dL_law_504 (lv_at hl 0 rfl) ?_
          refine lv_iconst (v := 2) hx hb dL_law_506 (by decide) ?_
          refine lv_icmp_ne (tgt := 516) hx hb dL_law_507 (by decide) (fun c4 => ?_) (fun c4 => ?_)
          ·
            have d4 := (d3).resolve_left (fun z => c4 z.1)
            refine lv_iload hx hb dL_law_516 (lv_at hl 0 rfl) ?_
            refine lv_iconst (v := 4) hx hb dL_law_518 (by decide) ?_
            refine lv_icmp_ne (tgt := 531) hx hb dL_law_519 (by decide) (fun c9 => absurd c9 (fun c8 => c8 (d4).1)) (fun _ => ?_)
            refine lv_iload hx hb dL_law_522 (lv_at hl 2 rfl) ?_
            refine lv_if_ne (tgt := 531) hx hb dL_law_524 (by decide) (fun c9 => absurd c9 (fun c8 => c8 (d4).2)) (fun _ => ?_)
            exact hj527 x21 ls hl
          ·
            refine lv_iload hx hb dL_law_510 (lv_at hl 2 rfl) ?_
            refine lv_iconst (v := 3) hx hb dL_law_512 (by decide) ?_
            refine lv_icmp_eq (tgt := 527) hx hb dL_law_513 (by decide) (fun c5 => ?_) (fun c5 => ?_)
            · exact hj527 x21 ls hl
            ·
              have d4 := (d3).resolve_left (fun z => c5 z.2)
              refine lv_iload hx hb dL_law_516 (lv_at hl 0 rfl) ?_
              refine lv_iconst (v := 4) hx hb dL_law_518 (by decide) ?_
              refine lv_icmp_ne (tgt := 531) hx hb dL_law_519 (by decide) (fun c9 => absurd c9 (fun c8 => c8 (d4).1)) (fun _ => ?_)
              refine lv_iload hx hb dL_law_522 (lv_at hl 2 rfl) ?_
              refine lv_if_ne (tgt := 531) hx hb dL_law_524 (by decide) (fun c9 => absurd c9 (fun c8 => c8 (d4).2)) (fun _ => ?_)
              exact hj527 x21 ls hl
  refine lv_aload hx hb dL_law_437 (lv_at hl 2 rfl) ?_
  refine lv_iload hx hb dL_law_439 (lv_at hl 1 rfl) ?_
  refine s_ild hx hb hK.2.1 hP (wB_X x_last) (vp_in_nI hv (by decide)) (j := v) (nI_clamp (by omega)) (v := gv) hg dL_law_441 ?_
  refine lv_if_ne (tgt := 466) hx hb dL_law_442 (by decide) (fun c1 => ?_) (fun c1 => ?_)
  ·
    refine lv_iconst (v := 0) hx hb dL_law_466 (by decide) ?_
    refine lv_istore (lv' := [(21, .int 0), (20, .int (S (22 + v) 0)), (19, .int (nI v)), (17, .ref qn), (16, .ref qs), (15, .int 1), (0, .ref b), (1, .int time), (2, .ref (β 0)), (3, .ref (a 0)), (4, .ref told), (5, .int mm), (6, .int stp), (8, .int ah), (11, .int pk), (12, .int si), (13, .int mo), (14, .int kx)]) hx hb dL_law_467 hl (by decide) rfl (fun ls hl => ?_)
    refine lv_iload hx hb dL_law_469 (lv_at hl 0 rfl) ?_
    refine lv_if_eq (tgt := 478) hx hb dL_law_471 (by decide) (fun _ => ?_) (fun c9 => absurd rfl c9)
    refine lv_aload hx hb dL_law_478 (lv_at hl 4 rfl) ?_
    refine lv_iload hx hb dL_law_480 (lv_at hl 2 rfl) ?_
    refine s_ild hx hb hK.2.1 hP (wB_X x_l2) (vp_in_nI hv (by decide)) (j := v) (nI_clamp (by omega)) (v := sv) hf dL_law_482 ?_
    rw [show sv = cgS sv gv from (if_neg c1).symm]
    exact hj483 0 ls hl
  ·
    refine lv_aload hx hb dL_law_445 (lv_at hl 3 rfl) ?_
    refine lv_iload hx hb dL_law_447 (lv_at hl 1 rfl) ?_
    refine s_ild hx hb hK.2.1 hP (wB_X x_l2) (vp_in_nI hv (by decide)) (j := v) (nI_clamp (by omega)) (v := sv) hf dL_law_449 ?_
    refine lv_if_le (tgt := 466) hx hb dL_law_450 (by decide) (fun c2 => ?_) (fun c2 => ?_)
    ·
      refine lv_iconst (v := 0) hx hb dL_law_466 (by decide) ?_
      refine lv_istore (lv' := [(21, .int 0), (20, .int (S (22 + v) 0)), (19, .int (nI v)), (17, .ref qn), (16, .ref qs), (15, .int 1), (0, .ref b), (1, .int time), (2, .ref (β 0)), (3, .ref (a 0)), (4, .ref told), (5, .int mm), (6, .int stp), (8, .int ah), (11, .int pk), (12, .int si), (13, .int mo), (14, .int kx)]) hx hb dL_law_467 hl (by decide) rfl (fun ls hl => ?_)
      refine lv_iload hx hb dL_law_469 (lv_at hl 0 rfl) ?_
      refine lv_if_eq (tgt := 478) hx hb dL_law_471 (by decide) (fun _ => ?_) (fun c9 => absurd rfl c9)
      refine lv_aload hx hb dL_law_478 (lv_at hl 4 rfl) ?_
      refine lv_iload hx hb dL_law_480 (lv_at hl 2 rfl) ?_
      refine s_ild hx hb hK.2.1 hP (wB_X x_l2) (vp_in_nI hv (by decide)) (j := v) (nI_clamp (by omega)) (v := sv) hf dL_law_482 ?_
      have c2 : sv ≤ 0 := c2
      have e9 : cgS sv gv = sv := by
        have z9 : sv = 0 := cgs_z h5 c2
        unfold cgS
        rw [if_pos c1, if_pos z9]
      have hj := hj483 0 ls
      rw [e9] at hj
      exact hj hl
    ·
      refine lv_aload hx hb dL_law_453 (lv_at hl 3 rfl) ?_
      refine lv_iload hx hb dL_law_455 (lv_at hl 1 rfl) ?_
      refine s_ild hx hb hK.2.1 hP (wB_X x_l2) (vp_in_nI hv (by decide)) (j := v) (nI_clamp (by omega)) (v := sv) hf dL_law_457 ?_
      refine lv_iconst (v := 4) hx hb dL_law_458 (by decide) ?_
      refine lv_icmp_ge (tgt := 466) hx hb dL_law_459 (by decide) (fun c3 => ?_) (fun c3 => ?_)
      ·
        refine lv_iconst (v := 0) hx hb dL_law_466 (by decide) ?_
        refine lv_istore (lv' := [(21, .int 0), (20, .int (S (22 + v) 0)), (19, .int (nI v)), (17, .ref qn), (16, .ref qs), (15, .int 1), (0, .ref b), (1, .int time), (2, .ref (β 0)), (3, .ref (a 0)), (4, .ref told), (5, .int mm), (6, .int stp), (8, .int ah), (11, .int pk), (12, .int si), (13, .int mo), (14, .int kx)]) hx hb dL_law_467 hl (by decide) rfl (fun ls hl => ?_)
        refine lv_iload hx hb dL_law_469 (lv_at hl 0 rfl) ?_
        refine lv_if_eq (tgt := 478) hx hb dL_law_471 (by decide) (fun _ => ?_) (fun c9 => absurd rfl c9)
        refine lv_aload hx hb dL_law_478 (lv_at hl 4 rfl) ?_
        refine lv_iload hx hb dL_law_480 (lv_at hl 2 rfl) ?_
        refine s_ild hx hb hK.2.1 hP (wB_X x_l2) (vp_in_nI hv (by decide)) (j := v) (nI_clamp (by omega)) (v := sv) hf dL_law_482 ?_
        have e9 : cgS sv gv = sv := cgs_4 h5 c3 c1
        have hj := hj483 0 ls
        rw [e9] at hj
        exact hj hl
      ·
        refine lv_iconst (v := 1) hx hb dL_law_462 (by decide) ?_
        refine lv_goto (tgt := 467) hx hb dL_law_463 (by decide) ?_
        refine lv_istore (lv' := [(21, .int 1), (20, .int (S (22 + v) 0)), (19, .int (nI v)), (17, .ref qn), (16, .ref qs), (15, .int 1), (0, .ref b), (1, .int time), (2, .ref (β 0)), (3, .ref (a 0)), (4, .ref told), (5, .int mm), (6, .int stp), (8, .int ah), (11, .int pk), (12, .int si), (13, .int mo), (14, .int kx)]) hx hb dL_law_467 hl (by decide) rfl (fun ls hl => ?_)
        refine lv_iload hx hb dL_law_469 (lv_at hl 0 rfl) ?_
        refine lv_if_eq (tgt := 478) hx hb dL_law_471 (by decide) (fun c9 => absurd c9 (by decide)) (fun _ => ?_)
        refine lv_iconst (v := 4) hx hb dL_law_474 (by decide) ?_
        refine lv_goto (tgt := 483) hx hb dL_law_475 (by decide) ?_
        have e9 : cgS sv gv = 4 := cgs_1 c2 c1
        have hj := hj483 1 ls
        rw [e9] at hj
        exact hj hl
end LWK
