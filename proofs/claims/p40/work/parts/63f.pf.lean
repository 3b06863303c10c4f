theorem nI_pos1 {i : Nat} (h : 1 ≤ i) (hi : i < 2 ^ 31) : ¬ nI i < 1 := by
  rw [Int32.lt_iff_toInt_lt, nI_toInt hi, show (1 : Int32).toInt = 1 from by decide]
  omega
section LWK
variable {p : Program} {l : Launch} {e : Env} {s : State} {m : MethodId} {args : Array Value} {below : List Frame} {meth : Method} {c : Code} {H : Heap} {locs : List Loc} {cells slots : Nat} {Q : State → Prop}
variable {ls : Array Slot} {G : va_G} {A0 : Nat → Prop} {cA c2 c3 : ClassId} {a β ρ : Nat → Nat} {b N : Nat} {xs : Nat → Int32} {wr : Nat → Nat → Option Nat} {S : Mm} {L : Int64} {B : Mm} {X : va_W}
theorem far_tr {S S1 S2 : Mm} (h1 : far S S1) (h2 : far S1 S2) : far S S2 := fun o h => (h2 o h).trans (h1 o h)
theorem lg_self (x : Int64) : lg_cmp x x = 0 := by
  unfold lg_cmp
  simp
theorem MT_far {S S' : Mm} {L : Int64} {m : Nat} {t : Nat → Int32} (f : far S S') (h : MT S L m t) : MT S' L m t := MT_fr h (by rw [f 18 (by decide)]) (f 34 (by decide)) (f 36 (by decide))
theorem RB_far {S S' B : Mm} (f : far S S') (h : RB S B) : RB S' B := RB_fr h (fun o ho => f o (by omega))
theorem sq_n {S : Mm} {L : Int64} {o : Nat} (h : o < 18) : ∀ i, (sq S L i).1 o = S o
  | 0 => by rw [sq_0]
  | i + 1 => by rw [sq_s]; exact (smp_n (Or.inl h) (by omega) (by omega)).trans (sq_n h i)
theorem RB_sq {S B : Mm} {L : Int64} {i : Nat} (h : RB S B) : RB (sq S L i).1 B := RB_fr h (fun o ho => sq_n (by omega) i)
theorem P_nilR {G : va_G} {ws : va_W} {H : Heap} (h : va_P G vwCl ws H) : va_P G vwCl (ws ++ []) H := by rw [List.append_nil]; exact h
theorem D_nilR {A : Nat → Prop} {ws : va_W} (h : va_D A ws) : va_D A (ws ++ []) := by rw [List.append_nil]; exact h
theorem wp_val {S S2 : Mm} {L : Int64} {n : Nat} (hn : n < 2 ^ 31) (h : far S S2) : rX9_wouldPeak S (nI n) = mxs S2 L n := by
  unfold rX9_wouldPeak
  rw [nI_clamp hn]
  exact (wp_sq (Q_far h) n).1
theorem nI_inj {i j : Nat} (hi : i < 2 ^ 31) (hj : j < 2 ^ 31) (h : nI i = nI j) : i = j := by
  have := congrArg Int32.toInt h
  rw [nI_toInt hi, nI_toInt hj] at this
  omega
theorem nI_nn {i : Nat} (hi : i < 2 ^ 31) : ¬ nI i = -1 ∧ (0 < i → ¬ nI i = 0) := by
  refine ⟨fun h => ?_, fun h0 h => ?_⟩
  · have := congrArg Int32.toInt h
    rw [nI_toInt hi, show (-1 : Int32).toInt = -1 from by decide] at this
    omega
  · have := nI_inj hi (by decide) (show nI i = nI 0 from h)
    omega
/-- what silentIn says, in the law's own questions -/
theorem si_all {S S2 : Mm} {L : Int64} {n : Nat} (h0 : 0 < n) (hn : n ≤ 200) (h : Qs 0 S2 = Qs 0 S) : (rX9_silentIn S (nI n) = 0 ↔ rX9_sounding S2 = 0) ∧ (∀ j, 0 < j → j ≤ n → rX9_silentIn S (nI n) = nI j → sdz S2 L j = 0) ∧ (rX9_silentIn S (nI n) < 0 → ¬ sdz S2 L n = 0) := by
  have e0 : sdz S2 L 0 = rX9_sounding S2 := by
    unfold sdz
    rw [sq_0]
    rfl
  rcases sil_ok (L := L) hn h with ⟨e, z⟩ | ⟨e, z, q⟩ | ⟨j, j0, j1, e, z, q⟩
  · rw [e]
    refine ⟨⟨fun _ => by rw [← e0]; exact z, fun _ => rfl⟩, fun j a b c => absurd c.symm ((nI_nn (by omega)).2 a), fun c => absurd c (by decide)⟩
  · rw [e]
    refine ⟨⟨fun c => absurd c (by decide), fun c => absurd (e0.trans c) z⟩, fun j a b c => absurd c.symm (nI_nn (by omega)).1, fun _ => q n h0 (Nat.le_refl _)⟩
  · rw [e]
    refine ⟨⟨fun c => absurd c ((nI_nn (by omega)).2 j0), fun c => absurd (e0.trans c) q⟩, fun k a b c => ?_, fun c => absurd c (nI_pos (by omega))⟩
    rw [← nI_inj (by omega) (by omega) c]
    exact z
set_option maxHeartbeats 4000000 in
/-- a step up to its samples -/
theorem pf_turn (C : LC p s m c args G A0 cA c2 c3 (a 37) b N xs) {time : Int32} {told mm stp : Nat} {f : Nat → Int32} {K : Int} (hKK : K ≤ 1000) (hI : IV S) (hR : RB S B) (hM : MT S L mm f) (hd : rg (B 0 2) 0 K) (hP : va_P G vwCl (wB a cA c2 c3 β ρ b wr S L B (X ++ [(told, .inl (cA, 400, .inl f))])) H) (hD : va_D A0 (wB a cA c2 c3 β ρ b wr S L B (X ++ [(told, .inl (cA, 400, .inl f))]))) (hS : va_S A0 s.heap H locs) (hc : cells ≤ 682275) (hs : slots ≤ 7054873) (hl : lv_has ls 24 [(0, .ref b), (1, .int time), (2, .ref (β 0)), (3, .ref (a 0)), (4, .ref told), (5, .int (nI mm)), (6, .int (nI stp))])
    (kk : ∀ (S2 B2 : Mm) (ah : Nat) (si : Int32) (H1 : Heap) (locs1 : List Loc) (ls1 : Array Slot), 1 ≤ ah → ah ≤ 12 → IV S2 → RB S2 B2 → MT S2 L mm f → rg (B2 0 2) 0 (K + 20) → (∀ j, 0 < j → j ≤ ah → si = nI j → sdz S2 L j = 0) → (si < 0 → ¬ sdz S2 L ah = 0) → va_P G vwCl (wB a cA c2 c3 β ρ b wr S2 L B2 (X ++ [(told, .inl (cA, 400, .inl f))])) H1 → va_D A0 (wB a cA c2 c3 β ρ b wr S2 L B2 (X ++ [(told, .inl (cA, 400, .inl f))])) → va_S A0 s.heap H1 locs1 → lv_has ls1 24 [(14, .int 0), (13, .int 0), (12, .int si), (11, .int (mxs S2 L ah)), (8, .int (nI ah)), (0, .ref b), (1, .int time), (2, .ref (β 0)), (3, .ref (a 0)), (4, .ref told), (5, .int (nI mm)), (6, .int (nI stp))] → W p l e room_1 s m args below meth c H1 locs1 cells slots Q (F0 m 292 ls1 [])) : W p l e room_1 s m args below meth c H locs cells slots Q (F0 m 137 ls []) := by
  obtain ⟨hx, hb, hml, hown, hts, hK, hA, hN⟩ := C
  refine lv_aload_n hx hb dL_law_137 rfl (lv_at hl 2 rfl) ?_
  refine lv_bipush (v := 6) hx hb dL_law_138 (by decide) ?_
  refine v_cVi (k0 := 37) (q0 := β 0) (e0 := .inr (10, bcl a β ρ b (B 0))) (e1 := .inr (10, bcl a β ρ b (upd (B 0) 2 (B 0 2 + 1)))) (As := [.int 6]) (rest := []) ⟨hx, hb, hml, hown, hts⟩ (c_X10_draw l G cA c2 c3 (a 37) b N xs H.size a β ρ (β 0) (B 0) 6 (by decide) (by decide) hN hd) (cwV 1 hts gL_law_X10_draw rfl rfl rfl (by decide +kernel) ⟨Nat.le_of_ble_eq_true rfl, Nat.le_of_ble_eq_true rfl⟩) (wB_recv hK.1.1 hP) hK hA hP hD (wB_get (o := 0) (by decide)) hS rfl hl.1 rfl (lv_room (Nat.le_of_ble_eq_true rfl)) dL_law_140 ⟨hc, hs⟩ (fun w1 H locs hw1 hP hD hS => ?_)
  rw [wB_d] at hP hD
  obtain ⟨Bd1, hBd1⟩ : ∃ Z9 : Mm, Z9 = up2 B 0 2 (B 0 2 + 1) := ⟨_, rfl⟩
  rw [← hBd1] at hP hD
  have hd1 : rg (Bd1 0 2) 0 (K + 1) := dr_rg hd (by omega) (B' := Bd1) hBd1
  have hR1 : RB S Bd1 := by
    rw [hBd1]; exact RB_dr (by decide) hR
  refine lv_istore (lv' := [(7, .int w1), (0, .ref b), (1, .int time), (2, .ref (β 0)), (3, .ref (a 0)), (4, .ref told), (5, .int (nI mm)), (6, .int (nI stp))]) hx hb dL_law_143 hl (by decide) rfl (fun ls hl => ?_)
  have hj217 : ∀ (S B : Mm) (H : Heap) (locs : List Loc), IV S → RB S B → MT S L mm f → rg (B 0 2) 0 (K + 15) → va_P G vwCl (wB a cA c2 c3 β ρ b wr S L B (X ++ [(told, .inl (cA, 400, .inl f))])) H → va_D A0 (wB a cA c2 c3 β ρ b wr S L B (X ++ [(told, .inl (cA, 400, .inl f))])) → va_S A0 s.heap H locs → W p l e room_1 s m args below meth c H locs cells slots Q (F0 m 217 ls []) := by
    intro S B H locs hI hR hM hd hP hD hS
    refine lv_iconst (v := 1) hx hb dL_law_217 (by decide) ?_
    refine lv_aload_n hx hb dL_law_218 rfl (lv_at hl 3 rfl) ?_
    refine lv_bipush (v := 12) hx hb dL_law_219 (by decide) ?_
    refine v_cVi (k0 := 37) (q0 := β 0) (e0 := .inr (10, bcl a β ρ b (B 0))) (e1 := .inr (10, bcl a β ρ b (upd (B 0) 2 (B 0 2 + 1)))) (As := [.int 12]) (rest := [.int 1]) ⟨hx, hb, hml, hown, hts⟩ (c_X10_draw l G cA c2 c3 (a 37) b N xs H.size a β ρ (β 0) (B 0) 12 (by decide) (by decide) hN hd) (cwV 1 hts gL_law_X10_draw rfl rfl rfl (by decide +kernel) ⟨Nat.le_of_ble_eq_true rfl, Nat.le_of_ble_eq_true rfl⟩) (wB_recv hK.1.1 hP) hK hA hP hD (wB_get (o := 0) (by decide)) hS rfl hl.1 rfl (lv_room (Nat.le_of_ble_eq_true rfl)) dL_law_221 ⟨hc, hs⟩ (fun w2 H locs hw2 hP hD hS => ?_)
    rw [wB_d] at hP hD
    obtain ⟨Bd2, hBd2⟩ : ∃ Z9 : Mm, Z9 = up2 B 0 2 (B 0 2 + 1) := ⟨_, rfl⟩
    rw [← hBd2] at hP hD
    have hd2 : rg (Bd2 0 2) 0 (K + 15 + 1) := dr_rg hd (by omega) (B' := Bd2) hBd2
    have hR2 : RB S Bd2 := by
      rw [hBd2]; exact RB_dr (by decide) hR
    obtain ⟨i9, hi9, ei9⟩ := vp_nI hw2 (by decide)
    obtain ⟨ah, hah⟩ : ∃ ah : Nat, ah = 1 + i9 := ⟨_, rfl⟩
    refine lv_iadd hx hb dL_law_224 ?_
    rw [ei9, show (1 : Int32) = nI 1 from rfl, nI_add, ← hah]
    refine lv_istore (lv' := [(8, .int (nI ah)), (7, .int w1), (0, .ref b), (1, .int time), (2, .ref (β 0)), (3, .ref (a 0)), (4, .ref told), (5, .int (nI mm)), (6, .int (nI stp))]) hx hb dL_law_225 hl (by decide) rfl (fun ls hl => ?_)
    refine lv_aload_n hx hb dL_law_227 rfl (lv_at hl 5 rfl) ?_
    have hB9 := nb9 hI
    refine t_cVl (As := []) (rest := []) ⟨hx, hb, hml, hown, hts⟩ (c_X9_digest l G cA a (t_ap hD) S L H.size  hB9) (cwV 0 hts gL_law_X9_digest rfl rfl rfl (by decide +kernel) ⟨Nat.le_of_ble_eq_true rfl, Nat.le_of_ble_eq_true rfl⟩) hK.1 hA hP hD hS rfl hl.1 rfl (lv_room (Nat.le_of_ble_eq_true rfl)) dL_law_228 ⟨hc, hs⟩ (fun H locs hP hD hS => ?_)
    refine lv_lstore (lv' := [(9, .long (rX9_digest S)), (8, .int (nI ah)), (7, .int w1), (0, .ref b), (1, .int time), (2, .ref (β 0)), (3, .ref (a 0)), (4, .ref told), (5, .int (nI mm)), (6, .int (nI stp))]) hx hb dL_law_231 hl (by decide) rfl (fun ls hl => ?_)
    refine lv_aload_n hx hb dL_law_233 rfl (lv_at hl 6 rfl) ?_
    refine lv_iload hx hb dL_law_234 (lv_at hl 1 rfl) ?_
    have a1 : ¬ nI ah < 1 := nI_pos1 (by omega) (by omega)
    have a2 : nI ah ≤ 200 := show nI ah ≤ nI 200 from nI_ge' (by omega) (by decide)
    refine t_cVi (As := [.int (nI ah)]) (rest := []) ⟨hx, hb, hml, hown, hts⟩ (c_X9_wouldPeak l G cA a (t_ap hD) S L H.size (nI ah) a1 a2 (e6_n hI.2.2) (e6_f hI.2.2)) (cwV 1 hts gL_law_X9_wouldPeak rfl rfl rfl (by decide +kernel) ⟨Nat.le_of_ble_eq_true rfl, Nat.le_of_ble_eq_true rfl⟩) hK.1 hA hP hD hS rfl hl.1 rfl (lv_room (Nat.le_of_ble_eq_true rfl)) dL_law_236 ⟨hc, hs⟩ (fun H locs hP hD hS => ?_)
    obtain ⟨S1, hS1⟩ : ∃ Z9 : Mm, Z9 = fX9_wouldPeak S (nI ah) := ⟨_, rfl⟩
    rw [← hS1] at hP hD
    have f1 : far S S1 := by
      rw [hS1]; exact wp_far
    have hI1 := IV_far f1 hI
    refine lv_istore (lv' := [(11, .int (rX9_wouldPeak S (nI ah))), (9, .long (rX9_digest S)), (8, .int (nI ah)), (7, .int w1), (0, .ref b), (1, .int time), (2, .ref (β 0)), (3, .ref (a 0)), (4, .ref told), (5, .int (nI mm)), (6, .int (nI stp))]) hx hb dL_law_239 hl (by decide) rfl (fun ls hl => ?_)
    refine lv_aload_n hx hb dL_law_241 rfl (lv_at hl 7 rfl) ?_
    refine lv_iload hx hb dL_law_242 (lv_at hl 2 rfl) ?_
    refine t_cVi (As := [.int (nI ah)]) (rest := []) ⟨hx, hb, hml, hown, hts⟩ (c_X9_silentIn l G cA a (t_ap hD) S1 L H.size (nI ah) a1 a2 (fun _ => e6_n hI1.2.2) (fun _ => e6_f hI1.2.2)) (cwV 1 hts gL_law_X9_silentIn rfl rfl rfl (by decide +kernel) ⟨Nat.le_of_ble_eq_true rfl, Nat.le_of_ble_eq_true rfl⟩) hK.1 hA hP hD hS rfl hl.1 rfl (lv_room (Nat.le_of_ble_eq_true rfl)) dL_law_244 ⟨hc, hs⟩ (fun H locs hP hD hS => ?_)
    obtain ⟨S2, hS2⟩ : ∃ Z9 : Mm, Z9 = fX9_silentIn S1 (nI ah) := ⟨_, rfl⟩
    rw [← hS2] at hP hD
    have f2 : far S1 S2 := by
      rw [hS2]; exact si_far
    have f3 := far_tr f1 f2
    have hI2 := IV_far f3 hI
    obtain ⟨q1, q2, q3⟩ := si_all (L := L) (by omega) (by omega) (Q_far f2) (n := ah)
    obtain ⟨si, hsi⟩ : ∃ Z9 : Int32, Z9 = rX9_silentIn S1 (nI ah) := ⟨_, rfl⟩
    rw [← hsi] at q1 q2 q3 ⊢
    rw [wp_val (L := L) (by omega) f3] at hl
    refine lv_istore (lv' := [(12, .int si), (11, .int (mxs S2 L ah)), (9, .long (rX9_digest S)), (8, .int (nI ah)), (7, .int w1), (0, .ref b), (1, .int time), (2, .ref (β 0)), (3, .ref (a 0)), (4, .ref told), (5, .int (nI mm)), (6, .int (nI stp))]) hx hb dL_law_247 hl (by decide) rfl (fun ls hl => ?_)
    refine lv_aload_n hx hb dL_law_249 rfl (lv_at hl 8 rfl) ?_
    refine t_cVl (As := []) (rest := []) ⟨hx, hb, hml, hown, hts⟩ (c_X9_digest l G cA a (t_ap hD) S2 L H.size  (nb9 hI2)) (cwV 0 hts gL_law_X9_digest rfl rfl rfl (by decide +kernel) ⟨Nat.le_of_ble_eq_true rfl, Nat.le_of_ble_eq_true rfl⟩) hK.1 hA hP hD hS rfl hl.1 rfl (lv_room (Nat.le_of_ble_eq_true rfl)) dL_law_250 ⟨hc, hs⟩ (fun H locs hP hD hS => ?_)
    rw [dg_ok f3]
    refine lv_lload hx hb dL_law_253 (lv_at hl 2 rfl) ?_
    refine W.lcmp hx hb dL_law_255 ?_
    refine lv_if_ne (tgt := 284) hx hb dL_law_256 (by decide) (fun c9 => absurd c9 (fun c8 => c8 (lg_self _))) (fun _ => ?_)
    have hj286 : ∀ (H : Heap) (locs : List Loc), va_P G vwCl (wB a cA c2 c3 β ρ b wr S2 L Bd2 (X ++ [(told, .inl (cA, 400, .inl f))])) H → va_D A0 (wB a cA c2 c3 β ρ b wr S2 L Bd2 (X ++ [(told, .inl (cA, 400, .inl f))])) → va_S A0 s.heap H locs → W p l e room_1 s m args below meth c H locs cells slots Q (F0 m 286 ls []) := by
      intro H locs hP hD hS
      refine lv_iconst (v := 0) hx hb dL_law_286 (by decide) ?_
      refine lv_istore (lv' := [(13, .int 0), (12, .int si), (11, .int (mxs S2 L ah)), (9, .long (rX9_digest S)), (8, .int (nI ah)), (7, .int w1), (0, .ref b), (1, .int time), (2, .ref (β 0)), (3, .ref (a 0)), (4, .ref told), (5, .int (nI mm)), (6, .int (nI stp))]) hx hb dL_law_287 hl (by decide) rfl (fun ls hl => ?_)
      refine lv_iconst (v := 0) hx hb dL_law_289 (by decide) ?_
      refine lv_istore (lv' := [(14, .int 0), (13, .int 0), (12, .int si), (11, .int (mxs S2 L ah)), (9, .long (rX9_digest S)), (8, .int (nI ah)), (7, .int w1), (0, .ref b), (1, .int time), (2, .ref (β 0)), (3, .ref (a 0)), (4, .ref told), (5, .int (nI mm)), (6, .int (nI stp))]) hx hb dL_law_290 hl (by decide) rfl (fun ls hl => ?_)
      exact kk S2 Bd2 ah si H locs ls (by omega) (by omega) hI2 (RB_far f3 hR2) (MT_far f3 hM) (rg_w hd2 (by omega) (by omega)) q2 q3 hP hD hS (lv_sub hl [0, 1, 2, 3, 5, 7, 8, 9, 10, 11, 12, 13] rfl)
    refine lv_iload hx hb dL_law_259 (lv_at hl 0 rfl) ?_
    refine lv_if_ne (tgt := 268) hx hb dL_law_261 (by decide) (fun c1 => ?_) (fun c1 => ?_)
    ·
      refine lv_iconst (v := 0) hx hb dL_law_268 (by decide) ?_
      refine lv_aload_n hx hb dL_law_269 rfl (lv_at hl 8 rfl) ?_
      refine t_cVi (As := []) (rest := [.int 0]) ⟨hx, hb, hml, hown, hts⟩ (c_X9_sounding l G cA a (t_ap hD) S2 L H.size  ) (cwV 0 hts gL_law_X9_sounding rfl rfl rfl (by decide +kernel) ⟨Nat.le_of_ble_eq_true rfl, Nat.le_of_ble_eq_true rfl⟩) hK.1 hA hP hD hS rfl hl.1 rfl (lv_room (Nat.le_of_ble_eq_true rfl)) dL_law_270 ⟨hc, hs⟩ (fun H locs hP hD hS => ?_)
      have c2 : ¬ rX9_sounding S2 = 0 := fun z => c1 (q1.2 z)
      refine lv_if_ne (tgt := 280) hx hb dL_law_273 (by decide) (fun _ => ?_) (fun c9 => absurd c9 c2)
      refine lv_iconst (v := 0) hx hb dL_law_280 (by decide) ?_
      refine lv_icmp_eq (tgt := 286) hx hb dL_law_281 (by decide) (fun _ => ?_) (fun c9 => absurd rfl c9)
      exact hj286 H locs hP hD hS
    ·
      refine lv_iconst (v := 1) hx hb dL_law_264 (by decide) ?_
      refine lv_goto (tgt := 269) hx hb dL_law_265 (by decide) ?_
      refine lv_aload_n hx hb dL_law_269 rfl (lv_at hl 8 rfl) ?_
      refine t_cVi (As := []) (rest := [.int 1]) ⟨hx, hb, hml, hown, hts⟩ (c_X9_sounding l G cA a (t_ap hD) S2 L H.size  ) (cwV 0 hts gL_law_X9_sounding rfl rfl rfl (by decide +kernel) ⟨Nat.le_of_ble_eq_true rfl, Nat.le_of_ble_eq_true rfl⟩) hK.1 hA hP hD hS rfl hl.1 rfl (lv_room (Nat.le_of_ble_eq_true rfl)) dL_law_270 ⟨hc, hs⟩ (fun H locs hP hD hS => ?_)
      have c2 : rX9_sounding S2 = 0 := q1.1 c1
      refine lv_if_ne (tgt := 280) hx hb dL_law_273 (by decide) (fun c9 => absurd c9 (fun c8 => c8 c2)) (fun _ => ?_)
      refine lv_iconst (v := 1) hx hb dL_law_276 (by decide) ?_
      refine lv_goto (tgt := 281) hx hb dL_law_277 (by decide) ?_
      refine lv_icmp_eq (tgt := 286) hx hb dL_law_281 (by decide) (fun _ => ?_) (fun c9 => absurd rfl c9)
      exact hj286 H locs hP hD hS
  have hj202 : ∀ (S B : Mm) (H : Heap) (locs : List Loc), IV S → RB S B → MT S L mm f → rg (B 0 2) 0 (K + 5) → va_P G vwCl (wB a cA c2 c3 β ρ b wr S L B (X ++ [(told, .inl (cA, 400, .inl f))])) H → va_D A0 (wB a cA c2 c3 β ρ b wr S L B (X ++ [(told, .inl (cA, 400, .inl f))])) → va_S A0 s.heap H locs → W p l e room_1 s m args below meth c H locs cells slots Q (F0 m 202 ls []) := by
    intro S B H locs hI hR hM hd hP hD hS
    refine lv_iload hx hb dL_law_202 (lv_at hl 0 rfl) ?_
    refine lv_iconst (v := 5) hx hb dL_law_204 (by decide) ?_
    refine lv_icmp_ne (tgt := 217) hx hb dL_law_205 (by decide) (fun c1 => ?_) (fun c1 => ?_)
    · exact hj217 S B H locs hI hR hM (rg_w hd (by omega) (by omega)) hP hD hS
    ·
      refine lv_aload_n hx hb dL_law_208 rfl (lv_at hl 3 rfl) ?_
      refine u_cVi (As := []) (rest := []) (wr := []) ⟨hx, hb, hml, hown, hts⟩ (c_X10_set l G cA c2 c3 b N xs H.size a β ρ wr S L B (X ++ [(told, .inl (cA, 400, .inl f))]) hN (K := K + 5) (by omega) hd hR hI.2.1 (D_any hD)) (cwV 0 hts gL_law_X10_set rfl rfl rfl (by decide +kernel) ⟨Nat.le_of_ble_eq_true rfl, Nat.le_of_ble_eq_true rfl⟩) (wB_recv hK.1.1 hP) hK hA (P_nilR hP) (D_nilR hD) hS rfl hl.1 rfl (lv_room (Nat.le_of_ble_eq_true rfl)) dL_law_209 ⟨hc, hs⟩ (fun r u H locs hr hP hD hS => ?_)
      rw [List.append_nil] at hP hD
      obtain ⟨r1, r2, r3, r4, r5⟩ := hr
      refine lv_if_ne (tgt := 217) hx hb dL_law_212 (by decide) (fun _ => ?_) (fun c9 => absurd c9 (by rw [r1]; decide))
      exact hj217 u.1 u.2 H locs ⟨VS_fr hI.1 (fun o h1 h2 => r4 o (by omega) (by omega) (by omega)), r3, by rw [r4 18 (by decide) (by decide) (by decide)]; exact hI.2.2⟩ r2 (MT_fr hM (by rw [r4 18 (by decide) (by decide) (by decide)]) (r4 34 (by decide) (by decide) (by decide)) (r4 36 (by decide) (by decide) (by decide))) (rg_w r5 (by omega) (by omega)) hP hD hS
  have hj191 : ∀ (S B : Mm) (H : Heap) (locs : List Loc), IV S → RB S B → MT S L mm f → rg (B 0 2) 0 (K + 5) → va_P G vwCl (wB a cA c2 c3 β ρ b wr S L B (X ++ [(told, .inl (cA, 400, .inl f))])) H → va_D A0 (wB a cA c2 c3 β ρ b wr S L B (X ++ [(told, .inl (cA, 400, .inl f))])) → va_S A0 s.heap H locs → W p l e room_1 s m args below meth c H locs cells slots Q (F0 m 191 ls []) := by
    intro S B H locs hI hR hM hd hP hD hS
    refine lv_iload hx hb dL_law_191 (lv_at hl 0 rfl) ?_
    refine lv_iconst (v := 4) hx hb dL_law_193 (by decide) ?_
    refine lv_icmp_ne (tgt := 202) hx hb dL_law_194 (by decide) (fun c1 => ?_) (fun c1 => ?_)
    · exact hj202 S B H locs hI hR hM hd hP hD hS
    ·
      refine lv_aload_n hx hb dL_law_197 rfl (lv_at hl 4 rfl) ?_
      refine t_cVi (As := []) (rest := []) ⟨hx, hb, hml, hown, hts⟩ (c_X9_stop l G cA a (t_ap hD) S L H.size  ) (cwV 0 hts gL_law_X9_stop rfl rfl rfl (by decide +kernel) ⟨Nat.le_of_ble_eq_true rfl, Nat.le_of_ble_eq_true rfl⟩) hK.1 hA hP hD hS rfl hl.1 rfl (lv_room (Nat.le_of_ble_eq_true rfl)) dL_law_198 ⟨hc, hs⟩ (fun H locs hP hD hS => ?_)
      refine lv_pop hx hb dL_law_201 rfl ?_
      exact hj202 (fX9_stop S) B H locs (IV_stop hI) (RB_fr hR (fun o ho => sp_n (by omega))) (MT_fr hM sp_6 (sp_n (by decide)) (sp_n (by decide))) hd hP hD hS
  have hj175 : ∀ (S B : Mm) (H : Heap) (locs : List Loc), IV S → RB S B → MT S L mm f → rg (B 0 2) 0 (K + 4) → va_P G vwCl (wB a cA c2 c3 β ρ b wr S L B (X ++ [(told, .inl (cA, 400, .inl f))])) H → va_D A0 (wB a cA c2 c3 β ρ b wr S L B (X ++ [(told, .inl (cA, 400, .inl f))])) → va_S A0 s.heap H locs → W p l e room_1 s m args below meth c H locs cells slots Q (F0 m 175 ls []) := by
    intro S B H locs hI hR hM hd hP hD hS
    refine lv_iload hx hb dL_law_175 (lv_at hl 0 rfl) ?_
    refine lv_iconst (v := 3) hx hb dL_law_177 (by decide) ?_
    refine lv_icmp_ne (tgt := 191) hx hb dL_law_178 (by decide) (fun c1 => ?_) (fun c1 => ?_)
    · exact hj191 S B H locs hI hR hM (rg_w hd (by omega) (by omega)) hP hD hS
    ·
      refine lv_aload_n hx hb dL_law_181 rfl (lv_at hl 4 rfl) ?_
      refine lv_aload_n hx hb dL_law_182 rfl (lv_at hl 3 rfl) ?_
      refine lv_iconst (v := 4) hx hb dL_law_183 (by decide) ?_
      refine v_cVi (k0 := 37) (q0 := β 0) (e0 := .inr (10, bcl a β ρ b (B 0))) (e1 := .inr (10, bcl a β ρ b (upd (B 0) 2 (B 0 2 + 1)))) (As := [.int 4]) (rest := [.ref (a 0)]) ⟨hx, hb, hml, hown, hts⟩ (c_X10_draw l G cA c2 c3 (a 37) b N xs H.size a β ρ (β 0) (B 0) 4 (by decide) (by decide) hN hd) (cwV 1 hts gL_law_X10_draw rfl rfl rfl (by decide +kernel) ⟨Nat.le_of_ble_eq_true rfl, Nat.le_of_ble_eq_true rfl⟩) (wB_recv hK.1.1 hP) hK hA hP hD (wB_get (o := 0) (by decide)) hS rfl hl.1 rfl (lv_room (Nat.le_of_ble_eq_true rfl)) dL_law_184 ⟨hc, hs⟩ (fun w3 H locs hw3 hP hD hS => ?_)
      rw [wB_d] at hP hD
      obtain ⟨Bd3, hBd3⟩ : ∃ Z9 : Mm, Z9 = up2 B 0 2 (B 0 2 + 1) := ⟨_, rfl⟩
      rw [← hBd3] at hP hD
      have hd3 : rg (Bd3 0 2) 0 (K + 4 + 1) := dr_rg hd (by omega) (B' := Bd3) hBd3
      have hR3 : RB S Bd3 := by
        rw [hBd3]; exact RB_dr (by decide) hR
      have g1 := vp_rg 3 hw3 (by decide) (by decide)
      refine t_cVi (As := [.int w3]) (rest := []) ⟨hx, hb, hml, hown, hts⟩ (c_X9_end l G cA a (t_ap hD) S L H.size w3 (rg_ge g1 (C := 0) (by decide) (by decide)) (rg_lt g1 (C := 4) (by decide) (by decide))) (cwV 1 hts gL_law_X9_end rfl rfl rfl (by decide +kernel) ⟨Nat.le_of_ble_eq_true rfl, Nat.le_of_ble_eq_true rfl⟩) hK.1 hA hP hD hS rfl hl.1 rfl (lv_room (Nat.le_of_ble_eq_true rfl)) dL_law_187 ⟨hc, hs⟩ (fun H locs hP hD hS => ?_)
      refine lv_pop hx hb dL_law_190 rfl ?_
      exact hj191 (fX9_end S w3) Bd3 H locs (IV_end hI) (RB_fr hR3 (fun o ho => en_n (by omega))) (MT_fr hM (by rw [en_n (by decide)]) (en_n (by decide)) (en_n (by decide))) (rg_w hd3 (by omega) (by omega)) hP hD hS
  refine lv_iload hx hb dL_law_145 (lv_at hl 0 rfl) ?_
  refine lv_iconst (v := 3) hx hb dL_law_147 (by decide) ?_
  refine lv_icmp_ge (tgt := 175) hx hb dL_law_148 (by decide) (fun c1 => ?_) (fun c1 => ?_)
  · exact hj175 S Bd1 H locs hI hR1 hM (rg_w hd1 (by omega) (by omega)) hP hD hS
  ·
    refine lv_aload_n hx hb dL_law_151 rfl (lv_at hl 4 rfl) ?_
    refine lv_aload_n hx hb dL_law_152 rfl (lv_at hl 3 rfl) ?_
    refine lv_iconst (v := 4) hx hb dL_law_153 (by decide) ?_
    refine v_cVi (k0 := 37) (q0 := β 0) (e0 := .inr (10, bcl a β ρ b (Bd1 0))) (e1 := .inr (10, bcl a β ρ b (upd (Bd1 0) 2 (Bd1 0 2 + 1)))) (As := [.int 4]) (rest := [.ref (a 0)]) ⟨hx, hb, hml, hown, hts⟩ (c_X10_draw l G cA c2 c3 (a 37) b N xs H.size a β ρ (β 0) (Bd1 0) 4 (by decide) (by decide) hN hd1) (cwV 1 hts gL_law_X10_draw rfl rfl rfl (by decide +kernel) ⟨Nat.le_of_ble_eq_true rfl, Nat.le_of_ble_eq_true rfl⟩) (wB_recv hK.1.1 hP) hK hA hP hD (wB_get (o := 0) (by decide)) hS rfl hl.1 rfl (lv_room (Nat.le_of_ble_eq_true rfl)) dL_law_154 ⟨hc, hs⟩ (fun w4 H locs hw4 hP hD hS => ?_)
    rw [wB_d] at hP hD
    obtain ⟨Bd4, hBd4⟩ : ∃ Z9 : Mm, Z9 = up2 Bd1 0 2 (Bd1 0 2 + 1) := ⟨_, rfl⟩
    rw [← hBd4] at hP hD
    have hd4 : rg (Bd4 0 2) 0 (K + 1 + 1) := dr_rg hd1 (by omega) (B' := Bd4) hBd4
    have hR4 : RB S Bd4 := by
      rw [hBd4]; exact RB_dr (by decide) hR1
    refine lv_aload_n hx hb dL_law_157 rfl (lv_at hl 3 rfl) ?_
    refine lv_bipush (v := 48) hx hb dL_law_158 (by decide) ?_
    refine v_cVi (k0 := 37) (q0 := β 0) (e0 := .inr (10, bcl a β ρ b (Bd4 0))) (e1 := .inr (10, bcl a β ρ b (upd (Bd4 0) 2 (Bd4 0 2 + 1)))) (As := [.int 48]) (rest := [.int w4, .ref (a 0)]) ⟨hx, hb, hml, hown, hts⟩ (c_X10_draw l G cA c2 c3 (a 37) b N xs H.size a β ρ (β 0) (Bd4 0) 48 (by decide) (by decide) hN hd4) (cwV 1 hts gL_law_X10_draw rfl rfl rfl (by decide +kernel) ⟨Nat.le_of_ble_eq_true rfl, Nat.le_of_ble_eq_true rfl⟩) (wB_recv hK.1.1 hP) hK hA hP hD (wB_get (o := 0) (by decide)) hS rfl hl.1 rfl (lv_room (Nat.le_of_ble_eq_true rfl)) dL_law_160 ⟨hc, hs⟩ (fun w5 H locs hw5 hP hD hS => ?_)
    rw [wB_d] at hP hD
    obtain ⟨Bd5, hBd5⟩ : ∃ Z9 : Mm, Z9 = up2 Bd4 0 2 (Bd4 0 2 + 1) := ⟨_, rfl⟩
    rw [← hBd5] at hP hD
    have hd5 : rg (Bd5 0 2) 0 (K + 1 + 1 + 1) := dr_rg hd4 (by omega) (B' := Bd5) hBd5
    have hR5 : RB S Bd5 := by
      rw [hBd5]; exact RB_dr (by decide) hR4
    refine lv_iconst (v := 1) hx hb dL_law_163 (by decide) ?_
    refine lv_aload_n hx hb dL_law_164 rfl (lv_at hl 3 rfl) ?_
    refine lv_bipush (v := 127) hx hb dL_law_165 (by decide) ?_
    refine v_cVi (k0 := 37) (q0 := β 0) (e0 := .inr (10, bcl a β ρ b (Bd5 0))) (e1 := .inr (10, bcl a β ρ b (upd (Bd5 0) 2 (Bd5 0 2 + 1)))) (As := [.int 127]) (rest := [.int 1, .int w5, .int w4, .ref (a 0)]) ⟨hx, hb, hml, hown, hts⟩ (c_X10_draw l G cA c2 c3 (a 37) b N xs H.size a β ρ (β 0) (Bd5 0) 127 (by decide) (by decide) hN hd5) (cwV 1 hts gL_law_X10_draw rfl rfl rfl (by decide +kernel) ⟨Nat.le_of_ble_eq_true rfl, Nat.le_of_ble_eq_true rfl⟩) (wB_recv hK.1.1 hP) hK hA hP hD (wB_get (o := 0) (by decide)) hS rfl hl.1 rfl (lv_room (Nat.le_of_ble_eq_true rfl)) dL_law_167 ⟨hc, hs⟩ (fun w6 H locs hw6 hP hD hS => ?_)
    rw [wB_d] at hP hD
    obtain ⟨Bd6, hBd6⟩ : ∃ Z9 : Mm, Z9 = up2 Bd5 0 2 (Bd5 0 2 + 1) := ⟨_, rfl⟩
    rw [← hBd6] at hP hD
    have hd6 : rg (Bd6 0 2) 0 (K + 1 + 1 + 1 + 1) := dr_rg hd5 (by omega) (B' := Bd6) hBd6
    have hR6 : RB S Bd6 := by
      rw [hBd6]; exact RB_dr (by decide) hR5
    refine lv_iadd hx hb dL_law_170 ?_
    have g1 := vp_rg 3 hw4 (by decide) (by decide)
    have g2 := vp_rg 47 hw5 (by decide) (by decide)
    have g3 := (rg_add (rg_c (show (1 : Int32).toInt = 1 from by decide)) (vp_rg 126 hw6 (by decide) (by decide)) (by decide) (by decide)).1
    refine t_cVi (As := [.int w4, .int w5, .int (1 + w6)]) (rest := []) ⟨hx, hb, hml, hown, hts⟩ (c_X9_begin l G cA a (t_ap hD) S L H.size w4 w5 (1 + w6) (rg_ge g1 (C := 0) (by decide) (by decide)) (rg_lt g1 (C := 4) (by decide) (by decide)) (rg_ge g2 (C := 0) (by decide) (by decide)) (rg_le g2 (C := 47) (by decide) (by decide)) (rg_ge g3 (C := 1) (by decide) (by decide)) (rg_le g3 (C := 127) (by decide) (by decide))) (cwV 3 hts gL_law_X9_begin rfl rfl rfl (by decide +kernel) ⟨Nat.le_of_ble_eq_true rfl, Nat.le_of_ble_eq_true rfl⟩) hK.1 hA hP hD hS rfl hl.1 rfl (lv_room (Nat.le_of_ble_eq_true rfl)) dL_law_171 ⟨hc, hs⟩ (fun H locs hP hD hS => ?_)
    refine lv_pop hx hb dL_law_174 rfl ?_
    exact hj175 (fX9_begin S w4 w5 (1 + w6)) Bd6 H locs (IV_begin hI) (RB_fr hR6 (fun o ho => bg_n (by omega))) (MT_fr hM (bg_k (by decide) (by decide)) (bg_n (by decide)) (bg_n (by decide))) (rg_w hd6 (by omega) (by omega)) hP hD hS
end LWK
