section LWK
variable {p : Program} {l : Launch} {e : Env} {s : State} {m : MethodId} {args : Array Value} {below : List Frame} {meth : Method} {c : Code} {H : Heap} {locs : List Loc} {cells slots : Nat} {Q : State → Prop}
variable {ls : Array Slot} {G : va_G} {A0 : Nat → Prop} {cA c2 c3 : ClassId} {a β ρ : Nat → Nat} {b N : Nat} {xs : Nat → Int32} {wr : Nat → Nat → Option Nat} {S : Mm} {L : Int64} {B : Mm} {X : va_W}
set_option maxHeartbeats 4000000 in
/-- a step -/
theorem st_turn {d0 : Drawn} (hd0 : s.drawn.sameBut d0 lw_cs) (C0 : LC p s m c args G A0 cA c2 c3 (a 37) b N xs) {time : Int32} {told mm stp : Nat} {f : Nat → Int32} {K : Int} (hst : stp < 9) (hmm : mm ≤ 12 * stp) (hKK : K ≤ 1000) (hI : IV S) (hR : RB S B) (hM : MT S L mm f) (hd : rg (B 0 2) 0 K) (hP : va_P G vwCl (wB a cA c2 c3 β ρ b wr S L B (X ++ [(told, .inl (cA, 400, .inl f))])) H) (hD : va_D A0 (wB a cA c2 c3 β ρ b wr S L B (X ++ [(told, .inl (cA, 400, .inl f))]))) (hS : va_S A0 s.heap H locs) (hc : cells + 24 ≤ 682275) (hs : slots + 96 ≤ 7054873) (hl : lv_has ls 24 [(0, .ref b), (1, .int time), (2, .ref (β 0)), (3, .ref (a 0)), (4, .ref told), (5, .int (nI mm)), (6, .int (nI stp))])
    (kk : ∀ (d1 : Drawn) (S1 : Mm) (L1 : Int64) (B1 : Mm) (mm1 : Nat) (f1 : Nat → Int32) (H1 : Heap) (locs1 : List Loc) (ls1 : Array Slot), s.drawn.sameBut d1 lw_cs → IV S1 → RB S1 B1 → MT S1 L1 mm1 f1 → mm1 ≤ 12 * (stp + 1) → rg (B1 0 2) 0 (K + 20) → va_P G vwCl (wB a cA c2 c3 β ρ b wr S1 L1 B1 (X ++ [(told, .inl (cA, 400, .inl f1))])) H1 → va_D A0 (wB a cA c2 c3 β ρ b wr S1 L1 B1 (X ++ [(told, .inl (cA, 400, .inl f1))])) → va_S A0 s.heap H1 locs1 → lv_has ls1 24 [(0, .ref b), (1, .int time), (2, .ref (β 0)), (3, .ref (a 0)), (4, .ref told), (5, .int (nI mm1)), (6, .int (nI (stp + 1)))] → W p l e room_1 (s.setDrawn d1) m args below meth c H1 locs1 (cells + 24) (slots + 96) Q (F0 m 130 ls1 [])) : W p l e room_1 (s.setDrawn d0) m args below meth c H locs cells slots Q (F0 m 137 ls []) := by
  have C := LC_d C0 d0
  refine pf_turn C hKK hI hR hM hd hP hD hS (by omega) (by omega) hl (fun S2 B2 ah si H locs ls h1 h2 hI hR hM hd q2 q3 hP hD hS hl => ?_)
  have hl : lv_has ls 24 [(0, .ref b), (1, .int time), (2, .ref (β 0)), (3, .ref (a 0)), (4, .ref told), (5, .int (nI mm)), (6, .int (nI stp)), (8, .int (nI ah)), (11, .int (mxs S2 L ah)), (12, .int si), (13, .int (mxs S2 L 0)), (14, .int (nI 0))] := by
    rw [mxs_0]
    exact lv_sub hl [5, 6, 7, 8, 9, 10, 11, 4, 3, 2, 1, 0] rfl
  have e0 : sq S2 L 0 = (S2, L) := sq_0 S2 L
  have hI0 : IV (sq S2 L 0).1 := by rw [e0]; exact hI
  have hM0 : MT (sq S2 L 0).1 (sq S2 L 0).2 mm f := by rw [e0]; exact hM
  have hP0 : va_P G vwCl (wB a cA c2 c3 β ρ b wr (sq S2 L 0).1 (sq S2 L 0).2 B2 (X ++ [(told, .inl (cA, 400, .inl f))])) H := by rw [e0]; exact hP
  have hD0 : va_D A0 (wB a cA c2 c3 β ρ b wr (sq S2 L 0).1 (sq S2 L 0).2 B2 (X ++ [(told, .inl (cA, 400, .inl f))])) := by rw [e0]; exact hD
  refine ah_loop C (S := S2) (L := L) (B := B2) (by omega) q2 ah 0 mm f H locs ls cells slots (by omega) (by omega) hI0 hM0 (Or.inl (mxs_0 S2 L)) hP0 hD0 hS (by omega) (by omega) hl (fun H locs ls f1 hI hM hX hP hD hS hl => ?_)
  refine W.widen (k := cells + 24) (n := slots + 96) (by omega) (by omega) ?_
  refine en_turn hd0 C0 hM (by omega) (by omega) hX rfl q3 hP hD hS hc hs hl (fun d1 H locs ls hd1 hP hD hS hl => ?_)
  obtain ⟨hx, hb, hml, hown, hts, hK, hA, hN⟩ := LC_d C0 d1
  refine lv_iinc (k := 6) (v := nI (stp + 1)) (lv' := [(6, .int (nI (stp + 1))), (0, .ref b), (1, .int time), (2, .ref (β 0)), (3, .ref (a 0)), (4, .ref told), (5, .int (nI (mm + ah)))]) hx hb dL_law_846 hl rfl (by rw [show Int32.ofInt 1 = nI 1 from rfl]; exact nI_add stp 1) (by decide) rfl (fun ls hl => ?_)
  refine lv_goto (tgt := 130) hx hb dL_law_849 (by decide) ?_
  exact kk d1 _ _ B2 (mm + ah) f1 H locs ls hd1 hI (RB_sq hR) hM (by omega) hd hP hD hS (lv_sub hl [1, 2, 3, 4, 5, 6, 0] rfl)
set_option maxHeartbeats 4000000 in
theorem st_loop (C0 : LC p s m c args G A0 cA c2 c3 (a 37) b N xs) {time : Int32} {told : Nat} : ∀ (n stp : Nat) (d0 : Drawn) (S : Mm) (L : Int64) (B : Mm) (mm : Nat) (f : Nat → Int32) (K : Int) (H : Heap) (locs : List Loc) (ls : Array Slot) (cells slots : Nat), stp + n = 9 → s.drawn.sameBut d0 lw_cs → IV S → RB S B → MT S L mm f → mm ≤ 12 * stp → K + 20 * n ≤ 1000 → rg (B 0 2) 0 K → va_P G vwCl (wB a cA c2 c3 β ρ b wr S L B (X ++ [(told, .inl (cA, 400, .inl f))])) H → va_D A0 (wB a cA c2 c3 β ρ b wr S L B (X ++ [(told, .inl (cA, 400, .inl f))])) → va_S A0 s.heap H locs → cells + 24 * n ≤ 682275 → slots + 96 * n ≤ 7054873 → lv_has ls 24 [(0, .ref b), (1, .int time), (2, .ref (β 0)), (3, .ref (a 0)), (4, .ref told), (5, .int (nI mm)), (6, .int (nI stp))] →
    (∀ (d1 : Drawn) (S1 : Mm) (L1 : Int64) (B1 : Mm) (mm1 : Nat) (f1 : Nat → Int32) (H1 : Heap) (locs1 : List Loc) (ls1 : Array Slot), s.drawn.sameBut d1 lw_cs → va_P G vwCl (wB a cA c2 c3 β ρ b wr S1 L1 B1 (X ++ [(told, .inl (cA, 400, .inl f1))])) H1 → va_D A0 (wB a cA c2 c3 β ρ b wr S1 L1 B1 (X ++ [(told, .inl (cA, 400, .inl f1))])) → va_S A0 s.heap H1 locs1 → lv_has ls1 24 [(0, .ref b), (1, .int time), (2, .ref (β 0)), (3, .ref (a 0)), (4, .ref told), (5, .int (nI mm1)), (6, .int (nI 9))] → W p l e room_1 (s.setDrawn d1) m args below meth c H1 locs1 (cells + 24 * n) (slots + 96 * n) Q (F0 m 852 ls1 [])) → W p l e room_1 (s.setDrawn d0) m args below meth c H locs cells slots Q (F0 m 130 ls []) := by
  intro n
  induction n with
  | zero =>
    intro stp d0 S L B mm f K H locs ls cells slots hn hd0 hI hR hM hmm hKK hd hP hD hS hc hs hl kk
    have e : stp = 9 := by omega
    subst e
    obtain ⟨hx, hb, hml, hown, hts, hK, hA, hN⟩ := LC_d C0 d0
    refine lv_iload hx hb dL_law_130 (lv_at hl 6 rfl) ?_
    refine lv_bipush (v := 9) hx hb dL_law_132 (by decide) ?_
    refine lv_icmp_ge (tgt := 852) hx hb dL_law_134 (by decide) (fun _ => ?_) (fun c9 => absurd (by decide) c9)
    exact kk d0 S L B mm f H locs ls hd0 hP hD hS hl
  | succ n ih =>
    intro stp d0 S L B mm f K H locs ls cells slots hn hd0 hI hR hM hmm hKK hd hP hD hS hc hs hl kk
    obtain ⟨hx, hb, hml, hown, hts, hK, hA, hN⟩ := LC_d C0 d0
    refine lv_iload hx hb dL_law_130 (lv_at hl 6 rfl) ?_
    refine lv_bipush (v := 9) hx hb dL_law_132 (by decide) ?_
    refine lv_icmp_ge (tgt := 852) hx hb dL_law_134 (by decide) (fun c9 => absurd c9 (show ¬ nI 9 ≤ nI stp from nI_ge (by omega) (by omega))) (fun _ => ?_)
    refine st_turn hd0 C0 (by omega) hmm (by omega) hI hR hM hd hP hD hS (by omega) (by omega) hl (fun d1 S1 L1 B1 mm1 f1 H locs ls k0 k1 k2 k3 k4 k5 k6 k7 k8 k9 => ?_)
    refine ih (stp + 1) d1 S1 L1 B1 mm1 f1 (K + 20) H locs ls (cells + 24) (slots + 96) (by omega) k0 k1 k2 k3 k4 (by omega) k5 k6 k7 k8 (by omega) (by omega) k9 (fun d2 S2 L2 B2 mm2 f2 H2 locs2 ls2 j0 j1 j2 j3 j4 => ?_)
    rw [show cells + 24 + 24 * n = cells + 24 * (n + 1) by omega, show slots + 96 + 96 * n = slots + 96 * (n + 1) by omega]
    exact kk d2 S2 L2 B2 mm2 f2 H2 locs2 ls2 j0 j1 j2 j3 j4
set_option maxHeartbeats 4000000 in
/-- what ends a time -/
theorem te_turn (C : LC p s m c args G A0 cA c2 c3 (a 37) b N xs) {told mm tm : Nat} (hP : va_P G vwCl (wB a cA c2 c3 β ρ b wr S L B X) H) (hD : va_D A0 (wB a cA c2 c3 β ρ b wr S L B X)) (hS : va_S A0 s.heap H locs) (hc : cells ≤ 682275) (hs : slots ≤ 7054873) (hl : lv_has ls 24 [(0, .ref b), (1, .int (nI tm)), (2, .ref (β 0)), (3, .ref (a 0)), (4, .ref told), (5, .int (nI mm)), (6, .int (nI 9))])
    (kk : ∀ (H1 : Heap) (locs1 : List Loc) (ls1 : Array Slot), va_S A0 s.heap H1 locs1 → lv_has ls1 24 [(1, .int (nI (tm + 1))), (0, .ref b)] → W p l e room_1 s m args below meth c H1 locs1 cells slots Q (F0 m 2 ls1 [])) : W p l e room_1 s m args below meth c H locs cells slots Q (F0 m 852 ls []) := by
  obtain ⟨hx, hb, hml, hown, hts, hK, hA, hN⟩ := C
  refine lv_aload_n hx hb dL_law_852 rfl (lv_at hl 3 rfl) ?_
  refine t_cVi (As := []) (rest := []) ⟨hx, hb, hml, hown, hts⟩ (c_X9_stop l G cA a (t_ap hD) S L H.size  ) (cwV 0 hts gL_law_X9_stop rfl rfl rfl (by decide +kernel) ⟨Nat.le_of_ble_eq_true rfl, Nat.le_of_ble_eq_true rfl⟩) hK.1 hA hP hD hS rfl hl.1 rfl (lv_room (Nat.le_of_ble_eq_true rfl)) dL_law_853 ⟨hc, hs⟩ (fun H locs hP hD hS => ?_)
  refine lv_pop hx hb dL_law_856 rfl ?_
  refine lv_aload_n hx hb dL_law_857 rfl (lv_at hl 3 rfl) ?_
  refine lv_iconst (v := 0) hx hb dL_law_858 (by decide) ?_
  refine lv_iconst (v := 0) hx hb dL_law_859 (by decide) ?_
  refine lv_iconst (v := 0) hx hb dL_law_860 (by decide) ?_
  refine t_cVi (As := [.int 0, .int 0, .int 0]) (rest := []) ⟨hx, hb, hml, hown, hts⟩ (c_X9_setDelay l G cA a (t_ap hD) (fX9_stop S) L H.size 0 0 0 (by decide) (by decide) (by decide) (by decide) (by decide) (by decide)) (cwV 3 hts gL_law_X9_setDelay rfl rfl rfl (by decide +kernel) ⟨Nat.le_of_ble_eq_true rfl, Nat.le_of_ble_eq_true rfl⟩) hK.1 hA hP hD hS rfl hl.1 rfl (lv_room (Nat.le_of_ble_eq_true rfl)) dL_law_861 ⟨hc, hs⟩ (fun H locs hP hD hS => ?_)
  refine lv_pop hx hb dL_law_864 rfl ?_
  refine lv_aload_n hx hb dL_law_865 rfl (lv_at hl 3 rfl) ?_
  refine t_cVi (As := []) (rest := []) ⟨hx, hb, hml, hown, hts⟩ (c_X9_hush l G cA a (t_ap hD) (fX9_setDelay (fX9_stop S) 0 0 0) L H.size  ) (cwV 0 hts gL_law_X9_hush rfl rfl rfl (by decide +kernel) ⟨Nat.le_of_ble_eq_true rfl, Nat.le_of_ble_eq_true rfl⟩) hK.1 hA hP hD hS rfl hl.1 rfl (lv_room (Nat.le_of_ble_eq_true rfl)) dL_law_866 ⟨hc, hs⟩ (fun H locs hP hD hS => ?_)
  obtain ⟨n9, hn9, en9, -, -⟩ := cs_le (S := fX9_setDelay (fX9_stop S) 0 0 0)
  rw [show rX9_hush (fX9_setDelay (fX9_stop S) 0 0 0) = nI n9 from en9]
  have hq := QT_end (S := S)
  obtain ⟨S3, hS3⟩ : ∃ Z9 : Mm, Z9 = fX9_hush (fX9_setDelay (fX9_stop S) 0 0 0) := ⟨_, rfl⟩
  rw [← hS3] at hP hD hq
  refine lv_iconst (v := 4) hx hb dL_law_869 (by decide) ?_
  have z4 : ¬ (4 : Int32) < nI n9 := by
    rcases (show n9 = 0 ∨ n9 = 1 ∨ n9 = 2 ∨ n9 = 3 ∨ n9 = 4 by omega) with rfl | rfl | rfl | rfl | rfl <;> decide
  refine lv_icmp_gt (tgt := 897) hx hb dL_law_870 (by decide) (fun c9 => absurd c9 z4) (fun _ => ?_)
  refine lv_aload_n hx hb dL_law_873 rfl (lv_at hl 3 rfl) ?_
  refine lv_iconst (v := 3) hx hb dL_law_874 (by decide) ?_
  refine t_cVi (As := [.int 3]) (rest := []) ⟨hx, hb, hml, hown, hts⟩ (c_X9_run l G cA a (t_ap hD) S3 L H.size 3 (by decide) (by decide)) (cwV 1 hts gL_law_X9_run rfl rfl rfl (by decide +kernel) ⟨Nat.le_of_ble_eq_true rfl, Nat.le_of_ble_eq_true rfl⟩) hK.1 hA hP hD hS rfl hl.1 rfl (lv_room (Nat.le_of_ble_eq_true rfl)) dL_law_875 ⟨hc, hs⟩ (fun H locs hP hD hS => ?_)
  have hr3 := QT_run (L := L) (p := 3) hq ((3 : Int32).toNatClampNeg)
  obtain ⟨S4, hS4⟩ : ∃ Z9 : Mm, Z9 = fX9_run S3 L 3 := ⟨_, rfl⟩
  rw [← hS4] at hP hD
  have hq4 : QT S4 := by
    rw [hS4]; exact hr3.2
  refine lv_if_ne (tgt := 897) hx hb dL_law_878 (by decide) (fun c9 => absurd c9 (fun c8 => c8 hr3.1)) (fun _ => ?_)
  refine lv_aload_n hx hb dL_law_881 rfl (lv_at hl 3 rfl) ?_
  refine lv_iconst (v := 1) hx hb dL_law_882 (by decide) ?_
  refine t_cVi (As := [.int 1]) (rest := []) ⟨hx, hb, hml, hown, hts⟩ (c_X9_silentIn l G cA a (t_ap hD) S4 (lX9_run S3 L 3) H.size 1 (by decide) (by decide) (fun z => absurd (QT_cs hq4) z) (fun z => absurd (QT_cs hq4) z)) (cwV 1 hts gL_law_X9_silentIn rfl rfl rfl (by decide +kernel) ⟨Nat.le_of_ble_eq_true rfl, Nat.le_of_ble_eq_true rfl⟩) hK.1 hA hP hD hS rfl hl.1 rfl (lv_room (Nat.le_of_ble_eq_true rfl)) dL_law_883 ⟨hc, hs⟩ (fun H locs hP hD hS => ?_)
  obtain ⟨S5, hS5⟩ : ∃ Z9 : Mm, Z9 = fX9_silentIn S4 1 := ⟨_, rfl⟩
  rw [← hS5] at hP hD
  have hq5 : QT S5 := by
    rw [hS5]; exact QT_far si_far hq4
  refine lv_if_ne (tgt := 897) hx hb dL_law_886 (by decide) (fun c9 => absurd c9 (fun c8 => c8 (QT_si hq4))) (fun _ => ?_)
  refine lv_aload_n hx hb dL_law_889 rfl (lv_at hl 3 rfl) ?_
  refine lv_iconst (v := 5) hx hb dL_law_890 (by decide) ?_
  refine t_cVi (As := [.int 5]) (rest := []) ⟨hx, hb, hml, hown, hts⟩ (c_X9_wouldPeak l G cA a (t_ap hD) S5 (lX9_run S3 L 3) H.size 5 (by decide) (by decide) (e6_n (Or.inl hq5.2.1)) (e6_f (Or.inl hq5.2.1))) (cwV 1 hts gL_law_X9_wouldPeak rfl rfl rfl (by decide +kernel) ⟨Nat.le_of_ble_eq_true rfl, Nat.le_of_ble_eq_true rfl⟩) hK.1 hA hP hD hS rfl hl.1 rfl (lv_room (Nat.le_of_ble_eq_true rfl)) dL_law_891 ⟨hc, hs⟩ (fun H locs hP hD hS => ?_)
  refine lv_if_eq (tgt := 899) hx hb dL_law_894 (by decide) (fun _ => ?_) (fun c9 => absurd (QT_wp (L := L) hq5) c9)
  refine lv_iinc (k := 1) (v := nI (tm + 1)) (lv' := [(1, .int (nI (tm + 1))), (0, .ref b), (2, .ref (β 0)), (3, .ref (a 0)), (4, .ref told), (5, .int (nI mm)), (6, .int (nI 9))]) hx hb dL_law_899 hl rfl (by rw [show Int32.ofInt 1 = nI 1 from rfl]; exact nI_add tm 1) (by decide) rfl (fun ls hl => ?_)
  refine lv_goto (tgt := 2) hx hb dL_law_902 (by decide) ?_
  exact kk H locs ls hS (lv_sub hl [0, 1] rfl)
end LWK
