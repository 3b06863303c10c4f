section LWK
variable {p : Program} {l : Launch} {e : Env} {s : State} {m : MethodId} {args : Array Value} {below : List Frame} {meth : Method} {c : Code} {H : Heap} {locs : List Loc} {cells slots : Nat} {Q : State → Prop}
variable {ls : Array Slot} {G : va_G} {A0 : Nat → Prop} {cA c2 c3 : ClassId} {a β ρ : Nat → Nat} {b N : Nat} {xs : Nat → Int32} {wr : Nat → Nat → Option Nat} {S : Mm} {L : Int64} {B : Mm} {X : va_W}
theorem LC_d {z : Nat} (C : LC p s m c args G A0 cA c2 c3 z b N xs) (d : Drawn) : LC p (s.setDrawn d) m c args G A0 cA c2 c3 z b N xs := by
  obtain ⟨hx, hb, hml, hown, hts, hK, hA, hN⟩ := C
  exact ⟨hx, hb, hml, hown, dr_words hts d, KB_go (s := s) (U := s.setDrawn d) hK (fun _ h => h) va_S.rf rfl (State.WarmedH.refl s), hA, hN⟩
theorem nan_dec {x : UInt64} (h : isNaN64 x = true) : FP.Core.decode FP.Core.b64 x.toNat = .nan := by
  rw [isNaN64_iff] at h
  have h2 : x.toNat &&& 0x7fffffffffffffff = x.toNat % 2 ^ 63 := Nat.and_two_pow_sub_one_eq_mod x.toNat 63
  rw [h2] at h
  have e1 : FP.Core.fieldE FP.Core.b64 x.toNat = FP.Core.b64.exps - 1 := by
    show x.toNat / 4503599627370496 % 2048 = 2047
    omega
  have e2 : ¬ FP.Core.fieldT FP.Core.b64 x.toNat = 0 := by
    show ¬ x.toNat % 4503599627370496 = 0
    omega
  unfold FP.Core.decode
  rw [if_pos e1, if_neg e2]
theorem alike_or {r v : UInt64} (h : alike64 r v = true) : r = v ∨ (isNaN64 r = true ∧ isNaN64 v = true) := by
  unfold alike64 at h
  rw [Bool.or_eq_true, decide_eq_true_eq, Bool.and_eq_true] at h
  exact h
theorem nIs {a b : Nat} (h : b ≤ a) : nI a - nI b = nI (a - b) := by
  have e : nI (a - b) + nI b = nI a := by rw [nI_add, Nat.sub_add_cancel h]
  rw [← e, Int32.add_sub_cancel]
theorem pk_ge {S : Mm} {mo : Int32} {pk0 : Nat} (h1 : (S 34 4).toInt = pk0) (h2 : mo.toInt ≤ pk0) : ¬ rX9_peak S < mo := by
  rw [Int32.lt_iff_toInt_lt, show rX9_peak S = S 34 4 from rfl, h1]
  omega
theorem lt_of_nle {x : Int32} (h : ¬ (0 : Int32) ≤ x) : x < 0 := by
  rw [Int32.le_iff_toInt_le] at h
  rw [Int32.lt_iff_toInt_lt]
  omega
theorem cmp_ng {r v : UInt64} {c p : Int32} {L : Int64} (ha : alike64 r v = true) (hv : v = mnX c L) (hc : 0 < c.toInt) (hp : 0 ≤ p.toInt) (hL0 : 0 ≤ L.toInt) (hL : L.toInt ≤ c.toInt * p.toInt) (hb : L.toInt ≤ 2 ^ 53) : ¬ (0 : Int32) < Op.cmpValue (FP.dcmp r (FP.i2d p)) .l := by
  have h1 : FP.dcmp v (FP.i2d p) ≠ some .gt := by
    rw [hv]
    unfold mnX
    rw [if_neg (fun z => by rw [z] at hc; exact absurd hc (by decide))]
    exact fp_ord hc hp hL0 hL hb
  have h2 : FP.dcmp r (FP.i2d p) ≠ some .gt := by
    rcases alike_or ha with e | e
    · rw [e]; exact h1
    · intro z
      have z2 : FP.Core.order (FP.Core.decode FP.Core.b64 r.toNat) (FP.Core.decode FP.Core.b64 (FP.i2d p).toNat) = some .gt := z
      rw [nan_dec e.1] at z2
      revert z2
      generalize FP.Core.decode FP.Core.b64 (FP.i2d p).toNat = y
      intro z2
      have e9 : FP.Core.order .nan y = none := by cases y <;> rfl
      rw [e9] at z2
      cases z2
  cases hq : FP.dcmp r (FP.i2d p) with
  | none => decide
  | some o =>
    cases o with
    | lt => decide
    | eq => decide
    | gt => exact absurd hq h2
set_option maxHeartbeats 4000000 in
/-- what the law asks after the loop of samples -/
theorem en_turn {d0 : Drawn} (hd0 : s.drawn.sameBut d0 lw_cs) (C0 : LC p s m c args G A0 cA c2 c3 (a 37) b N xs) {time stp ah pk si mo kx : Int32} {told mm : Nat} {f : Nat → Int32} (hM : MT S L mm f) (hm0 : 0 < mm) (hm : mm ≤ 400) (hX : MX mo mm f) (hpk : mo = pk) (hsn : si < 0 → ¬ rX6_countSounding S 18 = 0) (hP : va_P G vwCl (wB a cA c2 c3 β ρ b wr S L B (X ++ [(told, .inl (cA, 400, .inl f))])) H) (hD : va_D A0 (wB a cA c2 c3 β ρ b wr S L B (X ++ [(told, .inl (cA, 400, .inl f))]))) (hS : va_S A0 s.heap H locs) (hc : cells ≤ 682275) (hs : slots ≤ 7054873) (hl : lv_has ls 24 [(0, .ref b), (1, .int time), (2, .ref (β 0)), (3, .ref (a 0)), (4, .ref told), (5, .int (nI mm)), (6, .int stp), (8, .int ah), (11, .int pk), (12, .int si), (13, .int mo), (14, .int kx)])
    (kk : ∀ (d1 : Drawn) (H1 : Heap) (locs1 : List Loc) (ls1 : Array Slot), s.drawn.sameBut d1 lw_cs → va_P G vwCl (wB a cA c2 c3 β ρ b wr S L B (X ++ [(told, .inl (cA, 400, .inl f))])) H1 → va_D A0 (wB a cA c2 c3 β ρ b wr S L B (X ++ [(told, .inl (cA, 400, .inl f))])) → va_S A0 s.heap H1 locs1 → lv_has ls1 24 [(0, .ref b), (1, .int time), (2, .ref (β 0)), (3, .ref (a 0)), (4, .ref told), (5, .int (nI mm)), (6, .int stp)] → W p l e room_1 (s.setDrawn d1) m args below meth c H1 locs1 cells slots Q (F0 m 846 ls1 [])) : W p l e room_1 (s.setDrawn d0) m args below meth c H locs cells slots Q (F0 m 706 ls []) := by
  have C := LC_d C0 d0
  have hKs := C0.2.2.2.2.2.1.1
  have hAs := C0.2.2.2.2.2.2.1
  obtain ⟨hx, hb, hml, hown, hts, hK, hA, hN⟩ := C
  have hM9 := hM
  obtain ⟨m1, m2, m3, m4, pk0, sm, m5, m6, m7, m8, m9⟩ := hM
  have hpk0 : (S 34 4).toInt = pk0 := by rw [m6, nI_toInt (by omega)]
  have hmo : mo.toInt ≤ pk0 := by
    rcases hX with e | ⟨j, h1, h2⟩
    · rw [e]; have : (0 : Int32).toInt = 0 := by decide
      omega
    · rw [h2]; exact m7 j h1
  refine lv_iload hx hb dL_law_706 (lv_at hl 10 rfl) ?_
  refine lv_iload hx hb dL_law_708 (lv_at hl 8 rfl) ?_
  refine lv_icmp_ne (tgt := 756) hx hb dL_law_710 (by decide) (fun c9 => absurd c9 (fun c8 => c8 hpk)) (fun _ => ?_)
  have hj725 : ∀ (H : Heap) (locs : List Loc), va_P G vwCl (wB a cA c2 c3 β ρ b wr S L B (X ++ [(told, .inl (cA, 400, .inl f))])) H → va_D A0 (wB a cA c2 c3 β ρ b wr S L B (X ++ [(told, .inl (cA, 400, .inl f))])) → va_S A0 s.heap H locs → W p l e room_1 (s.setDrawn d0) m args below meth c H locs cells slots Q (F0 m 725 ls []) := by
    intro H locs hP hD hS
    refine lv_aload_n hx hb dL_law_725 rfl (lv_at hl 3 rfl) ?_
    refine t_cVi (As := []) (rest := []) ⟨hx, hb, hml, hown, hts⟩ (c_X9_peak l G cA a (t_ap hD) S L H.size  ) (cwV 0 hts gL_law_X9_peak rfl rfl rfl (by decide +kernel) ⟨Nat.le_of_ble_eq_true rfl, Nat.le_of_ble_eq_true rfl⟩) hK.1 hA hP hD hS rfl hl.1 rfl (lv_room (Nat.le_of_ble_eq_true rfl)) dL_law_726 ⟨hc, hs⟩ (fun H locs hP hD hS => ?_)
    refine lv_iload hx hb dL_law_729 (lv_at hl 10 rfl) ?_
    refine lv_icmp_lt (tgt := 756) hx hb dL_law_731 (by decide) (fun c9 => absurd c9 (pk_ge hpk0 hmo)) (fun _ => ?_)
    refine lv_aload_n hx hb dL_law_734 rfl (lv_at hl 3 rfl) ?_
    have hS : va_S A0 s.heap H locs := hS
    refine t_cVd (As := []) (rest := []) hd0 ⟨hx, hb, hml, hown, hts⟩ (c_X9_loudness l G cA a (t_ap hD) S L H.size) (cwV 0 hts gL_law_X9_loudness rfl rfl rfl (by decide +kernel) ⟨Nat.le_of_ble_eq_true rfl, Nat.le_of_ble_eq_true rfl⟩) hKs hAs hP hD hS rfl hl.1 rfl (lv_room (Nat.le_of_ble_eq_true rfl)) dL_law_735 ⟨hc, hs⟩ (fun r d1 H locs hd1 hr hP hD hS => ?_)
    have C1 := LC_d C0 d1
    obtain ⟨-, -, -, -, hts, hK, hA, -⟩ := C1
    refine lv_aload_n hx hb dL_law_738 rfl (lv_at hl 3 rfl) ?_
    refine t_cVi (As := []) (rest := [.double r]) ⟨hx, hb, hml, hown, hts⟩ (c_X9_peak l G cA a (t_ap hD) S L H.size  ) (cwV 0 hts gL_law_X9_peak rfl rfl rfl (by decide +kernel) ⟨Nat.le_of_ble_eq_true rfl, Nat.le_of_ble_eq_true rfl⟩) hK.1 hA hP hD hS rfl hl.1 rfl (lv_room (Nat.le_of_ble_eq_true rfl)) dL_law_739 ⟨hc, hs⟩ (fun H locs hP hD hS => ?_)
    refine lv_i2d hx hb dL_law_742 ?_
    refine lv_dcmp hx hb dL_law_743 ?_
    have ec : (S 34 3).toInt = (mm : Int) := by rw [m2, nI_toInt (by omega)]
    have ng : ¬ (0 : Int32) < Op.cmpValue (FP.dcmp r (FP.i2d (rX9_peak S))) .l := by
      refine cmp_ng hr rfl (by rw [ec]; omega) (show 0 ≤ (S 34 4).toInt by rw [hpk0]; omega) (by rw [m8]; omega) (show _ ≤ _ * (S 34 4).toInt from ?_) ?_
      · rw [ec, hpk0, m8]
        exact_mod_cast m9
      · rw [m8]
        have h4 : sm ≤ 13106800 := Nat.le_trans m9 (Nat.mul_le_mul hm m5)
        have h5 : (sm : Int) ≤ 13106800 := Int.ofNat_le.mpr h4
        omega
    refine lv_if_gt (tgt := 756) hx hb dL_law_744 (by decide) (fun c9 => absurd c9 ng) (fun _ => ?_)
    refine lv_aload_n hx hb dL_law_747 rfl (lv_at hl 3 rfl) ?_
    refine t_cVi (As := []) (rest := []) ⟨hx, hb, hml, hown, hts⟩ (c_X9_clock l G cA a (t_ap hD) S L H.size  ) (cwV 0 hts gL_law_X9_clock rfl rfl rfl (by decide +kernel) ⟨Nat.le_of_ble_eq_true rfl, Nat.le_of_ble_eq_true rfl⟩) hK.1 hA hP hD hS rfl hl.1 rfl (lv_room (Nat.le_of_ble_eq_true rfl)) dL_law_748 ⟨hc, hs⟩ (fun H locs hP hD hS => ?_)
    refine lv_iload hx hb dL_law_751 (lv_at hl 5 rfl) ?_
    refine lv_icmp_eq (tgt := 758) hx hb dL_law_753 (by decide) (fun _ => ?_) (fun c9 => absurd m1 c9)
    refine lv_iconst (v := 0) hx hb dL_law_758 (by decide) ?_
    refine lv_istore (lv' := [(14, .int 0), (0, .ref b), (1, .int time), (2, .ref (β 0)), (3, .ref (a 0)), (4, .ref told), (5, .int (nI mm)), (6, .int stp), (8, .int ah), (11, .int pk), (12, .int si), (13, .int mo)]) hx hb dL_law_759 hl (by decide) rfl (fun ls hl => ?_)
    have hloop : ∀ (n k : Nat), k + n = 64 → ∀ (H : Heap) (locs : List Loc) (ls : Array Slot), va_P G vwCl (wB a cA c2 c3 β ρ b wr S L B (X ++ [(told, .inl (cA, 400, .inl f))])) H → va_D A0 (wB a cA c2 c3 β ρ b wr S L B (X ++ [(told, .inl (cA, 400, .inl f))])) → va_S A0 s.heap H locs → lv_has ls 24 [(14, .int (nI k)), (0, .ref b), (1, .int time), (2, .ref (β 0)), (3, .ref (a 0)), (4, .ref told), (5, .int (nI mm)), (6, .int stp), (8, .int ah), (11, .int pk), (12, .int si), (13, .int mo)] → (∀ (H1 : Heap) (locs1 : List Loc) (ls1 : Array Slot) (x14 : Int32), va_P G vwCl (wB a cA c2 c3 β ρ b wr S L B (X ++ [(told, .inl (cA, 400, .inl f))])) H1 → va_D A0 (wB a cA c2 c3 β ρ b wr S L B (X ++ [(told, .inl (cA, 400, .inl f))])) → va_S A0 s.heap H1 locs1 → lv_has ls1 24 [(14, .int x14), (0, .ref b), (1, .int time), (2, .ref (β 0)), (3, .ref (a 0)), (4, .ref told), (5, .int (nI mm)), (6, .int stp), (8, .int ah), (11, .int pk), (12, .int si), (13, .int mo)] → W p l e room_1 (s.setDrawn d1) m args below meth c H1 locs1 cells slots Q (F0 m 802 ls1 [])) → W p l e room_1 (s.setDrawn d1) m args below meth c H locs cells slots Q (F0 m 761 ls []) := by
      intro n
      induction n with
      | zero =>
        intro k hk H locs ls hP hD hS hl kq
        refine lv_iload hx hb dL_law_761 (lv_at hl 0 rfl) ?_
        refine lv_bipush (v := 64) hx hb dL_law_763 (by decide) ?_
        refine lv_icmp_ge (tgt := 802) hx hb dL_law_765 (by decide) (fun _ => ?_) (fun c9 => absurd (show nI 64 ≤ nI k from nI_ge' (by omega) (by omega)) c9)
        exact kq H locs ls _ hP hD hS hl
      | succ n ih =>
        intro k hk H locs ls hP hD hS hl kq
        refine lv_iload hx hb dL_law_761 (lv_at hl 0 rfl) ?_
        refine lv_bipush (v := 64) hx hb dL_law_763 (by decide) ?_
        refine lv_icmp_ge (tgt := 802) hx hb dL_law_765 (by decide) (fun c9 => absurd c9 (show ¬ nI 64 ≤ nI k from nI_ge (by omega) (by omega))) (fun _ => ?_)
        refine lv_iload hx hb dL_law_768 (lv_at hl 0 rfl) ?_
        refine lv_iload hx hb dL_law_770 (lv_at hl 6 rfl) ?_
        refine lv_icmp_ge (tgt := 802) hx hb dL_law_772 (by decide) (fun c3 => ?_) (fun c3 => ?_)
        · exact kq H locs ls _ hP hD hS hl
        ·
          have hkm : k < mm := by
            rcases Nat.lt_or_ge k mm with h | h
            · exact h
            · exact absurd (nI_ge' h (by omega)) c3
          refine lv_aload_n hx hb dL_law_775 rfl (lv_at hl 4 rfl) ?_
          refine lv_iload hx hb dL_law_776 (lv_at hl 0 rfl) ?_
          refine t_cVi (As := [.int (nI k)]) (rest := []) ⟨hx, hb, hml, hown, hts⟩ (c_X9_heard l G cA a (t_ap hD) S L H.size (nI k) (nI_pos (by omega)) (show nI k ≤ nI 63 from nI_ge' (by omega) (by omega))) (cwV 1 hts gL_law_X9_heard rfl rfl rfl (by decide +kernel) ⟨Nat.le_of_ble_eq_true rfl, Nat.le_of_ble_eq_true rfl⟩) hK.1 hA hP hD hS rfl hl.1 rfl (lv_room (Nat.le_of_ble_eq_true rfl)) dL_law_778 ⟨hc, hs⟩ (fun H locs hP hD hS => ?_)
          refine lv_aload hx hb dL_law_781 (lv_at hl 5 rfl) ?_
          refine lv_iload hx hb dL_law_783 (lv_at hl 6 rfl) ?_
          refine lv_iconst (v := 1) hx hb dL_law_785 (by decide) ?_
          refine lv_isub hx hb dL_law_786 ?_
          refine lv_iload hx hb dL_law_787 (lv_at hl 0 rfl) ?_
          refine lv_isub hx hb dL_law_789 ?_
          rw [show (1 : Int32) = nI 1 from rfl, nIs (by omega), nIs (by omega)]
          refine s_ild hx hb hK.2.1 hP (wB_X x_last) (vp_in_nI (by omega) (by decide)) (j := mm - 1 - k) (nI_clamp (by omega)) (v := f (mm - 1 - k)) rfl dL_law_790 ?_
          refine lv_icmp_eq (tgt := 796) hx hb dL_law_791 (by decide) (fun _ => ?_) (fun c9 => absurd (heard_MT hM9 (by omega) hkm) c9)
          refine lv_iinc (k := 0) (v := nI (k + 1)) (lv' := [(14, .int (nI (k + 1))), (0, .ref b), (1, .int time), (2, .ref (β 0)), (3, .ref (a 0)), (4, .ref told), (5, .int (nI mm)), (6, .int stp), (8, .int ah), (11, .int pk), (12, .int si), (13, .int mo)]) hx hb dL_law_796 hl rfl (by rw [show Int32.ofInt 1 = nI 1 from rfl]; exact nI_add k 1) (by decide) rfl (fun ls hl => ?_)
          refine lv_goto (tgt := 761) hx hb dL_law_799 (by decide) ?_
          exact ih (k + 1) (by omega) H locs ls hP hD hS hl kq
    refine hloop 64 0 rfl H locs ls hP hD hS hl (fun H locs ls x14 hP hD hS hl => ?_)
    refine lv_aload_n hx hb dL_law_802 rfl (lv_at hl 4 rfl) ?_
    refine t_cVi (As := []) (rest := []) ⟨hx, hb, hml, hown, hts⟩ (c_X9_nextVoice l G cA a (t_ap hD) S L H.size  ) (cwV 0 hts gL_law_X9_nextVoice rfl rfl rfl (by decide +kernel) ⟨Nat.le_of_ble_eq_true rfl, Nat.le_of_ble_eq_true rfl⟩) hK.1 hA hP hD hS rfl hl.1 rfl (lv_room (Nat.le_of_ble_eq_true rfl)) dL_law_803 ⟨hc, hs⟩ (fun H locs hP hD hS => ?_)
    refine lv_istore (lv' := [(14, .int (rX9_nextVoice S)), (0, .ref b), (1, .int time), (2, .ref (β 0)), (3, .ref (a 0)), (4, .ref told), (5, .int (nI mm)), (6, .int stp), (8, .int ah), (11, .int pk), (12, .int si), (13, .int mo)]) hx hb dL_law_806 hl (by decide) rfl (fun ls hl => ?_)
    refine lv_aload_n hx hb dL_law_808 rfl (lv_at hl 4 rfl) ?_
    refine t_cVi (As := []) (rest := []) ⟨hx, hb, hml, hown, hts⟩ (c_X9_sounding l G cA a (t_ap hD) S L H.size  ) (cwV 0 hts gL_law_X9_sounding rfl rfl rfl (by decide +kernel) ⟨Nat.le_of_ble_eq_true rfl, Nat.le_of_ble_eq_true rfl⟩) hK.1 hA hP hD hS rfl hl.1 rfl (lv_room (Nat.le_of_ble_eq_true rfl)) dL_law_809 ⟨hc, hs⟩ (fun H locs hP hD hS => ?_)
    obtain ⟨v9, hv9, ev9⟩ := vp_nI (show vp_in (rX9_nextVoice S) 4 from tk_in) (by decide)
    obtain ⟨n9, hn9, en9, hfree, hfull⟩ := cs_le (S := S)
    have en9 : rX9_sounding S = nI n9 := en9
    obtain ⟨n0, n1, n2⟩ := nI4 hv9
    have hfree : n9 < 4 → rX9_ofVoice S (nI v9) 0 = 0 := fun h => by
      have h2 := tk_free (hfree h)
      rw [show rX6_voiceToTake S 18 = nI v9 from ev9] at h2
      exact h2
    have hfull : n9 = 4 → ¬ rX9_ofVoice S (nI v9) 0 = 0 := fun h => by
      rw [ov0 hv9]
      exact hfull h v9 hv9
    rw [ev9] at hl
    rw [en9]
    have hj846 : ∀ (H : Heap) (locs : List Loc), va_P G vwCl (wB a cA c2 c3 β ρ b wr S L B (X ++ [(told, .inl (cA, 400, .inl f))])) H → va_D A0 (wB a cA c2 c3 β ρ b wr S L B (X ++ [(told, .inl (cA, 400, .inl f))])) → va_S A0 s.heap H locs → W p l e room_1 (s.setDrawn d1) m args below meth c H locs cells slots Q (F0 m 846 ls []) := fun H locs hP hD hS => kk d1 H locs ls hd1 hP hD hS (lv_sub hl [1, 2, 3, 4, 5, 6, 7] rfl)
    have hj826 : ∀ (H : Heap) (locs : List Loc), va_P G vwCl (wB a cA c2 c3 β ρ b wr S L B (X ++ [(told, .inl (cA, 400, .inl f))])) H → va_D A0 (wB a cA c2 c3 β ρ b wr S L B (X ++ [(told, .inl (cA, 400, .inl f))])) → va_S A0 s.heap H locs → W p l e room_1 (s.setDrawn d1) m args below meth c H locs cells slots Q (F0 m 826 ls []) := by
      intro H locs hP hD hS
      refine lv_aload_n hx hb dL_law_826 rfl (lv_at hl 4 rfl) ?_
      refine t_cVi (As := []) (rest := []) ⟨hx, hb, hml, hown, hts⟩ (c_X9_sounding l G cA a (t_ap hD) S L H.size  ) (cwV 0 hts gL_law_X9_sounding rfl rfl rfl (by decide +kernel) ⟨Nat.le_of_ble_eq_true rfl, Nat.le_of_ble_eq_true rfl⟩) hK.1 hA hP hD hS rfl hl.1 rfl (lv_room (Nat.le_of_ble_eq_true rfl)) dL_law_827 ⟨hc, hs⟩ (fun H locs hP hD hS => ?_)
      rw [en9]
      refine lv_iconst (v := 4) hx hb dL_law_830 (by decide) ?_
      refine lv_icmp_ne (tgt := 846) hx hb dL_law_831 (by decide) (fun c5 => ?_) (fun c5 => ?_)
      · exact hj846 H locs hP hD hS
      ·
        refine lv_aload_n hx hb dL_law_834 rfl (lv_at hl 4 rfl) ?_
        refine lv_iload hx hb dL_law_835 (lv_at hl 0 rfl) ?_
        refine lv_iconst (v := 0) hx hb dL_law_837 (by decide) ?_
        refine t_cVi (As := [.int (nI v9), .int 0]) (rest := []) ⟨hx, hb, hml, hown, hts⟩ (c_X9_ofVoice l G cA a (t_ap hD) S L H.size (nI v9) 0 n0 n1 (by decide) (by decide)) (cwV 2 hts gL_law_X9_ofVoice rfl rfl rfl (by decide +kernel) ⟨Nat.le_of_ble_eq_true rfl, Nat.le_of_ble_eq_true rfl⟩) hK.1 hA hP hD hS rfl hl.1 rfl (lv_room (Nat.le_of_ble_eq_true rfl)) dL_law_838 ⟨hc, hs⟩ (fun H locs hP hD hS => ?_)
        have n4 : n9 = 4 := by
          rcases Nat.lt_or_ge n9 4 with h | h
          · exact absurd (show nI 4 ≤ nI n9 by rw [show nI n9 = nI 4 from c5]; exact nI_ge' (Nat.le_refl _) (by decide)) (nI_ge h (by decide))
          · omega
        refine lv_if_ne (tgt := 846) hx hb dL_law_841 (by decide) (fun _ => ?_) (fun c9 => absurd c9 (hfull n4))
        exact hj846 H locs hP hD hS
    refine lv_iconst (v := 4) hx hb dL_law_812 (by decide) ?_
    refine lv_icmp_ge (tgt := 826) hx hb dL_law_813 (by decide) (fun c4 => ?_) (fun c4 => ?_)
    · exact hj826 H locs hP hD hS
    ·
      refine lv_aload_n hx hb dL_law_816 rfl (lv_at hl 4 rfl) ?_
      refine lv_iload hx hb dL_law_817 (lv_at hl 0 rfl) ?_
      refine lv_iconst (v := 0) hx hb dL_law_819 (by decide) ?_
      refine t_cVi (As := [.int (nI v9), .int 0]) (rest := []) ⟨hx, hb, hml, hown, hts⟩ (c_X9_ofVoice l G cA a (t_ap hD) S L H.size (nI v9) 0 n0 n1 (by decide) (by decide)) (cwV 2 hts gL_law_X9_ofVoice rfl rfl rfl (by decide +kernel) ⟨Nat.le_of_ble_eq_true rfl, Nat.le_of_ble_eq_true rfl⟩) hK.1 hA hP hD hS rfl hl.1 rfl (lv_room (Nat.le_of_ble_eq_true rfl)) dL_law_820 ⟨hc, hs⟩ (fun H locs hP hD hS => ?_)
      have n4 : n9 < 4 := by
        rcases Nat.lt_or_ge n9 4 with h | h
        · exact h
        · exact absurd (show nI 4 ≤ nI n9 from nI_ge' h (by omega)) c4
      refine lv_if_ne (tgt := 844) hx hb dL_law_823 (by decide) (fun c9 => absurd c9 (fun c8 => c8 (hfree n4))) (fun _ => ?_)
      exact hj826 H locs hP hD hS
  refine lv_iload hx hb dL_law_713 (lv_at hl 9 rfl) ?_
  refine lv_if_ge (tgt := 725) hx hb dL_law_715 (by decide) (fun c2 => ?_) (fun c2 => ?_)
  · exact hj725 H locs hP hD hS
  ·
    refine lv_aload_n hx hb dL_law_718 rfl (lv_at hl 3 rfl) ?_
    refine t_cVi (As := []) (rest := []) ⟨hx, hb, hml, hown, hts⟩ (c_X9_sounding l G cA a (t_ap hD) S L H.size  ) (cwV 0 hts gL_law_X9_sounding rfl rfl rfl (by decide +kernel) ⟨Nat.le_of_ble_eq_true rfl, Nat.le_of_ble_eq_true rfl⟩) hK.1 hA hP hD hS rfl hl.1 rfl (lv_room (Nat.le_of_ble_eq_true rfl)) dL_law_719 ⟨hc, hs⟩ (fun H locs hP hD hS => ?_)
    refine lv_if_eq (tgt := 756) hx hb dL_law_722 (by decide) (fun c9 => absurd c9 (hsn (lt_of_nle c2))) (fun _ => ?_)
    exact hj725 H locs hP hD hS
end LWK
