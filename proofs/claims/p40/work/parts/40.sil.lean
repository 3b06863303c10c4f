def blpX9_silentIn_33 (S : Mm) (p1 : Int32) (zS : Mm) (i : Nat) : Mm := fX6_advance zS 26
def lpX9_silentIn_33 (S : Mm) (p1 : Int32) : Nat → Mm
  | 0 => fX6_copy S 26 18
  | i + 1 => blpX9_silentIn_33 S p1 (lpX9_silentIn_33 S p1 i) i
theorem lpX9_silentIn_33_0 (S : Mm) (p1 : Int32) : lpX9_silentIn_33 S p1 0 = fX6_copy S 26 18 := by rw [lpX9_silentIn_33]
theorem lpX9_silentIn_33_s (S : Mm) (p1 : Int32) (i : Nat) : lpX9_silentIn_33 S p1 (i + 1) = blpX9_silentIn_33 S p1 (lpX9_silentIn_33 S p1 i) i := by rw [lpX9_silentIn_33]
def eseX9_silentIn_33 (S : Mm) (p1 : Int32) (zS : Mm) (i : Nat) (zr : Int32 × Mm) : Int32 × Mm := (if rX6_countSounding (fX6_advance zS 26) 26 = 0 then (nI (i + 1), fX6_advance zS 26) else zr)
def seX9_silentIn_33 (S : Mm) (p1 : Int32) : Nat → Nat → Int32 × Mm
  | 0, i => (((-1) : Int32), (lpX9_silentIn_33 S p1 i))
  | k + 1, i => eseX9_silentIn_33 S p1 (lpX9_silentIn_33 S p1 i) i (seX9_silentIn_33 S p1 k (i + 1))
theorem seX9_silentIn_33_0 (S : Mm) (p1 : Int32) (i : Nat) : seX9_silentIn_33 S p1 0 i = (((-1) : Int32), (lpX9_silentIn_33 S p1 i)) := by rw [seX9_silentIn_33]
theorem seX9_silentIn_33_s (S : Mm) (p1 : Int32) (k i : Nat) : seX9_silentIn_33 S p1 (k + 1) i = eseX9_silentIn_33 S p1 (lpX9_silentIn_33 S p1 i) i (seX9_silentIn_33 S p1 k (i + 1)) := by rw [seX9_silentIn_33]
def rX9_silentIn (S : Mm) (p1 : Int32) : Int32 := (if rX6_countSounding S 18 = 0 then 0 else (seX9_silentIn_33 S p1 p1.toNatClampNeg 0).1)
def fX9_silentIn (S : Mm) (p1 : Int32) : Mm := (if rX6_countSounding S 18 = 0 then S else (seX9_silentIn_33 S p1 p1.toNatClampNeg 0).2)
theorem iX9_silentIn_X9 : ∀ w ∈ u_ws RX9 TX9 4, w ∈ wsX9_silentIn := by decide +kernel
set_option maxHeartbeats 4000000 in
set_option maxRecDepth 100000 in
theorem c_X9_silentIn (l : Launch) (G : va_G) (cA : ClassId) (a : Nat → Nat) (ha : apart 37 a) (S : Mm) (L : Int64) (sz : Nat) (p1 : Int32)  (hh1 : ¬ p1 < (1 : Int32)) (hh2 : p1 ≤ (200 : Int32)) (hh3 : ¬ (rX6_countSounding S 18 = 0) → narrow .boolean (.int (eX6_copy S 26 18)) = .int (eX6_copy S 26 18)) (hh4 : ¬ (rX6_countSounding S 18 = 0) → fits .boolean (.int (eX6_copy S 26 18)) = true) : Met l yX9_silentIn wsX9_silentIn ({ frames := 7, cells := 0, slots := 0, locals := 163 } : Room) (va_Pc [.ref (a 0), .int p1] (gI G cA (a 37) 37 a (cM a cA) S L sz)) (gQi (rX9_silentIn S p1) G 37 a (cM a cA) (fX9_silentIn S p1) L sz) 0 0 (mA 37 a sz) := by
  refine g_met (cc := cX9_silentIn) (maxL := 3) (ret := (some .int)) (by decide) rfl (Nat.le_of_ble_eq_true rfl) ?_
  intro p e s m below meth c ls hx hb hr hlocks hml hts hown hnm hsz hK hP hS hl
  subst hsz
  have hl : lv_has ls 3 [(0, .ref (a 0)), (1, .int p1)] := hl
  refine lv_iload_n hx hb dX9_silentIn_0 rfl (lv_at hl 1 rfl) ?_
  refine lv_iconst (v := 1) hx hb dX9_silentIn_1 (by decide) ?_
  refine lv_sipush (v := 200) hx hb dX9_silentIn_2 (by decide) ?_
  refine g_cSv (As := [.int p1, .int 1, .int 200]) (rest := []) ⟨hx, hb, hml, hown, hts⟩ (c_X9_needWithin l G cA a ha S L s.heap.size p1 (1 : Int32) (200 : Int32)  hh1 hh2) (va_cwS 3 hts gX9_silentIn_X9_needWithin rfl rfl rfl (by decide +kernel) ⟨Nat.le_of_ble_eq_true rfl, Nat.le_of_ble_eq_true rfl⟩) hK (mA_mono hS.1) hP hS rfl hl.1 rfl (lv_room (Nat.le_of_ble_eq_true rfl)) dX9_silentIn_5 ⟨Nat.le_of_ble_eq_true rfl, Nat.le_of_ble_eq_true rfl⟩ (fun H locs hP hS _ _ => ?_)
  refine lv_aload_n hx hb dX9_silentIn_8 rfl (lv_at hl 0 rfl) ?_
  refine g_get (ci := 9) (C := RX9) (T := TX9) (N := 4) (v := .ref (a 18)) hx hb hts iX9_silentIn_X9 hown hK hP (by decide) rfl rfl 1 (by decide) rfl (by decide +kernel) rfl dX9_silentIn_9 ?_
  refine g_cVi (As := []) (rest := []) ⟨hx, hb, hml, hown, hts⟩ (c_X6_countSounding l G cA a ha S L H.size 18 (by decide) ) (cwV 0 hts gX9_silentIn_X6_countSounding rfl rfl rfl (by decide +kernel) ⟨Nat.le_of_ble_eq_true rfl, Nat.le_of_ble_eq_true rfl⟩) (g_recv hK hP (lt_G (by decide)) (cM_G (by decide)) (C := RX6) (T := TX6) (N := 12) rfl) hK (mA_mono hS.1) hP hS rfl hl.1 rfl (lv_room (Nat.le_of_ble_eq_true rfl)) dX9_silentIn_12 ⟨Nat.le_of_ble_eq_true rfl, Nat.le_of_ble_eq_true rfl⟩ (fun H locs hP hS _ _ => ?_)
  refine lv_if_ne (tgt := 20) hx hb dX9_silentIn_15 (by decide) (fun c1 => ?_) (fun c1 => ?_)
  ·
    refine lv_aload_n hx hb dX9_silentIn_20 rfl (lv_at hl 0 rfl) ?_
    refine g_get (ci := 9) (C := RX9) (T := TX9) (N := 4) (v := .ref (a 26)) hx hb hts iX9_silentIn_X9 hown hK hP (by decide) rfl rfl 2 (by decide) rfl (by decide +kernel) rfl dX9_silentIn_21 ?_
    refine lv_aload_n hx hb dX9_silentIn_24 rfl (lv_at hl 0 rfl) ?_
    refine g_get (ci := 9) (C := RX9) (T := TX9) (N := 4) (v := .ref (a 18)) hx hb hts iX9_silentIn_X9 hown hK hP (by decide) rfl rfl 1 (by decide) rfl (by decide +kernel) rfl dX9_silentIn_25 ?_
    refine g_cVv (As := [.ref (a 18)]) (rest := []) ⟨hx, hb, hml, hown, hts⟩ (c_X6_copy l G cA a ha S L H.size 26 18 (by decide) (by decide) (hh3 c1) (hh4 c1)) (cwV 1 hts gX9_silentIn_X6_copy rfl rfl rfl (by decide +kernel) ⟨Nat.le_of_ble_eq_true rfl, Nat.le_of_ble_eq_true rfl⟩) (g_recv hK hP (lt_G (by decide)) (cM_G (by decide)) (C := RX6) (T := TX6) (N := 12) rfl) hK (mA_mono hS.1) hP hS rfl hl.1 rfl (lv_room (Nat.le_of_ble_eq_true rfl)) dX9_silentIn_28 ⟨Nat.le_of_ble_eq_true rfl, Nat.le_of_ble_eq_true rfl⟩ (fun H locs hP hS _ _ => ?_)
    refine lv_iconst (v := 1) hx hb dX9_silentIn_31 (by decide) ?_
    refine lv_istore_n (lv' := [(2, .int 1), (0, .ref (a 0)), (1, .int p1)]) hx hb dX9_silentIn_32 rfl hl (by decide) rfl (fun ls hl => ?_)
    have loop : ∀ (k i : Nat), i + k = p1.toNatClampNeg → seX9_silentIn_33 S p1 k i = ((rX9_silentIn S p1), (fX9_silentIn S p1)) → ∀ (zS : Mm) (H : Heap) (locs : List Loc) (ls : Array Slot), zS = (lpX9_silentIn_33 S p1 i) → va_P G vwCl (wG 37 a (cM a cA) zS L) H → va_S (mA 37 a s.heap.size) s.heap H locs → lv_has ls 3 [(2, .int (nI (i + 1))), (0, .ref (a 0)), (1, .int p1)] → W p l e ({ frames := 7, cells := 0, slots := 0, locals := 163 } : Room) s m ([.ref (a 0), .int p1] : List Value).toArray below meth c H locs 0 0 (MQ below (gQi (rX9_silentIn S p1) G 37 a (cM a cA) (fX9_silentIn S p1) L s.heap.size) ([.ref (a 0), .int p1] : List Value).toArray s 0 0 (mA 37 a s.heap.size)) (F0 m 33 ls []) := by
      intro k
      induction k with
      | zero =>
        intro i hi hse zS H locs ls ezS hP hS hl
        refine lv_iload_n hx hb dX9_silentIn_33 rfl (lv_at hl 0 rfl) ?_
        refine lv_iload_n hx hb dX9_silentIn_34 rfl (lv_at hl 2 rfl) ?_
        refine lv_icmp_gt (tgt := 64) hx hb dX9_silentIn_35 (by decide) (fun cx => ?_) (fun cx => absurd cx (by have q : p1 < nI (i + 1) := (se_exit hi hh2); exact fun z => z q))
        refine lv_iconst (v := (-1)) hx hb dX9_silentIn_64 (by decide) ?_
        have q9 := hse
        rw [seX9_silentIn_33_0, ← ezS] at q9
        have q8 := Prod.mk.inj q9
        exact g_iret hx hb hr hlocks q8.1.symm q8.2.symm rfl hP hS dX9_silentIn_65
      | succ k ih =>
        intro i hi hse zS H locs ls ezS hP hS hl
        refine lv_iload_n hx hb dX9_silentIn_33 rfl (lv_at hl 0 rfl) ?_
        refine lv_iload_n hx hb dX9_silentIn_34 rfl (lv_at hl 2 rfl) ?_
        refine lv_icmp_gt (tgt := 64) hx hb dX9_silentIn_35 (by decide) (fun cx => absurd cx ((se_body hi))) (fun cx => ?_)
        refine lv_aload_n hx hb dX9_silentIn_38 rfl (lv_at hl 1 rfl) ?_
        refine g_get (ci := 9) (C := RX9) (T := TX9) (N := 4) (v := .ref (a 26)) hx hb hts iX9_silentIn_X9 hown hK hP (by decide) rfl rfl 2 (by decide) rfl (by decide +kernel) rfl dX9_silentIn_39 ?_
        refine g_cVi (As := []) (rest := []) ⟨hx, hb, hml, hown, hts⟩ (c_X6_advance l G cA a ha zS L H.size 26 (by decide) ) (cwV 0 hts gX9_silentIn_X6_advance rfl rfl rfl (by decide +kernel) ⟨Nat.le_of_ble_eq_true rfl, Nat.le_of_ble_eq_true rfl⟩) (g_recv hK hP (lt_G (by decide)) (cM_G (by decide)) (C := RX6) (T := TX6) (N := 12) rfl) hK (mA_mono hS.1) hP hS rfl hl.1 rfl (lv_room (Nat.le_of_ble_eq_true rfl)) dX9_silentIn_42 ⟨Nat.le_of_ble_eq_true rfl, Nat.le_of_ble_eq_true rfl⟩ (fun H locs hP hS _ _ => ?_)
        refine lv_pop hx hb dX9_silentIn_45 rfl ?_
        refine lv_aload_n hx hb dX9_silentIn_46 rfl (lv_at hl 1 rfl) ?_
        refine g_get (ci := 9) (C := RX9) (T := TX9) (N := 4) (v := .ref (a 26)) hx hb hts iX9_silentIn_X9 hown hK hP (by decide) rfl rfl 2 (by decide) rfl (by decide +kernel) rfl dX9_silentIn_47 ?_
        refine g_cVi (As := []) (rest := []) ⟨hx, hb, hml, hown, hts⟩ (c_X6_countSounding l G cA a ha (fX6_advance zS 26) L H.size 26 (by decide) ) (cwV 0 hts gX9_silentIn_X6_countSounding rfl rfl rfl (by decide +kernel) ⟨Nat.le_of_ble_eq_true rfl, Nat.le_of_ble_eq_true rfl⟩) (g_recv hK hP (lt_G (by decide)) (cM_G (by decide)) (C := RX6) (T := TX6) (N := 12) rfl) hK (mA_mono hS.1) hP hS rfl hl.1 rfl (lv_room (Nat.le_of_ble_eq_true rfl)) dX9_silentIn_50 ⟨Nat.le_of_ble_eq_true rfl, Nat.le_of_ble_eq_true rfl⟩ (fun H locs hP hS _ _ => ?_)
        refine lv_if_ne (tgt := 58) hx hb dX9_silentIn_53 (by decide) (fun c2 => ?_) (fun c2 => ?_)
        ·
          refine lv_iinc (v := nI (i + 1 + 1)) (lv' := [(2, .int (nI (i + 1 + 1))), (0, .ref (a 0)), (1, .int p1)]) hx hb dX9_silentIn_58 hl (k := 0) rfl (nI_1 (i + 1)) (by decide) rfl (fun ls hl => ?_)
          refine lv_goto (tgt := 33) hx hb dX9_silentIn_61 (by decide) ?_
          have q9 := hse
          rw [seX9_silentIn_33_s, ← ezS] at q9
          unfold eseX9_silentIn_33 at q9
          rw [if_neg c2] at q9
          exact ih (i + 1) (by omega) q9 (fX6_advance zS 26) _ _ _ (by rw [lpX9_silentIn_33_s]; (try rw [← ezS]); unfold blpX9_silentIn_33; rfl) hP hS (lv_sub hl [0, 1, 2] rfl)
        ·
          refine lv_iload_n hx hb dX9_silentIn_56 rfl (lv_at hl 0 rfl) ?_
          have q9 := hse
          rw [seX9_silentIn_33_s, ← ezS] at q9
          unfold eseX9_silentIn_33 at q9
          rw [if_pos c2] at q9
          have q8 := Prod.mk.inj q9
          exact g_iret hx hb hr hlocks q8.1.symm q8.2.symm rfl hP hS dX9_silentIn_57
    have h7 : (rX9_silentIn S p1) = (seX9_silentIn_33 S p1 p1.toNatClampNeg 0).1 := by unfold rX9_silentIn; rw [if_neg c1]
    have h6 : (fX9_silentIn S p1) = (seX9_silentIn_33 S p1 p1.toNatClampNeg 0).2 := by unfold fX9_silentIn; rw [if_neg c1]
    have h9 : (seX9_silentIn_33 S p1 p1.toNatClampNeg 0) = ((rX9_silentIn S p1), (fX9_silentIn S p1)) := by rw [h7, h6]
    exact loop p1.toNatClampNeg 0 (Nat.zero_add _) h9 (fX6_copy S 26 18) _ _ _ (by rw [lpX9_silentIn_33_0]) hP hS (lv_sub hl [0, 1, 2] rfl)
  ·
    refine lv_iconst (v := 0) hx hb dX9_silentIn_18 (by decide) ?_
    exact g_iret hx hb hr hlocks (by unfold rX9_silentIn; rw [if_pos c1]) (by unfold fX9_silentIn; rw [if_pos c1]) rfl hP hS dX9_silentIn_19

