def vX9_wouldPeak_1 (S : Mm) (p1 : Int32) (zS : Mm) (z2 : Int32) (i : Nat) : Int32 := (if 0 ≤ rX9_kept (rX6_advance zS 26) (32767 : Int32) then rX9_kept (rX6_advance zS 26) (32767 : Int32) else 0 - (rX9_kept (rX6_advance zS 26) (32767 : Int32)))
def bX9_wouldPeak_23_zS (S : Mm) (p1 : Int32) (zS : Mm) (z2 : Int32) (i : Nat) : Mm := fX6_advance zS 26
def bX9_wouldPeak_23_z2 (S : Mm) (p1 : Int32) (zS : Mm) (z2 : Int32) (i : Nat) : Int32 := (if z2 < (vX9_wouldPeak_1 S p1 zS z2 i) then (vX9_wouldPeak_1 S p1 zS z2 i) else z2)
def lpX9_wouldPeak_23 (S : Mm) (p1 : Int32) : Nat → Mm × Int32
  | 0 => (fX6_copy S 26 18, 0)
  | i + 1 => (bX9_wouldPeak_23_zS S p1 (lpX9_wouldPeak_23 S p1 i).1 (lpX9_wouldPeak_23 S p1 i).2 i, bX9_wouldPeak_23_z2 S p1 (lpX9_wouldPeak_23 S p1 i).1 (lpX9_wouldPeak_23 S p1 i).2 i)
theorem lpX9_wouldPeak_23_0 (S : Mm) (p1 : Int32) : lpX9_wouldPeak_23 S p1 0 = (fX6_copy S 26 18, 0) := by rw [lpX9_wouldPeak_23]
theorem lpX9_wouldPeak_23_s (S : Mm) (p1 : Int32) (i : Nat) : lpX9_wouldPeak_23 S p1 (i + 1) = (bX9_wouldPeak_23_zS S p1 (lpX9_wouldPeak_23 S p1 i).1 (lpX9_wouldPeak_23 S p1 i).2 i, bX9_wouldPeak_23_z2 S p1 (lpX9_wouldPeak_23 S p1 i).1 (lpX9_wouldPeak_23 S p1 i).2 i) := by rw [lpX9_wouldPeak_23]
def rX9_wouldPeak (S : Mm) (p1 : Int32) : Int32 := (lpX9_wouldPeak_23 S p1 (p1.toNatClampNeg)).2
def fX9_wouldPeak (S : Mm) (p1 : Int32) : Mm := (lpX9_wouldPeak_23 S p1 (p1.toNatClampNeg)).1
theorem iX9_wouldPeak_X9 : ∀ w ∈ u_ws RX9 TX9 4, w ∈ wsX9_wouldPeak := by decide +kernel
set_option maxHeartbeats 4000000 in
set_option maxRecDepth 100000 in
theorem c_X9_wouldPeak (l : Launch) (G : va_G) (cA : ClassId) (a : Nat → Nat) (ha : apart 38 a) (S : Mm) (L : Int64) (sz : Nat) (p1 : Int32)  (hh1 : ¬ p1 < (1 : Int32)) (hh2 : p1 ≤ (200 : Int32)) (hh3 : narrow .boolean (.int (eX6_copy S 26 18)) = .int (eX6_copy S 26 18)) (hh4 : fits .boolean (.int (eX6_copy S 26 18)) = true) : Met l yX9_wouldPeak wsX9_wouldPeak ({ frames := 7, cells := 0, slots := 0, locals := 163 } : Room) (va_Pc [.ref (a 0), .int p1] (gI G cA (a 37) 38 a (cM a cA) S L sz)) (gQi (rX9_wouldPeak S p1) G 38 a (cM a cA) (fX9_wouldPeak S p1) L sz) 0 0 (mA 38 a sz) := by
  refine g_met (cc := cX9_wouldPeak) (maxL := 4) (ret := (some .int)) (by decide) rfl (Nat.le_of_ble_eq_true rfl) ?_
  intro p e s m below meth c ls hx hb hr hlocks hml hts hown hnm hsz hK hP hS hl
  subst hsz
  have hl : lv_has ls 4 [(0, .ref (a 0)), (1, .int p1)] := hl
  refine lv_iload_n hx hb dX9_wouldPeak_0 rfl (lv_at hl 1 rfl) ?_
  refine lv_iconst (v := 1) hx hb dX9_wouldPeak_1 (by decide) ?_
  refine lv_sipush (v := 200) hx hb dX9_wouldPeak_2 (by decide) ?_
  refine g_cSv (As := [.int p1, .int 1, .int 200]) (rest := []) ⟨hx, hb, hml, hown, hts⟩ (c_X9_needWithin l G cA a ha S L s.heap.size p1 (1 : Int32) (200 : Int32)  hh1 hh2) (va_cwS 3 hts gX9_wouldPeak_X9_needWithin rfl rfl rfl (by decide +kernel) ⟨Nat.le_of_ble_eq_true rfl, Nat.le_of_ble_eq_true rfl⟩) hK (mA_mono hS.1) hP hS rfl hl.1 rfl (lv_room (Nat.le_of_ble_eq_true rfl)) dX9_wouldPeak_5 ⟨Nat.le_of_ble_eq_true rfl, Nat.le_of_ble_eq_true rfl⟩ (fun H locs hP hS _ _ => ?_)
  refine lv_aload_n hx hb dX9_wouldPeak_8 rfl (lv_at hl 0 rfl) ?_
  refine g_get (ci := 9) (C := RX9) (T := TX9) (N := 4) (v := .ref (a 26)) hx hb hts iX9_wouldPeak_X9 hown hK hP (by decide) rfl rfl 2 (by decide) rfl (by decide +kernel) rfl dX9_wouldPeak_9 ?_
  refine lv_aload_n hx hb dX9_wouldPeak_12 rfl (lv_at hl 0 rfl) ?_
  refine g_get (ci := 9) (C := RX9) (T := TX9) (N := 4) (v := .ref (a 18)) hx hb hts iX9_wouldPeak_X9 hown hK hP (by decide) rfl rfl 1 (by decide) rfl (by decide +kernel) rfl dX9_wouldPeak_13 ?_
  refine g_cVv (As := [.ref (a 18)]) (rest := []) ⟨hx, hb, hml, hown, hts⟩ (c_X6_copy l G cA a ha S L H.size 26 18 (by decide) (by decide) hh3 hh4) (cwV 1 hts gX9_wouldPeak_X6_copy rfl rfl rfl (by decide +kernel) ⟨Nat.le_of_ble_eq_true rfl, Nat.le_of_ble_eq_true rfl⟩) (g_recv hK hP (lt_G (by decide)) (cM_G (by decide)) (C := RX6) (T := TX6) (N := 12) rfl) hK (mA_mono hS.1) hP hS rfl hl.1 rfl (lv_room (Nat.le_of_ble_eq_true rfl)) dX9_wouldPeak_16 ⟨Nat.le_of_ble_eq_true rfl, Nat.le_of_ble_eq_true rfl⟩ (fun H locs hP hS _ _ => ?_)
  refine lv_iconst (v := 0) hx hb dX9_wouldPeak_19 (by decide) ?_
  refine lv_istore_n (lv' := [(2, .int 0), (0, .ref (a 0)), (1, .int p1)]) hx hb dX9_wouldPeak_20 rfl hl (by decide) rfl (fun ls hl => ?_)
  refine lv_iconst (v := 0) hx hb dX9_wouldPeak_21 (by decide) ?_
  refine lv_istore_n (lv' := [(3, .int 0), (2, .int 0), (0, .ref (a 0)), (1, .int p1)]) hx hb dX9_wouldPeak_22 rfl hl (by decide) rfl (fun ls hl => ?_)
  have loop : ∀ (k i : Nat), i ≤ p1.toNatClampNeg → p1.toNatClampNeg < i + k → ∀ (zS : Mm) (z2 : Int32) (H : Heap) (locs : List Loc) (ls : Array Slot), zS = (lpX9_wouldPeak_23 S p1 i).1 → z2 = (lpX9_wouldPeak_23 S p1 i).2 → va_P G vwCl (wG 38 a (cM a cA) zS L) H → va_S (mA 38 a s.heap.size) s.heap H locs → lv_has ls 4 [(3, .int (nI i)), (2, .int z2), (0, .ref (a 0)), (1, .int p1)] → W p l e ({ frames := 7, cells := 0, slots := 0, locals := 163 } : Room) s m ([.ref (a 0), .int p1] : List Value).toArray below meth c H locs 0 0 (MQ below (gQi (rX9_wouldPeak S p1) G 38 a (cM a cA) (fX9_wouldPeak S p1) L s.heap.size) ([.ref (a 0), .int p1] : List Value).toArray s 0 0 (mA 38 a s.heap.size)) (F0 m 23 ls []) := by
    intro k
    induction k with
    | zero => intro i h1 h2; omega
    | succ k ih =>
      intro i hi hk zS z2 H locs ls ezS ez2 hP hS hl
      refine lv_iload_n hx hb dX9_wouldPeak_23 rfl (lv_at hl 0 rfl) ?_
      refine lv_iload_n hx hb dX9_wouldPeak_24 rfl (lv_at hl 3 rfl) ?_
      refine lv_icmp_ge (tgt := 55) hx hb dX9_wouldPeak_25 (by decide) (fun cx => ?_) (fun cx => ?_)
      ·
        have hN := lx_exit hi cx
        subst hN
        rw [ezS] at hP
        rw [ez2] at hl
        refine lv_iload_n hx hb dX9_wouldPeak_55 rfl (lv_at hl 1 rfl) ?_
        exact g_iret hx hb hr hlocks (by unfold rX9_wouldPeak; rfl) (by unfold fX9_wouldPeak; rfl) rfl hP hS dX9_wouldPeak_56
      ·
        have hlt := lx_body cx hi
        refine lv_iload_n hx hb dX9_wouldPeak_28 rfl (lv_at hl 1 rfl) ?_
        refine lv_aload_n hx hb dX9_wouldPeak_29 rfl (lv_at hl 2 rfl) ?_
        refine g_get (ci := 9) (C := RX9) (T := TX9) (N := 4) (v := .ref (a 26)) hx hb hts iX9_wouldPeak_X9 hown hK hP (by decide) rfl rfl 2 (by decide) rfl (by decide +kernel) rfl dX9_wouldPeak_30 ?_
        refine g_cVi (As := []) (rest := [.int z2]) ⟨hx, hb, hml, hown, hts⟩ (c_X6_advance l G cA a ha zS L H.size 26 (by decide) ) (cwV 0 hts gX9_wouldPeak_X6_advance rfl rfl rfl (by decide +kernel) ⟨Nat.le_of_ble_eq_true rfl, Nat.le_of_ble_eq_true rfl⟩) (g_recv hK hP (lt_G (by decide)) (cM_G (by decide)) (C := RX6) (T := TX6) (N := 12) rfl) hK (mA_mono hS.1) hP hS rfl hl.1 rfl (lv_room (Nat.le_of_ble_eq_true rfl)) dX9_wouldPeak_33 ⟨Nat.le_of_ble_eq_true rfl, Nat.le_of_ble_eq_true rfl⟩ (fun H locs hP hS _ _ => ?_)
        refine lv_sipush (v := 32767) hx hb dX9_wouldPeak_36 (by decide) ?_
        refine g_cSi (As := [.int (rX6_advance zS 26), .int 32767]) (rest := [.int z2]) ⟨hx, hb, hml, hown, hts⟩ (c_X9_kept l G cA a ha (fX6_advance zS 26) L H.size (rX6_advance zS 26) (32767 : Int32)  ) (va_cwS 2 hts gX9_wouldPeak_X9_kept rfl rfl rfl (by decide +kernel) ⟨Nat.le_of_ble_eq_true rfl, Nat.le_of_ble_eq_true rfl⟩) hK (mA_mono hS.1) hP hS rfl hl.1 rfl (lv_room (Nat.le_of_ble_eq_true rfl)) dX9_wouldPeak_39 ⟨Nat.le_of_ble_eq_true rfl, Nat.le_of_ble_eq_true rfl⟩ (fun H locs hP hS _ _ => ?_)
        refine va_mabs hx hb (hml.trans hl.1.symm) hown (hts (.methodLink RX9 234 Lib.Math.abs.name) (by decide +kernel)) (hts (.static Lib.Math.abs.name) (by decide +kernel)) (hts (.initialized "java/lang/Math") (by decide +kernel)) (hts (.code Lib.Math.abs.name Lib.Math.abs.code 1 (some .int)) (by decide +kernel)) (Nat.le_of_ble_eq_true rfl) (Nat.le_of_ble_eq_true rfl) (Nat.le_of_ble_eq_true rfl) (Nat.le_of_ble_eq_true rfl) dX9_wouldPeak_42 ?_
        refine W.eq (g2 := F0 m 45 ls [.int (vX9_wouldPeak_1 S p1 zS z2 i), .int z2]) rfl ?_
        refine va_mmax hx hb (hml.trans hl.1.symm) hown (hts (.methodLink RX9 239 Lib.Math.max.name) (by decide +kernel)) (hts (.static Lib.Math.max.name) (by decide +kernel)) (hts (.initialized "java/lang/Math") (by decide +kernel)) (hts (.code Lib.Math.max.name Lib.Math.max.code 2 (some .int)) (by decide +kernel)) (Nat.le_of_ble_eq_true rfl) (Nat.le_of_ble_eq_true rfl) (Nat.le_of_ble_eq_true rfl) (Nat.le_of_ble_eq_true rfl) dX9_wouldPeak_45 ?_
        refine lv_istore_n (lv' := [(2, .int (if z2 < (vX9_wouldPeak_1 S p1 zS z2 i) then (vX9_wouldPeak_1 S p1 zS z2 i) else z2)), (3, .int (nI i)), (0, .ref (a 0)), (1, .int p1)]) hx hb dX9_wouldPeak_48 rfl hl (by decide) rfl (fun ls hl => ?_)
        refine lv_iinc (v := nI (i + 1)) (lv' := [(3, .int (nI (i + 1))), (2, .int (if z2 < (vX9_wouldPeak_1 S p1 zS z2 i) then (vX9_wouldPeak_1 S p1 zS z2 i) else z2)), (0, .ref (a 0)), (1, .int p1)]) hx hb dX9_wouldPeak_49 hl (k := 1) rfl (nI_1 i) (by decide) rfl (fun ls hl => ?_)
        refine lv_goto (tgt := 23) hx hb dX9_wouldPeak_52 (by decide) ?_
        exact ih (i + 1) (by omega) (by omega) (fX6_advance zS 26) (if z2 < (vX9_wouldPeak_1 S p1 zS z2 i) then (vX9_wouldPeak_1 S p1 zS z2 i) else z2) _ _ _ (by rw [lpX9_wouldPeak_23_s]; (try rw [← ezS]); (try rw [← ez2]); (try dsimp only); unfold bX9_wouldPeak_23_zS; rfl) (by rw [lpX9_wouldPeak_23_s]; (try rw [← ezS]); (try rw [← ez2]); (try dsimp only); unfold bX9_wouldPeak_23_z2; rfl) hP hS (lv_sub hl [0, 1, 2, 3] rfl)
  exact loop (p1.toNatClampNeg + 1) 0 (Nat.zero_le _) (by omega) (fX6_copy S 26 18) 0 _ _ _ (by rw [lpX9_wouldPeak_23_0]) (by rw [lpX9_wouldPeak_23_0]) hP hS (lv_sub hl [0, 1, 2, 3] rfl)

