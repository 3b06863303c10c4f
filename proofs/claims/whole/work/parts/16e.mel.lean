def bX9_run_12_zS (S : Mm) (L : Int64) (p1 : Int32) (zS : Mm) (z2 : Int32) (zL : Int64) (i : Nat) : Mm := fX2_count (fX6_advance zS 18) zL (rX6_advance zS 18)
def bX9_run_12_z2 (S : Mm) (L : Int64) (p1 : Int32) (zS : Mm) (z2 : Int32) (zL : Int64) (i : Nat) : Int32 := rX2_count (fX6_advance zS 18) zL (rX6_advance zS 18)
def bX9_run_12_zL (S : Mm) (L : Int64) (p1 : Int32) (zS : Mm) (z2 : Int32) (zL : Int64) (i : Nat) : Int64 := lX2_count (fX6_advance zS 18) zL (rX6_advance zS 18)
def lpX9_run_12 (S : Mm) (L : Int64) (p1 : Int32) : Nat → Mm × Int32 × Int64
  | 0 => (S, 0, L)
  | i + 1 => (bX9_run_12_zS S L p1 (lpX9_run_12 S L p1 i).1 (lpX9_run_12 S L p1 i).2.1 (lpX9_run_12 S L p1 i).2.2 i, bX9_run_12_z2 S L p1 (lpX9_run_12 S L p1 i).1 (lpX9_run_12 S L p1 i).2.1 (lpX9_run_12 S L p1 i).2.2 i, bX9_run_12_zL S L p1 (lpX9_run_12 S L p1 i).1 (lpX9_run_12 S L p1 i).2.1 (lpX9_run_12 S L p1 i).2.2 i)
theorem lpX9_run_12_0 (S : Mm) (L : Int64) (p1 : Int32) : lpX9_run_12 S L p1 0 = (S, 0, L) := by rw [lpX9_run_12]
theorem lpX9_run_12_s (S : Mm) (L : Int64) (p1 : Int32) (i : Nat) : lpX9_run_12 S L p1 (i + 1) = (bX9_run_12_zS S L p1 (lpX9_run_12 S L p1 i).1 (lpX9_run_12 S L p1 i).2.1 (lpX9_run_12 S L p1 i).2.2 i, bX9_run_12_z2 S L p1 (lpX9_run_12 S L p1 i).1 (lpX9_run_12 S L p1 i).2.1 (lpX9_run_12 S L p1 i).2.2 i, bX9_run_12_zL S L p1 (lpX9_run_12 S L p1 i).1 (lpX9_run_12 S L p1 i).2.1 (lpX9_run_12 S L p1 i).2.2 i) := by rw [lpX9_run_12]
def rX9_run (S : Mm) (L : Int64) (p1 : Int32) : Int32 := (lpX9_run_12 S L p1 (p1.toNatClampNeg)).2.1
def fX9_run (S : Mm) (L : Int64) (p1 : Int32) : Mm := (lpX9_run_12 S L p1 (p1.toNatClampNeg)).1
def lX9_run (S : Mm) (L : Int64) (p1 : Int32) : Int64 := (lpX9_run_12 S L p1 (p1.toNatClampNeg)).2.2
theorem iX9_run_X9 : ∀ w ∈ u_ws RX9 TX9 4, w ∈ wsX9_run := by decide +kernel
set_option maxHeartbeats 4000000 in
set_option maxRecDepth 100000 in
theorem c_X9_run (l : Launch) (G : va_G) (cA : ClassId) (a : Nat → Nat) (ha : apart 38 a) (S : Mm) (L : Int64) (sz : Nat) (p1 : Int32)  (hh1 : ¬ p1 < (1 : Int32)) (hh2 : p1 ≤ (200 : Int32)) : Met l yX9_run wsX9_run ({ frames := 7, cells := 0, slots := 0, locals := 163 } : Room) (va_Pc [.ref (a 0), .int p1] (gI G cA (a 37) 38 a (cM a cA) S L sz)) (gQi (rX9_run S L p1) G 38 a (cM a cA) (fX9_run S L p1) (lX9_run S L p1) sz) 0 0 (mA 38 a sz) := by
  refine g_met (cc := cX9_run) (maxL := 4) (ret := (some .int)) (by decide) rfl (Nat.le_of_ble_eq_true rfl) ?_
  intro p e s m below meth c ls hx hb hr hlocks hml hts hown hnm hsz hK hP hS hl
  subst hsz
  have hl : lv_has ls 4 [(0, .ref (a 0)), (1, .int p1)] := hl
  refine lv_iload_n hx hb dX9_run_0 rfl (lv_at hl 1 rfl) ?_
  refine lv_iconst (v := 1) hx hb dX9_run_1 (by decide) ?_
  refine lv_sipush (v := 200) hx hb dX9_run_2 (by decide) ?_
  refine g_cSv (As := [.int p1, .int 1, .int 200]) (rest := []) ⟨hx, hb, hml, hown, hts⟩ (c_X9_needWithin l G cA a ha S L s.heap.size p1 (1 : Int32) (200 : Int32)  hh1 hh2) (va_cwS 3 hts gX9_run_X9_needWithin rfl rfl rfl (by decide +kernel) ⟨Nat.le_of_ble_eq_true rfl, Nat.le_of_ble_eq_true rfl⟩) hK (mA_mono hS.1) hP hS rfl hl.1 rfl (lv_room (Nat.le_of_ble_eq_true rfl)) dX9_run_5 ⟨Nat.le_of_ble_eq_true rfl, Nat.le_of_ble_eq_true rfl⟩ (fun H locs hP hS _ _ => ?_)
  refine lv_iconst (v := 0) hx hb dX9_run_8 (by decide) ?_
  refine lv_istore_n (lv' := [(2, .int 0), (0, .ref (a 0)), (1, .int p1)]) hx hb dX9_run_9 rfl hl (by decide) rfl (fun ls hl => ?_)
  refine lv_iconst (v := 0) hx hb dX9_run_10 (by decide) ?_
  refine lv_istore_n (lv' := [(3, .int 0), (2, .int 0), (0, .ref (a 0)), (1, .int p1)]) hx hb dX9_run_11 rfl hl (by decide) rfl (fun ls hl => ?_)
  have loop : ∀ (k i : Nat), i ≤ p1.toNatClampNeg → p1.toNatClampNeg < i + k → ∀ (zS : Mm) (z2 : Int32) (zL : Int64) (H : Heap) (locs : List Loc) (ls : Array Slot), zS = (lpX9_run_12 S L p1 i).1 → z2 = (lpX9_run_12 S L p1 i).2.1 → zL = (lpX9_run_12 S L p1 i).2.2 → va_P G vwCl (wG 38 a (cM a cA) zS zL) H → va_S (mA 38 a s.heap.size) s.heap H locs → lv_has ls 4 [(3, .int (nI i)), (2, .int z2), (0, .ref (a 0)), (1, .int p1)] → W p l e ({ frames := 7, cells := 0, slots := 0, locals := 163 } : Room) s m ([.ref (a 0), .int p1] : List Value).toArray below meth c H locs 0 0 (MQ below (gQi (rX9_run S L p1) G 38 a (cM a cA) (fX9_run S L p1) (lX9_run S L p1) s.heap.size) ([.ref (a 0), .int p1] : List Value).toArray s 0 0 (mA 38 a s.heap.size)) (F0 m 12 ls []) := by
    intro k
    induction k with
    | zero => intro i h1 h2; omega
    | succ k ih =>
      intro i hi hk zS z2 zL H locs ls ezS ez2 ezL hP hS hl
      refine lv_iload_n hx hb dX9_run_12 rfl (lv_at hl 0 rfl) ?_
      refine lv_iload_n hx hb dX9_run_13 rfl (lv_at hl 3 rfl) ?_
      refine lv_icmp_ge (tgt := 38) hx hb dX9_run_14 (by decide) (fun cx => ?_) (fun cx => ?_)
      ·
        have hN := lx_exit hi cx
        subst hN
        rw [ezS] at hP
        rw [ez2] at hl
        rw [ezL] at hP
        refine lv_iload_n hx hb dX9_run_38 rfl (lv_at hl 1 rfl) ?_
        exact g_iret hx hb hr hlocks (by unfold rX9_run; rfl) (by unfold fX9_run; rfl) (by unfold lX9_run; rfl) hP hS dX9_run_39
      ·
        have hlt := lx_body cx hi
        refine lv_aload_n hx hb dX9_run_17 rfl (lv_at hl 2 rfl) ?_
        refine g_get (ci := 9) (C := RX9) (T := TX9) (N := 4) (v := .ref (a 34)) hx hb hts iX9_run_X9 hown hK hP (by decide) rfl rfl 3 (by decide) rfl (by decide +kernel) rfl dX9_run_18 ?_
        refine lv_aload_n hx hb dX9_run_21 rfl (lv_at hl 2 rfl) ?_
        refine g_get (ci := 9) (C := RX9) (T := TX9) (N := 4) (v := .ref (a 18)) hx hb hts iX9_run_X9 hown hK hP (by decide) rfl rfl 1 (by decide) rfl (by decide +kernel) rfl dX9_run_22 ?_
        refine g_cVi (As := []) (rest := [.ref (a 34)]) ⟨hx, hb, hml, hown, hts⟩ (c_X6_advance l G cA a ha zS zL H.size 18 (by decide) ) (cwV 0 hts gX9_run_X6_advance rfl rfl rfl (by decide +kernel) ⟨Nat.le_of_ble_eq_true rfl, Nat.le_of_ble_eq_true rfl⟩) (g_recv hK hP (lt_G (by decide)) (cM_G (by decide)) (C := RX6) (T := TX6) (N := 12) rfl) hK (mA_mono hS.1) hP hS rfl hl.1 rfl (lv_room (Nat.le_of_ble_eq_true rfl)) dX9_run_25 ⟨Nat.le_of_ble_eq_true rfl, Nat.le_of_ble_eq_true rfl⟩ (fun H locs hP hS _ _ => ?_)
        refine g_cVi (As := [.int (rX6_advance zS 18)]) (rest := []) ⟨hx, hb, hml, hown, hts⟩ (c_X2_count l G cA a ha (fX6_advance zS 18) zL H.size (rX6_advance zS 18)  ) (cwV 1 hts gX9_run_X2_count rfl rfl rfl (by decide +kernel) ⟨Nat.le_of_ble_eq_true rfl, Nat.le_of_ble_eq_true rfl⟩) (g_recv hK hP (by decide) cM_T (C := RX2) (T := TX2) (N := 8) rfl) hK (mA_mono hS.1) hP hS rfl hl.1 rfl (lv_room (Nat.le_of_ble_eq_true rfl)) dX9_run_28 ⟨Nat.le_of_ble_eq_true rfl, Nat.le_of_ble_eq_true rfl⟩ (fun H locs hP hS _ _ => ?_)
        refine lv_istore_n (lv' := [(2, .int (rX2_count (fX6_advance zS 18) zL (rX6_advance zS 18))), (3, .int (nI i)), (0, .ref (a 0)), (1, .int p1)]) hx hb dX9_run_31 rfl hl (by decide) rfl (fun ls hl => ?_)
        refine lv_iinc (v := nI (i + 1)) (lv' := [(3, .int (nI (i + 1))), (2, .int (rX2_count (fX6_advance zS 18) zL (rX6_advance zS 18))), (0, .ref (a 0)), (1, .int p1)]) hx hb dX9_run_32 hl (k := 1) rfl (nI_1 i) (by decide) rfl (fun ls hl => ?_)
        refine lv_goto (tgt := 12) hx hb dX9_run_35 (by decide) ?_
        exact ih (i + 1) (by omega) (by omega) (fX2_count (fX6_advance zS 18) zL (rX6_advance zS 18)) (rX2_count (fX6_advance zS 18) zL (rX6_advance zS 18)) (lX2_count (fX6_advance zS 18) zL (rX6_advance zS 18)) _ _ _ (by rw [lpX9_run_12_s]; (try rw [← ezS]); (try rw [← ez2]); (try rw [← ezL]); (try dsimp only); unfold bX9_run_12_zS; rfl) (by rw [lpX9_run_12_s]; (try rw [← ezS]); (try rw [← ez2]); (try rw [← ezL]); (try dsimp only); unfold bX9_run_12_z2; rfl) (by rw [lpX9_run_12_s]; (try rw [← ezS]); (try rw [← ez2]); (try rw [← ezL]); (try dsimp only); unfold bX9_run_12_zL; rfl) hP hS (lv_sub hl [0, 1, 2, 3] rfl)
  exact loop (p1.toNatClampNeg + 1) 0 (Nat.zero_le _) (by omega) S 0 L _ _ _ (by rw [lpX9_run_12_0]) (by rw [lpX9_run_12_0]) (by rw [lpX9_run_12_0]) hP hS (lv_sub hl [0, 1, 2, 3] rfl)
