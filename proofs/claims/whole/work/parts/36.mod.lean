def bX11_run_26_zS (S : Mm) (L : Int64) (p1 : Int32) (zS : Mm) (z2 : Int32) (zL : Int64) (i : Nat) : Mm := fX10_sample zS zL
def bX11_run_26_z2 (S : Mm) (L : Int64) (p1 : Int32) (zS : Mm) (z2 : Int32) (zL : Int64) (i : Nat) : Int32 := rX10_sample zS zL
def bX11_run_26_zL (S : Mm) (L : Int64) (p1 : Int32) (zS : Mm) (z2 : Int32) (zL : Int64) (i : Nat) : Int64 := lX10_sample zS zL
def lpX11_run_26 (S : Mm) (L : Int64) (p1 : Int32) : Nat → Mm × Int32 × Int64
  | 0 => (up2 S 18 0 0, 0, L)
  | i + 1 => (bX11_run_26_zS S L p1 (lpX11_run_26 S L p1 i).1 (lpX11_run_26 S L p1 i).2.1 (lpX11_run_26 S L p1 i).2.2 i, bX11_run_26_z2 S L p1 (lpX11_run_26 S L p1 i).1 (lpX11_run_26 S L p1 i).2.1 (lpX11_run_26 S L p1 i).2.2 i, bX11_run_26_zL S L p1 (lpX11_run_26 S L p1 i).1 (lpX11_run_26 S L p1 i).2.1 (lpX11_run_26 S L p1 i).2.2 i)
theorem lpX11_run_26_0 (S : Mm) (L : Int64) (p1 : Int32) : lpX11_run_26 S L p1 0 = (up2 S 18 0 0, 0, L) := by rw [lpX11_run_26]
theorem lpX11_run_26_s (S : Mm) (L : Int64) (p1 : Int32) (i : Nat) : lpX11_run_26 S L p1 (i + 1) = (bX11_run_26_zS S L p1 (lpX11_run_26 S L p1 i).1 (lpX11_run_26 S L p1 i).2.1 (lpX11_run_26 S L p1 i).2.2 i, bX11_run_26_z2 S L p1 (lpX11_run_26 S L p1 i).1 (lpX11_run_26 S L p1 i).2.1 (lpX11_run_26 S L p1 i).2.2 i, bX11_run_26_zL S L p1 (lpX11_run_26 S L p1 i).1 (lpX11_run_26 S L p1 i).2.1 (lpX11_run_26 S L p1 i).2.2 i) := by rw [lpX11_run_26]
def rX11_run (S : Mm) (L : Int64) (p1 : Int32) : Int32 := (if rX11_isIn p1 (1 : Int32) (200 : Int32) = 0 then rX11_no (up2 S 18 0 0) (1 : Int32) else (lpX11_run_26 S L p1 (p1.toNatClampNeg)).2.1)
def fX11_run (S : Mm) (L : Int64) (p1 : Int32) : Mm := (if rX11_isIn p1 (1 : Int32) (200 : Int32) = 0 then fX11_no (up2 S 18 0 0) (1 : Int32) else (lpX11_run_26 S L p1 (p1.toNatClampNeg)).1)
def lX11_run (S : Mm) (L : Int64) (p1 : Int32) : Int64 := (if rX11_isIn p1 (1 : Int32) (200 : Int32) = 0 then L else (lpX11_run_26 S L p1 (p1.toNatClampNeg)).2.2)
theorem lpX11_run_iD {S : Mm} {L : Int64} {p1 : Int32} {K : Int} (hD : iD S K) (hK : K < 1000000000) : ∀ i : Nat, i ≤ 200 → iD (lpX11_run_26 S L p1 i).1 (K + i) := by
  intro i
  induction i with
  | zero =>
    intro _
    rw [lpX11_run_26_0]
    have q : iD (up2 S 18 0 0) K := iD_18 hD
    rw [show K + ((0 : Nat) : Int) = K by omega]
    dsimp only
    exact q
  | succ i ih =>
    intro hi
    rw [lpX11_run_26_s]
    have q := sm_iD (L := (lpX11_run_26 S L p1 i).2.2) (ih (by omega)) (by omega)
    rw [show K + ((i + 1 : Nat) : Int) = K + i + 1 by omega]
    dsimp only
    unfold bX11_run_26_zS
    exact q
theorem iX11_run_X11 : ∀ w ∈ u_ws RX11 TX11 2, w ∈ wsX11_run := by decide +kernel
set_option maxHeartbeats 4000000 in
set_option maxRecDepth 100000 in
theorem c_X11_run (l : Launch) (G : va_G) (cA : ClassId) (zq : Nat) (a : Nat → Nat) (ha : apart 19 a) (S : Mm) (L : Int64) (sz : Nat) (p1 : Int32)  (K : Int) (hD : iD S K) (hKb : K < 1000000000) : Met l yX11_run wsX11_run ({ frames := 4, cells := 800, slots := 9600, locals := 97 } : Room) (va_Pc [.ref (a 18), .int p1] (gI G cA zq 19 a (cD a cA) S L sz)) (gQi (rX11_run S L p1) G 19 a (cD a cA) (fX11_run S L p1) (lX11_run S L p1) sz) 800 9600 (mA 19 a sz) := by
  refine g_met (cc := cX11_run) (maxL := 4) (ret := (some .int)) (by decide) rfl (Nat.le_of_ble_eq_true rfl) ?_
  intro p e s m below meth c ls hx hb hr hlocks hml hts hown hnm hsz hK hP hS hl
  subst hsz
  have hl : lv_has ls 4 [(0, .ref (a 18)), (1, .int p1)] := hl
  refine lv_aload_n hx hb dX11_run_0 rfl (lv_at hl 0 rfl) ?_
  refine lv_iconst (v := 0) hx hb dX11_run_1 (by decide) ?_
  refine g_put (ci := 11) (C := RX11) (T := TX11) (N := 2) (ty := .int) hx hb hts iX11_run_X11 tyX11 tyX11_ok nmX11 hown hK ha mA_in hP hS (by decide) cD_Mo rfl 0 (by decide) rfl (by decide +kernel) rfl (by decide +kernel) rfl rfl (Nat.le_of_ble_eq_true rfl) (cD_Mo_set (by decide)) dX11_run_2 (fun H locs hP hS => ?_)
  refine lv_iload_n hx hb dX11_run_5 rfl (lv_at hl 1 rfl) ?_
  refine lv_iconst (v := 1) hx hb dX11_run_6 (by decide) ?_
  refine lv_sipush (v := 200) hx hb dX11_run_7 (by decide) ?_
  refine g_cSi (As := [.int p1, .int 1, .int 200]) (rest := []) ⟨hx, hb, hml, hown, hts⟩ (c_X11_isIn l G cA zq 19 (by decide) a ha (up2 S 18 0 0) L H.size p1 (1 : Int32) (200 : Int32)  ) (va_cwS 3 hts gX11_run_X11_isIn rfl rfl rfl (by decide +kernel) ⟨Nat.le_of_ble_eq_true rfl, Nat.le_of_ble_eq_true rfl⟩) hK (mA_mono hS.1) hP hS rfl hl.1 rfl (lv_room (Nat.le_of_ble_eq_true rfl)) dX11_run_10 ⟨Nat.le_of_ble_eq_true rfl, Nat.le_of_ble_eq_true rfl⟩ (fun H locs hP hS _ _ => ?_)
  refine lv_if_ne (tgt := 22) hx hb dX11_run_13 (by decide) (fun c1 => ?_) (fun c1 => ?_)
  ·
    refine lv_iconst (v := 0) hx hb dX11_run_22 (by decide) ?_
    refine lv_istore_n (lv' := [(2, .int 0), (0, .ref (a 18)), (1, .int p1)]) hx hb dX11_run_23 rfl hl (by decide) rfl (fun ls hl => ?_)
    refine lv_iconst (v := 0) hx hb dX11_run_24 (by decide) ?_
    refine lv_istore_n (lv' := [(3, .int 0), (2, .int 0), (0, .ref (a 18)), (1, .int p1)]) hx hb dX11_run_25 rfl hl (by decide) rfl (fun ls hl => ?_)
    have h200 := isIn_le c1
    have loop : ∀ (k i : Nat), i ≤ p1.toNatClampNeg → p1.toNatClampNeg < i + k → ∀ (zS : Mm) (z2 : Int32) (zL : Int64) (H : Heap) (locs : List Loc) (ls : Array Slot), zS = (lpX11_run_26 S L p1 i).1 → z2 = (lpX11_run_26 S L p1 i).2.1 → zL = (lpX11_run_26 S L p1 i).2.2 → va_P G vwCl (wG 19 a (cD a cA) zS zL) H → va_S (mA 19 a s.heap.size) s.heap H locs → lv_has ls 4 [(3, .int (nI i)), (2, .int z2), (0, .ref (a 18)), (1, .int p1)] → W p l e ({ frames := 4, cells := 800, slots := 9600, locals := 97 } : Room) s m ([.ref (a 18), .int p1] : List Value).toArray below meth c H locs (4 * i) (48 * i) (MQ below (gQi (rX11_run S L p1) G 19 a (cD a cA) (fX11_run S L p1) (lX11_run S L p1) s.heap.size) ([.ref (a 18), .int p1] : List Value).toArray s 800 9600 (mA 19 a s.heap.size)) (F0 m 26 ls []) := by
      intro k
      induction k with
      | zero => intro i h1 h2; omega
      | succ k ih =>
        intro i hi hk zS z2 zL H locs ls ezS ez2 ezL hP hS hl
        refine lv_iload_n hx hb dX11_run_26 rfl (lv_at hl 0 rfl) ?_
        refine lv_iload_n hx hb dX11_run_27 rfl (lv_at hl 3 rfl) ?_
        refine lv_icmp_ge (tgt := 45) hx hb dX11_run_28 (by decide) (fun cx => ?_) (fun cx => ?_)
        ·
          have hN := lx_exit hi cx
          subst hN
          rw [ezS] at hP
          rw [ez2] at hl
          rw [ezL] at hP
          refine W.widen (k := 800) (n := 9600) (by omega) (by omega) ?_
          refine lv_iload_n hx hb dX11_run_45 rfl (lv_at hl 1 rfl) ?_
          exact g_iret hx hb hr hlocks (by unfold rX11_run; rw [if_neg c1]) (by unfold fX11_run; rw [if_neg c1]) (by unfold lX11_run; rw [if_neg c1]) hP hS dX11_run_46
        ·
          have hlt := lx_body cx hi
          refine lv_aload_n hx hb dX11_run_31 rfl (lv_at hl 2 rfl) ?_
          refine g_get (ci := 11) (C := RX11) (T := TX11) (N := 2) (v := .ref (a 0)) hx hb hts iX11_run_X11 hown hK hP (by decide) cD_Mo rfl 1 (by decide) rfl (by decide +kernel) rfl dX11_run_32 ?_
          refine g_cVi (As := []) (rest := []) ⟨hx, hb, hml, hown, hts⟩ (c1_X10_sample l G cA zq 19 (by decide) a ha zS zL H.size   (K + i) (ezS ▸ lpX11_run_iD hD hKb i (by omega))) (cwV 0 hts gX11_run_X10_sample rfl rfl rfl (by decide +kernel) ⟨Nat.le_of_ble_eq_true rfl, Nat.le_of_ble_eq_true rfl⟩) (g_recv hK hP (lt_hn (by decide) (by decide)) cD_D (C := RX10) (T := TX10) (N := 35) rfl) hK (mA_mono hS.1) hP hS rfl hl.1 rfl (lv_room (Nat.le_of_ble_eq_true rfl)) dX11_run_35 ⟨by show 4 * i + 0 + 4 ≤ 800; omega, by show 48 * i + 0 + 48 ≤ 9600; omega⟩ (fun H locs hP hS _ _ => ?_)
          refine lv_istore_n (lv' := [(2, .int (rX10_sample zS zL)), (3, .int (nI i)), (0, .ref (a 18)), (1, .int p1)]) hx hb dX11_run_38 rfl hl (by decide) rfl (fun ls hl => ?_)
          refine lv_iinc (v := nI (i + 1)) (lv' := [(3, .int (nI (i + 1))), (2, .int (rX10_sample zS zL)), (0, .ref (a 18)), (1, .int p1)]) hx hb dX11_run_39 hl (k := 1) rfl (nI_1 i) (by decide) rfl (fun ls hl => ?_)
          refine lv_goto (tgt := 26) hx hb dX11_run_42 (by decide) ?_
          exact ih (i + 1) (by omega) (by omega) (fX10_sample zS zL) (rX10_sample zS zL) (lX10_sample zS zL) _ _ _ (by rw [lpX11_run_26_s]; (try rw [← ezS]); (try rw [← ez2]); (try rw [← ezL]); (try dsimp only); unfold bX11_run_26_zS; rfl) (by rw [lpX11_run_26_s]; (try rw [← ezS]); (try rw [← ez2]); (try rw [← ezL]); (try dsimp only); unfold bX11_run_26_z2; rfl) (by rw [lpX11_run_26_s]; (try rw [← ezS]); (try rw [← ez2]); (try rw [← ezL]); (try dsimp only); unfold bX11_run_26_zL; rfl) hP hS (lv_sub hl [0, 1, 2, 3] rfl)
    exact loop (p1.toNatClampNeg + 1) 0 (Nat.zero_le _) (by omega) (up2 S 18 0 0) 0 L _ _ _ (by rw [lpX11_run_26_0]) (by rw [lpX11_run_26_0]) (by rw [lpX11_run_26_0]) hP hS (lv_sub hl [0, 1, 2, 3] rfl)
  ·
    refine lv_aload_n hx hb dX11_run_16 rfl (lv_at hl 0 rfl) ?_
    refine lv_iconst (v := 1) hx hb dX11_run_17 (by decide) ?_
    refine g_cVi (As := [.int 1]) (rest := []) ⟨hx, hb, hml, hown, hts⟩ (c_X11_no l G cA zq a ha (up2 S 18 0 0) L H.size (1 : Int32)  ) (cwV 1 hts gX11_run_X11_no rfl rfl rfl (by decide +kernel) ⟨Nat.le_of_ble_eq_true rfl, Nat.le_of_ble_eq_true rfl⟩) (g_recv hK hP (by decide) cD_Mo (C := RX11) (T := TX11) (N := 2) rfl) hK (mA_mono hS.1) hP hS rfl hl.1 rfl (lv_room (Nat.le_of_ble_eq_true rfl)) dX11_run_18 ⟨Nat.le_of_ble_eq_true rfl, Nat.le_of_ble_eq_true rfl⟩ (fun H locs hP hS _ _ => ?_)
    refine W.widen (k := 800) (n := 9600) (by omega) (by omega) ?_
    exact g_iret hx hb hr hlocks (by unfold rX11_run; rw [if_pos c1]) (by unfold fX11_run; rw [if_pos c1]) (by unfold lX11_run; rw [if_pos c1]) hP hS dX11_run_21
