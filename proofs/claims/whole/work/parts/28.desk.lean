def vX10_sample_1 (S : Mm) (L : Int64) : Int32 := (0 + (rX10_gives (fX10_goOnTracks S) (0 : Int32))) + (rX10_gives (fX10_gives (fX10_goOnTracks S) (0 : Int32)) (1 : Int32))
def mX10_sample_2 (S : Mm) (L : Int64) : Mm := fX10_gives (fX10_gives (fX10_gives (fX10_goOnTracks S) (0 : Int32)) (1 : Int32)) (2 : Int32)
def vX10_sample_3 (S : Mm) (L : Int64) : Int32 := (vX10_sample_1 S L) + (rX10_gives (fX10_gives (fX10_gives (fX10_goOnTracks S) (0 : Int32)) (1 : Int32)) (2 : Int32))
def vX10_sample_4 (S : Mm) (L : Int64) : Int32 := ((vX10_sample_3 S L) + (rX10_gives (mX10_sample_2 S L) (3 : Int32))) * ((fX10_gives (mX10_sample_2 S L) (3 : Int32)) 0 15)
def mX10_sample_5 (S : Mm) (L : Int64) : Mm := upR (fX10_gives (mX10_sample_2 S L) (3 : Int32)) 14 (va_cpy ((fX10_gives (mX10_sample_2 S L) (3 : Int32)) 14) ((fX10_gives (mX10_sample_2 S L) (3 : Int32)) 14) (1 : Int32).toNatClampNeg (0 : Int32).toNatClampNeg (((fX10_gives (mX10_sample_2 S L) (3 : Int32)) 0 16) - 1).toNatClampNeg)
def vX10_sample_6 (S : Mm) (L : Int64) : Int32 := ((fX10_gives (mX10_sample_2 S L) (3 : Int32)) 14 (0 : Int32).toNatClampNeg) * ((mX10_sample_5 S L) 0 18)
def mX10_sample_7 (S : Mm) (L : Int64) : Mm := up2 (mX10_sample_5 S L) 14 (((mX10_sample_5 S L) 0 16) - 1).toNatClampNeg (rX11_keep (((vX10_sample_4 S L) / 16) + ((vX10_sample_6 S L) / 256)) (100000 : Int32))
def vX10_sample_8 (S : Mm) (L : Int64) : Int32 := ((fX10_gives (mX10_sample_2 S L) (3 : Int32)) 14 (0 : Int32).toNatClampNeg) * ((mX10_sample_7 S L) 0 17)
def jX10_sample_9 (S : Mm) (L : Int64) : Mm := (if (fX10_gives (mX10_sample_2 S L) (3 : Int32)) 0 16 ≤ 0 then fX10_gives (mX10_sample_2 S L) (3 : Int32) else (mX10_sample_7 S L))
def jX10_sample_10 (S : Mm) (L : Int64) : Int32 := (if (fX10_gives (mX10_sample_2 S L) (3 : Int32)) 0 16 ≤ 0 then (vX10_sample_4 S L) / 16 else ((vX10_sample_4 S L) / 16) + ((vX10_sample_8 S L) / 256))
def jX10_sample_11 (S : Mm) (L : Int64) : Int32 := (if rX11_keep (jX10_sample_10 S L) (32767 : Int32) = (jX10_sample_10 S L) then 0 else 1)
def mX10_sample_12 (S : Mm) (L : Int64) : Mm := up2 (jX10_sample_9 S L) 0 32 (((jX10_sample_9 S L) 0 32) + (jX10_sample_11 S L))
def jX10_sample_13 (S : Mm) (L : Int64) : Int32 := (if rX11_keep (jX10_sample_10 S L) (32767 : Int32) ≤ 0 then 0 else (if 0 < (mX10_sample_12 S L) 17 (0 : Int32).toNatClampNeg then 0 else 1))
def mX10_sample_14 (S : Mm) (L : Int64) : Mm := up2 (mX10_sample_12 S L) 0 33 (((mX10_sample_12 S L) 0 33) + (jX10_sample_13 S L))
def vX10_sample_15 (S : Mm) (L : Int64) : Int32 := (if 0 ≤ rX11_keep (jX10_sample_10 S L) (32767 : Int32) then rX11_keep (jX10_sample_10 S L) (32767 : Int32) else 0 - (rX11_keep (jX10_sample_10 S L) (32767 : Int32)))
def vX10_sample_16 (S : Mm) (L : Int64) : Int32 := (if (mX10_sample_14 S L) 0 31 < (vX10_sample_15 S L) then (vX10_sample_15 S L) else (mX10_sample_14 S L) 0 31)
def mX10_sample_17 (S : Mm) (L : Int64) : Mm := up2 (up2 (mX10_sample_14 S L) 0 31 (vX10_sample_16 S L)) 0 30 (((up2 (mX10_sample_14 S L) 0 31 (vX10_sample_16 S L)) 0 30) + 1)
def mX10_sample_18 (S : Mm) (L : Int64) : Mm := upR (mX10_sample_17 S L) 17 (va_cpy ((mX10_sample_17 S L) 17) ((mX10_sample_17 S L) 17) (0 : Int32).toNatClampNeg (1 : Int32).toNatClampNeg (63 : Int32).toNatClampNeg)
def mX10_sample_19 (S : Mm) (L : Int64) : Mm := up2 (mX10_sample_18 S L) 17 (0 : Int32).toNatClampNeg (rX11_keep (jX10_sample_10 S L) (32767 : Int32))
def mX10_sample_20 (S : Mm) (L : Int64) : Mm := up2 (up2 (mX10_sample_19 S L) 0 28 (((mX10_sample_19 S L) 0 28) + 1)) 12 (0 : Int32).toNatClampNeg (((up2 (mX10_sample_19 S L) 0 28 (((mX10_sample_19 S L) 0 28) + 1)) 12 (0 : Int32).toNatClampNeg) - 1)
def jX10_sample_21 (S : Mm) (L : Int64) : Mm := (if (up2 (mX10_sample_19 S L) 0 28 (((mX10_sample_19 S L) 0 28) + 1)) 12 (0 : Int32).toNatClampNeg ≤ 0 then up2 (mX10_sample_19 S L) 0 28 (((mX10_sample_19 S L) 0 28) + 1) else (mX10_sample_20 S L))
def mX10_sample_22 (S : Mm) (L : Int64) : Mm := up2 (jX10_sample_21 S L) 12 (1 : Int32).toNatClampNeg (((jX10_sample_21 S L) 12 (1 : Int32).toNatClampNeg) - 1)
def jX10_sample_23 (S : Mm) (L : Int64) : Mm := (if (jX10_sample_21 S L) 12 (1 : Int32).toNatClampNeg ≤ 0 then (jX10_sample_21 S L) else (mX10_sample_22 S L))
def mX10_sample_24 (S : Mm) (L : Int64) : Mm := up2 (jX10_sample_23 S L) 12 (2 : Int32).toNatClampNeg (((jX10_sample_23 S L) 12 (2 : Int32).toNatClampNeg) - 1)
def jX10_sample_25 (S : Mm) (L : Int64) : Mm := (if (jX10_sample_23 S L) 12 (2 : Int32).toNatClampNeg ≤ 0 then (jX10_sample_23 S L) else (mX10_sample_24 S L))
def mX10_sample_26 (S : Mm) (L : Int64) : Mm := up2 (jX10_sample_25 S L) 12 (3 : Int32).toNatClampNeg (((jX10_sample_25 S L) 12 (3 : Int32).toNatClampNeg) - 1)
def jX10_sample_27 (S : Mm) (L : Int64) : Mm := (if (jX10_sample_25 S L) 12 (3 : Int32).toNatClampNeg ≤ 0 then (jX10_sample_25 S L) else (mX10_sample_26 S L))
def mX10_sample_28 (S : Mm) (L : Int64) : Mm := up2 (up2 (jX10_sample_27 S L) 0 26 (((jX10_sample_27 S L) 0 26) + 1)) 0 26 0
def mX10_sample_29 (S : Mm) (L : Int64) : Mm := up2 (mX10_sample_28 S L) 0 25 ((((mX10_sample_28 S L) 0 25) + 1) - (((mX10_sample_28 S L) 0 25) + 1) / 8 * 8)
def rX10_sample (S : Mm) (L : Int64) : Int32 := rX11_keep (jX10_sample_10 S L) (32767 : Int32)
def fX10_sample (S : Mm) (L : Int64) : Mm := (if (jX10_sample_27 S L) 0 24 = 0 then (jX10_sample_27 S L) else (if ((jX10_sample_27 S L) 0 26) + 1 = (up2 (jX10_sample_27 S L) 0 26 (((jX10_sample_27 S L) 0 26) + 1)) 0 27 then (mX10_sample_29 S L) else up2 (jX10_sample_27 S L) 0 26 (((jX10_sample_27 S L) 0 26) + 1)))
def lX10_sample (S : Mm) (L : Int64) : Int64 := L + ((vX10_sample_15 S L).toInt64)
theorem iX10_sample_X10 : ∀ w ∈ u_ws RX10 TX10 35, w ∈ wsX10_sample := by decide +kernel
set_option maxHeartbeats 4000000 in
set_option maxRecDepth 100000 in
theorem c_X10_sample (l : Launch) (G : va_G) (cA : ClassId) (zq n : Nat) (hn : 18 ≤ n) (a : Nat → Nat) (ha : apart n a) (S : Mm) (L : Int64) (sz : Nat)   (hh1 : vp_in (S 0 25) 8) (hh2 : iV (fX10_goOnTracks S) (0 : Int32).toNatClampNeg) (hh3 : ∀ i, i < 4 → iJ (fX10_goOnTracks S) i) (hh4 : iV (fX10_gives (fX10_goOnTracks S) (0 : Int32)) (1 : Int32).toNatClampNeg) (hh5 : ∀ i, i < 4 → iJ (fX10_gives (fX10_goOnTracks S) (0 : Int32)) i) (hh6 : iV (fX10_gives (fX10_gives (fX10_goOnTracks S) (0 : Int32)) (1 : Int32)) (2 : Int32).toNatClampNeg) (hh7 : ∀ i, i < 4 → iJ (fX10_gives (fX10_gives (fX10_goOnTracks S) (0 : Int32)) (1 : Int32)) i) (hh8 : iV (mX10_sample_2 S L) (3 : Int32).toNatClampNeg) (hh9 : ∀ i, i < 4 → iJ (mX10_sample_2 S L) i) (hh10 : ¬ ((fX10_gives (mX10_sample_2 S L) (3 : Int32)) 0 16 ≤ 0) → ¬ ((fX10_gives (mX10_sample_2 S L) (3 : Int32)) 0 16) - 1 < 0) (hh11 : ¬ ((fX10_gives (mX10_sample_2 S L) (3 : Int32)) 0 16 ≤ 0) → (1 : Int32).toNatClampNeg + (((fX10_gives (mX10_sample_2 S L) (3 : Int32)) 0 16) - 1).toNatClampNeg ≤ 200) (hh12 : ¬ ((fX10_gives (mX10_sample_2 S L) (3 : Int32)) 0 16 ≤ 0) → (0 : Int32).toNatClampNeg + (((fX10_gives (mX10_sample_2 S L) (3 : Int32)) 0 16) - 1).toNatClampNeg ≤ 200) (hh13 : ¬ ((fX10_gives (mX10_sample_2 S L) (3 : Int32)) 0 16 ≤ 0) → vp_in (((mX10_sample_5 S L) 0 16) - 1) 200) : Met l yX10_sample wsX10_sample ({ frames := 3, cells := 4, slots := 48, locals := 73 } : Room) (va_Pc [.ref (a 0)] (gI G cA zq n a (cD a cA) S L sz)) (gQi (rX10_sample S L) G n a (cD a cA) (fX10_sample S L) (lX10_sample S L) sz) 4 48 (mA n a sz) := by
  refine g_met (cc := cX10_sample) (maxL := 5) (ret := (some .int)) (by decide) rfl (Nat.le_of_ble_eq_true rfl) ?_
  intro p e s m below meth c ls hx hb hr hlocks hml hts hown hnm hsz hK hP hS hl
  subst hsz
  have hl : lv_has ls 5 [(0, .ref (a 0))] := hl
  refine lv_aload_n hx hb dX10_sample_0 rfl (lv_at hl 0 rfl) ?_
  refine g_cVv (As := []) (rest := []) ⟨hx, hb, hml, hown, hts⟩ (c1_X10_goOnTracks l G cA zq n hn a ha S L s.heap.size   hh1) (cwV 0 hts gX10_sample_X10_goOnTracks rfl rfl rfl (by decide +kernel) ⟨Nat.le_of_ble_eq_true rfl, Nat.le_of_ble_eq_true rfl⟩) (g_recv hK hP (lt_hn hn (by decide)) cD_D (C := RX10) (T := TX10) (N := 35) rfl) hK (mA_mono hS.1) hP hS rfl hl.1 rfl (lv_room (Nat.le_of_ble_eq_true rfl)) dX10_sample_1 ⟨Nat.le_of_ble_eq_true rfl, Nat.le_of_ble_eq_true rfl⟩ (fun H locs hP hS _ _ => ?_)
  refine lv_iconst (v := 0) hx hb dX10_sample_4 (by decide) ?_
  refine lv_istore_n (lv' := [(1, .int 0), (0, .ref (a 0))]) hx hb dX10_sample_5 rfl hl (by decide) rfl (fun ls hl => ?_)
  refine lv_iconst (v := 0) hx hb dX10_sample_6 (by decide) ?_
  refine lv_istore_n (lv' := [(2, .int 0), (1, .int 0), (0, .ref (a 0))]) hx hb dX10_sample_7 rfl hl (by decide) rfl (fun ls hl => ?_)
  refine lv_iload_n hx hb dX10_sample_8 rfl (lv_at hl 0 rfl) ?_
  refine lv_iconst (v := 4) hx hb dX10_sample_9 (by decide) ?_
  refine lv_icmp_ge (tgt := 27) hx hb dX10_sample_10 (by decide) (fun c => absurd c (by decide)) (fun _ => ?_)
  refine lv_iload_n hx hb dX10_sample_13 rfl (lv_at hl 1 rfl) ?_
  refine lv_aload_n hx hb dX10_sample_14 rfl (lv_at hl 2 rfl) ?_
  refine lv_iload_n hx hb dX10_sample_15 rfl (lv_at hl 0 rfl) ?_
  refine g_cVi (As := [.int 0]) (rest := [.int 0]) ⟨hx, hb, hml, hown, hts⟩ (c1_X10_gives l G cA zq n hn a ha (fX10_goOnTracks S) L H.size (0 : Int32)  (vp_in_lit (by decide)) hh2 hh3) (cwV 1 hts gX10_sample_X10_gives rfl rfl rfl (by decide +kernel) ⟨Nat.le_of_ble_eq_true rfl, Nat.le_of_ble_eq_true rfl⟩) (g_recv hK hP (lt_hn hn (by decide)) cD_D (C := RX10) (T := TX10) (N := 35) rfl) hK (mA_mono hS.1) hP hS rfl hl.1 rfl (lv_room (Nat.le_of_ble_eq_true rfl)) dX10_sample_16 ⟨Nat.le_of_ble_eq_true rfl, Nat.le_of_ble_eq_true rfl⟩ (fun H locs hP hS _ _ => ?_)
  refine lv_iadd hx hb dX10_sample_19 ?_
  refine lv_istore_n (lv' := [(1, .int (0 + (rX10_gives (fX10_goOnTracks S) (0 : Int32)))), (2, .int 0), (0, .ref (a 0))]) hx hb dX10_sample_20 rfl hl (by decide) rfl (fun ls hl => ?_)
  refine lv_iinc (v := 1) (lv' := [(2, .int 1), (1, .int (0 + (rX10_gives (fX10_goOnTracks S) (0 : Int32)))), (0, .ref (a 0))]) hx hb dX10_sample_21 hl (k := 1) rfl (by decide) (by decide) rfl (fun ls hl => ?_)
  refine lv_goto (tgt := 8) hx hb dX10_sample_24 (by decide) ?_
  refine lv_iload_n hx hb dX10_sample_8 rfl (lv_at hl 0 rfl) ?_
  refine lv_iconst (v := 4) hx hb dX10_sample_9 (by decide) ?_
  refine lv_icmp_ge (tgt := 27) hx hb dX10_sample_10 (by decide) (fun c => absurd c (by decide)) (fun _ => ?_)
  refine lv_iload_n hx hb dX10_sample_13 rfl (lv_at hl 1 rfl) ?_
  refine lv_aload_n hx hb dX10_sample_14 rfl (lv_at hl 2 rfl) ?_
  refine lv_iload_n hx hb dX10_sample_15 rfl (lv_at hl 0 rfl) ?_
  refine g_cVi (As := [.int 1]) (rest := [.int (0 + (rX10_gives (fX10_goOnTracks S) (0 : Int32)))]) ⟨hx, hb, hml, hown, hts⟩ (c1_X10_gives l G cA zq n hn a ha (fX10_gives (fX10_goOnTracks S) (0 : Int32)) L H.size (1 : Int32)  (vp_in_lit (by decide)) hh4 hh5) (cwV 1 hts gX10_sample_X10_gives rfl rfl rfl (by decide +kernel) ⟨Nat.le_of_ble_eq_true rfl, Nat.le_of_ble_eq_true rfl⟩) (g_recv hK hP (lt_hn hn (by decide)) cD_D (C := RX10) (T := TX10) (N := 35) rfl) hK (mA_mono hS.1) hP hS rfl hl.1 rfl (lv_room (Nat.le_of_ble_eq_true rfl)) dX10_sample_16 ⟨Nat.le_of_ble_eq_true rfl, Nat.le_of_ble_eq_true rfl⟩ (fun H locs hP hS _ _ => ?_)
  refine lv_iadd hx hb dX10_sample_19 ?_
  refine W.eq (g2 := F0 m 20 ls [.int (vX10_sample_1 S L)]) rfl ?_
  refine lv_istore_n (lv' := [(1, .int (vX10_sample_1 S L)), (2, .int 1), (0, .ref (a 0))]) hx hb dX10_sample_20 rfl hl (by decide) rfl (fun ls hl => ?_)
  refine lv_iinc (v := 2) (lv' := [(2, .int 2), (1, .int (vX10_sample_1 S L)), (0, .ref (a 0))]) hx hb dX10_sample_21 hl (k := 1) rfl (by decide) (by decide) rfl (fun ls hl => ?_)
  refine lv_goto (tgt := 8) hx hb dX10_sample_24 (by decide) ?_
  refine lv_iload_n hx hb dX10_sample_8 rfl (lv_at hl 0 rfl) ?_
  refine lv_iconst (v := 4) hx hb dX10_sample_9 (by decide) ?_
  refine lv_icmp_ge (tgt := 27) hx hb dX10_sample_10 (by decide) (fun c => absurd c (by decide)) (fun _ => ?_)
  refine lv_iload_n hx hb dX10_sample_13 rfl (lv_at hl 1 rfl) ?_
  refine lv_aload_n hx hb dX10_sample_14 rfl (lv_at hl 2 rfl) ?_
  refine lv_iload_n hx hb dX10_sample_15 rfl (lv_at hl 0 rfl) ?_
  refine g_cVi (As := [.int 2]) (rest := [.int (vX10_sample_1 S L)]) ⟨hx, hb, hml, hown, hts⟩ (c1_X10_gives l G cA zq n hn a ha (fX10_gives (fX10_gives (fX10_goOnTracks S) (0 : Int32)) (1 : Int32)) L H.size (2 : Int32)  (vp_in_lit (by decide)) hh6 hh7) (cwV 1 hts gX10_sample_X10_gives rfl rfl rfl (by decide +kernel) ⟨Nat.le_of_ble_eq_true rfl, Nat.le_of_ble_eq_true rfl⟩) (g_recv hK hP (lt_hn hn (by decide)) cD_D (C := RX10) (T := TX10) (N := 35) rfl) hK (mA_mono hS.1) hP hS rfl hl.1 rfl (lv_room (Nat.le_of_ble_eq_true rfl)) dX10_sample_16 ⟨Nat.le_of_ble_eq_true rfl, Nat.le_of_ble_eq_true rfl⟩ (fun H locs hP hS _ _ => ?_)
  have hP : va_P G vwCl (wG n a (cD a cA) (mX10_sample_2 S L) L) H := hP
  refine lv_iadd hx hb dX10_sample_19 ?_
  refine W.eq (g2 := F0 m 20 ls [.int (vX10_sample_3 S L)]) rfl ?_
  refine lv_istore_n (lv' := [(1, .int (vX10_sample_3 S L)), (2, .int 2), (0, .ref (a 0))]) hx hb dX10_sample_20 rfl hl (by decide) rfl (fun ls hl => ?_)
  refine lv_iinc (v := 3) (lv' := [(2, .int 3), (1, .int (vX10_sample_3 S L)), (0, .ref (a 0))]) hx hb dX10_sample_21 hl (k := 1) rfl (by decide) (by decide) rfl (fun ls hl => ?_)
  refine lv_goto (tgt := 8) hx hb dX10_sample_24 (by decide) ?_
  refine lv_iload_n hx hb dX10_sample_8 rfl (lv_at hl 0 rfl) ?_
  refine lv_iconst (v := 4) hx hb dX10_sample_9 (by decide) ?_
  refine lv_icmp_ge (tgt := 27) hx hb dX10_sample_10 (by decide) (fun c => absurd c (by decide)) (fun _ => ?_)
  refine lv_iload_n hx hb dX10_sample_13 rfl (lv_at hl 1 rfl) ?_
  refine lv_aload_n hx hb dX10_sample_14 rfl (lv_at hl 2 rfl) ?_
  refine lv_iload_n hx hb dX10_sample_15 rfl (lv_at hl 0 rfl) ?_
  refine g_cVi (As := [.int 3]) (rest := [.int (vX10_sample_3 S L)]) ⟨hx, hb, hml, hown, hts⟩ (c1_X10_gives l G cA zq n hn a ha (mX10_sample_2 S L) L H.size (3 : Int32)  (vp_in_lit (by decide)) hh8 hh9) (cwV 1 hts gX10_sample_X10_gives rfl rfl rfl (by decide +kernel) ⟨Nat.le_of_ble_eq_true rfl, Nat.le_of_ble_eq_true rfl⟩) (g_recv hK hP (lt_hn hn (by decide)) cD_D (C := RX10) (T := TX10) (N := 35) rfl) hK (mA_mono hS.1) hP hS rfl hl.1 rfl (lv_room (Nat.le_of_ble_eq_true rfl)) dX10_sample_16 ⟨Nat.le_of_ble_eq_true rfl, Nat.le_of_ble_eq_true rfl⟩ (fun H locs hP hS _ _ => ?_)
  refine lv_iadd hx hb dX10_sample_19 ?_
  refine lv_istore_n (lv' := [(1, .int ((vX10_sample_3 S L) + (rX10_gives (mX10_sample_2 S L) (3 : Int32)))), (2, .int 3), (0, .ref (a 0))]) hx hb dX10_sample_20 rfl hl (by decide) rfl (fun ls hl => ?_)
  refine lv_iinc (v := 4) (lv' := [(2, .int 4), (1, .int ((vX10_sample_3 S L) + (rX10_gives (mX10_sample_2 S L) (3 : Int32)))), (0, .ref (a 0))]) hx hb dX10_sample_21 hl (k := 1) rfl (by decide) (by decide) rfl (fun ls hl => ?_)
  refine lv_goto (tgt := 8) hx hb dX10_sample_24 (by decide) ?_
  refine lv_iload_n hx hb dX10_sample_8 rfl (lv_at hl 0 rfl) ?_
  refine lv_iconst (v := 4) hx hb dX10_sample_9 (by decide) ?_
  refine lv_icmp_ge (tgt := 27) hx hb dX10_sample_10 (by decide) (fun _ => ?_) (fun c => absurd c (by decide))
  refine lv_iload_n hx hb dX10_sample_27 rfl (lv_at hl 1 rfl) ?_
  refine lv_aload_n hx hb dX10_sample_28 rfl (lv_at hl 2 rfl) ?_
  refine g_get (ci := 10) (C := RX10) (T := TX10) (N := 35) (v := .int ((fX10_gives (mX10_sample_2 S L) (3 : Int32)) 0 15)) hx hb hts iX10_sample_X10 hown hK hP (lt_hn hn (by decide)) cD_D rfl 15 (by decide) rfl (by decide +kernel) rfl dX10_sample_29 ?_
  refine lv_imul hx hb dX10_sample_32 ?_
  refine W.eq (g2 := F0 m 33 ls [.int (vX10_sample_4 S L)]) rfl ?_
  refine lv_bipush (v := 16) hx hb dX10_sample_33 (by decide) ?_
  refine lv_idiv hx hb dX10_sample_35 (by decide) ?_
  refine lv_istore_n (lv' := [(1, .int ((vX10_sample_4 S L) / 16)), (2, .int 4), (0, .ref (a 0))]) hx hb dX10_sample_36 rfl hl (by decide) rfl (fun ls hl => ?_)
  refine lv_iload_n hx hb dX10_sample_37 rfl (lv_at hl 0 rfl) ?_
  refine lv_istore_n (lv' := [(2, .int ((vX10_sample_4 S L) / 16)), (1, .int ((vX10_sample_4 S L) / 16)), (0, .ref (a 0))]) hx hb dX10_sample_38 rfl hl (by decide) rfl (fun ls hl => ?_)
  refine lv_aload_n hx hb dX10_sample_39 rfl (lv_at hl 2 rfl) ?_
  refine g_get (ci := 10) (C := RX10) (T := TX10) (N := 35) (v := .int ((fX10_gives (mX10_sample_2 S L) (3 : Int32)) 0 16)) hx hb hts iX10_sample_X10 hown hK hP (lt_hn hn (by decide)) cD_D rfl 16 (by decide) rfl (by decide +kernel) rfl dX10_sample_40 ?_
  have hj2 : ∀ (zS_hj2 : Mm) (zx2_hj2 : Int32) (H : Heap) (locs : List Loc) (ls : Array Slot), zS_hj2 = (jX10_sample_9 S L) → zx2_hj2 = (jX10_sample_10 S L) → va_P G vwCl (wG n a (cD a cA) zS_hj2 L) H → va_S (mA n a s.heap.size) s.heap H locs → lv_has ls 5 [(2, .int zx2_hj2), (1, .int ((vX10_sample_4 S L) / 16)), (0, .ref (a 0))] → W p l e ({ frames := 3, cells := 4, slots := 48, locals := 73 } : Room) s m ([.ref (a 0)] : List Value).toArray below meth c H locs 4 48 (MQ below (gQi (rX10_sample S L) G n a (cD a cA) (fX10_sample S L) (lX10_sample S L) s.heap.size) ([.ref (a 0)] : List Value).toArray s 4 48 (mA n a s.heap.size)) (F0 m 113 ls []) := by
    intro zS_hj2 zx2_hj2 H locs ls ezS_hj2 ezx2_hj2 hP hS hl
    rw [ezS_hj2] at hP
    rw [ezx2_hj2] at hl
    refine lv_iload_n hx hb dX10_sample_113 rfl (lv_at hl 0 rfl) ?_
    refine lv_sipush (v := 32767) hx hb dX10_sample_114 (by decide) ?_
    refine g_cNi (As := [.int (jX10_sample_10 S L), .int 32767]) (rest := []) ⟨hx, hb, hml, hown, hts⟩ (c_X11_keep l G cA zq n hn a ha (jX10_sample_9 S L) L H.size (jX10_sample_10 S L) (32767 : Int32)  ) (va_cnB 2 hts gX10_sample_X11_keep_n152 rfl rfl rfl (hK.2.1.at (q := ("MelodeonModel$Desk", 152, yX11_keep, "MelodeonModel")) (by decide +kernel)) (hts (.initialized RX11) (by decide +kernel)) (by decide +kernel) ⟨Nat.le_of_ble_eq_true rfl, Nat.le_of_ble_eq_true rfl⟩) (hts (.static yX11_keep) (by decide +kernel)) hK (mA_mono hS.1) hP hS rfl hl.1 rfl (lv_room (Nat.le_of_ble_eq_true rfl)) dX10_sample_117 ⟨Nat.le_of_ble_eq_true rfl, Nat.le_of_ble_eq_true rfl⟩ (fun H locs hP hS _ _ => ?_)
    refine lv_istore_n (lv' := [(3, .int (rX11_keep (jX10_sample_10 S L) (32767 : Int32))), (2, .int (jX10_sample_10 S L)), (1, .int ((vX10_sample_4 S L) / 16)), (0, .ref (a 0))]) hx hb dX10_sample_120 rfl hl (by decide) rfl (fun ls hl => ?_)
    refine lv_aload_n hx hb dX10_sample_121 rfl (lv_at hl 3 rfl) ?_
    refine lv_dup hx hb dX10_sample_122 rfl ?_
    refine g_get (ci := 10) (C := RX10) (T := TX10) (N := 35) (v := .int ((jX10_sample_9 S L) 0 32)) hx hb hts iX10_sample_X10 hown hK hP (lt_hn hn (by decide)) cD_D rfl 32 (by decide) rfl (by decide +kernel) rfl dX10_sample_123 ?_
    refine lv_iload_n hx hb dX10_sample_126 rfl (lv_at hl 0 rfl) ?_
    refine lv_iload_n hx hb dX10_sample_127 rfl (lv_at hl 1 rfl) ?_
    have hj4 : ∀ (zy0_hj4 : Int32) (H : Heap) (locs : List Loc) (ls : Array Slot), zy0_hj4 = (jX10_sample_11 S L) → va_P G vwCl (wG n a (cD a cA) (jX10_sample_9 S L) L) H → va_S (mA n a s.heap.size) s.heap H locs → lv_has ls 5 [(3, .int (rX11_keep (jX10_sample_10 S L) (32767 : Int32))), (2, .int (jX10_sample_10 S L)), (1, .int ((vX10_sample_4 S L) / 16)), (0, .ref (a 0))] → W p l e ({ frames := 3, cells := 4, slots := 48, locals := 73 } : Room) s m ([.ref (a 0)] : List Value).toArray below meth c H locs 4 48 (MQ below (gQi (rX10_sample S L) G n a (cD a cA) (fX10_sample S L) (lX10_sample S L) s.heap.size) ([.ref (a 0)] : List Value).toArray s 4 48 (mA n a s.heap.size)) (F0 m 136 ls [.int zy0_hj4, .int ((jX10_sample_9 S L) 0 32), .ref (a 0)]) := by
      intro zy0_hj4 H locs ls ezy0_hj4 hP hS hl
      rw [ezy0_hj4]
      refine lv_iadd hx hb dX10_sample_136 ?_
      refine g_put (ci := 10) (C := RX10) (T := TX10) (N := 35) (ty := .int) hx hb hts iX10_sample_X10 tyX10 tyX10_ok nmX10 hown hK ha mA_in hP hS (lt_hn hn (by decide)) cD_D rfl 32 (by decide) rfl (by decide +kernel) rfl (by decide +kernel) rfl rfl (Nat.le_of_ble_eq_true rfl) (cD_D_set (by decide)) dX10_sample_137 (fun H locs hP hS => ?_)
      have hP : va_P G vwCl (wG n a (cD a cA) (mX10_sample_12 S L) L) H := hP
      refine lv_aload_n hx hb dX10_sample_140 rfl (lv_at hl 3 rfl) ?_
      refine lv_dup hx hb dX10_sample_141 rfl ?_
      refine g_get (ci := 10) (C := RX10) (T := TX10) (N := 35) (v := .int ((mX10_sample_12 S L) 0 33)) hx hb hts iX10_sample_X10 hown hK hP (lt_hn hn (by decide)) cD_D rfl 33 (by decide) rfl (by decide +kernel) rfl dX10_sample_142 ?_
      refine lv_iload_n hx hb dX10_sample_145 rfl (lv_at hl 0 rfl) ?_
      have hj6 : ∀ (zy0_hj6 : Int32) (H : Heap) (locs : List Loc) (ls : Array Slot), zy0_hj6 = (jX10_sample_13 S L) → va_P G vwCl (wG n a (cD a cA) (mX10_sample_12 S L) L) H → va_S (mA n a s.heap.size) s.heap H locs → lv_has ls 5 [(3, .int (rX11_keep (jX10_sample_10 S L) (32767 : Int32))), (2, .int (jX10_sample_10 S L)), (1, .int ((vX10_sample_4 S L) / 16)), (0, .ref (a 0))] → W p l e ({ frames := 3, cells := 4, slots := 48, locals := 73 } : Room) s m ([.ref (a 0)] : List Value).toArray below meth c H locs 4 48 (MQ below (gQi (rX10_sample S L) G n a (cD a cA) (fX10_sample S L) (lX10_sample S L) s.heap.size) ([.ref (a 0)] : List Value).toArray s 4 48 (mA n a s.heap.size)) (F0 m 163 ls [.int zy0_hj6, .int ((mX10_sample_12 S L) 0 33), .ref (a 0)]) := by
        intro zy0_hj6 H locs ls ezy0_hj6 hP hS hl
        rw [ezy0_hj6]
        refine lv_iadd hx hb dX10_sample_163 ?_
        refine g_put (ci := 10) (C := RX10) (T := TX10) (N := 35) (ty := .int) hx hb hts iX10_sample_X10 tyX10 tyX10_ok nmX10 hown hK ha mA_in hP hS (lt_hn hn (by decide)) cD_D rfl 33 (by decide) rfl (by decide +kernel) rfl (by decide +kernel) rfl rfl (Nat.le_of_ble_eq_true rfl) (cD_D_set (by decide)) dX10_sample_164 (fun H locs hP hS => ?_)
        have hP : va_P G vwCl (wG n a (cD a cA) (mX10_sample_14 S L) L) H := hP
        refine lv_aload_n hx hb dX10_sample_167 rfl (lv_at hl 3 rfl) ?_
        refine lv_aload_n hx hb dX10_sample_168 rfl (lv_at hl 3 rfl) ?_
        refine g_get (ci := 10) (C := RX10) (T := TX10) (N := 35) (v := .int ((mX10_sample_14 S L) 0 31)) hx hb hts iX10_sample_X10 hown hK hP (lt_hn hn (by decide)) cD_D rfl 31 (by decide) rfl (by decide +kernel) rfl dX10_sample_169 ?_
        refine lv_iload_n hx hb dX10_sample_172 rfl (lv_at hl 0 rfl) ?_
        refine va_mabs hx hb (hml.trans hl.1.symm) hown (hts (.methodLink RX10 177 Lib.Math.abs.name) (by decide +kernel)) (hts (.static Lib.Math.abs.name) (by decide +kernel)) (hts (.initialized "java/lang/Math") (by decide +kernel)) (hts (.code Lib.Math.abs.name Lib.Math.abs.code 1 (some .int)) (by decide +kernel)) (Nat.le_of_ble_eq_true rfl) (Nat.le_of_ble_eq_true rfl) (Nat.le_of_ble_eq_true rfl) (Nat.le_of_ble_eq_true rfl) dX10_sample_173 ?_
        refine W.eq (g2 := F0 m 176 ls [.int (vX10_sample_15 S L), .int ((mX10_sample_14 S L) 0 31), .ref (a 0)]) rfl ?_
        refine va_mmax hx hb (hml.trans hl.1.symm) hown (hts (.methodLink RX10 138 Lib.Math.max.name) (by decide +kernel)) (hts (.static Lib.Math.max.name) (by decide +kernel)) (hts (.initialized "java/lang/Math") (by decide +kernel)) (hts (.code Lib.Math.max.name Lib.Math.max.code 2 (some .int)) (by decide +kernel)) (Nat.le_of_ble_eq_true rfl) (Nat.le_of_ble_eq_true rfl) (Nat.le_of_ble_eq_true rfl) (Nat.le_of_ble_eq_true rfl) dX10_sample_176 ?_
        refine W.eq (g2 := F0 m 179 ls [.int (vX10_sample_16 S L), .ref (a 0)]) rfl ?_
        refine g_put (ci := 10) (C := RX10) (T := TX10) (N := 35) (ty := .int) hx hb hts iX10_sample_X10 tyX10 tyX10_ok nmX10 hown hK ha mA_in hP hS (lt_hn hn (by decide)) cD_D rfl 31 (by decide) rfl (by decide +kernel) rfl (by decide +kernel) rfl rfl (Nat.le_of_ble_eq_true rfl) (cD_D_set (by decide)) dX10_sample_179 (fun H locs hP hS => ?_)
        refine lv_aload_n hx hb dX10_sample_182 rfl (lv_at hl 3 rfl) ?_
        refine lv_dup hx hb dX10_sample_183 rfl ?_
        refine g_get (ci := 10) (C := RX10) (T := TX10) (N := 35) (v := .long L) hx hb hts iX10_sample_X10 hown hK hP (lt_hn hn (by decide)) cD_D rfl 34 (by decide) rfl (by decide +kernel) rfl dX10_sample_184 ?_
        refine lv_iload_n hx hb dX10_sample_187 rfl (lv_at hl 0 rfl) ?_
        refine va_mabs hx hb (hml.trans hl.1.symm) hown (hts (.methodLink RX10 177 Lib.Math.abs.name) (by decide +kernel)) (hts (.static Lib.Math.abs.name) (by decide +kernel)) (hts (.initialized "java/lang/Math") (by decide +kernel)) (hts (.code Lib.Math.abs.name Lib.Math.abs.code 1 (some .int)) (by decide +kernel)) (Nat.le_of_ble_eq_true rfl) (Nat.le_of_ble_eq_true rfl) (Nat.le_of_ble_eq_true rfl) (Nat.le_of_ble_eq_true rfl) dX10_sample_188 ?_
        refine W.eq (g2 := F0 m 191 ls [.int (vX10_sample_15 S L), .long L, .ref (a 0)]) rfl ?_
        refine lv_i2l hx hb dX10_sample_191 rfl ?_
        refine lv_ladd hx hb dX10_sample_192 ?_
        refine g_putL (ci := 10) (C := RX10) (T := TX10) (N := 35) hx hb hts iX10_sample_X10 tyX10 tyX10_ok nmX10 hown hK ha mA_in hP hS (lt_hn hn (by decide)) cD_D rfl 34 (by decide) rfl (by decide +kernel) rfl (by decide +kernel) (Nat.le_of_ble_eq_true rfl) cD_D_L cD_oth dX10_sample_193 (fun H locs hP hS => ?_)
        refine lv_aload_n hx hb dX10_sample_196 rfl (lv_at hl 3 rfl) ?_
        refine lv_dup hx hb dX10_sample_197 rfl ?_
        refine g_get (ci := 10) (C := RX10) (T := TX10) (N := 35) (v := .int ((up2 (mX10_sample_14 S L) 0 31 (vX10_sample_16 S L)) 0 30)) hx hb hts iX10_sample_X10 hown hK hP (lt_hn hn (by decide)) cD_D rfl 30 (by decide) rfl (by decide +kernel) rfl dX10_sample_198 ?_
        refine lv_iconst (v := 1) hx hb dX10_sample_201 (by decide) ?_
        refine lv_iadd hx hb dX10_sample_202 ?_
        refine g_put (ci := 10) (C := RX10) (T := TX10) (N := 35) (ty := .int) hx hb hts iX10_sample_X10 tyX10 tyX10_ok nmX10 hown hK ha mA_in hP hS (lt_hn hn (by decide)) cD_D rfl 30 (by decide) rfl (by decide +kernel) rfl (by decide +kernel) rfl rfl (Nat.le_of_ble_eq_true rfl) (cD_D_set (by decide)) dX10_sample_203 (fun H locs hP hS => ?_)
        have hP : va_P G vwCl (wG n a (cD a cA) (mX10_sample_17 S L) (L + ((vX10_sample_15 S L).toInt64))) H := hP
        refine lv_aload_n hx hb dX10_sample_206 rfl (lv_at hl 3 rfl) ?_
        refine g_get (ci := 10) (C := RX10) (T := TX10) (N := 35) (v := .ref (a 17)) hx hb hts iX10_sample_X10 hown hK hP (lt_hn hn (by decide)) cD_D rfl 29 (by decide) rfl (by decide +kernel) rfl dX10_sample_207 ?_
        refine lv_iconst (v := 0) hx hb dX10_sample_210 (by decide) ?_
        refine lv_aload_n hx hb dX10_sample_211 rfl (lv_at hl 3 rfl) ?_
        refine g_get (ci := 10) (C := RX10) (T := TX10) (N := 35) (v := .ref (a 17)) hx hb hts iX10_sample_X10 hown hK hP (lt_hn hn (by decide)) cD_D rfl 29 (by decide) rfl (by decide +kernel) rfl dX10_sample_212 ?_
        refine lv_iconst (v := 1) hx hb dX10_sample_215 (by decide) ?_
        refine lv_bipush (v := 63) hx hb dX10_sample_216 (by decide) ?_
        refine g_copyi (n0 := 64) (n1 := 64) hx hb (hml.trans hl.1.symm) hown (hts (.methodLink RX10 161 arraycopyName) (by decide +kernel)) (hts (.native arraycopyName) (by decide +kernel)) (hts (.static arraycopyName) (by decide +kernel)) (hts (.initialized "java/lang/System") (by decide +kernel)) hK ha mA_in hP hS (lt_hn hn (by decide)) rfl (lt_hn hn (by decide)) (fun _ => rfl) (by decide) (by decide) (by decide) (by decide) (by decide) (Nat.le_of_ble_eq_true rfl) (Nat.le_of_ble_eq_true rfl) dX10_sample_218 (fun H locs hP hS => ?_)
        have hP : va_P G vwCl (wG n a (cD a cA) (mX10_sample_18 S L) (L + ((vX10_sample_15 S L).toInt64))) H := hP
        refine lv_aload_n hx hb dX10_sample_221 rfl (lv_at hl 3 rfl) ?_
        refine g_get (ci := 10) (C := RX10) (T := TX10) (N := 35) (v := .ref (a 17)) hx hb hts iX10_sample_X10 hown hK hP (lt_hn hn (by decide)) cD_D rfl 29 (by decide) rfl (by decide +kernel) rfl dX10_sample_222 ?_
        refine lv_iconst (v := 0) hx hb dX10_sample_225 (by decide) ?_
        refine lv_iload_n hx hb dX10_sample_226 rfl (lv_at hl 0 rfl) ?_
        refine g_iast (N := 64) (g := (mX10_sample_18 S L) 17) hx hb hK ha mA_in hP hS (lt_hn hn (by decide)) rfl (vp_in_lit (by decide)) rfl dX10_sample_227 (fun H locs hP hS => ?_)
        have hP : va_P G vwCl (wG n a (cD a cA) (mX10_sample_19 S L) (L + ((vX10_sample_15 S L).toInt64))) H := hP
        refine lv_aload_n hx hb dX10_sample_228 rfl (lv_at hl 3 rfl) ?_
        refine lv_dup hx hb dX10_sample_229 rfl ?_
        refine g_get (ci := 10) (C := RX10) (T := TX10) (N := 35) (v := .int ((mX10_sample_19 S L) 0 28)) hx hb hts iX10_sample_X10 hown hK hP (lt_hn hn (by decide)) cD_D rfl 28 (by decide) rfl (by decide +kernel) rfl dX10_sample_230 ?_
        refine lv_iconst (v := 1) hx hb dX10_sample_233 (by decide) ?_
        refine lv_iadd hx hb dX10_sample_234 ?_
        refine g_put (ci := 10) (C := RX10) (T := TX10) (N := 35) (ty := .int) hx hb hts iX10_sample_X10 tyX10 tyX10_ok nmX10 hown hK ha mA_in hP hS (lt_hn hn (by decide)) cD_D rfl 28 (by decide) rfl (by decide +kernel) rfl (by decide +kernel) rfl rfl (Nat.le_of_ble_eq_true rfl) (cD_D_set (by decide)) dX10_sample_235 (fun H locs hP hS => ?_)
        refine lv_iconst (v := 0) hx hb dX10_sample_238 (by decide) ?_
        refine lv_istore (lv' := [(4, .int 0), (3, .int (rX11_keep (jX10_sample_10 S L) (32767 : Int32))), (2, .int (jX10_sample_10 S L)), (1, .int ((vX10_sample_4 S L) / 16)), (0, .ref (a 0))]) hx hb dX10_sample_239 hl (by decide) rfl (fun ls hl => ?_)
        refine lv_iload hx hb dX10_sample_241 (lv_at hl 0 rfl) ?_
        refine lv_iconst (v := 4) hx hb dX10_sample_243 (by decide) ?_
        refine lv_icmp_ge (tgt := 274) hx hb dX10_sample_244 (by decide) (fun c => absurd c (by decide)) (fun _ => ?_)
        refine lv_aload_n hx hb dX10_sample_247 rfl (lv_at hl 4 rfl) ?_
        refine g_get (ci := 10) (C := RX10) (T := TX10) (N := 35) (v := .ref (a 12)) hx hb hts iX10_sample_X10 hown hK hP (lt_hn hn (by decide)) cD_D rfl 11 (by decide) rfl (by decide +kernel) rfl dX10_sample_248 ?_
        refine lv_iload hx hb dX10_sample_251 (lv_at hl 0 rfl) ?_
        refine g_iald (N := 4) (g := (up2 (mX10_sample_19 S L) 0 28 (((mX10_sample_19 S L) 0 28) + 1)) 12) hx hb hK hP (lt_hn hn (by decide)) rfl (vp_in_lit (by decide)) dX10_sample_253 ?_
        have hj8 : ∀ (zS_hj8 : Mm) (H : Heap) (locs : List Loc) (ls : Array Slot), zS_hj8 = (jX10_sample_21 S L) → va_P G vwCl (wG n a (cD a cA) zS_hj8 (L + ((vX10_sample_15 S L).toInt64))) H → va_S (mA n a s.heap.size) s.heap H locs → lv_has ls 5 [(4, .int 0), (3, .int (rX11_keep (jX10_sample_10 S L) (32767 : Int32))), (2, .int (jX10_sample_10 S L)), (1, .int ((vX10_sample_4 S L) / 16)), (0, .ref (a 0))] → W p l e ({ frames := 3, cells := 4, slots := 48, locals := 73 } : Room) s m ([.ref (a 0)] : List Value).toArray below meth c H locs 4 48 (MQ below (gQi (rX10_sample S L) G n a (cD a cA) (fX10_sample S L) (lX10_sample S L) s.heap.size) ([.ref (a 0)] : List Value).toArray s 4 48 (mA n a s.heap.size)) (F0 m 268 ls []) := by
          intro zS_hj8 H locs ls ezS_hj8 hP hS hl
          rw [ezS_hj8] at hP
          refine lv_iinc (v := 1) (lv' := [(4, .int 1), (3, .int (rX11_keep (jX10_sample_10 S L) (32767 : Int32))), (2, .int (jX10_sample_10 S L)), (1, .int ((vX10_sample_4 S L) / 16)), (0, .ref (a 0))]) hx hb dX10_sample_268 hl (k := 0) rfl (by decide) (by decide) rfl (fun ls hl => ?_)
          refine lv_goto (tgt := 241) hx hb dX10_sample_271 (by decide) ?_
          refine lv_iload hx hb dX10_sample_241 (lv_at hl 0 rfl) ?_
          refine lv_iconst (v := 4) hx hb dX10_sample_243 (by decide) ?_
          refine lv_icmp_ge (tgt := 274) hx hb dX10_sample_244 (by decide) (fun c => absurd c (by decide)) (fun _ => ?_)
          refine lv_aload_n hx hb dX10_sample_247 rfl (lv_at hl 4 rfl) ?_
          refine g_get (ci := 10) (C := RX10) (T := TX10) (N := 35) (v := .ref (a 12)) hx hb hts iX10_sample_X10 hown hK hP (lt_hn hn (by decide)) cD_D rfl 11 (by decide) rfl (by decide +kernel) rfl dX10_sample_248 ?_
          refine lv_iload hx hb dX10_sample_251 (lv_at hl 0 rfl) ?_
          refine g_iald (N := 4) (g := (jX10_sample_21 S L) 12) hx hb hK hP (lt_hn hn (by decide)) rfl (vp_in_lit (by decide)) dX10_sample_253 ?_
          have hj10 : ∀ (zS_hj10 : Mm) (H : Heap) (locs : List Loc) (ls : Array Slot), zS_hj10 = (jX10_sample_23 S L) → va_P G vwCl (wG n a (cD a cA) zS_hj10 (L + ((vX10_sample_15 S L).toInt64))) H → va_S (mA n a s.heap.size) s.heap H locs → lv_has ls 5 [(4, .int 1), (3, .int (rX11_keep (jX10_sample_10 S L) (32767 : Int32))), (2, .int (jX10_sample_10 S L)), (1, .int ((vX10_sample_4 S L) / 16)), (0, .ref (a 0))] → W p l e ({ frames := 3, cells := 4, slots := 48, locals := 73 } : Room) s m ([.ref (a 0)] : List Value).toArray below meth c H locs 4 48 (MQ below (gQi (rX10_sample S L) G n a (cD a cA) (fX10_sample S L) (lX10_sample S L) s.heap.size) ([.ref (a 0)] : List Value).toArray s 4 48 (mA n a s.heap.size)) (F0 m 268 ls []) := by
            intro zS_hj10 H locs ls ezS_hj10 hP hS hl
            rw [ezS_hj10] at hP
            refine lv_iinc (v := 2) (lv' := [(4, .int 2), (3, .int (rX11_keep (jX10_sample_10 S L) (32767 : Int32))), (2, .int (jX10_sample_10 S L)), (1, .int ((vX10_sample_4 S L) / 16)), (0, .ref (a 0))]) hx hb dX10_sample_268 hl (k := 0) rfl (by decide) (by decide) rfl (fun ls hl => ?_)
            refine lv_goto (tgt := 241) hx hb dX10_sample_271 (by decide) ?_
            refine lv_iload hx hb dX10_sample_241 (lv_at hl 0 rfl) ?_
            refine lv_iconst (v := 4) hx hb dX10_sample_243 (by decide) ?_
            refine lv_icmp_ge (tgt := 274) hx hb dX10_sample_244 (by decide) (fun c => absurd c (by decide)) (fun _ => ?_)
            refine lv_aload_n hx hb dX10_sample_247 rfl (lv_at hl 4 rfl) ?_
            refine g_get (ci := 10) (C := RX10) (T := TX10) (N := 35) (v := .ref (a 12)) hx hb hts iX10_sample_X10 hown hK hP (lt_hn hn (by decide)) cD_D rfl 11 (by decide) rfl (by decide +kernel) rfl dX10_sample_248 ?_
            refine lv_iload hx hb dX10_sample_251 (lv_at hl 0 rfl) ?_
            refine g_iald (N := 4) (g := (jX10_sample_23 S L) 12) hx hb hK hP (lt_hn hn (by decide)) rfl (vp_in_lit (by decide)) dX10_sample_253 ?_
            have hj12 : ∀ (zS_hj12 : Mm) (H : Heap) (locs : List Loc) (ls : Array Slot), zS_hj12 = (jX10_sample_25 S L) → va_P G vwCl (wG n a (cD a cA) zS_hj12 (L + ((vX10_sample_15 S L).toInt64))) H → va_S (mA n a s.heap.size) s.heap H locs → lv_has ls 5 [(4, .int 2), (3, .int (rX11_keep (jX10_sample_10 S L) (32767 : Int32))), (2, .int (jX10_sample_10 S L)), (1, .int ((vX10_sample_4 S L) / 16)), (0, .ref (a 0))] → W p l e ({ frames := 3, cells := 4, slots := 48, locals := 73 } : Room) s m ([.ref (a 0)] : List Value).toArray below meth c H locs 4 48 (MQ below (gQi (rX10_sample S L) G n a (cD a cA) (fX10_sample S L) (lX10_sample S L) s.heap.size) ([.ref (a 0)] : List Value).toArray s 4 48 (mA n a s.heap.size)) (F0 m 268 ls []) := by
              intro zS_hj12 H locs ls ezS_hj12 hP hS hl
              rw [ezS_hj12] at hP
              refine lv_iinc (v := 3) (lv' := [(4, .int 3), (3, .int (rX11_keep (jX10_sample_10 S L) (32767 : Int32))), (2, .int (jX10_sample_10 S L)), (1, .int ((vX10_sample_4 S L) / 16)), (0, .ref (a 0))]) hx hb dX10_sample_268 hl (k := 0) rfl (by decide) (by decide) rfl (fun ls hl => ?_)
              refine lv_goto (tgt := 241) hx hb dX10_sample_271 (by decide) ?_
              refine lv_iload hx hb dX10_sample_241 (lv_at hl 0 rfl) ?_
              refine lv_iconst (v := 4) hx hb dX10_sample_243 (by decide) ?_
              refine lv_icmp_ge (tgt := 274) hx hb dX10_sample_244 (by decide) (fun c => absurd c (by decide)) (fun _ => ?_)
              refine lv_aload_n hx hb dX10_sample_247 rfl (lv_at hl 4 rfl) ?_
              refine g_get (ci := 10) (C := RX10) (T := TX10) (N := 35) (v := .ref (a 12)) hx hb hts iX10_sample_X10 hown hK hP (lt_hn hn (by decide)) cD_D rfl 11 (by decide) rfl (by decide +kernel) rfl dX10_sample_248 ?_
              refine lv_iload hx hb dX10_sample_251 (lv_at hl 0 rfl) ?_
              refine g_iald (N := 4) (g := (jX10_sample_25 S L) 12) hx hb hK hP (lt_hn hn (by decide)) rfl (vp_in_lit (by decide)) dX10_sample_253 ?_
              have hj14 : ∀ (zS_hj14 : Mm) (H : Heap) (locs : List Loc) (ls : Array Slot), zS_hj14 = (jX10_sample_27 S L) → va_P G vwCl (wG n a (cD a cA) zS_hj14 (L + ((vX10_sample_15 S L).toInt64))) H → va_S (mA n a s.heap.size) s.heap H locs → lv_has ls 5 [(4, .int 3), (3, .int (rX11_keep (jX10_sample_10 S L) (32767 : Int32))), (2, .int (jX10_sample_10 S L)), (1, .int ((vX10_sample_4 S L) / 16)), (0, .ref (a 0))] → W p l e ({ frames := 3, cells := 4, slots := 48, locals := 73 } : Room) s m ([.ref (a 0)] : List Value).toArray below meth c H locs 4 48 (MQ below (gQi (rX10_sample S L) G n a (cD a cA) (fX10_sample S L) (lX10_sample S L) s.heap.size) ([.ref (a 0)] : List Value).toArray s 4 48 (mA n a s.heap.size)) (F0 m 268 ls []) := by
                intro zS_hj14 H locs ls ezS_hj14 hP hS hl
                rw [ezS_hj14] at hP
                refine lv_iinc (v := 4) (lv' := [(4, .int 4), (3, .int (rX11_keep (jX10_sample_10 S L) (32767 : Int32))), (2, .int (jX10_sample_10 S L)), (1, .int ((vX10_sample_4 S L) / 16)), (0, .ref (a 0))]) hx hb dX10_sample_268 hl (k := 0) rfl (by decide) (by decide) rfl (fun ls hl => ?_)
                refine lv_goto (tgt := 241) hx hb dX10_sample_271 (by decide) ?_
                refine lv_iload hx hb dX10_sample_241 (lv_at hl 0 rfl) ?_
                refine lv_iconst (v := 4) hx hb dX10_sample_243 (by decide) ?_
                refine lv_icmp_ge (tgt := 274) hx hb dX10_sample_244 (by decide) (fun _ => ?_) (fun c => absurd c (by decide))
                refine lv_aload_n hx hb dX10_sample_274 rfl (lv_at hl 4 rfl) ?_
                refine g_get (ci := 10) (C := RX10) (T := TX10) (N := 35) (v := .int ((jX10_sample_27 S L) 0 24)) hx hb hts iX10_sample_X10 hown hK hP (lt_hn hn (by decide)) cD_D rfl 24 (by decide) rfl (by decide +kernel) rfl dX10_sample_275 ?_
                refine lv_if_eq (tgt := 317) hx hb dX10_sample_278 (by decide) (fun c15 => ?_) (fun c15 => ?_)
                ·
                  refine lv_iload_n hx hb dX10_sample_317 rfl (lv_at hl 1 rfl) ?_
                  exact g_iret hx hb hr hlocks (by unfold rX10_sample; rfl) (by unfold fX10_sample; rw [if_pos c15]) (by unfold lX10_sample; rfl) hP hS dX10_sample_318
                ·
                  refine lv_aload_n hx hb dX10_sample_281 rfl (lv_at hl 4 rfl) ?_
                  refine lv_dup hx hb dX10_sample_282 rfl ?_
                  refine g_get (ci := 10) (C := RX10) (T := TX10) (N := 35) (v := .int ((jX10_sample_27 S L) 0 26)) hx hb hts iX10_sample_X10 hown hK hP (lt_hn hn (by decide)) cD_D rfl 26 (by decide) rfl (by decide +kernel) rfl dX10_sample_283 ?_
                  refine lv_iconst (v := 1) hx hb dX10_sample_286 (by decide) ?_
                  refine lv_iadd hx hb dX10_sample_287 ?_
                  refine lv_dup_x1 hx hb dX10_sample_288 rfl rfl ?_
                  refine g_put (ci := 10) (C := RX10) (T := TX10) (N := 35) (ty := .int) hx hb hts iX10_sample_X10 tyX10 tyX10_ok nmX10 hown hK ha mA_in hP hS (lt_hn hn (by decide)) cD_D rfl 26 (by decide) rfl (by decide +kernel) rfl (by decide +kernel) rfl rfl (Nat.le_of_ble_eq_true rfl) (cD_D_set (by decide)) dX10_sample_289 (fun H locs hP hS => ?_)
                  refine lv_aload_n hx hb dX10_sample_292 rfl (lv_at hl 4 rfl) ?_
                  refine g_get (ci := 10) (C := RX10) (T := TX10) (N := 35) (v := .int ((up2 (jX10_sample_27 S L) 0 26 (((jX10_sample_27 S L) 0 26) + 1)) 0 27)) hx hb hts iX10_sample_X10 hown hK hP (lt_hn hn (by decide)) cD_D rfl 27 (by decide) rfl (by decide +kernel) rfl dX10_sample_293 ?_
                  refine lv_icmp_ne (tgt := 317) hx hb dX10_sample_296 (by decide) (fun c16 => ?_) (fun c16 => ?_)
                  ·
                    refine lv_iload_n hx hb dX10_sample_317 rfl (lv_at hl 1 rfl) ?_
                    exact g_iret hx hb hr hlocks (by unfold rX10_sample; rfl) (by unfold fX10_sample; rw [if_neg c15, if_neg c16]) (by unfold lX10_sample; rfl) hP hS dX10_sample_318
                  ·
                    refine lv_aload_n hx hb dX10_sample_299 rfl (lv_at hl 4 rfl) ?_
                    refine lv_iconst (v := 0) hx hb dX10_sample_300 (by decide) ?_
                    refine g_put (ci := 10) (C := RX10) (T := TX10) (N := 35) (ty := .int) hx hb hts iX10_sample_X10 tyX10 tyX10_ok nmX10 hown hK ha mA_in hP hS (lt_hn hn (by decide)) cD_D rfl 26 (by decide) rfl (by decide +kernel) rfl (by decide +kernel) rfl rfl (Nat.le_of_ble_eq_true rfl) (cD_D_set (by decide)) dX10_sample_301 (fun H locs hP hS => ?_)
                    have hP : va_P G vwCl (wG n a (cD a cA) (mX10_sample_28 S L) (L + ((vX10_sample_15 S L).toInt64))) H := hP
                    refine lv_aload_n hx hb dX10_sample_304 rfl (lv_at hl 4 rfl) ?_
                    refine lv_aload_n hx hb dX10_sample_305 rfl (lv_at hl 4 rfl) ?_
                    refine g_get (ci := 10) (C := RX10) (T := TX10) (N := 35) (v := .int ((mX10_sample_28 S L) 0 25)) hx hb hts iX10_sample_X10 hown hK hP (lt_hn hn (by decide)) cD_D rfl 25 (by decide) rfl (by decide +kernel) rfl dX10_sample_306 ?_
                    refine lv_iconst (v := 1) hx hb dX10_sample_309 (by decide) ?_
                    refine lv_iadd hx hb dX10_sample_310 ?_
                    refine lv_bipush (v := 8) hx hb dX10_sample_311 (by decide) ?_
                    refine lv_irem hx hb dX10_sample_313 (by decide) ?_
                    refine g_put (ci := 10) (C := RX10) (T := TX10) (N := 35) (ty := .int) hx hb hts iX10_sample_X10 tyX10 tyX10_ok nmX10 hown hK ha mA_in hP hS (lt_hn hn (by decide)) cD_D rfl 25 (by decide) rfl (by decide +kernel) rfl (by decide +kernel) rfl rfl (Nat.le_of_ble_eq_true rfl) (cD_D_set (by decide)) dX10_sample_314 (fun H locs hP hS => ?_)
                    have hP : va_P G vwCl (wG n a (cD a cA) (mX10_sample_29 S L) (L + ((vX10_sample_15 S L).toInt64))) H := hP
                    refine lv_iload_n hx hb dX10_sample_317 rfl (lv_at hl 1 rfl) ?_
                    exact g_iret hx hb hr hlocks (by unfold rX10_sample; rfl) (by unfold fX10_sample; rw [if_neg c15, if_pos c16]) (by unfold lX10_sample; rfl) hP hS dX10_sample_318
              refine lv_if_le (tgt := 268) hx hb dX10_sample_254 (by decide) (fun c13 => ?_) (fun c13 => ?_)
              ·
                exact hj14 _ _ _ _ (by unfold jX10_sample_27; rw [if_pos c13]) hP hS (lv_sub hl [0, 1, 2, 3, 4] rfl)
              ·
                refine lv_aload_n hx hb dX10_sample_257 rfl (lv_at hl 4 rfl) ?_
                refine g_get (ci := 10) (C := RX10) (T := TX10) (N := 35) (v := .ref (a 12)) hx hb hts iX10_sample_X10 hown hK hP (lt_hn hn (by decide)) cD_D rfl 11 (by decide) rfl (by decide +kernel) rfl dX10_sample_258 ?_
                refine lv_iload hx hb dX10_sample_261 (lv_at hl 0 rfl) ?_
                refine lv_dup2_11 hx hb dX10_sample_263 rfl rfl ?_
                refine g_iald (N := 4) (g := (jX10_sample_25 S L) 12) hx hb hK hP (lt_hn hn (by decide)) rfl (vp_in_lit (by decide)) dX10_sample_264 ?_
                refine lv_iconst (v := 1) hx hb dX10_sample_265 (by decide) ?_
                refine lv_isub hx hb dX10_sample_266 ?_
                refine g_iast (N := 4) (g := (jX10_sample_25 S L) 12) hx hb hK ha mA_in hP hS (lt_hn hn (by decide)) rfl (vp_in_lit (by decide)) rfl dX10_sample_267 (fun H locs hP hS => ?_)
                have hP : va_P G vwCl (wG n a (cD a cA) (mX10_sample_26 S L) (L + ((vX10_sample_15 S L).toInt64))) H := hP
                exact hj14 _ _ _ _ (by unfold jX10_sample_27; rw [if_neg c13]) hP hS (lv_sub hl [0, 1, 2, 3, 4] rfl)
            refine lv_if_le (tgt := 268) hx hb dX10_sample_254 (by decide) (fun c11 => ?_) (fun c11 => ?_)
            ·
              exact hj12 _ _ _ _ (by unfold jX10_sample_25; rw [if_pos c11]) hP hS (lv_sub hl [0, 1, 2, 3, 4] rfl)
            ·
              refine lv_aload_n hx hb dX10_sample_257 rfl (lv_at hl 4 rfl) ?_
              refine g_get (ci := 10) (C := RX10) (T := TX10) (N := 35) (v := .ref (a 12)) hx hb hts iX10_sample_X10 hown hK hP (lt_hn hn (by decide)) cD_D rfl 11 (by decide) rfl (by decide +kernel) rfl dX10_sample_258 ?_
              refine lv_iload hx hb dX10_sample_261 (lv_at hl 0 rfl) ?_
              refine lv_dup2_11 hx hb dX10_sample_263 rfl rfl ?_
              refine g_iald (N := 4) (g := (jX10_sample_23 S L) 12) hx hb hK hP (lt_hn hn (by decide)) rfl (vp_in_lit (by decide)) dX10_sample_264 ?_
              refine lv_iconst (v := 1) hx hb dX10_sample_265 (by decide) ?_
              refine lv_isub hx hb dX10_sample_266 ?_
              refine g_iast (N := 4) (g := (jX10_sample_23 S L) 12) hx hb hK ha mA_in hP hS (lt_hn hn (by decide)) rfl (vp_in_lit (by decide)) rfl dX10_sample_267 (fun H locs hP hS => ?_)
              have hP : va_P G vwCl (wG n a (cD a cA) (mX10_sample_24 S L) (L + ((vX10_sample_15 S L).toInt64))) H := hP
              exact hj12 _ _ _ _ (by unfold jX10_sample_25; rw [if_neg c11]) hP hS (lv_sub hl [0, 1, 2, 3, 4] rfl)
          refine lv_if_le (tgt := 268) hx hb dX10_sample_254 (by decide) (fun c9 => ?_) (fun c9 => ?_)
          ·
            exact hj10 _ _ _ _ (by unfold jX10_sample_23; rw [if_pos c9]) hP hS (lv_sub hl [0, 1, 2, 3, 4] rfl)
          ·
            refine lv_aload_n hx hb dX10_sample_257 rfl (lv_at hl 4 rfl) ?_
            refine g_get (ci := 10) (C := RX10) (T := TX10) (N := 35) (v := .ref (a 12)) hx hb hts iX10_sample_X10 hown hK hP (lt_hn hn (by decide)) cD_D rfl 11 (by decide) rfl (by decide +kernel) rfl dX10_sample_258 ?_
            refine lv_iload hx hb dX10_sample_261 (lv_at hl 0 rfl) ?_
            refine lv_dup2_11 hx hb dX10_sample_263 rfl rfl ?_
            refine g_iald (N := 4) (g := (jX10_sample_21 S L) 12) hx hb hK hP (lt_hn hn (by decide)) rfl (vp_in_lit (by decide)) dX10_sample_264 ?_
            refine lv_iconst (v := 1) hx hb dX10_sample_265 (by decide) ?_
            refine lv_isub hx hb dX10_sample_266 ?_
            refine g_iast (N := 4) (g := (jX10_sample_21 S L) 12) hx hb hK ha mA_in hP hS (lt_hn hn (by decide)) rfl (vp_in_lit (by decide)) rfl dX10_sample_267 (fun H locs hP hS => ?_)
            have hP : va_P G vwCl (wG n a (cD a cA) (mX10_sample_22 S L) (L + ((vX10_sample_15 S L).toInt64))) H := hP
            exact hj10 _ _ _ _ (by unfold jX10_sample_23; rw [if_neg c9]) hP hS (lv_sub hl [0, 1, 2, 3, 4] rfl)
        refine lv_if_le (tgt := 268) hx hb dX10_sample_254 (by decide) (fun c7 => ?_) (fun c7 => ?_)
        ·
          exact hj8 _ _ _ _ (by unfold jX10_sample_21; rw [if_pos c7]) hP hS (lv_sub hl [0, 1, 2, 3, 4] rfl)
        ·
          refine lv_aload_n hx hb dX10_sample_257 rfl (lv_at hl 4 rfl) ?_
          refine g_get (ci := 10) (C := RX10) (T := TX10) (N := 35) (v := .ref (a 12)) hx hb hts iX10_sample_X10 hown hK hP (lt_hn hn (by decide)) cD_D rfl 11 (by decide) rfl (by decide +kernel) rfl dX10_sample_258 ?_
          refine lv_iload hx hb dX10_sample_261 (lv_at hl 0 rfl) ?_
          refine lv_dup2_11 hx hb dX10_sample_263 rfl rfl ?_
          refine g_iald (N := 4) (g := (up2 (mX10_sample_19 S L) 0 28 (((mX10_sample_19 S L) 0 28) + 1)) 12) hx hb hK hP (lt_hn hn (by decide)) rfl (vp_in_lit (by decide)) dX10_sample_264 ?_
          refine lv_iconst (v := 1) hx hb dX10_sample_265 (by decide) ?_
          refine lv_isub hx hb dX10_sample_266 ?_
          refine g_iast (N := 4) (g := (up2 (mX10_sample_19 S L) 0 28 (((mX10_sample_19 S L) 0 28) + 1)) 12) hx hb hK ha mA_in hP hS (lt_hn hn (by decide)) rfl (vp_in_lit (by decide)) rfl dX10_sample_267 (fun H locs hP hS => ?_)
          have hP : va_P G vwCl (wG n a (cD a cA) (mX10_sample_20 S L) (L + ((vX10_sample_15 S L).toInt64))) H := hP
          exact hj8 _ _ _ _ (by unfold jX10_sample_21; rw [if_neg c7]) hP hS (lv_sub hl [0, 1, 2, 3, 4] rfl)
      refine lv_if_le (tgt := 162) hx hb dX10_sample_146 (by decide) (fun c5 => ?_) (fun c5 => ?_)
      ·
        refine lv_iconst (v := 0) hx hb dX10_sample_162 (by decide) ?_
        exact hj6 _ _ _ _ (by unfold jX10_sample_13; rw [if_pos c5]) hP hS (lv_sub hl [0, 1, 2, 3] rfl)
      ·
        refine lv_aload_n hx hb dX10_sample_149 rfl (lv_at hl 3 rfl) ?_
        refine g_get (ci := 10) (C := RX10) (T := TX10) (N := 35) (v := .ref (a 17)) hx hb hts iX10_sample_X10 hown hK hP (lt_hn hn (by decide)) cD_D rfl 29 (by decide) rfl (by decide +kernel) rfl dX10_sample_150 ?_
        refine lv_iconst (v := 0) hx hb dX10_sample_153 (by decide) ?_
        refine g_iald (N := 64) (g := (mX10_sample_12 S L) 17) hx hb hK hP (lt_hn hn (by decide)) rfl (vp_in_lit (by decide)) dX10_sample_154 ?_
        refine lv_if_gt (tgt := 162) hx hb dX10_sample_155 (by decide) (fun c17 => ?_) (fun c17 => ?_)
        ·
          refine lv_iconst (v := 0) hx hb dX10_sample_162 (by decide) ?_
          exact hj6 _ _ _ _ (by unfold jX10_sample_13; rw [if_neg c5, if_pos c17]) hP hS (lv_sub hl [0, 1, 2, 3] rfl)
        ·
          refine lv_iconst (v := 1) hx hb dX10_sample_158 (by decide) ?_
          refine lv_goto (tgt := 163) hx hb dX10_sample_159 (by decide) ?_
          exact hj6 _ _ _ _ (by unfold jX10_sample_13; rw [if_neg c5, if_neg c17]) hP hS (lv_sub hl [0, 1, 2, 3] rfl)
    refine lv_icmp_ne (tgt := 135) hx hb dX10_sample_128 (by decide) (fun c3 => ?_) (fun c3 => ?_)
    ·
      refine lv_iconst (v := 1) hx hb dX10_sample_135 (by decide) ?_
      exact hj4 _ _ _ _ (by unfold jX10_sample_11; rw [if_neg c3]) hP hS (lv_sub hl [0, 1, 2, 3] rfl)
    ·
      refine lv_iconst (v := 0) hx hb dX10_sample_131 (by decide) ?_
      refine lv_goto (tgt := 136) hx hb dX10_sample_132 (by decide) ?_
      exact hj4 _ _ _ _ (by unfold jX10_sample_11; rw [if_pos c3]) hP hS (lv_sub hl [0, 1, 2, 3] rfl)
  refine lv_if_le (tgt := 113) hx hb dX10_sample_43 (by decide) (fun c1 => ?_) (fun c1 => ?_)
  ·
    exact hj2 _ _ _ _ _ (by unfold jX10_sample_9; rw [if_pos c1]) (by unfold jX10_sample_10; rw [if_pos c1]) hP hS (lv_sub hl [0, 1, 2] rfl)
  ·
    refine lv_aload_n hx hb dX10_sample_46 rfl (lv_at hl 2 rfl) ?_
    refine g_get (ci := 10) (C := RX10) (T := TX10) (N := 35) (v := .ref (a 14)) hx hb hts iX10_sample_X10 hown hK hP (lt_hn hn (by decide)) cD_D rfl 19 (by decide) rfl (by decide +kernel) rfl dX10_sample_47 ?_
    refine lv_iconst (v := 0) hx hb dX10_sample_50 (by decide) ?_
    refine g_iald (N := 200) (g := (fX10_gives (mX10_sample_2 S L) (3 : Int32)) 14) hx hb hK hP (lt_hn hn (by decide)) rfl (vp_in_lit (by decide)) dX10_sample_51 ?_
    refine lv_istore_n (lv' := [(3, .int ((fX10_gives (mX10_sample_2 S L) (3 : Int32)) 14 (0 : Int32).toNatClampNeg)), (2, .int ((vX10_sample_4 S L) / 16)), (1, .int ((vX10_sample_4 S L) / 16)), (0, .ref (a 0))]) hx hb dX10_sample_52 rfl hl (by decide) rfl (fun ls hl => ?_)
    refine lv_aload_n hx hb dX10_sample_53 rfl (lv_at hl 3 rfl) ?_
    refine g_get (ci := 10) (C := RX10) (T := TX10) (N := 35) (v := .ref (a 14)) hx hb hts iX10_sample_X10 hown hK hP (lt_hn hn (by decide)) cD_D rfl 19 (by decide) rfl (by decide +kernel) rfl dX10_sample_54 ?_
    refine lv_iconst (v := 1) hx hb dX10_sample_57 (by decide) ?_
    refine lv_aload_n hx hb dX10_sample_58 rfl (lv_at hl 3 rfl) ?_
    refine g_get (ci := 10) (C := RX10) (T := TX10) (N := 35) (v := .ref (a 14)) hx hb hts iX10_sample_X10 hown hK hP (lt_hn hn (by decide)) cD_D rfl 19 (by decide) rfl (by decide +kernel) rfl dX10_sample_59 ?_
    refine lv_iconst (v := 0) hx hb dX10_sample_62 (by decide) ?_
    refine lv_aload_n hx hb dX10_sample_63 rfl (lv_at hl 3 rfl) ?_
    refine g_get (ci := 10) (C := RX10) (T := TX10) (N := 35) (v := .int ((fX10_gives (mX10_sample_2 S L) (3 : Int32)) 0 16)) hx hb hts iX10_sample_X10 hown hK hP (lt_hn hn (by decide)) cD_D rfl 16 (by decide) rfl (by decide +kernel) rfl dX10_sample_64 ?_
    refine lv_iconst (v := 1) hx hb dX10_sample_67 (by decide) ?_
    refine lv_isub hx hb dX10_sample_68 ?_
    refine g_copyi (n0 := 200) (n1 := 200) hx hb (hml.trans hl.1.symm) hown (hts (.methodLink RX10 161 arraycopyName) (by decide +kernel)) (hts (.native arraycopyName) (by decide +kernel)) (hts (.static arraycopyName) (by decide +kernel)) (hts (.initialized "java/lang/System") (by decide +kernel)) hK ha mA_in hP hS (lt_hn hn (by decide)) rfl (lt_hn hn (by decide)) (fun _ => rfl) (by decide) (by decide) (hh10 c1) (hh11 c1) (hh12 c1) (Nat.le_of_ble_eq_true rfl) (Nat.le_of_ble_eq_true rfl) dX10_sample_69 (fun H locs hP hS => ?_)
    have hP : va_P G vwCl (wG n a (cD a cA) (mX10_sample_5 S L) L) H := hP
    refine lv_aload_n hx hb dX10_sample_72 rfl (lv_at hl 3 rfl) ?_
    refine g_get (ci := 10) (C := RX10) (T := TX10) (N := 35) (v := .ref (a 14)) hx hb hts iX10_sample_X10 hown hK hP (lt_hn hn (by decide)) cD_D rfl 19 (by decide) rfl (by decide +kernel) rfl dX10_sample_73 ?_
    refine lv_aload_n hx hb dX10_sample_76 rfl (lv_at hl 3 rfl) ?_
    refine g_get (ci := 10) (C := RX10) (T := TX10) (N := 35) (v := .int ((mX10_sample_5 S L) 0 16)) hx hb hts iX10_sample_X10 hown hK hP (lt_hn hn (by decide)) cD_D rfl 16 (by decide) rfl (by decide +kernel) rfl dX10_sample_77 ?_
    refine lv_iconst (v := 1) hx hb dX10_sample_80 (by decide) ?_
    refine lv_isub hx hb dX10_sample_81 ?_
    refine lv_iload_n hx hb dX10_sample_82 rfl (lv_at hl 2 rfl) ?_
    refine lv_iload_n hx hb dX10_sample_83 rfl (lv_at hl 0 rfl) ?_
    refine lv_aload_n hx hb dX10_sample_84 rfl (lv_at hl 3 rfl) ?_
    refine g_get (ci := 10) (C := RX10) (T := TX10) (N := 35) (v := .int ((mX10_sample_5 S L) 0 18)) hx hb hts iX10_sample_X10 hown hK hP (lt_hn hn (by decide)) cD_D rfl 18 (by decide) rfl (by decide +kernel) rfl dX10_sample_85 ?_
    refine lv_imul hx hb dX10_sample_88 ?_
    refine W.eq (g2 := F0 m 89 ls [.int (vX10_sample_6 S L), .int ((vX10_sample_4 S L) / 16), .int (((mX10_sample_5 S L) 0 16) - 1), .ref (a 14)]) rfl ?_
    refine lv_sipush (v := 256) hx hb dX10_sample_89 (by decide) ?_
    refine lv_idiv hx hb dX10_sample_92 (by decide) ?_
    refine lv_iadd hx hb dX10_sample_93 ?_
    refine lv_ldc (v := 100000) hx hb hown (hts (.constant RX10 167 100000) (by decide +kernel)) dX10_sample_94 ?_
    refine g_cNi (As := [.int (((vX10_sample_4 S L) / 16) + ((vX10_sample_6 S L) / 256)), .int 100000]) (rest := [.int (((mX10_sample_5 S L) 0 16) - 1), .ref (a 14)]) ⟨hx, hb, hml, hown, hts⟩ (c_X11_keep l G cA zq n hn a ha (mX10_sample_5 S L) L H.size (((vX10_sample_4 S L) / 16) + ((vX10_sample_6 S L) / 256)) (100000 : Int32)  ) (va_cnB 2 hts gX10_sample_X11_keep_n152 rfl rfl rfl (hK.2.1.at (q := ("MelodeonModel$Desk", 152, yX11_keep, "MelodeonModel")) (by decide +kernel)) (hts (.initialized RX11) (by decide +kernel)) (by decide +kernel) ⟨Nat.le_of_ble_eq_true rfl, Nat.le_of_ble_eq_true rfl⟩) (hts (.static yX11_keep) (by decide +kernel)) hK (mA_mono hS.1) hP hS rfl hl.1 rfl (lv_room (Nat.le_of_ble_eq_true rfl)) dX10_sample_96 ⟨Nat.le_of_ble_eq_true rfl, Nat.le_of_ble_eq_true rfl⟩ (fun H locs hP hS _ _ => ?_)
    refine g_iast (N := 200) (g := (mX10_sample_5 S L) 14) hx hb hK ha mA_in hP hS (lt_hn hn (by decide)) rfl (hh13 c1) rfl dX10_sample_99 (fun H locs hP hS => ?_)
    have hP : va_P G vwCl (wG n a (cD a cA) (mX10_sample_7 S L) L) H := hP
    refine lv_iload_n hx hb dX10_sample_100 rfl (lv_at hl 2 rfl) ?_
    refine lv_iload_n hx hb dX10_sample_101 rfl (lv_at hl 0 rfl) ?_
    refine lv_aload_n hx hb dX10_sample_102 rfl (lv_at hl 3 rfl) ?_
    refine g_get (ci := 10) (C := RX10) (T := TX10) (N := 35) (v := .int ((mX10_sample_7 S L) 0 17)) hx hb hts iX10_sample_X10 hown hK hP (lt_hn hn (by decide)) cD_D rfl 17 (by decide) rfl (by decide +kernel) rfl dX10_sample_103 ?_
    refine lv_imul hx hb dX10_sample_106 ?_
    refine W.eq (g2 := F0 m 107 ls [.int (vX10_sample_8 S L), .int ((vX10_sample_4 S L) / 16)]) rfl ?_
    refine lv_sipush (v := 256) hx hb dX10_sample_107 (by decide) ?_
    refine lv_idiv hx hb dX10_sample_110 (by decide) ?_
    refine lv_iadd hx hb dX10_sample_111 ?_
    refine lv_istore_n (lv' := [(2, .int (((vX10_sample_4 S L) / 16) + ((vX10_sample_8 S L) / 256))), (3, .int ((fX10_gives (mX10_sample_2 S L) (3 : Int32)) 14 (0 : Int32).toNatClampNeg)), (1, .int ((vX10_sample_4 S L) / 16)), (0, .ref (a 0))]) hx hb dX10_sample_112 rfl hl (by decide) rfl (fun ls hl => ?_)
    exact hj2 _ _ _ _ _ (by unfold jX10_sample_9; rw [if_neg c1]) (by unfold jX10_sample_10; rw [if_neg c1]) hP hS (lv_sub hl [0, 2, 3] rfl)
