def jX10_goOnTracks_1 (S : Mm) : Mm := (if S 12 (0 : Int32).toNatClampNeg = 0 then fX10_end (up2 S 12 (0 : Int32).toNatClampNeg (-1)) (0 : Int32) else S)
def mX10_goOnTracks_2 (S : Mm) : Mm := fX10_end (up2 (jX10_goOnTracks_1 S) 12 (1 : Int32).toNatClampNeg (-1)) (1 : Int32)
def jX10_goOnTracks_3 (S : Mm) : Mm := (if (jX10_goOnTracks_1 S) 12 (1 : Int32).toNatClampNeg = 0 then (mX10_goOnTracks_2 S) else (jX10_goOnTracks_1 S))
def mX10_goOnTracks_4 (S : Mm) : Mm := fX10_end (up2 (jX10_goOnTracks_3 S) 12 (2 : Int32).toNatClampNeg (-1)) (2 : Int32)
def jX10_goOnTracks_5 (S : Mm) : Mm := (if (jX10_goOnTracks_3 S) 12 (2 : Int32).toNatClampNeg = 0 then (mX10_goOnTracks_4 S) else (jX10_goOnTracks_3 S))
def mX10_goOnTracks_6 (S : Mm) : Mm := fX10_end (up2 (jX10_goOnTracks_5 S) 12 (3 : Int32).toNatClampNeg (-1)) (3 : Int32)
def jX10_goOnTracks_7 (S : Mm) : Mm := (if (jX10_goOnTracks_5 S) 12 (3 : Int32).toNatClampNeg = 0 then (mX10_goOnTracks_6 S) else (jX10_goOnTracks_5 S))
def jX10_goOnTracks_8 (S : Mm) : Int32 := (if ((jX10_goOnTracks_7 S) 0 25) - ((jX10_goOnTracks_7 S) 0 25) / 2 * 2 = 0 then ((jX10_goOnTracks_7 S) 0 22) + ((jX10_goOnTracks_7 S) 0 23) else ((jX10_goOnTracks_7 S) 0 22) - ((jX10_goOnTracks_7 S) 0 23))
def vX10_goOnTracks_9 (S : Mm) : Int32 := (up2 (jX10_goOnTracks_7 S) 0 27 (jX10_goOnTracks_8 S)) 16 ((0 + ((up2 (jX10_goOnTracks_7 S) 0 27 (jX10_goOnTracks_8 S)) 0 25)) * 3).toNatClampNeg
def vX10_goOnTracks_10 (S : Mm) : Int32 := (up2 (jX10_goOnTracks_7 S) 0 27 (jX10_goOnTracks_8 S)) 16 (((0 + ((up2 (jX10_goOnTracks_7 S) 0 27 (jX10_goOnTracks_8 S)) 0 25)) * 3) + 1).toNatClampNeg
def vX10_goOnTracks_11 (S : Mm) : Int32 := (up2 (jX10_goOnTracks_7 S) 0 27 (jX10_goOnTracks_8 S)) 16 (((0 + ((up2 (jX10_goOnTracks_7 S) 0 27 (jX10_goOnTracks_8 S)) 0 25)) * 3) + 2).toNatClampNeg
def mX10_goOnTracks_12 (S : Mm) : Mm := fX10_begin (up2 (jX10_goOnTracks_7 S) 0 27 (jX10_goOnTracks_8 S)) ((up2 (jX10_goOnTracks_7 S) 0 27 (jX10_goOnTracks_8 S)) 15 (0 : Int32).toNatClampNeg) (vX10_goOnTracks_9 S) (vX10_goOnTracks_10 S) (vX10_goOnTracks_11 S)
def vX10_goOnTracks_13 (S : Mm) : Int32 := rX10_begin (up2 (jX10_goOnTracks_7 S) 0 27 (jX10_goOnTracks_8 S)) ((up2 (jX10_goOnTracks_7 S) 0 27 (jX10_goOnTracks_8 S)) 15 (0 : Int32).toNatClampNeg) (vX10_goOnTracks_9 S) (vX10_goOnTracks_10 S) (vX10_goOnTracks_11 S)
def jX10_goOnTracks_14 (S : Mm) : Mm := (if (vX10_goOnTracks_9 S) = (-1) then up2 (jX10_goOnTracks_7 S) 0 27 (jX10_goOnTracks_8 S) else (mX10_goOnTracks_12 S))
def mX10_goOnTracks_15 (S : Mm) : Mm := fX10_begin (jX10_goOnTracks_14 S) ((jX10_goOnTracks_14 S) 15 (1 : Int32).toNatClampNeg) ((jX10_goOnTracks_14 S) 16 ((8 + ((jX10_goOnTracks_14 S) 0 25)) * 3).toNatClampNeg) ((jX10_goOnTracks_14 S) 16 (((8 + ((jX10_goOnTracks_14 S) 0 25)) * 3) + 1).toNatClampNeg) ((jX10_goOnTracks_14 S) 16 (((8 + ((jX10_goOnTracks_14 S) 0 25)) * 3) + 2).toNatClampNeg)
def vX10_goOnTracks_16 (S : Mm) : Int32 := rX10_begin (jX10_goOnTracks_14 S) ((jX10_goOnTracks_14 S) 15 (1 : Int32).toNatClampNeg) ((jX10_goOnTracks_14 S) 16 ((8 + ((jX10_goOnTracks_14 S) 0 25)) * 3).toNatClampNeg) ((jX10_goOnTracks_14 S) 16 (((8 + ((jX10_goOnTracks_14 S) 0 25)) * 3) + 1).toNatClampNeg) ((jX10_goOnTracks_14 S) 16 (((8 + ((jX10_goOnTracks_14 S) 0 25)) * 3) + 2).toNatClampNeg)
def jX10_goOnTracks_17 (S : Mm) : Mm := (if (jX10_goOnTracks_14 S) 16 ((8 + ((jX10_goOnTracks_14 S) 0 25)) * 3).toNatClampNeg = (-1) then (jX10_goOnTracks_14 S) else (mX10_goOnTracks_15 S))
def mX10_goOnTracks_18 (S : Mm) : Mm := fX10_begin (jX10_goOnTracks_17 S) ((jX10_goOnTracks_17 S) 15 (2 : Int32).toNatClampNeg) ((jX10_goOnTracks_17 S) 16 ((16 + ((jX10_goOnTracks_17 S) 0 25)) * 3).toNatClampNeg) ((jX10_goOnTracks_17 S) 16 (((16 + ((jX10_goOnTracks_17 S) 0 25)) * 3) + 1).toNatClampNeg) ((jX10_goOnTracks_17 S) 16 (((16 + ((jX10_goOnTracks_17 S) 0 25)) * 3) + 2).toNatClampNeg)
def vX10_goOnTracks_19 (S : Mm) : Int32 := rX10_begin (jX10_goOnTracks_17 S) ((jX10_goOnTracks_17 S) 15 (2 : Int32).toNatClampNeg) ((jX10_goOnTracks_17 S) 16 ((16 + ((jX10_goOnTracks_17 S) 0 25)) * 3).toNatClampNeg) ((jX10_goOnTracks_17 S) 16 (((16 + ((jX10_goOnTracks_17 S) 0 25)) * 3) + 1).toNatClampNeg) ((jX10_goOnTracks_17 S) 16 (((16 + ((jX10_goOnTracks_17 S) 0 25)) * 3) + 2).toNatClampNeg)
def jX10_goOnTracks_20 (S : Mm) : Mm := (if (jX10_goOnTracks_17 S) 16 ((16 + ((jX10_goOnTracks_17 S) 0 25)) * 3).toNatClampNeg = (-1) then (jX10_goOnTracks_17 S) else (mX10_goOnTracks_18 S))
def fX10_goOnTracks (S : Mm) : Mm := (if (jX10_goOnTracks_7 S) 0 24 = 0 then (jX10_goOnTracks_7 S) else (if (jX10_goOnTracks_7 S) 0 26 ≤ 0 then (jX10_goOnTracks_20 S) else (jX10_goOnTracks_7 S)))
theorem iX10_goOnTracks_X10 : ∀ w ∈ u_ws RX10 TX10 35, w ∈ wsX10_goOnTracks := by decide +kernel
set_option maxHeartbeats 4000000 in
set_option maxRecDepth 100000 in
theorem c_X10_goOnTracks (l : Launch) (G : va_G) (cA : ClassId) (zq n : Nat) (hn : 18 ≤ n) (a : Nat → Nat) (ha : apart n a) (S : Mm) (L : Int64) (sz : Nat)   (hh1 : ¬ ((jX10_goOnTracks_7 S) 0 24 = 0) → (jX10_goOnTracks_7 S) 0 26 ≤ 0 → vp_in ((0 + ((up2 (jX10_goOnTracks_7 S) 0 27 (jX10_goOnTracks_8 S)) 0 25)) * 3) 72) (hh2 : ¬ ((jX10_goOnTracks_7 S) 0 24 = 0) → (jX10_goOnTracks_7 S) 0 26 ≤ 0 → ¬ ((vX10_goOnTracks_9 S) = (-1)) → vp_in ((0 + ((up2 (jX10_goOnTracks_7 S) 0 27 (jX10_goOnTracks_8 S)) 0 25)) * 3) 72) (hh3 : ¬ ((jX10_goOnTracks_7 S) 0 24 = 0) → (jX10_goOnTracks_7 S) 0 26 ≤ 0 → ¬ ((vX10_goOnTracks_9 S) = (-1)) → vp_in (((0 + ((up2 (jX10_goOnTracks_7 S) 0 27 (jX10_goOnTracks_8 S)) 0 25)) * 3) + 1) 72) (hh4 : ¬ ((jX10_goOnTracks_7 S) 0 24 = 0) → (jX10_goOnTracks_7 S) 0 26 ≤ 0 → ¬ ((vX10_goOnTracks_9 S) = (-1)) → vp_in (((0 + ((up2 (jX10_goOnTracks_7 S) 0 27 (jX10_goOnTracks_8 S)) 0 25)) * 3) + 2) 72) (hh5 : ¬ ((jX10_goOnTracks_7 S) 0 24 = 0) → (jX10_goOnTracks_7 S) 0 26 ≤ 0 → vp_in ((8 + ((jX10_goOnTracks_14 S) 0 25)) * 3) 72) (hh6 : ¬ ((jX10_goOnTracks_7 S) 0 24 = 0) → (jX10_goOnTracks_7 S) 0 26 ≤ 0 → ¬ ((jX10_goOnTracks_14 S) 16 ((8 + ((jX10_goOnTracks_14 S) 0 25)) * 3).toNatClampNeg = (-1)) → vp_in ((8 + ((jX10_goOnTracks_14 S) 0 25)) * 3) 72) (hh7 : ¬ ((jX10_goOnTracks_7 S) 0 24 = 0) → (jX10_goOnTracks_7 S) 0 26 ≤ 0 → ¬ ((jX10_goOnTracks_14 S) 16 ((8 + ((jX10_goOnTracks_14 S) 0 25)) * 3).toNatClampNeg = (-1)) → vp_in (((8 + ((jX10_goOnTracks_14 S) 0 25)) * 3) + 1) 72) (hh8 : ¬ ((jX10_goOnTracks_7 S) 0 24 = 0) → (jX10_goOnTracks_7 S) 0 26 ≤ 0 → ¬ ((jX10_goOnTracks_14 S) 16 ((8 + ((jX10_goOnTracks_14 S) 0 25)) * 3).toNatClampNeg = (-1)) → vp_in (((8 + ((jX10_goOnTracks_14 S) 0 25)) * 3) + 2) 72) (hh9 : ¬ ((jX10_goOnTracks_7 S) 0 24 = 0) → (jX10_goOnTracks_7 S) 0 26 ≤ 0 → vp_in ((16 + ((jX10_goOnTracks_17 S) 0 25)) * 3) 72) (hh10 : ¬ ((jX10_goOnTracks_7 S) 0 24 = 0) → (jX10_goOnTracks_7 S) 0 26 ≤ 0 → ¬ ((jX10_goOnTracks_17 S) 16 ((16 + ((jX10_goOnTracks_17 S) 0 25)) * 3).toNatClampNeg = (-1)) → vp_in ((16 + ((jX10_goOnTracks_17 S) 0 25)) * 3) 72) (hh11 : ¬ ((jX10_goOnTracks_7 S) 0 24 = 0) → (jX10_goOnTracks_7 S) 0 26 ≤ 0 → ¬ ((jX10_goOnTracks_17 S) 16 ((16 + ((jX10_goOnTracks_17 S) 0 25)) * 3).toNatClampNeg = (-1)) → vp_in (((16 + ((jX10_goOnTracks_17 S) 0 25)) * 3) + 1) 72) (hh12 : ¬ ((jX10_goOnTracks_7 S) 0 24 = 0) → (jX10_goOnTracks_7 S) 0 26 ≤ 0 → ¬ ((jX10_goOnTracks_17 S) 16 ((16 + ((jX10_goOnTracks_17 S) 0 25)) * 3).toNatClampNeg = (-1)) → vp_in (((16 + ((jX10_goOnTracks_17 S) 0 25)) * 3) + 2) 72) : Met l yX10_goOnTracks wsX10_goOnTracks ({ frames := 2, cells := 0, slots := 0, locals := 47 } : Room) (va_Pc [.ref (a 0)] (gI G cA zq n a (cD a cA) S L sz)) (gQv G n a (cD a cA) (fX10_goOnTracks S) L sz) 0 0 (mA n a sz) := by
  refine g_met (cc := cX10_goOnTracks) (maxL := 3) (ret := none) (by decide) rfl (Nat.le_of_ble_eq_true rfl) ?_
  intro p e s m below meth c ls hx hb hr hlocks hml hts hown hnm hsz hK hP hS hl
  subst hsz
  have hl : lv_has ls 3 [(0, .ref (a 0))] := hl
  refine lv_iconst (v := 0) hx hb dX10_goOnTracks_0 (by decide) ?_
  refine lv_istore_n (lv' := [(1, .int 0), (0, .ref (a 0))]) hx hb dX10_goOnTracks_1 rfl hl (by decide) rfl (fun ls hl => ?_)
  refine lv_iload_n hx hb dX10_goOnTracks_2 rfl (lv_at hl 0 rfl) ?_
  refine lv_iconst (v := 4) hx hb dX10_goOnTracks_3 (by decide) ?_
  refine lv_icmp_ge (tgt := 37) hx hb dX10_goOnTracks_4 (by decide) (fun c => absurd c (by decide)) (fun _ => ?_)
  refine lv_aload_n hx hb dX10_goOnTracks_7 rfl (lv_at hl 1 rfl) ?_
  refine g_get (ci := 10) (C := RX10) (T := TX10) (N := 35) (v := .ref (a 12)) hx hb hts iX10_goOnTracks_X10 hown hK hP (lt_hn hn (by decide)) cD_D rfl 11 (by decide) rfl (by decide +kernel) rfl dX10_goOnTracks_8 ?_
  refine lv_iload_n hx hb dX10_goOnTracks_11 rfl (lv_at hl 0 rfl) ?_
  refine g_iald (N := 4) (g := S 12) hx hb hK hP (lt_hn hn (by decide)) rfl (vp_in_lit (by decide)) dX10_goOnTracks_12 ?_
  have hj2 : ∀ (zS_hj2 : Mm) (H : Heap) (locs : List Loc) (ls : Array Slot), zS_hj2 = (jX10_goOnTracks_1 S) → va_P G vwCl (wG n a (cD a cA) zS_hj2 L) H → va_S (mA n a s.heap.size) s.heap H locs → lv_has ls 3 [(1, .int 0), (0, .ref (a 0))] → W p l e ({ frames := 2, cells := 0, slots := 0, locals := 47 } : Room) s m ([.ref (a 0)] : List Value).toArray below meth c H locs 0 0 (MQ below (gQv G n a (cD a cA) (fX10_goOnTracks S) L s.heap.size) ([.ref (a 0)] : List Value).toArray s 0 0 (mA n a s.heap.size)) (F0 m 31 ls []) := by
    intro zS_hj2 H locs ls ezS_hj2 hP hS hl
    rw [ezS_hj2] at hP
    refine lv_iinc (v := 1) (lv' := [(1, .int 1), (0, .ref (a 0))]) hx hb dX10_goOnTracks_31 hl (k := 0) rfl (by decide) (by decide) rfl (fun ls hl => ?_)
    refine lv_goto (tgt := 2) hx hb dX10_goOnTracks_34 (by decide) ?_
    refine lv_iload_n hx hb dX10_goOnTracks_2 rfl (lv_at hl 0 rfl) ?_
    refine lv_iconst (v := 4) hx hb dX10_goOnTracks_3 (by decide) ?_
    refine lv_icmp_ge (tgt := 37) hx hb dX10_goOnTracks_4 (by decide) (fun c => absurd c (by decide)) (fun _ => ?_)
    refine lv_aload_n hx hb dX10_goOnTracks_7 rfl (lv_at hl 1 rfl) ?_
    refine g_get (ci := 10) (C := RX10) (T := TX10) (N := 35) (v := .ref (a 12)) hx hb hts iX10_goOnTracks_X10 hown hK hP (lt_hn hn (by decide)) cD_D rfl 11 (by decide) rfl (by decide +kernel) rfl dX10_goOnTracks_8 ?_
    refine lv_iload_n hx hb dX10_goOnTracks_11 rfl (lv_at hl 0 rfl) ?_
    refine g_iald (N := 4) (g := (jX10_goOnTracks_1 S) 12) hx hb hK hP (lt_hn hn (by decide)) rfl (vp_in_lit (by decide)) dX10_goOnTracks_12 ?_
    have hj4 : ∀ (zS_hj4 : Mm) (H : Heap) (locs : List Loc) (ls : Array Slot), zS_hj4 = (jX10_goOnTracks_3 S) → va_P G vwCl (wG n a (cD a cA) zS_hj4 L) H → va_S (mA n a s.heap.size) s.heap H locs → lv_has ls 3 [(1, .int 1), (0, .ref (a 0))] → W p l e ({ frames := 2, cells := 0, slots := 0, locals := 47 } : Room) s m ([.ref (a 0)] : List Value).toArray below meth c H locs 0 0 (MQ below (gQv G n a (cD a cA) (fX10_goOnTracks S) L s.heap.size) ([.ref (a 0)] : List Value).toArray s 0 0 (mA n a s.heap.size)) (F0 m 31 ls []) := by
      intro zS_hj4 H locs ls ezS_hj4 hP hS hl
      rw [ezS_hj4] at hP
      refine lv_iinc (v := 2) (lv' := [(1, .int 2), (0, .ref (a 0))]) hx hb dX10_goOnTracks_31 hl (k := 0) rfl (by decide) (by decide) rfl (fun ls hl => ?_)
      refine lv_goto (tgt := 2) hx hb dX10_goOnTracks_34 (by decide) ?_
      refine lv_iload_n hx hb dX10_goOnTracks_2 rfl (lv_at hl 0 rfl) ?_
      refine lv_iconst (v := 4) hx hb dX10_goOnTracks_3 (by decide) ?_
      refine lv_icmp_ge (tgt := 37) hx hb dX10_goOnTracks_4 (by decide) (fun c => absurd c (by decide)) (fun _ => ?_)
      refine lv_aload_n hx hb dX10_goOnTracks_7 rfl (lv_at hl 1 rfl) ?_
      refine g_get (ci := 10) (C := RX10) (T := TX10) (N := 35) (v := .ref (a 12)) hx hb hts iX10_goOnTracks_X10 hown hK hP (lt_hn hn (by decide)) cD_D rfl 11 (by decide) rfl (by decide +kernel) rfl dX10_goOnTracks_8 ?_
      refine lv_iload_n hx hb dX10_goOnTracks_11 rfl (lv_at hl 0 rfl) ?_
      refine g_iald (N := 4) (g := (jX10_goOnTracks_3 S) 12) hx hb hK hP (lt_hn hn (by decide)) rfl (vp_in_lit (by decide)) dX10_goOnTracks_12 ?_
      have hj6 : ∀ (zS_hj6 : Mm) (H : Heap) (locs : List Loc) (ls : Array Slot), zS_hj6 = (jX10_goOnTracks_5 S) → va_P G vwCl (wG n a (cD a cA) zS_hj6 L) H → va_S (mA n a s.heap.size) s.heap H locs → lv_has ls 3 [(1, .int 2), (0, .ref (a 0))] → W p l e ({ frames := 2, cells := 0, slots := 0, locals := 47 } : Room) s m ([.ref (a 0)] : List Value).toArray below meth c H locs 0 0 (MQ below (gQv G n a (cD a cA) (fX10_goOnTracks S) L s.heap.size) ([.ref (a 0)] : List Value).toArray s 0 0 (mA n a s.heap.size)) (F0 m 31 ls []) := by
        intro zS_hj6 H locs ls ezS_hj6 hP hS hl
        rw [ezS_hj6] at hP
        refine lv_iinc (v := 3) (lv' := [(1, .int 3), (0, .ref (a 0))]) hx hb dX10_goOnTracks_31 hl (k := 0) rfl (by decide) (by decide) rfl (fun ls hl => ?_)
        refine lv_goto (tgt := 2) hx hb dX10_goOnTracks_34 (by decide) ?_
        refine lv_iload_n hx hb dX10_goOnTracks_2 rfl (lv_at hl 0 rfl) ?_
        refine lv_iconst (v := 4) hx hb dX10_goOnTracks_3 (by decide) ?_
        refine lv_icmp_ge (tgt := 37) hx hb dX10_goOnTracks_4 (by decide) (fun c => absurd c (by decide)) (fun _ => ?_)
        refine lv_aload_n hx hb dX10_goOnTracks_7 rfl (lv_at hl 1 rfl) ?_
        refine g_get (ci := 10) (C := RX10) (T := TX10) (N := 35) (v := .ref (a 12)) hx hb hts iX10_goOnTracks_X10 hown hK hP (lt_hn hn (by decide)) cD_D rfl 11 (by decide) rfl (by decide +kernel) rfl dX10_goOnTracks_8 ?_
        refine lv_iload_n hx hb dX10_goOnTracks_11 rfl (lv_at hl 0 rfl) ?_
        refine g_iald (N := 4) (g := (jX10_goOnTracks_5 S) 12) hx hb hK hP (lt_hn hn (by decide)) rfl (vp_in_lit (by decide)) dX10_goOnTracks_12 ?_
        have hj8 : ∀ (zS_hj8 : Mm) (H : Heap) (locs : List Loc) (ls : Array Slot), zS_hj8 = (jX10_goOnTracks_7 S) → va_P G vwCl (wG n a (cD a cA) zS_hj8 L) H → va_S (mA n a s.heap.size) s.heap H locs → lv_has ls 3 [(1, .int 3), (0, .ref (a 0))] → W p l e ({ frames := 2, cells := 0, slots := 0, locals := 47 } : Room) s m ([.ref (a 0)] : List Value).toArray below meth c H locs 0 0 (MQ below (gQv G n a (cD a cA) (fX10_goOnTracks S) L s.heap.size) ([.ref (a 0)] : List Value).toArray s 0 0 (mA n a s.heap.size)) (F0 m 31 ls []) := by
          intro zS_hj8 H locs ls ezS_hj8 hP hS hl
          rw [ezS_hj8] at hP
          refine lv_iinc (v := 4) (lv' := [(1, .int 4), (0, .ref (a 0))]) hx hb dX10_goOnTracks_31 hl (k := 0) rfl (by decide) (by decide) rfl (fun ls hl => ?_)
          refine lv_goto (tgt := 2) hx hb dX10_goOnTracks_34 (by decide) ?_
          refine lv_iload_n hx hb dX10_goOnTracks_2 rfl (lv_at hl 0 rfl) ?_
          refine lv_iconst (v := 4) hx hb dX10_goOnTracks_3 (by decide) ?_
          refine lv_icmp_ge (tgt := 37) hx hb dX10_goOnTracks_4 (by decide) (fun _ => ?_) (fun c => absurd c (by decide))
          refine lv_aload_n hx hb dX10_goOnTracks_37 rfl (lv_at hl 1 rfl) ?_
          refine g_get (ci := 10) (C := RX10) (T := TX10) (N := 35) (v := .int ((jX10_goOnTracks_7 S) 0 24)) hx hb hts iX10_goOnTracks_X10 hown hK hP (lt_hn hn (by decide)) cD_D rfl 24 (by decide) rfl (by decide +kernel) rfl dX10_goOnTracks_38 ?_
          refine lv_if_eq (tgt := 51) hx hb dX10_goOnTracks_41 (by decide) (fun c9 => ?_) (fun c9 => ?_)
          ·
            exact g_vret hx hb hr hlocks (by unfold fX10_goOnTracks; rw [if_pos c9]) rfl hP hS dX10_goOnTracks_51
          ·
            refine lv_aload_n hx hb dX10_goOnTracks_44 rfl (lv_at hl 1 rfl) ?_
            refine g_get (ci := 10) (C := RX10) (T := TX10) (N := 35) (v := .int ((jX10_goOnTracks_7 S) 0 26)) hx hb hts iX10_goOnTracks_X10 hown hK hP (lt_hn hn (by decide)) cD_D rfl 26 (by decide) rfl (by decide +kernel) rfl dX10_goOnTracks_45 ?_
            refine lv_if_le (tgt := 52) hx hb dX10_goOnTracks_48 (by decide) (fun c10 => ?_) (fun c10 => ?_)
            ·
              refine lv_aload_n hx hb dX10_goOnTracks_52 rfl (lv_at hl 1 rfl) ?_
              refine lv_aload_n hx hb dX10_goOnTracks_53 rfl (lv_at hl 1 rfl) ?_
              refine g_get (ci := 10) (C := RX10) (T := TX10) (N := 35) (v := .int ((jX10_goOnTracks_7 S) 0 25)) hx hb hts iX10_goOnTracks_X10 hown hK hP (lt_hn hn (by decide)) cD_D rfl 25 (by decide) rfl (by decide +kernel) rfl dX10_goOnTracks_54 ?_
              refine lv_iconst (v := 2) hx hb dX10_goOnTracks_57 (by decide) ?_
              refine lv_irem hx hb dX10_goOnTracks_58 (by decide) ?_
              have hj12 : ∀ (zy0_hj12 : Int32) (H : Heap) (locs : List Loc) (ls : Array Slot), zy0_hj12 = (jX10_goOnTracks_8 S) → va_P G vwCl (wG n a (cD a cA) (jX10_goOnTracks_7 S) L) H → va_S (mA n a s.heap.size) s.heap H locs → lv_has ls 3 [(1, .int 4), (0, .ref (a 0))] → W p l e ({ frames := 2, cells := 0, slots := 0, locals := 47 } : Room) s m ([.ref (a 0)] : List Value).toArray below meth c H locs 0 0 (MQ below (gQv G n a (cD a cA) (fX10_goOnTracks S) L s.heap.size) ([.ref (a 0)] : List Value).toArray s 0 0 (mA n a s.heap.size)) (F0 m 83 ls [.int zy0_hj12, .ref (a 0)]) := by
                intro zy0_hj12 H locs ls ezy0_hj12 hP hS hl
                rw [ezy0_hj12]
                refine g_put (ci := 10) (C := RX10) (T := TX10) (N := 35) (ty := .int) hx hb hts iX10_goOnTracks_X10 tyX10 tyX10_ok nmX10 hown hK ha mA_in hP hS (lt_hn hn (by decide)) cD_D rfl 27 (by decide) rfl (by decide +kernel) rfl (by decide +kernel) rfl rfl (Nat.le_of_ble_eq_true rfl) (cD_D_set (by decide)) dX10_goOnTracks_83 (fun H locs hP hS => ?_)
                refine lv_iconst (v := 0) hx hb dX10_goOnTracks_86 (by decide) ?_
                refine lv_istore_n (lv' := [(1, .int 0), (0, .ref (a 0))]) hx hb dX10_goOnTracks_87 rfl hl (by decide) rfl (fun ls hl => ?_)
                refine lv_iload_n hx hb dX10_goOnTracks_88 rfl (lv_at hl 0 rfl) ?_
                refine lv_iconst (v := 3) hx hb dX10_goOnTracks_89 (by decide) ?_
                refine lv_icmp_ge (tgt := 154) hx hb dX10_goOnTracks_90 (by decide) (fun c => absurd c (by decide)) (fun _ => ?_)
                refine lv_iload_n hx hb dX10_goOnTracks_93 rfl (lv_at hl 0 rfl) ?_
                refine lv_bipush (v := 8) hx hb dX10_goOnTracks_94 (by decide) ?_
                refine lv_imul hx hb dX10_goOnTracks_96 ?_
                rw [show (0 : Int32) * 8 = 0 from by decide]
                refine lv_aload_n hx hb dX10_goOnTracks_97 rfl (lv_at hl 1 rfl) ?_
                refine g_get (ci := 10) (C := RX10) (T := TX10) (N := 35) (v := .int ((up2 (jX10_goOnTracks_7 S) 0 27 (jX10_goOnTracks_8 S)) 0 25)) hx hb hts iX10_goOnTracks_X10 hown hK hP (lt_hn hn (by decide)) cD_D rfl 25 (by decide) rfl (by decide +kernel) rfl dX10_goOnTracks_98 ?_
                refine lv_iadd hx hb dX10_goOnTracks_101 ?_
                refine lv_iconst (v := 3) hx hb dX10_goOnTracks_102 (by decide) ?_
                refine lv_imul hx hb dX10_goOnTracks_103 ?_
                refine lv_istore_n (lv' := [(2, .int ((0 + ((up2 (jX10_goOnTracks_7 S) 0 27 (jX10_goOnTracks_8 S)) 0 25)) * 3)), (1, .int 0), (0, .ref (a 0))]) hx hb dX10_goOnTracks_104 rfl hl (by decide) rfl (fun ls hl => ?_)
                refine lv_aload_n hx hb dX10_goOnTracks_105 rfl (lv_at hl 2 rfl) ?_
                refine g_get (ci := 10) (C := RX10) (T := TX10) (N := 35) (v := .ref (a 16)) hx hb hts iX10_goOnTracks_X10 hown hK hP (lt_hn hn (by decide)) cD_D rfl 21 (by decide) rfl (by decide +kernel) rfl dX10_goOnTracks_106 ?_
                refine lv_iload_n hx hb dX10_goOnTracks_109 rfl (lv_at hl 0 rfl) ?_
                refine g_iald (N := 72) (g := (up2 (jX10_goOnTracks_7 S) 0 27 (jX10_goOnTracks_8 S)) 16) hx hb hK hP (lt_hn hn (by decide)) rfl (hh1 c9 c10) dX10_goOnTracks_110 ?_
                refine W.eq (g2 := F0 m 111 ls [.int (vX10_goOnTracks_9 S)]) rfl ?_
                refine lv_iconst (v := (-1)) hx hb dX10_goOnTracks_111 (by decide) ?_
                have hj14 : ∀ (zS_hj14 : Mm) (H : Heap) (locs : List Loc) (ls : Array Slot), zS_hj14 = (jX10_goOnTracks_14 S) → va_P G vwCl (wG n a (cD a cA) zS_hj14 L) H → va_S (mA n a s.heap.size) s.heap H locs → lv_has ls 3 [(2, .int ((0 + ((up2 (jX10_goOnTracks_7 S) 0 27 (jX10_goOnTracks_8 S)) 0 25)) * 3)), (1, .int 0), (0, .ref (a 0))] → W p l e ({ frames := 2, cells := 0, slots := 0, locals := 47 } : Room) s m ([.ref (a 0)] : List Value).toArray below meth c H locs 0 0 (MQ below (gQv G n a (cD a cA) (fX10_goOnTracks S) L s.heap.size) ([.ref (a 0)] : List Value).toArray s 0 0 (mA n a s.heap.size)) (F0 m 148 ls []) := by
                  intro zS_hj14 H locs ls ezS_hj14 hP hS hl
                  rw [ezS_hj14] at hP
                  refine lv_iinc (v := 1) (lv' := [(1, .int 1), (2, .int ((0 + ((up2 (jX10_goOnTracks_7 S) 0 27 (jX10_goOnTracks_8 S)) 0 25)) * 3)), (0, .ref (a 0))]) hx hb dX10_goOnTracks_148 hl (k := 1) rfl (by decide) (by decide) rfl (fun ls hl => ?_)
                  refine lv_goto (tgt := 88) hx hb dX10_goOnTracks_151 (by decide) ?_
                  refine lv_iload_n hx hb dX10_goOnTracks_88 rfl (lv_at hl 0 rfl) ?_
                  refine lv_iconst (v := 3) hx hb dX10_goOnTracks_89 (by decide) ?_
                  refine lv_icmp_ge (tgt := 154) hx hb dX10_goOnTracks_90 (by decide) (fun c => absurd c (by decide)) (fun _ => ?_)
                  refine lv_iload_n hx hb dX10_goOnTracks_93 rfl (lv_at hl 0 rfl) ?_
                  refine lv_bipush (v := 8) hx hb dX10_goOnTracks_94 (by decide) ?_
                  refine lv_imul hx hb dX10_goOnTracks_96 ?_
                  rw [show (1 : Int32) * 8 = 8 from by decide]
                  refine lv_aload_n hx hb dX10_goOnTracks_97 rfl (lv_at hl 2 rfl) ?_
                  refine g_get (ci := 10) (C := RX10) (T := TX10) (N := 35) (v := .int ((jX10_goOnTracks_14 S) 0 25)) hx hb hts iX10_goOnTracks_X10 hown hK hP (lt_hn hn (by decide)) cD_D rfl 25 (by decide) rfl (by decide +kernel) rfl dX10_goOnTracks_98 ?_
                  refine lv_iadd hx hb dX10_goOnTracks_101 ?_
                  refine lv_iconst (v := 3) hx hb dX10_goOnTracks_102 (by decide) ?_
                  refine lv_imul hx hb dX10_goOnTracks_103 ?_
                  refine lv_istore_n (lv' := [(2, .int ((8 + ((jX10_goOnTracks_14 S) 0 25)) * 3)), (1, .int 1), (0, .ref (a 0))]) hx hb dX10_goOnTracks_104 rfl hl (by decide) rfl (fun ls hl => ?_)
                  refine lv_aload_n hx hb dX10_goOnTracks_105 rfl (lv_at hl 2 rfl) ?_
                  refine g_get (ci := 10) (C := RX10) (T := TX10) (N := 35) (v := .ref (a 16)) hx hb hts iX10_goOnTracks_X10 hown hK hP (lt_hn hn (by decide)) cD_D rfl 21 (by decide) rfl (by decide +kernel) rfl dX10_goOnTracks_106 ?_
                  refine lv_iload_n hx hb dX10_goOnTracks_109 rfl (lv_at hl 0 rfl) ?_
                  refine g_iald (N := 72) (g := (jX10_goOnTracks_14 S) 16) hx hb hK hP (lt_hn hn (by decide)) rfl (hh5 c9 c10) dX10_goOnTracks_110 ?_
                  refine lv_iconst (v := (-1)) hx hb dX10_goOnTracks_111 (by decide) ?_
                  have hj16 : ∀ (zS_hj16 : Mm) (H : Heap) (locs : List Loc) (ls : Array Slot), zS_hj16 = (jX10_goOnTracks_17 S) → va_P G vwCl (wG n a (cD a cA) zS_hj16 L) H → va_S (mA n a s.heap.size) s.heap H locs → lv_has ls 3 [(2, .int ((8 + ((jX10_goOnTracks_14 S) 0 25)) * 3)), (1, .int 1), (0, .ref (a 0))] → W p l e ({ frames := 2, cells := 0, slots := 0, locals := 47 } : Room) s m ([.ref (a 0)] : List Value).toArray below meth c H locs 0 0 (MQ below (gQv G n a (cD a cA) (fX10_goOnTracks S) L s.heap.size) ([.ref (a 0)] : List Value).toArray s 0 0 (mA n a s.heap.size)) (F0 m 148 ls []) := by
                    intro zS_hj16 H locs ls ezS_hj16 hP hS hl
                    rw [ezS_hj16] at hP
                    refine lv_iinc (v := 2) (lv' := [(1, .int 2), (2, .int ((8 + ((jX10_goOnTracks_14 S) 0 25)) * 3)), (0, .ref (a 0))]) hx hb dX10_goOnTracks_148 hl (k := 1) rfl (by decide) (by decide) rfl (fun ls hl => ?_)
                    refine lv_goto (tgt := 88) hx hb dX10_goOnTracks_151 (by decide) ?_
                    refine lv_iload_n hx hb dX10_goOnTracks_88 rfl (lv_at hl 0 rfl) ?_
                    refine lv_iconst (v := 3) hx hb dX10_goOnTracks_89 (by decide) ?_
                    refine lv_icmp_ge (tgt := 154) hx hb dX10_goOnTracks_90 (by decide) (fun c => absurd c (by decide)) (fun _ => ?_)
                    refine lv_iload_n hx hb dX10_goOnTracks_93 rfl (lv_at hl 0 rfl) ?_
                    refine lv_bipush (v := 8) hx hb dX10_goOnTracks_94 (by decide) ?_
                    refine lv_imul hx hb dX10_goOnTracks_96 ?_
                    rw [show (2 : Int32) * 8 = 16 from by decide]
                    refine lv_aload_n hx hb dX10_goOnTracks_97 rfl (lv_at hl 2 rfl) ?_
                    refine g_get (ci := 10) (C := RX10) (T := TX10) (N := 35) (v := .int ((jX10_goOnTracks_17 S) 0 25)) hx hb hts iX10_goOnTracks_X10 hown hK hP (lt_hn hn (by decide)) cD_D rfl 25 (by decide) rfl (by decide +kernel) rfl dX10_goOnTracks_98 ?_
                    refine lv_iadd hx hb dX10_goOnTracks_101 ?_
                    refine lv_iconst (v := 3) hx hb dX10_goOnTracks_102 (by decide) ?_
                    refine lv_imul hx hb dX10_goOnTracks_103 ?_
                    refine lv_istore_n (lv' := [(2, .int ((16 + ((jX10_goOnTracks_17 S) 0 25)) * 3)), (1, .int 2), (0, .ref (a 0))]) hx hb dX10_goOnTracks_104 rfl hl (by decide) rfl (fun ls hl => ?_)
                    refine lv_aload_n hx hb dX10_goOnTracks_105 rfl (lv_at hl 2 rfl) ?_
                    refine g_get (ci := 10) (C := RX10) (T := TX10) (N := 35) (v := .ref (a 16)) hx hb hts iX10_goOnTracks_X10 hown hK hP (lt_hn hn (by decide)) cD_D rfl 21 (by decide) rfl (by decide +kernel) rfl dX10_goOnTracks_106 ?_
                    refine lv_iload_n hx hb dX10_goOnTracks_109 rfl (lv_at hl 0 rfl) ?_
                    refine g_iald (N := 72) (g := (jX10_goOnTracks_17 S) 16) hx hb hK hP (lt_hn hn (by decide)) rfl (hh9 c9 c10) dX10_goOnTracks_110 ?_
                    refine lv_iconst (v := (-1)) hx hb dX10_goOnTracks_111 (by decide) ?_
                    have hj18 : ∀ (zS_hj18 : Mm) (H : Heap) (locs : List Loc) (ls : Array Slot), zS_hj18 = (jX10_goOnTracks_20 S) → va_P G vwCl (wG n a (cD a cA) zS_hj18 L) H → va_S (mA n a s.heap.size) s.heap H locs → lv_has ls 3 [(2, .int ((16 + ((jX10_goOnTracks_17 S) 0 25)) * 3)), (1, .int 2), (0, .ref (a 0))] → W p l e ({ frames := 2, cells := 0, slots := 0, locals := 47 } : Room) s m ([.ref (a 0)] : List Value).toArray below meth c H locs 0 0 (MQ below (gQv G n a (cD a cA) (fX10_goOnTracks S) L s.heap.size) ([.ref (a 0)] : List Value).toArray s 0 0 (mA n a s.heap.size)) (F0 m 148 ls []) := by
                      intro zS_hj18 H locs ls ezS_hj18 hP hS hl
                      rw [ezS_hj18] at hP
                      refine lv_iinc (v := 3) (lv' := [(1, .int 3), (2, .int ((16 + ((jX10_goOnTracks_17 S) 0 25)) * 3)), (0, .ref (a 0))]) hx hb dX10_goOnTracks_148 hl (k := 1) rfl (by decide) (by decide) rfl (fun ls hl => ?_)
                      refine lv_goto (tgt := 88) hx hb dX10_goOnTracks_151 (by decide) ?_
                      refine lv_iload_n hx hb dX10_goOnTracks_88 rfl (lv_at hl 0 rfl) ?_
                      refine lv_iconst (v := 3) hx hb dX10_goOnTracks_89 (by decide) ?_
                      refine lv_icmp_ge (tgt := 154) hx hb dX10_goOnTracks_90 (by decide) (fun _ => ?_) (fun c => absurd c (by decide))
                      exact g_vret hx hb hr hlocks (by unfold fX10_goOnTracks; rw [if_neg c9, if_pos c10]) rfl hP hS dX10_goOnTracks_154
                    refine lv_icmp_eq (tgt := 148) hx hb dX10_goOnTracks_112 (by decide) (fun c17 => ?_) (fun c17 => ?_)
                    ·
                      exact hj18 _ _ _ _ (by unfold jX10_goOnTracks_20; rw [if_pos c17]) hP hS (lv_sub hl [0, 1, 2] rfl)
                    ·
                      refine lv_aload_n hx hb dX10_goOnTracks_115 rfl (lv_at hl 2 rfl) ?_
                      refine lv_aload_n hx hb dX10_goOnTracks_116 rfl (lv_at hl 2 rfl) ?_
                      refine g_get (ci := 10) (C := RX10) (T := TX10) (N := 35) (v := .ref (a 15)) hx hb hts iX10_goOnTracks_X10 hown hK hP (lt_hn hn (by decide)) cD_D rfl 20 (by decide) rfl (by decide +kernel) rfl dX10_goOnTracks_117 ?_
                      refine lv_iload_n hx hb dX10_goOnTracks_120 rfl (lv_at hl 1 rfl) ?_
                      refine g_iald (N := 3) (g := (jX10_goOnTracks_17 S) 15) hx hb hK hP (lt_hn hn (by decide)) rfl (vp_in_lit (by decide)) dX10_goOnTracks_121 ?_
                      refine lv_aload_n hx hb dX10_goOnTracks_122 rfl (lv_at hl 2 rfl) ?_
                      refine g_get (ci := 10) (C := RX10) (T := TX10) (N := 35) (v := .ref (a 16)) hx hb hts iX10_goOnTracks_X10 hown hK hP (lt_hn hn (by decide)) cD_D rfl 21 (by decide) rfl (by decide +kernel) rfl dX10_goOnTracks_123 ?_
                      refine lv_iload_n hx hb dX10_goOnTracks_126 rfl (lv_at hl 0 rfl) ?_
                      refine g_iald (N := 72) (g := (jX10_goOnTracks_17 S) 16) hx hb hK hP (lt_hn hn (by decide)) rfl (hh10 c9 c10 c17) dX10_goOnTracks_127 ?_
                      refine lv_aload_n hx hb dX10_goOnTracks_128 rfl (lv_at hl 2 rfl) ?_
                      refine g_get (ci := 10) (C := RX10) (T := TX10) (N := 35) (v := .ref (a 16)) hx hb hts iX10_goOnTracks_X10 hown hK hP (lt_hn hn (by decide)) cD_D rfl 21 (by decide) rfl (by decide +kernel) rfl dX10_goOnTracks_129 ?_
                      refine lv_iload_n hx hb dX10_goOnTracks_132 rfl (lv_at hl 0 rfl) ?_
                      refine lv_iconst (v := 1) hx hb dX10_goOnTracks_133 (by decide) ?_
                      refine lv_iadd hx hb dX10_goOnTracks_134 ?_
                      refine g_iald (N := 72) (g := (jX10_goOnTracks_17 S) 16) hx hb hK hP (lt_hn hn (by decide)) rfl (hh11 c9 c10 c17) dX10_goOnTracks_135 ?_
                      refine lv_aload_n hx hb dX10_goOnTracks_136 rfl (lv_at hl 2 rfl) ?_
                      refine g_get (ci := 10) (C := RX10) (T := TX10) (N := 35) (v := .ref (a 16)) hx hb hts iX10_goOnTracks_X10 hown hK hP (lt_hn hn (by decide)) cD_D rfl 21 (by decide) rfl (by decide +kernel) rfl dX10_goOnTracks_137 ?_
                      refine lv_iload_n hx hb dX10_goOnTracks_140 rfl (lv_at hl 0 rfl) ?_
                      refine lv_iconst (v := 2) hx hb dX10_goOnTracks_141 (by decide) ?_
                      refine lv_iadd hx hb dX10_goOnTracks_142 ?_
                      refine g_iald (N := 72) (g := (jX10_goOnTracks_17 S) 16) hx hb hK hP (lt_hn hn (by decide)) rfl (hh12 c9 c10 c17) dX10_goOnTracks_143 ?_
                      refine g_cVi (As := [.int ((jX10_goOnTracks_17 S) 15 (2 : Int32).toNatClampNeg), .int ((jX10_goOnTracks_17 S) 16 ((16 + ((jX10_goOnTracks_17 S) 0 25)) * 3).toNatClampNeg), .int ((jX10_goOnTracks_17 S) 16 (((16 + ((jX10_goOnTracks_17 S) 0 25)) * 3) + 1).toNatClampNeg), .int ((jX10_goOnTracks_17 S) 16 (((16 + ((jX10_goOnTracks_17 S) 0 25)) * 3) + 2).toNatClampNeg)]) (rest := []) ⟨hx, hb, hml, hown, hts⟩ (c1_X10_begin l G cA zq n hn a ha (jX10_goOnTracks_17 S) L H.size ((jX10_goOnTracks_17 S) 15 (2 : Int32).toNatClampNeg) ((jX10_goOnTracks_17 S) 16 ((16 + ((jX10_goOnTracks_17 S) 0 25)) * 3).toNatClampNeg) ((jX10_goOnTracks_17 S) 16 (((16 + ((jX10_goOnTracks_17 S) 0 25)) * 3) + 1).toNatClampNeg) ((jX10_goOnTracks_17 S) 16 (((16 + ((jX10_goOnTracks_17 S) 0 25)) * 3) + 2).toNatClampNeg)  ) (cwV 4 hts gX10_goOnTracks_X10_begin rfl rfl rfl (by decide +kernel) ⟨Nat.le_of_ble_eq_true rfl, Nat.le_of_ble_eq_true rfl⟩) (g_recv hK hP (lt_hn hn (by decide)) cD_D (C := RX10) (T := TX10) (N := 35) rfl) hK (mA_mono hS.1) hP hS rfl hl.1 rfl (lv_room (Nat.le_of_ble_eq_true rfl)) dX10_goOnTracks_144 ⟨Nat.le_of_ble_eq_true rfl, Nat.le_of_ble_eq_true rfl⟩ (fun H locs hP hS _ _ => ?_)
                      have hP : va_P G vwCl (wG n a (cD a cA) (mX10_goOnTracks_18 S) L) H := hP
                      refine W.eq (g2 := F0 m 147 ls [.int (vX10_goOnTracks_19 S)]) rfl ?_
                      refine lv_pop hx hb dX10_goOnTracks_147 rfl ?_
                      exact hj18 _ _ _ _ (by unfold jX10_goOnTracks_20; rw [if_neg c17]) hP hS (lv_sub hl [0, 1, 2] rfl)
                  refine lv_icmp_eq (tgt := 148) hx hb dX10_goOnTracks_112 (by decide) (fun c15 => ?_) (fun c15 => ?_)
                  ·
                    exact hj16 _ _ _ _ (by unfold jX10_goOnTracks_17; rw [if_pos c15]) hP hS (lv_sub hl [0, 1, 2] rfl)
                  ·
                    refine lv_aload_n hx hb dX10_goOnTracks_115 rfl (lv_at hl 2 rfl) ?_
                    refine lv_aload_n hx hb dX10_goOnTracks_116 rfl (lv_at hl 2 rfl) ?_
                    refine g_get (ci := 10) (C := RX10) (T := TX10) (N := 35) (v := .ref (a 15)) hx hb hts iX10_goOnTracks_X10 hown hK hP (lt_hn hn (by decide)) cD_D rfl 20 (by decide) rfl (by decide +kernel) rfl dX10_goOnTracks_117 ?_
                    refine lv_iload_n hx hb dX10_goOnTracks_120 rfl (lv_at hl 1 rfl) ?_
                    refine g_iald (N := 3) (g := (jX10_goOnTracks_14 S) 15) hx hb hK hP (lt_hn hn (by decide)) rfl (vp_in_lit (by decide)) dX10_goOnTracks_121 ?_
                    refine lv_aload_n hx hb dX10_goOnTracks_122 rfl (lv_at hl 2 rfl) ?_
                    refine g_get (ci := 10) (C := RX10) (T := TX10) (N := 35) (v := .ref (a 16)) hx hb hts iX10_goOnTracks_X10 hown hK hP (lt_hn hn (by decide)) cD_D rfl 21 (by decide) rfl (by decide +kernel) rfl dX10_goOnTracks_123 ?_
                    refine lv_iload_n hx hb dX10_goOnTracks_126 rfl (lv_at hl 0 rfl) ?_
                    refine g_iald (N := 72) (g := (jX10_goOnTracks_14 S) 16) hx hb hK hP (lt_hn hn (by decide)) rfl (hh6 c9 c10 c15) dX10_goOnTracks_127 ?_
                    refine lv_aload_n hx hb dX10_goOnTracks_128 rfl (lv_at hl 2 rfl) ?_
                    refine g_get (ci := 10) (C := RX10) (T := TX10) (N := 35) (v := .ref (a 16)) hx hb hts iX10_goOnTracks_X10 hown hK hP (lt_hn hn (by decide)) cD_D rfl 21 (by decide) rfl (by decide +kernel) rfl dX10_goOnTracks_129 ?_
                    refine lv_iload_n hx hb dX10_goOnTracks_132 rfl (lv_at hl 0 rfl) ?_
                    refine lv_iconst (v := 1) hx hb dX10_goOnTracks_133 (by decide) ?_
                    refine lv_iadd hx hb dX10_goOnTracks_134 ?_
                    refine g_iald (N := 72) (g := (jX10_goOnTracks_14 S) 16) hx hb hK hP (lt_hn hn (by decide)) rfl (hh7 c9 c10 c15) dX10_goOnTracks_135 ?_
                    refine lv_aload_n hx hb dX10_goOnTracks_136 rfl (lv_at hl 2 rfl) ?_
                    refine g_get (ci := 10) (C := RX10) (T := TX10) (N := 35) (v := .ref (a 16)) hx hb hts iX10_goOnTracks_X10 hown hK hP (lt_hn hn (by decide)) cD_D rfl 21 (by decide) rfl (by decide +kernel) rfl dX10_goOnTracks_137 ?_
                    refine lv_iload_n hx hb dX10_goOnTracks_140 rfl (lv_at hl 0 rfl) ?_
                    refine lv_iconst (v := 2) hx hb dX10_goOnTracks_141 (by decide) ?_
                    refine lv_iadd hx hb dX10_goOnTracks_142 ?_
                    refine g_iald (N := 72) (g := (jX10_goOnTracks_14 S) 16) hx hb hK hP (lt_hn hn (by decide)) rfl (hh8 c9 c10 c15) dX10_goOnTracks_143 ?_
                    refine g_cVi (As := [.int ((jX10_goOnTracks_14 S) 15 (1 : Int32).toNatClampNeg), .int ((jX10_goOnTracks_14 S) 16 ((8 + ((jX10_goOnTracks_14 S) 0 25)) * 3).toNatClampNeg), .int ((jX10_goOnTracks_14 S) 16 (((8 + ((jX10_goOnTracks_14 S) 0 25)) * 3) + 1).toNatClampNeg), .int ((jX10_goOnTracks_14 S) 16 (((8 + ((jX10_goOnTracks_14 S) 0 25)) * 3) + 2).toNatClampNeg)]) (rest := []) ⟨hx, hb, hml, hown, hts⟩ (c1_X10_begin l G cA zq n hn a ha (jX10_goOnTracks_14 S) L H.size ((jX10_goOnTracks_14 S) 15 (1 : Int32).toNatClampNeg) ((jX10_goOnTracks_14 S) 16 ((8 + ((jX10_goOnTracks_14 S) 0 25)) * 3).toNatClampNeg) ((jX10_goOnTracks_14 S) 16 (((8 + ((jX10_goOnTracks_14 S) 0 25)) * 3) + 1).toNatClampNeg) ((jX10_goOnTracks_14 S) 16 (((8 + ((jX10_goOnTracks_14 S) 0 25)) * 3) + 2).toNatClampNeg)  ) (cwV 4 hts gX10_goOnTracks_X10_begin rfl rfl rfl (by decide +kernel) ⟨Nat.le_of_ble_eq_true rfl, Nat.le_of_ble_eq_true rfl⟩) (g_recv hK hP (lt_hn hn (by decide)) cD_D (C := RX10) (T := TX10) (N := 35) rfl) hK (mA_mono hS.1) hP hS rfl hl.1 rfl (lv_room (Nat.le_of_ble_eq_true rfl)) dX10_goOnTracks_144 ⟨Nat.le_of_ble_eq_true rfl, Nat.le_of_ble_eq_true rfl⟩ (fun H locs hP hS _ _ => ?_)
                    have hP : va_P G vwCl (wG n a (cD a cA) (mX10_goOnTracks_15 S) L) H := hP
                    refine W.eq (g2 := F0 m 147 ls [.int (vX10_goOnTracks_16 S)]) rfl ?_
                    refine lv_pop hx hb dX10_goOnTracks_147 rfl ?_
                    exact hj16 _ _ _ _ (by unfold jX10_goOnTracks_17; rw [if_neg c15]) hP hS (lv_sub hl [0, 1, 2] rfl)
                refine lv_icmp_eq (tgt := 148) hx hb dX10_goOnTracks_112 (by decide) (fun c13 => ?_) (fun c13 => ?_)
                ·
                  exact hj14 _ _ _ _ (by unfold jX10_goOnTracks_14; rw [if_pos c13]) hP hS (lv_sub hl [0, 1, 2] rfl)
                ·
                  refine lv_aload_n hx hb dX10_goOnTracks_115 rfl (lv_at hl 2 rfl) ?_
                  refine lv_aload_n hx hb dX10_goOnTracks_116 rfl (lv_at hl 2 rfl) ?_
                  refine g_get (ci := 10) (C := RX10) (T := TX10) (N := 35) (v := .ref (a 15)) hx hb hts iX10_goOnTracks_X10 hown hK hP (lt_hn hn (by decide)) cD_D rfl 20 (by decide) rfl (by decide +kernel) rfl dX10_goOnTracks_117 ?_
                  refine lv_iload_n hx hb dX10_goOnTracks_120 rfl (lv_at hl 1 rfl) ?_
                  refine g_iald (N := 3) (g := (up2 (jX10_goOnTracks_7 S) 0 27 (jX10_goOnTracks_8 S)) 15) hx hb hK hP (lt_hn hn (by decide)) rfl (vp_in_lit (by decide)) dX10_goOnTracks_121 ?_
                  refine lv_aload_n hx hb dX10_goOnTracks_122 rfl (lv_at hl 2 rfl) ?_
                  refine g_get (ci := 10) (C := RX10) (T := TX10) (N := 35) (v := .ref (a 16)) hx hb hts iX10_goOnTracks_X10 hown hK hP (lt_hn hn (by decide)) cD_D rfl 21 (by decide) rfl (by decide +kernel) rfl dX10_goOnTracks_123 ?_
                  refine lv_iload_n hx hb dX10_goOnTracks_126 rfl (lv_at hl 0 rfl) ?_
                  refine g_iald (N := 72) (g := (up2 (jX10_goOnTracks_7 S) 0 27 (jX10_goOnTracks_8 S)) 16) hx hb hK hP (lt_hn hn (by decide)) rfl (hh2 c9 c10 c13) dX10_goOnTracks_127 ?_
                  refine W.eq (g2 := F0 m 128 ls [.int (vX10_goOnTracks_9 S), .int ((up2 (jX10_goOnTracks_7 S) 0 27 (jX10_goOnTracks_8 S)) 15 (0 : Int32).toNatClampNeg), .ref (a 0)]) rfl ?_
                  refine lv_aload_n hx hb dX10_goOnTracks_128 rfl (lv_at hl 2 rfl) ?_
                  refine g_get (ci := 10) (C := RX10) (T := TX10) (N := 35) (v := .ref (a 16)) hx hb hts iX10_goOnTracks_X10 hown hK hP (lt_hn hn (by decide)) cD_D rfl 21 (by decide) rfl (by decide +kernel) rfl dX10_goOnTracks_129 ?_
                  refine lv_iload_n hx hb dX10_goOnTracks_132 rfl (lv_at hl 0 rfl) ?_
                  refine lv_iconst (v := 1) hx hb dX10_goOnTracks_133 (by decide) ?_
                  refine lv_iadd hx hb dX10_goOnTracks_134 ?_
                  refine g_iald (N := 72) (g := (up2 (jX10_goOnTracks_7 S) 0 27 (jX10_goOnTracks_8 S)) 16) hx hb hK hP (lt_hn hn (by decide)) rfl (hh3 c9 c10 c13) dX10_goOnTracks_135 ?_
                  refine W.eq (g2 := F0 m 136 ls [.int (vX10_goOnTracks_10 S), .int (vX10_goOnTracks_9 S), .int ((up2 (jX10_goOnTracks_7 S) 0 27 (jX10_goOnTracks_8 S)) 15 (0 : Int32).toNatClampNeg), .ref (a 0)]) rfl ?_
                  refine lv_aload_n hx hb dX10_goOnTracks_136 rfl (lv_at hl 2 rfl) ?_
                  refine g_get (ci := 10) (C := RX10) (T := TX10) (N := 35) (v := .ref (a 16)) hx hb hts iX10_goOnTracks_X10 hown hK hP (lt_hn hn (by decide)) cD_D rfl 21 (by decide) rfl (by decide +kernel) rfl dX10_goOnTracks_137 ?_
                  refine lv_iload_n hx hb dX10_goOnTracks_140 rfl (lv_at hl 0 rfl) ?_
                  refine lv_iconst (v := 2) hx hb dX10_goOnTracks_141 (by decide) ?_
                  refine lv_iadd hx hb dX10_goOnTracks_142 ?_
                  refine g_iald (N := 72) (g := (up2 (jX10_goOnTracks_7 S) 0 27 (jX10_goOnTracks_8 S)) 16) hx hb hK hP (lt_hn hn (by decide)) rfl (hh4 c9 c10 c13) dX10_goOnTracks_143 ?_
                  refine W.eq (g2 := F0 m 144 ls [.int (vX10_goOnTracks_11 S), .int (vX10_goOnTracks_10 S), .int (vX10_goOnTracks_9 S), .int ((up2 (jX10_goOnTracks_7 S) 0 27 (jX10_goOnTracks_8 S)) 15 (0 : Int32).toNatClampNeg), .ref (a 0)]) rfl ?_
                  refine g_cVi (As := [.int ((up2 (jX10_goOnTracks_7 S) 0 27 (jX10_goOnTracks_8 S)) 15 (0 : Int32).toNatClampNeg), .int (vX10_goOnTracks_9 S), .int (vX10_goOnTracks_10 S), .int (vX10_goOnTracks_11 S)]) (rest := []) ⟨hx, hb, hml, hown, hts⟩ (c1_X10_begin l G cA zq n hn a ha (up2 (jX10_goOnTracks_7 S) 0 27 (jX10_goOnTracks_8 S)) L H.size ((up2 (jX10_goOnTracks_7 S) 0 27 (jX10_goOnTracks_8 S)) 15 (0 : Int32).toNatClampNeg) (vX10_goOnTracks_9 S) (vX10_goOnTracks_10 S) (vX10_goOnTracks_11 S)  ) (cwV 4 hts gX10_goOnTracks_X10_begin rfl rfl rfl (by decide +kernel) ⟨Nat.le_of_ble_eq_true rfl, Nat.le_of_ble_eq_true rfl⟩) (g_recv hK hP (lt_hn hn (by decide)) cD_D (C := RX10) (T := TX10) (N := 35) rfl) hK (mA_mono hS.1) hP hS rfl hl.1 rfl (lv_room (Nat.le_of_ble_eq_true rfl)) dX10_goOnTracks_144 ⟨Nat.le_of_ble_eq_true rfl, Nat.le_of_ble_eq_true rfl⟩ (fun H locs hP hS _ _ => ?_)
                  have hP : va_P G vwCl (wG n a (cD a cA) (mX10_goOnTracks_12 S) L) H := hP
                  refine W.eq (g2 := F0 m 147 ls [.int (vX10_goOnTracks_13 S)]) rfl ?_
                  refine lv_pop hx hb dX10_goOnTracks_147 rfl ?_
                  exact hj14 _ _ _ _ (by unfold jX10_goOnTracks_14; rw [if_neg c13]) hP hS (lv_sub hl [0, 1, 2] rfl)
              refine lv_if_ne (tgt := 74) hx hb dX10_goOnTracks_59 (by decide) (fun c11 => ?_) (fun c11 => ?_)
              ·
                refine lv_aload_n hx hb dX10_goOnTracks_74 rfl (lv_at hl 1 rfl) ?_
                refine g_get (ci := 10) (C := RX10) (T := TX10) (N := 35) (v := .int ((jX10_goOnTracks_7 S) 0 22)) hx hb hts iX10_goOnTracks_X10 hown hK hP (lt_hn hn (by decide)) cD_D rfl 22 (by decide) rfl (by decide +kernel) rfl dX10_goOnTracks_75 ?_
                refine lv_aload_n hx hb dX10_goOnTracks_78 rfl (lv_at hl 1 rfl) ?_
                refine g_get (ci := 10) (C := RX10) (T := TX10) (N := 35) (v := .int ((jX10_goOnTracks_7 S) 0 23)) hx hb hts iX10_goOnTracks_X10 hown hK hP (lt_hn hn (by decide)) cD_D rfl 23 (by decide) rfl (by decide +kernel) rfl dX10_goOnTracks_79 ?_
                refine lv_isub hx hb dX10_goOnTracks_82 ?_
                exact hj12 _ _ _ _ (by unfold jX10_goOnTracks_8; rw [if_neg c11]) hP hS (lv_sub hl [0, 1] rfl)
              ·
                refine lv_aload_n hx hb dX10_goOnTracks_62 rfl (lv_at hl 1 rfl) ?_
                refine g_get (ci := 10) (C := RX10) (T := TX10) (N := 35) (v := .int ((jX10_goOnTracks_7 S) 0 22)) hx hb hts iX10_goOnTracks_X10 hown hK hP (lt_hn hn (by decide)) cD_D rfl 22 (by decide) rfl (by decide +kernel) rfl dX10_goOnTracks_63 ?_
                refine lv_aload_n hx hb dX10_goOnTracks_66 rfl (lv_at hl 1 rfl) ?_
                refine g_get (ci := 10) (C := RX10) (T := TX10) (N := 35) (v := .int ((jX10_goOnTracks_7 S) 0 23)) hx hb hts iX10_goOnTracks_X10 hown hK hP (lt_hn hn (by decide)) cD_D rfl 23 (by decide) rfl (by decide +kernel) rfl dX10_goOnTracks_67 ?_
                refine lv_iadd hx hb dX10_goOnTracks_70 ?_
                refine lv_goto (tgt := 83) hx hb dX10_goOnTracks_71 (by decide) ?_
                exact hj12 _ _ _ _ (by unfold jX10_goOnTracks_8; rw [if_pos c11]) hP hS (lv_sub hl [0, 1] rfl)
            ·
              exact g_vret hx hb hr hlocks (by unfold fX10_goOnTracks; rw [if_neg c9, if_neg c10]) rfl hP hS dX10_goOnTracks_51
        refine lv_if_eq (tgt := 19) hx hb dX10_goOnTracks_13 (by decide) (fun c7 => ?_) (fun c7 => ?_)
        ·
          refine lv_aload_n hx hb dX10_goOnTracks_19 rfl (lv_at hl 1 rfl) ?_
          refine g_get (ci := 10) (C := RX10) (T := TX10) (N := 35) (v := .ref (a 12)) hx hb hts iX10_goOnTracks_X10 hown hK hP (lt_hn hn (by decide)) cD_D rfl 11 (by decide) rfl (by decide +kernel) rfl dX10_goOnTracks_20 ?_
          refine lv_iload_n hx hb dX10_goOnTracks_23 rfl (lv_at hl 0 rfl) ?_
          refine lv_iconst (v := (-1)) hx hb dX10_goOnTracks_24 (by decide) ?_
          refine g_iast (N := 4) (g := (jX10_goOnTracks_5 S) 12) hx hb hK ha mA_in hP hS (lt_hn hn (by decide)) rfl (vp_in_lit (by decide)) rfl dX10_goOnTracks_25 (fun H locs hP hS => ?_)
          refine lv_aload_n hx hb dX10_goOnTracks_26 rfl (lv_at hl 1 rfl) ?_
          refine lv_iload_n hx hb dX10_goOnTracks_27 rfl (lv_at hl 0 rfl) ?_
          refine g_cVv (As := [.int 3]) (rest := []) ⟨hx, hb, hml, hown, hts⟩ (c_X10_end l G cA zq n hn a ha (up2 (jX10_goOnTracks_5 S) 12 (3 : Int32).toNatClampNeg (-1)) L H.size (3 : Int32)  (vp_in_lit (by decide))) (cwV 1 hts gX10_goOnTracks_X10_end rfl rfl rfl (by decide +kernel) ⟨Nat.le_of_ble_eq_true rfl, Nat.le_of_ble_eq_true rfl⟩) (g_recv hK hP (lt_hn hn (by decide)) cD_D (C := RX10) (T := TX10) (N := 35) rfl) hK (mA_mono hS.1) hP hS rfl hl.1 rfl (lv_room (Nat.le_of_ble_eq_true rfl)) dX10_goOnTracks_28 ⟨Nat.le_of_ble_eq_true rfl, Nat.le_of_ble_eq_true rfl⟩ (fun H locs hP hS _ _ => ?_)
          have hP : va_P G vwCl (wG n a (cD a cA) (mX10_goOnTracks_6 S) L) H := hP
          exact hj8 _ _ _ _ (by unfold jX10_goOnTracks_7; rw [if_pos c7]) hP hS (lv_sub hl [0, 1] rfl)
        ·
          refine lv_goto (tgt := 31) hx hb dX10_goOnTracks_16 (by decide) ?_
          exact hj8 _ _ _ _ (by unfold jX10_goOnTracks_7; rw [if_neg c7]) hP hS (lv_sub hl [0, 1] rfl)
      refine lv_if_eq (tgt := 19) hx hb dX10_goOnTracks_13 (by decide) (fun c5 => ?_) (fun c5 => ?_)
      ·
        refine lv_aload_n hx hb dX10_goOnTracks_19 rfl (lv_at hl 1 rfl) ?_
        refine g_get (ci := 10) (C := RX10) (T := TX10) (N := 35) (v := .ref (a 12)) hx hb hts iX10_goOnTracks_X10 hown hK hP (lt_hn hn (by decide)) cD_D rfl 11 (by decide) rfl (by decide +kernel) rfl dX10_goOnTracks_20 ?_
        refine lv_iload_n hx hb dX10_goOnTracks_23 rfl (lv_at hl 0 rfl) ?_
        refine lv_iconst (v := (-1)) hx hb dX10_goOnTracks_24 (by decide) ?_
        refine g_iast (N := 4) (g := (jX10_goOnTracks_3 S) 12) hx hb hK ha mA_in hP hS (lt_hn hn (by decide)) rfl (vp_in_lit (by decide)) rfl dX10_goOnTracks_25 (fun H locs hP hS => ?_)
        refine lv_aload_n hx hb dX10_goOnTracks_26 rfl (lv_at hl 1 rfl) ?_
        refine lv_iload_n hx hb dX10_goOnTracks_27 rfl (lv_at hl 0 rfl) ?_
        refine g_cVv (As := [.int 2]) (rest := []) ⟨hx, hb, hml, hown, hts⟩ (c_X10_end l G cA zq n hn a ha (up2 (jX10_goOnTracks_3 S) 12 (2 : Int32).toNatClampNeg (-1)) L H.size (2 : Int32)  (vp_in_lit (by decide))) (cwV 1 hts gX10_goOnTracks_X10_end rfl rfl rfl (by decide +kernel) ⟨Nat.le_of_ble_eq_true rfl, Nat.le_of_ble_eq_true rfl⟩) (g_recv hK hP (lt_hn hn (by decide)) cD_D (C := RX10) (T := TX10) (N := 35) rfl) hK (mA_mono hS.1) hP hS rfl hl.1 rfl (lv_room (Nat.le_of_ble_eq_true rfl)) dX10_goOnTracks_28 ⟨Nat.le_of_ble_eq_true rfl, Nat.le_of_ble_eq_true rfl⟩ (fun H locs hP hS _ _ => ?_)
        have hP : va_P G vwCl (wG n a (cD a cA) (mX10_goOnTracks_4 S) L) H := hP
        exact hj6 _ _ _ _ (by unfold jX10_goOnTracks_5; rw [if_pos c5]) hP hS (lv_sub hl [0, 1] rfl)
      ·
        refine lv_goto (tgt := 31) hx hb dX10_goOnTracks_16 (by decide) ?_
        exact hj6 _ _ _ _ (by unfold jX10_goOnTracks_5; rw [if_neg c5]) hP hS (lv_sub hl [0, 1] rfl)
    refine lv_if_eq (tgt := 19) hx hb dX10_goOnTracks_13 (by decide) (fun c3 => ?_) (fun c3 => ?_)
    ·
      refine lv_aload_n hx hb dX10_goOnTracks_19 rfl (lv_at hl 1 rfl) ?_
      refine g_get (ci := 10) (C := RX10) (T := TX10) (N := 35) (v := .ref (a 12)) hx hb hts iX10_goOnTracks_X10 hown hK hP (lt_hn hn (by decide)) cD_D rfl 11 (by decide) rfl (by decide +kernel) rfl dX10_goOnTracks_20 ?_
      refine lv_iload_n hx hb dX10_goOnTracks_23 rfl (lv_at hl 0 rfl) ?_
      refine lv_iconst (v := (-1)) hx hb dX10_goOnTracks_24 (by decide) ?_
      refine g_iast (N := 4) (g := (jX10_goOnTracks_1 S) 12) hx hb hK ha mA_in hP hS (lt_hn hn (by decide)) rfl (vp_in_lit (by decide)) rfl dX10_goOnTracks_25 (fun H locs hP hS => ?_)
      refine lv_aload_n hx hb dX10_goOnTracks_26 rfl (lv_at hl 1 rfl) ?_
      refine lv_iload_n hx hb dX10_goOnTracks_27 rfl (lv_at hl 0 rfl) ?_
      refine g_cVv (As := [.int 1]) (rest := []) ⟨hx, hb, hml, hown, hts⟩ (c_X10_end l G cA zq n hn a ha (up2 (jX10_goOnTracks_1 S) 12 (1 : Int32).toNatClampNeg (-1)) L H.size (1 : Int32)  (vp_in_lit (by decide))) (cwV 1 hts gX10_goOnTracks_X10_end rfl rfl rfl (by decide +kernel) ⟨Nat.le_of_ble_eq_true rfl, Nat.le_of_ble_eq_true rfl⟩) (g_recv hK hP (lt_hn hn (by decide)) cD_D (C := RX10) (T := TX10) (N := 35) rfl) hK (mA_mono hS.1) hP hS rfl hl.1 rfl (lv_room (Nat.le_of_ble_eq_true rfl)) dX10_goOnTracks_28 ⟨Nat.le_of_ble_eq_true rfl, Nat.le_of_ble_eq_true rfl⟩ (fun H locs hP hS _ _ => ?_)
      have hP : va_P G vwCl (wG n a (cD a cA) (mX10_goOnTracks_2 S) L) H := hP
      exact hj4 _ _ _ _ (by unfold jX10_goOnTracks_3; rw [if_pos c3]) hP hS (lv_sub hl [0, 1] rfl)
    ·
      refine lv_goto (tgt := 31) hx hb dX10_goOnTracks_16 (by decide) ?_
      exact hj4 _ _ _ _ (by unfold jX10_goOnTracks_3; rw [if_neg c3]) hP hS (lv_sub hl [0, 1] rfl)
  refine lv_if_eq (tgt := 19) hx hb dX10_goOnTracks_13 (by decide) (fun c1 => ?_) (fun c1 => ?_)
  ·
    refine lv_aload_n hx hb dX10_goOnTracks_19 rfl (lv_at hl 1 rfl) ?_
    refine g_get (ci := 10) (C := RX10) (T := TX10) (N := 35) (v := .ref (a 12)) hx hb hts iX10_goOnTracks_X10 hown hK hP (lt_hn hn (by decide)) cD_D rfl 11 (by decide) rfl (by decide +kernel) rfl dX10_goOnTracks_20 ?_
    refine lv_iload_n hx hb dX10_goOnTracks_23 rfl (lv_at hl 0 rfl) ?_
    refine lv_iconst (v := (-1)) hx hb dX10_goOnTracks_24 (by decide) ?_
    refine g_iast (N := 4) (g := S 12) hx hb hK ha mA_in hP hS (lt_hn hn (by decide)) rfl (vp_in_lit (by decide)) rfl dX10_goOnTracks_25 (fun H locs hP hS => ?_)
    refine lv_aload_n hx hb dX10_goOnTracks_26 rfl (lv_at hl 1 rfl) ?_
    refine lv_iload_n hx hb dX10_goOnTracks_27 rfl (lv_at hl 0 rfl) ?_
    refine g_cVv (As := [.int 0]) (rest := []) ⟨hx, hb, hml, hown, hts⟩ (c_X10_end l G cA zq n hn a ha (up2 S 12 (0 : Int32).toNatClampNeg (-1)) L H.size (0 : Int32)  (vp_in_lit (by decide))) (cwV 1 hts gX10_goOnTracks_X10_end rfl rfl rfl (by decide +kernel) ⟨Nat.le_of_ble_eq_true rfl, Nat.le_of_ble_eq_true rfl⟩) (g_recv hK hP (lt_hn hn (by decide)) cD_D (C := RX10) (T := TX10) (N := 35) rfl) hK (mA_mono hS.1) hP hS rfl hl.1 rfl (lv_room (Nat.le_of_ble_eq_true rfl)) dX10_goOnTracks_28 ⟨Nat.le_of_ble_eq_true rfl, Nat.le_of_ble_eq_true rfl⟩ (fun H locs hP hS _ _ => ?_)
    exact hj2 _ _ _ _ (by unfold jX10_goOnTracks_1; rw [if_pos c1]) hP hS (lv_sub hl [0, 1] rfl)
  ·
    refine lv_goto (tgt := 31) hx hb dX10_goOnTracks_16 (by decide) ?_
    exact hj2 _ _ _ _ (by unfold jX10_goOnTracks_1; rw [if_neg c1]) hP hS (lv_sub hl [0, 1] rfl)

def vX10_gives_1 (S : Mm) (p1 : Int32) : Int32 := ((fX10_goOnLevel S p1) 0 28) - ((fX10_goOnLevel S p1) 0 28) / (rX10_told (fX10_goOnLevel S p1) p1 (11 : Int32)) * (rX10_told (fX10_goOnLevel S p1) p1 (11 : Int32))
def vX10_gives_2 (S : Mm) (p1 : Int32) : Int32 := rX10_wave (fX10_goOnLevel S p1) (2 : Int32) (((vX10_gives_1 S p1) * 65536) / (rX10_told (fX10_goOnLevel S p1) p1 (11 : Int32)))
def vX10_gives_3 (S : Mm) (p1 : Int32) : Int32 := rX10_wave (fX10_goOnLevel S p1) (rX10_told (fX10_goOnLevel S p1) p1 (0 : Int32)) ((fX10_goOnLevel S p1) 8 p1.toNatClampNeg)
def vX10_gives_4 (S : Mm) (p1 : Int32) : Int32 := rX10_wave (fX10_goOnLevel S p1) (rX10_told (fX10_goOnLevel S p1) p1 (1 : Int32)) ((fX10_goOnLevel S p1) 9 p1.toNatClampNeg)
def vX10_gives_5 (S : Mm) (p1 : Int32) : Int32 := ((vX10_gives_3 S p1) * (100 - (rX10_told (fX10_goOnLevel S p1) p1 (3 : Int32)))) + ((vX10_gives_4 S p1) * (rX10_told (fX10_goOnLevel S p1) p1 (3 : Int32)))
def vX10_gives_6 (S : Mm) (p1 : Int32) : Int32 := ((fX10_goOnLevel S p1) 8 p1.toNatClampNeg) + (rX10_stride ((fX10_goOnLevel S p1) 6 p1.toNatClampNeg))
def vX10_gives_7 (S : Mm) (p1 : Int32) : Int32 := (vX10_gives_6 S p1) + (((rX10_told (fX10_goOnLevel S p1) p1 (10 : Int32)) * (vX10_gives_2 S p1)) / 1000)
def mX10_gives_8 (S : Mm) (p1 : Int32) : Mm := up2 (fX10_goOnLevel S p1) 8 p1.toNatClampNeg (((vX10_gives_7 S p1) + 65536) - ((vX10_gives_7 S p1) + 65536) / 65536 * 65536)
def vX10_gives_9 (S : Mm) (p1 : Int32) : Int32 := (((mX10_gives_8 S p1) 9 p1.toNatClampNeg) + (rX10_stride ((fX10_goOnLevel S p1) 6 p1.toNatClampNeg))) + (((rX10_told (fX10_goOnLevel S p1) p1 (10 : Int32)) * (vX10_gives_2 S p1)) / 1000)
def vX10_gives_10 (S : Mm) (p1 : Int32) : Int32 := (((vX10_gives_9 S p1) + (rX10_told (mX10_gives_8 S p1) p1 (2 : Int32))) + 65536) - (((vX10_gives_9 S p1) + (rX10_told (mX10_gives_8 S p1) p1 (2 : Int32))) + 65536) / 65536 * 65536
def vX10_gives_11 (S : Mm) (p1 : Int32) : Int32 := (rX10_told (up2 (mX10_gives_8 S p1) 9 p1.toNatClampNeg (vX10_gives_10 S p1)) p1 (8 : Int32)) * ((up2 (mX10_gives_8 S p1) 9 p1.toNatClampNeg (vX10_gives_10 S p1)) 11 p1.toNatClampNeg)
def vX10_gives_12 (S : Mm) (p1 : Int32) : Int32 := ((up2 (mX10_gives_8 S p1) 9 p1.toNatClampNeg (vX10_gives_10 S p1)) 10 p1.toNatClampNeg) + ((vX10_gives_11 S p1) / 256)
def mX10_gives_13 (S : Mm) (p1 : Int32) : Mm := up2 (up2 (mX10_gives_8 S p1) 9 p1.toNatClampNeg (vX10_gives_10 S p1)) 10 p1.toNatClampNeg (rX11_keep (vX10_gives_12 S p1) (4000 : Int32))
def vX10_gives_14 (S : Mm) (p1 : Int32) : Int32 := (((vX10_gives_5 S p1) / 100) - ((mX10_gives_13 S p1) 10 p1.toNatClampNeg)) - (((rX10_told (mX10_gives_13 S p1) p1 (9 : Int32)) * ((mX10_gives_13 S p1) 11 p1.toNatClampNeg)) / 256)
def vX10_gives_15 (S : Mm) (p1 : Int32) : Int32 := ((mX10_gives_13 S p1) 11 p1.toNatClampNeg) + (((rX10_told (mX10_gives_13 S p1) p1 (8 : Int32)) * (vX10_gives_14 S p1)) / 256)
def mX10_gives_16 (S : Mm) (p1 : Int32) : Mm := up2 (mX10_gives_13 S p1) 11 p1.toNatClampNeg (rX11_keep (vX10_gives_15 S p1) (4000 : Int32))
def vX10_gives_17 (S : Mm) (p1 : Int32) : Int32 := ((((mX10_gives_16 S p1) 10 p1.toNatClampNeg) * ((mX10_gives_16 S p1) 7 p1.toNatClampNeg)) / 127) * (((mX10_gives_16 S p1) 4 p1.toNatClampNeg) / 1000)
def rX10_gives (S : Mm) (p1 : Int32) : Int32 := (if S 3 p1.toNatClampNeg = 0 then 0 else (if (fX10_goOnLevel S p1) 3 p1.toNatClampNeg = 0 then 0 else (vX10_gives_17 S p1) / 1000))
def fX10_gives (S : Mm) (p1 : Int32) : Mm := (if S 3 p1.toNatClampNeg = 0 then S else (if (fX10_goOnLevel S p1) 3 p1.toNatClampNeg = 0 then fX10_goOnLevel S p1 else (mX10_gives_16 S p1)))
theorem iX10_gives_X10 : ∀ w ∈ u_ws RX10 TX10 35, w ∈ wsX10_gives := by decide +kernel
set_option maxHeartbeats 4000000 in
set_option maxRecDepth 100000 in
theorem c_X10_gives (l : Launch) (G : va_G) (cA : ClassId) (zq n : Nat) (hn : 18 ≤ n) (a : Nat → Nat) (ha : apart n a) (S : Mm) (L : Int64) (sz : Nat) (p1 : Int32)  (hh1 : vp_in p1 4) (hh2 : ¬ (S 3 p1.toNatClampNeg = 0) → vp_in (((S 5 p1.toNatClampNeg) * 12) + (6 : Int32)) 48) (hh3 : ¬ (S 3 p1.toNatClampNeg = 0) → S 3 p1.toNatClampNeg = 1 → vp_in (((S 5 p1.toNatClampNeg) * 12) + (4 : Int32)) 48) (hh4 : ¬ (S 3 p1.toNatClampNeg = 0) → S 3 p1.toNatClampNeg = 1 → ¬ rX10_told S p1 (4 : Int32) = 0) (hh5 : ¬ (S 3 p1.toNatClampNeg = 0) → ¬ (S 3 p1.toNatClampNeg = 1) → S 3 p1.toNatClampNeg = 2 → vp_in (((S 5 p1.toNatClampNeg) * 12) + (5 : Int32)) 48) (hh6 : ¬ (S 3 p1.toNatClampNeg = 0) → ¬ (S 3 p1.toNatClampNeg = 1) → S 3 p1.toNatClampNeg = 2 → ¬ rX10_told S p1 (5 : Int32) = 0) (hh7 : ¬ (S 3 p1.toNatClampNeg = 0) → ¬ (S 3 p1.toNatClampNeg = 1) → ¬ (S 3 p1.toNatClampNeg = 2) → ¬ (S 3 p1.toNatClampNeg = 3) → vp_in (((S 5 p1.toNatClampNeg) * 12) + (7 : Int32)) 48) (hh8 : ¬ (S 3 p1.toNatClampNeg = 0) → ¬ (S 3 p1.toNatClampNeg = 1) → ¬ (S 3 p1.toNatClampNeg = 2) → ¬ (S 3 p1.toNatClampNeg = 3) → ¬ rX10_told S p1 (7 : Int32) = 0) (hh9 : ¬ (S 3 p1.toNatClampNeg = 0) → ¬ ((fX10_goOnLevel S p1) 3 p1.toNatClampNeg = 0) → vp_in ((((fX10_goOnLevel S p1) 5 p1.toNatClampNeg) * 12) + (11 : Int32)) 48) (hh10 : ¬ (S 3 p1.toNatClampNeg = 0) → ¬ ((fX10_goOnLevel S p1) 3 p1.toNatClampNeg = 0) → vp_in ((((fX10_goOnLevel S p1) 5 p1.toNatClampNeg) * 12) + (10 : Int32)) 48) (hh11 : ¬ (S 3 p1.toNatClampNeg = 0) → ¬ ((fX10_goOnLevel S p1) 3 p1.toNatClampNeg = 0) → ¬ rX10_told (fX10_goOnLevel S p1) p1 (11 : Int32) = 0) (hh12 : ¬ (S 3 p1.toNatClampNeg = 0) → ¬ ((fX10_goOnLevel S p1) 3 p1.toNatClampNeg = 0) → ¬ ((2 : Int32) = 0) → ¬ ((2 : Int32) = 1) → ¬ ((2 : Int32) = 2) → vp_in ((((vX10_gives_1 S p1) * 65536) / (rX10_told (fX10_goOnLevel S p1) p1 (11 : Int32))) / 2048) 32) (hh13 : ¬ (S 3 p1.toNatClampNeg = 0) → ¬ ((fX10_goOnLevel S p1) 3 p1.toNatClampNeg = 0) → ¬ ((2 : Int32) = 0) → ¬ ((2 : Int32) = 1) → ¬ ((2 : Int32) = 2) → vp_in ((((((vX10_gives_1 S p1) * 65536) / (rX10_told (fX10_goOnLevel S p1) p1 (11 : Int32))) / 2048) + 1) - (((((vX10_gives_1 S p1) * 65536) / (rX10_told (fX10_goOnLevel S p1) p1 (11 : Int32))) / 2048) + 1) / 32 * 32) 32) (hh14 : ¬ (S 3 p1.toNatClampNeg = 0) → ¬ ((fX10_goOnLevel S p1) 3 p1.toNatClampNeg = 0) → vp_in ((((fX10_goOnLevel S p1) 5 p1.toNatClampNeg) * 12) + (0 : Int32)) 48) (hh15 : ¬ (S 3 p1.toNatClampNeg = 0) → ¬ ((fX10_goOnLevel S p1) 3 p1.toNatClampNeg = 0) → ¬ ((rX10_told (fX10_goOnLevel S p1) p1 (0 : Int32)) = 0) → ¬ ((rX10_told (fX10_goOnLevel S p1) p1 (0 : Int32)) = 1) → ¬ ((rX10_told (fX10_goOnLevel S p1) p1 (0 : Int32)) = 2) → vp_in (((fX10_goOnLevel S p1) 8 p1.toNatClampNeg) / 2048) 32) (hh16 : ¬ (S 3 p1.toNatClampNeg = 0) → ¬ ((fX10_goOnLevel S p1) 3 p1.toNatClampNeg = 0) → ¬ ((rX10_told (fX10_goOnLevel S p1) p1 (0 : Int32)) = 0) → ¬ ((rX10_told (fX10_goOnLevel S p1) p1 (0 : Int32)) = 1) → ¬ ((rX10_told (fX10_goOnLevel S p1) p1 (0 : Int32)) = 2) → vp_in (((((fX10_goOnLevel S p1) 8 p1.toNatClampNeg) / 2048) + 1) - ((((fX10_goOnLevel S p1) 8 p1.toNatClampNeg) / 2048) + 1) / 32 * 32) 32) (hh17 : ¬ (S 3 p1.toNatClampNeg = 0) → ¬ ((fX10_goOnLevel S p1) 3 p1.toNatClampNeg = 0) → vp_in ((((fX10_goOnLevel S p1) 5 p1.toNatClampNeg) * 12) + (3 : Int32)) 48) (hh18 : ¬ (S 3 p1.toNatClampNeg = 0) → ¬ ((fX10_goOnLevel S p1) 3 p1.toNatClampNeg = 0) → vp_in ((((fX10_goOnLevel S p1) 5 p1.toNatClampNeg) * 12) + (1 : Int32)) 48) (hh19 : ¬ (S 3 p1.toNatClampNeg = 0) → ¬ ((fX10_goOnLevel S p1) 3 p1.toNatClampNeg = 0) → ¬ ((rX10_told (fX10_goOnLevel S p1) p1 (1 : Int32)) = 0) → ¬ ((rX10_told (fX10_goOnLevel S p1) p1 (1 : Int32)) = 1) → ¬ ((rX10_told (fX10_goOnLevel S p1) p1 (1 : Int32)) = 2) → vp_in (((fX10_goOnLevel S p1) 9 p1.toNatClampNeg) / 2048) 32) (hh20 : ¬ (S 3 p1.toNatClampNeg = 0) → ¬ ((fX10_goOnLevel S p1) 3 p1.toNatClampNeg = 0) → ¬ ((rX10_told (fX10_goOnLevel S p1) p1 (1 : Int32)) = 0) → ¬ ((rX10_told (fX10_goOnLevel S p1) p1 (1 : Int32)) = 1) → ¬ ((rX10_told (fX10_goOnLevel S p1) p1 (1 : Int32)) = 2) → vp_in (((((fX10_goOnLevel S p1) 9 p1.toNatClampNeg) / 2048) + 1) - ((((fX10_goOnLevel S p1) 9 p1.toNatClampNeg) / 2048) + 1) / 32 * 32) 32) (hh21 : ¬ (S 3 p1.toNatClampNeg = 0) → ¬ ((fX10_goOnLevel S p1) 3 p1.toNatClampNeg = 0) → vp_in (((fX10_goOnLevel S p1) 6 p1.toNatClampNeg) - ((fX10_goOnLevel S p1) 6 p1.toNatClampNeg) / 12 * 12) 12) (hh22 : ¬ (S 3 p1.toNatClampNeg = 0) → ¬ ((fX10_goOnLevel S p1) 3 p1.toNatClampNeg = 0) → vp_in ((((mX10_gives_8 S p1) 5 p1.toNatClampNeg) * 12) + (2 : Int32)) 48) (hh23 : ¬ (S 3 p1.toNatClampNeg = 0) → ¬ ((fX10_goOnLevel S p1) 3 p1.toNatClampNeg = 0) → vp_in ((((up2 (mX10_gives_8 S p1) 9 p1.toNatClampNeg (vX10_gives_10 S p1)) 5 p1.toNatClampNeg) * 12) + (8 : Int32)) 48) (hh24 : ¬ (S 3 p1.toNatClampNeg = 0) → ¬ ((fX10_goOnLevel S p1) 3 p1.toNatClampNeg = 0) → vp_in ((((mX10_gives_13 S p1) 5 p1.toNatClampNeg) * 12) + (9 : Int32)) 48) (hh25 : ¬ (S 3 p1.toNatClampNeg = 0) → ¬ ((fX10_goOnLevel S p1) 3 p1.toNatClampNeg = 0) → vp_in ((((mX10_gives_13 S p1) 5 p1.toNatClampNeg) * 12) + (8 : Int32)) 48) : Met l yX10_gives wsX10_gives ({ frames := 2, cells := 1, slots := 12, locals := 47 } : Room) (va_Pc [.ref (a 0), .int p1] (gI G cA zq n a (cD a cA) S L sz)) (gQi (rX10_gives S p1) G n a (cD a cA) (fX10_gives S p1) L sz) 1 12 (mA n a sz) := by
  refine g_met (cc := cX10_gives) (maxL := 7) (ret := (some .int)) (by decide) rfl (Nat.le_of_ble_eq_true rfl) ?_
  intro p e s m below meth c ls hx hb hr hlocks hml hts hown hnm hsz hK hP hS hl
  subst hsz
  have hl : lv_has ls 7 [(0, .ref (a 0)), (1, .int p1)] := hl
  refine lv_aload_n hx hb dX10_gives_0 rfl (lv_at hl 0 rfl) ?_
  refine g_get (ci := 10) (C := RX10) (T := TX10) (N := 35) (v := .ref (a 3)) hx hb hts iX10_gives_X10 hown hK hP (lt_hn hn (by decide)) cD_D rfl 2 (by decide) rfl (by decide +kernel) rfl dX10_gives_1 ?_
  refine lv_iload_n hx hb dX10_gives_4 rfl (lv_at hl 1 rfl) ?_
  refine g_iald (N := 4) (g := S 3) hx hb hK hP (lt_hn hn (by decide)) rfl hh1 dX10_gives_5 ?_
  refine lv_if_ne (tgt := 11) hx hb dX10_gives_6 (by decide) (fun c1 => ?_) (fun c1 => ?_)
  ·
    refine lv_aload_n hx hb dX10_gives_11 rfl (lv_at hl 0 rfl) ?_
    refine lv_iload_n hx hb dX10_gives_12 rfl (lv_at hl 1 rfl) ?_
    refine g_cVv (As := [.int p1]) (rest := []) ⟨hx, hb, hml, hown, hts⟩ (c_X10_goOnLevel l G cA zq n hn a ha S L s.heap.size p1  hh1 (hh2 c1) (hh3 c1) (hh4 c1) (hh5 c1) (hh6 c1) (hh7 c1) (hh8 c1)) (cwV 1 hts gX10_gives_X10_goOnLevel rfl rfl rfl (by decide +kernel) ⟨Nat.le_of_ble_eq_true rfl, Nat.le_of_ble_eq_true rfl⟩) (g_recv hK hP (lt_hn hn (by decide)) cD_D (C := RX10) (T := TX10) (N := 35) rfl) hK (mA_mono hS.1) hP hS rfl hl.1 rfl (lv_room (Nat.le_of_ble_eq_true rfl)) dX10_gives_13 ⟨Nat.le_of_ble_eq_true rfl, Nat.le_of_ble_eq_true rfl⟩ (fun H locs hP hS _ _ => ?_)
    refine lv_aload_n hx hb dX10_gives_16 rfl (lv_at hl 0 rfl) ?_
    refine g_get (ci := 10) (C := RX10) (T := TX10) (N := 35) (v := .ref (a 3)) hx hb hts iX10_gives_X10 hown hK hP (lt_hn hn (by decide)) cD_D rfl 2 (by decide) rfl (by decide +kernel) rfl dX10_gives_17 ?_
    refine lv_iload_n hx hb dX10_gives_20 rfl (lv_at hl 1 rfl) ?_
    refine g_iald (N := 4) (g := (fX10_goOnLevel S p1) 3) hx hb hK hP (lt_hn hn (by decide)) rfl hh1 dX10_gives_21 ?_
    refine lv_if_ne (tgt := 27) hx hb dX10_gives_22 (by decide) (fun c2 => ?_) (fun c2 => ?_)
    ·
      refine lv_aload_n hx hb dX10_gives_27 rfl (lv_at hl 0 rfl) ?_
      refine lv_iload_n hx hb dX10_gives_28 rfl (lv_at hl 1 rfl) ?_
      refine lv_bipush (v := 11) hx hb dX10_gives_29 (by decide) ?_
      refine g_cVi (As := [.int p1, .int 11]) (rest := []) ⟨hx, hb, hml, hown, hts⟩ (c_X10_told l G cA zq n hn a ha (fX10_goOnLevel S p1) L H.size p1 (11 : Int32)  hh1 (hh9 c1 c2)) (cwV 2 hts gX10_gives_X10_told rfl rfl rfl (by decide +kernel) ⟨Nat.le_of_ble_eq_true rfl, Nat.le_of_ble_eq_true rfl⟩) (g_recv hK hP (lt_hn hn (by decide)) cD_D (C := RX10) (T := TX10) (N := 35) rfl) hK (mA_mono hS.1) hP hS rfl hl.1 rfl (lv_room (Nat.le_of_ble_eq_true rfl)) dX10_gives_31 ⟨Nat.le_of_ble_eq_true rfl, Nat.le_of_ble_eq_true rfl⟩ (fun H locs hP hS _ _ => ?_)
      refine lv_istore_n (lv' := [(2, .int (rX10_told (fX10_goOnLevel S p1) p1 (11 : Int32))), (0, .ref (a 0)), (1, .int p1)]) hx hb dX10_gives_34 rfl hl (by decide) rfl (fun ls hl => ?_)
      refine lv_aload_n hx hb dX10_gives_35 rfl (lv_at hl 1 rfl) ?_
      refine lv_iload_n hx hb dX10_gives_36 rfl (lv_at hl 2 rfl) ?_
      refine lv_bipush (v := 10) hx hb dX10_gives_37 (by decide) ?_
      refine g_cVi (As := [.int p1, .int 10]) (rest := []) ⟨hx, hb, hml, hown, hts⟩ (c_X10_told l G cA zq n hn a ha (fX10_goOnLevel S p1) L H.size p1 (10 : Int32)  hh1 (hh10 c1 c2)) (cwV 2 hts gX10_gives_X10_told rfl rfl rfl (by decide +kernel) ⟨Nat.le_of_ble_eq_true rfl, Nat.le_of_ble_eq_true rfl⟩) (g_recv hK hP (lt_hn hn (by decide)) cD_D (C := RX10) (T := TX10) (N := 35) rfl) hK (mA_mono hS.1) hP hS rfl hl.1 rfl (lv_room (Nat.le_of_ble_eq_true rfl)) dX10_gives_39 ⟨Nat.le_of_ble_eq_true rfl, Nat.le_of_ble_eq_true rfl⟩ (fun H locs hP hS _ _ => ?_)
      refine lv_aload_n hx hb dX10_gives_42 rfl (lv_at hl 1 rfl) ?_
      refine lv_iconst (v := 2) hx hb dX10_gives_43 (by decide) ?_
      refine lv_aload_n hx hb dX10_gives_44 rfl (lv_at hl 1 rfl) ?_
      refine g_get (ci := 10) (C := RX10) (T := TX10) (N := 35) (v := .int ((fX10_goOnLevel S p1) 0 28)) hx hb hts iX10_gives_X10 hown hK hP (lt_hn hn (by decide)) cD_D rfl 28 (by decide) rfl (by decide +kernel) rfl dX10_gives_45 ?_
      refine lv_iload_n hx hb dX10_gives_48 rfl (lv_at hl 0 rfl) ?_
      refine lv_irem hx hb dX10_gives_49 (hh11 c1 c2) ?_
      refine W.eq (g2 := F0 m 50 ls [.int (vX10_gives_1 S p1), .int 2, .ref (a 0), .int (rX10_told (fX10_goOnLevel S p1) p1 (10 : Int32))]) rfl ?_
      refine lv_ldc (v := 65536) hx hb hown (hts (.constant RX10 144 65536) (by decide +kernel)) dX10_gives_50 ?_
      refine lv_imul hx hb dX10_gives_52 ?_
      refine lv_iload_n hx hb dX10_gives_53 rfl (lv_at hl 0 rfl) ?_
      refine lv_idiv hx hb dX10_gives_54 (hh11 c1 c2) ?_
      refine g_cVi (As := [.int 2, .int (((vX10_gives_1 S p1) * 65536) / (rX10_told (fX10_goOnLevel S p1) p1 (11 : Int32)))]) (rest := [.int (rX10_told (fX10_goOnLevel S p1) p1 (10 : Int32))]) ⟨hx, hb, hml, hown, hts⟩ (c_X10_wave l G cA zq n hn a ha (fX10_goOnLevel S p1) L H.size (2 : Int32) (((vX10_gives_1 S p1) * 65536) / (rX10_told (fX10_goOnLevel S p1) p1 (11 : Int32)))  (hh12 c1 c2) (hh13 c1 c2)) (cwV 2 hts gX10_gives_X10_wave rfl rfl rfl (by decide +kernel) ⟨Nat.le_of_ble_eq_true rfl, Nat.le_of_ble_eq_true rfl⟩) (g_recv hK hP (lt_hn hn (by decide)) cD_D (C := RX10) (T := TX10) (N := 35) rfl) hK (mA_mono hS.1) hP hS rfl hl.1 rfl (lv_room (Nat.le_of_ble_eq_true rfl)) dX10_gives_55 ⟨Nat.le_of_ble_eq_true rfl, Nat.le_of_ble_eq_true rfl⟩ (fun H locs hP hS _ _ => ?_)
      refine W.eq (g2 := F0 m 58 ls [.int (vX10_gives_2 S p1), .int (rX10_told (fX10_goOnLevel S p1) p1 (10 : Int32))]) rfl ?_
      refine lv_imul hx hb dX10_gives_58 ?_
      refine lv_sipush (v := 1000) hx hb dX10_gives_59 (by decide) ?_
      refine lv_idiv hx hb dX10_gives_62 (by decide) ?_
      refine lv_istore_n (lv' := [(3, .int (((rX10_told (fX10_goOnLevel S p1) p1 (10 : Int32)) * (vX10_gives_2 S p1)) / 1000)), (2, .int (rX10_told (fX10_goOnLevel S p1) p1 (11 : Int32))), (0, .ref (a 0)), (1, .int p1)]) hx hb dX10_gives_63 rfl hl (by decide) rfl (fun ls hl => ?_)
      refine lv_aload_n hx hb dX10_gives_64 rfl (lv_at hl 2 rfl) ?_
      refine lv_aload_n hx hb dX10_gives_65 rfl (lv_at hl 2 rfl) ?_
      refine lv_iload_n hx hb dX10_gives_66 rfl (lv_at hl 3 rfl) ?_
      refine lv_iconst (v := 0) hx hb dX10_gives_67 (by decide) ?_
      refine g_cVi (As := [.int p1, .int 0]) (rest := [.ref (a 0)]) ⟨hx, hb, hml, hown, hts⟩ (c_X10_told l G cA zq n hn a ha (fX10_goOnLevel S p1) L H.size p1 (0 : Int32)  hh1 (hh14 c1 c2)) (cwV 2 hts gX10_gives_X10_told rfl rfl rfl (by decide +kernel) ⟨Nat.le_of_ble_eq_true rfl, Nat.le_of_ble_eq_true rfl⟩) (g_recv hK hP (lt_hn hn (by decide)) cD_D (C := RX10) (T := TX10) (N := 35) rfl) hK (mA_mono hS.1) hP hS rfl hl.1 rfl (lv_room (Nat.le_of_ble_eq_true rfl)) dX10_gives_68 ⟨Nat.le_of_ble_eq_true rfl, Nat.le_of_ble_eq_true rfl⟩ (fun H locs hP hS _ _ => ?_)
      refine lv_aload_n hx hb dX10_gives_71 rfl (lv_at hl 2 rfl) ?_
      refine g_get (ci := 10) (C := RX10) (T := TX10) (N := 35) (v := .ref (a 8)) hx hb hts iX10_gives_X10 hown hK hP (lt_hn hn (by decide)) cD_D rfl 7 (by decide) rfl (by decide +kernel) rfl dX10_gives_72 ?_
      refine lv_iload_n hx hb dX10_gives_75 rfl (lv_at hl 3 rfl) ?_
      refine g_iald (N := 4) (g := (fX10_goOnLevel S p1) 8) hx hb hK hP (lt_hn hn (by decide)) rfl hh1 dX10_gives_76 ?_
      refine g_cVi (As := [.int (rX10_told (fX10_goOnLevel S p1) p1 (0 : Int32)), .int ((fX10_goOnLevel S p1) 8 p1.toNatClampNeg)]) (rest := []) ⟨hx, hb, hml, hown, hts⟩ (c_X10_wave l G cA zq n hn a ha (fX10_goOnLevel S p1) L H.size (rX10_told (fX10_goOnLevel S p1) p1 (0 : Int32)) ((fX10_goOnLevel S p1) 8 p1.toNatClampNeg)  (hh15 c1 c2) (hh16 c1 c2)) (cwV 2 hts gX10_gives_X10_wave rfl rfl rfl (by decide +kernel) ⟨Nat.le_of_ble_eq_true rfl, Nat.le_of_ble_eq_true rfl⟩) (g_recv hK hP (lt_hn hn (by decide)) cD_D (C := RX10) (T := TX10) (N := 35) rfl) hK (mA_mono hS.1) hP hS rfl hl.1 rfl (lv_room (Nat.le_of_ble_eq_true rfl)) dX10_gives_77 ⟨Nat.le_of_ble_eq_true rfl, Nat.le_of_ble_eq_true rfl⟩ (fun H locs hP hS _ _ => ?_)
      refine W.eq (g2 := F0 m 80 ls [.int (vX10_gives_3 S p1)]) rfl ?_
      refine lv_bipush (v := 100) hx hb dX10_gives_80 (by decide) ?_
      refine lv_aload_n hx hb dX10_gives_82 rfl (lv_at hl 2 rfl) ?_
      refine lv_iload_n hx hb dX10_gives_83 rfl (lv_at hl 3 rfl) ?_
      refine lv_iconst (v := 3) hx hb dX10_gives_84 (by decide) ?_
      refine g_cVi (As := [.int p1, .int 3]) (rest := [.int 100, .int (vX10_gives_3 S p1)]) ⟨hx, hb, hml, hown, hts⟩ (c_X10_told l G cA zq n hn a ha (fX10_goOnLevel S p1) L H.size p1 (3 : Int32)  hh1 (hh17 c1 c2)) (cwV 2 hts gX10_gives_X10_told rfl rfl rfl (by decide +kernel) ⟨Nat.le_of_ble_eq_true rfl, Nat.le_of_ble_eq_true rfl⟩) (g_recv hK hP (lt_hn hn (by decide)) cD_D (C := RX10) (T := TX10) (N := 35) rfl) hK (mA_mono hS.1) hP hS rfl hl.1 rfl (lv_room (Nat.le_of_ble_eq_true rfl)) dX10_gives_85 ⟨Nat.le_of_ble_eq_true rfl, Nat.le_of_ble_eq_true rfl⟩ (fun H locs hP hS _ _ => ?_)
      refine lv_isub hx hb dX10_gives_88 ?_
      refine lv_imul hx hb dX10_gives_89 ?_
      refine lv_aload_n hx hb dX10_gives_90 rfl (lv_at hl 2 rfl) ?_
      refine lv_aload_n hx hb dX10_gives_91 rfl (lv_at hl 2 rfl) ?_
      refine lv_iload_n hx hb dX10_gives_92 rfl (lv_at hl 3 rfl) ?_
      refine lv_iconst (v := 1) hx hb dX10_gives_93 (by decide) ?_
      refine g_cVi (As := [.int p1, .int 1]) (rest := [.ref (a 0), .int ((vX10_gives_3 S p1) * (100 - (rX10_told (fX10_goOnLevel S p1) p1 (3 : Int32))))]) ⟨hx, hb, hml, hown, hts⟩ (c_X10_told l G cA zq n hn a ha (fX10_goOnLevel S p1) L H.size p1 (1 : Int32)  hh1 (hh18 c1 c2)) (cwV 2 hts gX10_gives_X10_told rfl rfl rfl (by decide +kernel) ⟨Nat.le_of_ble_eq_true rfl, Nat.le_of_ble_eq_true rfl⟩) (g_recv hK hP (lt_hn hn (by decide)) cD_D (C := RX10) (T := TX10) (N := 35) rfl) hK (mA_mono hS.1) hP hS rfl hl.1 rfl (lv_room (Nat.le_of_ble_eq_true rfl)) dX10_gives_94 ⟨Nat.le_of_ble_eq_true rfl, Nat.le_of_ble_eq_true rfl⟩ (fun H locs hP hS _ _ => ?_)
      refine lv_aload_n hx hb dX10_gives_97 rfl (lv_at hl 2 rfl) ?_
      refine g_get (ci := 10) (C := RX10) (T := TX10) (N := 35) (v := .ref (a 9)) hx hb hts iX10_gives_X10 hown hK hP (lt_hn hn (by decide)) cD_D rfl 8 (by decide) rfl (by decide +kernel) rfl dX10_gives_98 ?_
      refine lv_iload_n hx hb dX10_gives_101 rfl (lv_at hl 3 rfl) ?_
      refine g_iald (N := 4) (g := (fX10_goOnLevel S p1) 9) hx hb hK hP (lt_hn hn (by decide)) rfl hh1 dX10_gives_102 ?_
      refine g_cVi (As := [.int (rX10_told (fX10_goOnLevel S p1) p1 (1 : Int32)), .int ((fX10_goOnLevel S p1) 9 p1.toNatClampNeg)]) (rest := [.int ((vX10_gives_3 S p1) * (100 - (rX10_told (fX10_goOnLevel S p1) p1 (3 : Int32))))]) ⟨hx, hb, hml, hown, hts⟩ (c_X10_wave l G cA zq n hn a ha (fX10_goOnLevel S p1) L H.size (rX10_told (fX10_goOnLevel S p1) p1 (1 : Int32)) ((fX10_goOnLevel S p1) 9 p1.toNatClampNeg)  (hh19 c1 c2) (hh20 c1 c2)) (cwV 2 hts gX10_gives_X10_wave rfl rfl rfl (by decide +kernel) ⟨Nat.le_of_ble_eq_true rfl, Nat.le_of_ble_eq_true rfl⟩) (g_recv hK hP (lt_hn hn (by decide)) cD_D (C := RX10) (T := TX10) (N := 35) rfl) hK (mA_mono hS.1) hP hS rfl hl.1 rfl (lv_room (Nat.le_of_ble_eq_true rfl)) dX10_gives_103 ⟨Nat.le_of_ble_eq_true rfl, Nat.le_of_ble_eq_true rfl⟩ (fun H locs hP hS _ _ => ?_)
      refine W.eq (g2 := F0 m 106 ls [.int (vX10_gives_4 S p1), .int ((vX10_gives_3 S p1) * (100 - (rX10_told (fX10_goOnLevel S p1) p1 (3 : Int32))))]) rfl ?_
      refine lv_aload_n hx hb dX10_gives_106 rfl (lv_at hl 2 rfl) ?_
      refine lv_iload_n hx hb dX10_gives_107 rfl (lv_at hl 3 rfl) ?_
      refine lv_iconst (v := 3) hx hb dX10_gives_108 (by decide) ?_
      refine g_cVi (As := [.int p1, .int 3]) (rest := [.int (vX10_gives_4 S p1), .int ((vX10_gives_3 S p1) * (100 - (rX10_told (fX10_goOnLevel S p1) p1 (3 : Int32))))]) ⟨hx, hb, hml, hown, hts⟩ (c_X10_told l G cA zq n hn a ha (fX10_goOnLevel S p1) L H.size p1 (3 : Int32)  hh1 (hh17 c1 c2)) (cwV 2 hts gX10_gives_X10_told rfl rfl rfl (by decide +kernel) ⟨Nat.le_of_ble_eq_true rfl, Nat.le_of_ble_eq_true rfl⟩) (g_recv hK hP (lt_hn hn (by decide)) cD_D (C := RX10) (T := TX10) (N := 35) rfl) hK (mA_mono hS.1) hP hS rfl hl.1 rfl (lv_room (Nat.le_of_ble_eq_true rfl)) dX10_gives_109 ⟨Nat.le_of_ble_eq_true rfl, Nat.le_of_ble_eq_true rfl⟩ (fun H locs hP hS _ _ => ?_)
      refine lv_imul hx hb dX10_gives_112 ?_
      refine lv_iadd hx hb dX10_gives_113 ?_
      refine W.eq (g2 := F0 m 114 ls [.int (vX10_gives_5 S p1)]) rfl ?_
      refine lv_bipush (v := 100) hx hb dX10_gives_114 (by decide) ?_
      refine lv_idiv hx hb dX10_gives_116 (by decide) ?_
      refine lv_istore (lv' := [(4, .int ((vX10_gives_5 S p1) / 100)), (3, .int (((rX10_told (fX10_goOnLevel S p1) p1 (10 : Int32)) * (vX10_gives_2 S p1)) / 1000)), (2, .int (rX10_told (fX10_goOnLevel S p1) p1 (11 : Int32))), (0, .ref (a 0)), (1, .int p1)]) hx hb dX10_gives_117 hl (by decide) rfl (fun ls hl => ?_)
      refine lv_aload_n hx hb dX10_gives_119 rfl (lv_at hl 3 rfl) ?_
      refine g_get (ci := 10) (C := RX10) (T := TX10) (N := 35) (v := .ref (a 6)) hx hb hts iX10_gives_X10 hown hK hP (lt_hn hn (by decide)) cD_D rfl 5 (by decide) rfl (by decide +kernel) rfl dX10_gives_120 ?_
      refine lv_iload_n hx hb dX10_gives_123 rfl (lv_at hl 4 rfl) ?_
      refine g_iald (N := 4) (g := (fX10_goOnLevel S p1) 6) hx hb hK hP (lt_hn hn (by decide)) rfl hh1 dX10_gives_124 ?_
      refine g_cSi (As := [.int ((fX10_goOnLevel S p1) 6 p1.toNatClampNeg)]) (rest := []) ⟨hx, hb, hml, hown, hts⟩ (c_X10_stride l G cA zq n hn a ha (fX10_goOnLevel S p1) L H.size ((fX10_goOnLevel S p1) 6 p1.toNatClampNeg)  (hh21 c1 c2)) (va_cwS 1 hts gX10_gives_X10_stride rfl rfl rfl (by decide +kernel) ⟨Nat.le_of_ble_eq_true rfl, Nat.le_of_ble_eq_true rfl⟩) hK (mA_mono hS.1) hP hS rfl hl.1 rfl (lv_room (Nat.le_of_ble_eq_true rfl)) dX10_gives_125 ⟨Nat.le_of_ble_eq_true rfl, Nat.le_of_ble_eq_true rfl⟩ (fun H locs hP hS _ _ => ?_)
      refine lv_istore (lv' := [(5, .int (rX10_stride ((fX10_goOnLevel S p1) 6 p1.toNatClampNeg))), (4, .int ((vX10_gives_5 S p1) / 100)), (3, .int (((rX10_told (fX10_goOnLevel S p1) p1 (10 : Int32)) * (vX10_gives_2 S p1)) / 1000)), (2, .int (rX10_told (fX10_goOnLevel S p1) p1 (11 : Int32))), (0, .ref (a 0)), (1, .int p1)]) hx hb dX10_gives_128 hl (by decide) rfl (fun ls hl => ?_)
      refine lv_aload_n hx hb dX10_gives_130 rfl (lv_at hl 4 rfl) ?_
      refine g_get (ci := 10) (C := RX10) (T := TX10) (N := 35) (v := .ref (a 8)) hx hb hts iX10_gives_X10 hown hK hP (lt_hn hn (by decide)) cD_D rfl 7 (by decide) rfl (by decide +kernel) rfl dX10_gives_131 ?_
      refine lv_iload_n hx hb dX10_gives_134 rfl (lv_at hl 5 rfl) ?_
      refine lv_aload_n hx hb dX10_gives_135 rfl (lv_at hl 4 rfl) ?_
      refine g_get (ci := 10) (C := RX10) (T := TX10) (N := 35) (v := .ref (a 8)) hx hb hts iX10_gives_X10 hown hK hP (lt_hn hn (by decide)) cD_D rfl 7 (by decide) rfl (by decide +kernel) rfl dX10_gives_136 ?_
      refine lv_iload_n hx hb dX10_gives_139 rfl (lv_at hl 5 rfl) ?_
      refine g_iald (N := 4) (g := (fX10_goOnLevel S p1) 8) hx hb hK hP (lt_hn hn (by decide)) rfl hh1 dX10_gives_140 ?_
      refine lv_iload hx hb dX10_gives_141 (lv_at hl 0 rfl) ?_
      refine lv_iadd hx hb dX10_gives_143 ?_
      refine W.eq (g2 := F0 m 144 ls [.int (vX10_gives_6 S p1), .int p1, .ref (a 8)]) rfl ?_
      refine lv_iload_n hx hb dX10_gives_144 rfl (lv_at hl 2 rfl) ?_
      refine lv_iadd hx hb dX10_gives_145 ?_
      refine W.eq (g2 := F0 m 146 ls [.int (vX10_gives_7 S p1), .int p1, .ref (a 8)]) rfl ?_
      refine lv_ldc (v := 65536) hx hb hown (hts (.constant RX10 144 65536) (by decide +kernel)) dX10_gives_146 ?_
      refine lv_iadd hx hb dX10_gives_148 ?_
      refine lv_ldc (v := 65536) hx hb hown (hts (.constant RX10 144 65536) (by decide +kernel)) dX10_gives_149 ?_
      refine lv_irem hx hb dX10_gives_151 (by decide) ?_
      refine g_iast (N := 4) (g := (fX10_goOnLevel S p1) 8) hx hb hK ha mA_in hP hS (lt_hn hn (by decide)) rfl hh1 rfl dX10_gives_152 (fun H locs hP hS => ?_)
      have hP : va_P G vwCl (wG n a (cD a cA) (mX10_gives_8 S p1) L) H := hP
      refine lv_aload_n hx hb dX10_gives_153 rfl (lv_at hl 4 rfl) ?_
      refine g_get (ci := 10) (C := RX10) (T := TX10) (N := 35) (v := .ref (a 9)) hx hb hts iX10_gives_X10 hown hK hP (lt_hn hn (by decide)) cD_D rfl 8 (by decide) rfl (by decide +kernel) rfl dX10_gives_154 ?_
      refine lv_iload_n hx hb dX10_gives_157 rfl (lv_at hl 5 rfl) ?_
      refine lv_aload_n hx hb dX10_gives_158 rfl (lv_at hl 4 rfl) ?_
      refine g_get (ci := 10) (C := RX10) (T := TX10) (N := 35) (v := .ref (a 9)) hx hb hts iX10_gives_X10 hown hK hP (lt_hn hn (by decide)) cD_D rfl 8 (by decide) rfl (by decide +kernel) rfl dX10_gives_159 ?_
      refine lv_iload_n hx hb dX10_gives_162 rfl (lv_at hl 5 rfl) ?_
      refine g_iald (N := 4) (g := (mX10_gives_8 S p1) 9) hx hb hK hP (lt_hn hn (by decide)) rfl hh1 dX10_gives_163 ?_
      refine lv_iload hx hb dX10_gives_164 (lv_at hl 0 rfl) ?_
      refine lv_iadd hx hb dX10_gives_166 ?_
      refine lv_iload_n hx hb dX10_gives_167 rfl (lv_at hl 2 rfl) ?_
      refine lv_iadd hx hb dX10_gives_168 ?_
      refine W.eq (g2 := F0 m 169 ls [.int (vX10_gives_9 S p1), .int p1, .ref (a 9)]) rfl ?_
      refine lv_aload_n hx hb dX10_gives_169 rfl (lv_at hl 4 rfl) ?_
      refine lv_iload_n hx hb dX10_gives_170 rfl (lv_at hl 5 rfl) ?_
      refine lv_iconst (v := 2) hx hb dX10_gives_171 (by decide) ?_
      refine g_cVi (As := [.int p1, .int 2]) (rest := [.int (vX10_gives_9 S p1), .int p1, .ref (a 9)]) ⟨hx, hb, hml, hown, hts⟩ (c_X10_told l G cA zq n hn a ha (mX10_gives_8 S p1) L H.size p1 (2 : Int32)  hh1 (hh22 c1 c2)) (cwV 2 hts gX10_gives_X10_told rfl rfl rfl (by decide +kernel) ⟨Nat.le_of_ble_eq_true rfl, Nat.le_of_ble_eq_true rfl⟩) (g_recv hK hP (lt_hn hn (by decide)) cD_D (C := RX10) (T := TX10) (N := 35) rfl) hK (mA_mono hS.1) hP hS rfl hl.1 rfl (lv_room (Nat.le_of_ble_eq_true rfl)) dX10_gives_172 ⟨Nat.le_of_ble_eq_true rfl, Nat.le_of_ble_eq_true rfl⟩ (fun H locs hP hS _ _ => ?_)
      refine lv_iadd hx hb dX10_gives_175 ?_
      refine lv_ldc (v := 65536) hx hb hown (hts (.constant RX10 144 65536) (by decide +kernel)) dX10_gives_176 ?_
      refine lv_iadd hx hb dX10_gives_178 ?_
      refine lv_ldc (v := 65536) hx hb hown (hts (.constant RX10 144 65536) (by decide +kernel)) dX10_gives_179 ?_
      refine lv_irem hx hb dX10_gives_181 (by decide) ?_
      refine W.eq (g2 := F0 m 182 ls [.int (vX10_gives_10 S p1), .int p1, .ref (a 9)]) rfl ?_
      refine g_iast (N := 4) (g := (mX10_gives_8 S p1) 9) hx hb hK ha mA_in hP hS (lt_hn hn (by decide)) rfl hh1 rfl dX10_gives_182 (fun H locs hP hS => ?_)
      refine lv_aload_n hx hb dX10_gives_183 rfl (lv_at hl 4 rfl) ?_
      refine g_get (ci := 10) (C := RX10) (T := TX10) (N := 35) (v := .ref (a 10)) hx hb hts iX10_gives_X10 hown hK hP (lt_hn hn (by decide)) cD_D rfl 9 (by decide) rfl (by decide +kernel) rfl dX10_gives_184 ?_
      refine lv_iload_n hx hb dX10_gives_187 rfl (lv_at hl 5 rfl) ?_
      refine lv_aload_n hx hb dX10_gives_188 rfl (lv_at hl 4 rfl) ?_
      refine g_get (ci := 10) (C := RX10) (T := TX10) (N := 35) (v := .ref (a 10)) hx hb hts iX10_gives_X10 hown hK hP (lt_hn hn (by decide)) cD_D rfl 9 (by decide) rfl (by decide +kernel) rfl dX10_gives_189 ?_
      refine lv_iload_n hx hb dX10_gives_192 rfl (lv_at hl 5 rfl) ?_
      refine g_iald (N := 4) (g := (up2 (mX10_gives_8 S p1) 9 p1.toNatClampNeg (vX10_gives_10 S p1)) 10) hx hb hK hP (lt_hn hn (by decide)) rfl hh1 dX10_gives_193 ?_
      refine lv_aload_n hx hb dX10_gives_194 rfl (lv_at hl 4 rfl) ?_
      refine lv_iload_n hx hb dX10_gives_195 rfl (lv_at hl 5 rfl) ?_
      refine lv_bipush (v := 8) hx hb dX10_gives_196 (by decide) ?_
      refine g_cVi (As := [.int p1, .int 8]) (rest := [.int ((up2 (mX10_gives_8 S p1) 9 p1.toNatClampNeg (vX10_gives_10 S p1)) 10 p1.toNatClampNeg), .int p1, .ref (a 10)]) ⟨hx, hb, hml, hown, hts⟩ (c_X10_told l G cA zq n hn a ha (up2 (mX10_gives_8 S p1) 9 p1.toNatClampNeg (vX10_gives_10 S p1)) L H.size p1 (8 : Int32)  hh1 (hh23 c1 c2)) (cwV 2 hts gX10_gives_X10_told rfl rfl rfl (by decide +kernel) ⟨Nat.le_of_ble_eq_true rfl, Nat.le_of_ble_eq_true rfl⟩) (g_recv hK hP (lt_hn hn (by decide)) cD_D (C := RX10) (T := TX10) (N := 35) rfl) hK (mA_mono hS.1) hP hS rfl hl.1 rfl (lv_room (Nat.le_of_ble_eq_true rfl)) dX10_gives_198 ⟨Nat.le_of_ble_eq_true rfl, Nat.le_of_ble_eq_true rfl⟩ (fun H locs hP hS _ _ => ?_)
      refine lv_aload_n hx hb dX10_gives_201 rfl (lv_at hl 4 rfl) ?_
      refine g_get (ci := 10) (C := RX10) (T := TX10) (N := 35) (v := .ref (a 11)) hx hb hts iX10_gives_X10 hown hK hP (lt_hn hn (by decide)) cD_D rfl 10 (by decide) rfl (by decide +kernel) rfl dX10_gives_202 ?_
      refine lv_iload_n hx hb dX10_gives_205 rfl (lv_at hl 5 rfl) ?_
      refine g_iald (N := 4) (g := (up2 (mX10_gives_8 S p1) 9 p1.toNatClampNeg (vX10_gives_10 S p1)) 11) hx hb hK hP (lt_hn hn (by decide)) rfl hh1 dX10_gives_206 ?_
      refine lv_imul hx hb dX10_gives_207 ?_
      refine W.eq (g2 := F0 m 208 ls [.int (vX10_gives_11 S p1), .int ((up2 (mX10_gives_8 S p1) 9 p1.toNatClampNeg (vX10_gives_10 S p1)) 10 p1.toNatClampNeg), .int p1, .ref (a 10)]) rfl ?_
      refine lv_sipush (v := 256) hx hb dX10_gives_208 (by decide) ?_
      refine lv_idiv hx hb dX10_gives_211 (by decide) ?_
      refine lv_iadd hx hb dX10_gives_212 ?_
      refine W.eq (g2 := F0 m 213 ls [.int (vX10_gives_12 S p1), .int p1, .ref (a 10)]) rfl ?_
      refine lv_sipush (v := 4000) hx hb dX10_gives_213 (by decide) ?_
      refine g_cNi (As := [.int (vX10_gives_12 S p1), .int 4000]) (rest := [.int p1, .ref (a 10)]) ⟨hx, hb, hml, hown, hts⟩ (c_X11_keep l G cA zq n hn a ha (up2 (mX10_gives_8 S p1) 9 p1.toNatClampNeg (vX10_gives_10 S p1)) L H.size (vX10_gives_12 S p1) (4000 : Int32)  ) (va_cnB 2 hts gX10_gives_X11_keep_n152 rfl rfl rfl (hK.2.1.at (q := ("MelodeonModel$Desk", 152, yX11_keep, "MelodeonModel")) (by decide +kernel)) (hts (.initialized RX11) (by decide +kernel)) (by decide +kernel) ⟨Nat.le_of_ble_eq_true rfl, Nat.le_of_ble_eq_true rfl⟩) (hts (.static yX11_keep) (by decide +kernel)) hK (mA_mono hS.1) hP hS rfl hl.1 rfl (lv_room (Nat.le_of_ble_eq_true rfl)) dX10_gives_216 ⟨Nat.le_of_ble_eq_true rfl, Nat.le_of_ble_eq_true rfl⟩ (fun H locs hP hS _ _ => ?_)
      refine g_iast (N := 4) (g := (up2 (mX10_gives_8 S p1) 9 p1.toNatClampNeg (vX10_gives_10 S p1)) 10) hx hb hK ha mA_in hP hS (lt_hn hn (by decide)) rfl hh1 rfl dX10_gives_219 (fun H locs hP hS => ?_)
      have hP : va_P G vwCl (wG n a (cD a cA) (mX10_gives_13 S p1) L) H := hP
      refine lv_iload hx hb dX10_gives_220 (lv_at hl 1 rfl) ?_
      refine lv_aload_n hx hb dX10_gives_222 rfl (lv_at hl 4 rfl) ?_
      refine g_get (ci := 10) (C := RX10) (T := TX10) (N := 35) (v := .ref (a 10)) hx hb hts iX10_gives_X10 hown hK hP (lt_hn hn (by decide)) cD_D rfl 9 (by decide) rfl (by decide +kernel) rfl dX10_gives_223 ?_
      refine lv_iload_n hx hb dX10_gives_226 rfl (lv_at hl 5 rfl) ?_
      refine g_iald (N := 4) (g := (mX10_gives_13 S p1) 10) hx hb hK hP (lt_hn hn (by decide)) rfl hh1 dX10_gives_227 ?_
      refine lv_isub hx hb dX10_gives_228 ?_
      refine lv_aload_n hx hb dX10_gives_229 rfl (lv_at hl 4 rfl) ?_
      refine lv_iload_n hx hb dX10_gives_230 rfl (lv_at hl 5 rfl) ?_
      refine lv_bipush (v := 9) hx hb dX10_gives_231 (by decide) ?_
      refine g_cVi (As := [.int p1, .int 9]) (rest := [.int (((vX10_gives_5 S p1) / 100) - ((mX10_gives_13 S p1) 10 p1.toNatClampNeg))]) ⟨hx, hb, hml, hown, hts⟩ (c_X10_told l G cA zq n hn a ha (mX10_gives_13 S p1) L H.size p1 (9 : Int32)  hh1 (hh24 c1 c2)) (cwV 2 hts gX10_gives_X10_told rfl rfl rfl (by decide +kernel) ⟨Nat.le_of_ble_eq_true rfl, Nat.le_of_ble_eq_true rfl⟩) (g_recv hK hP (lt_hn hn (by decide)) cD_D (C := RX10) (T := TX10) (N := 35) rfl) hK (mA_mono hS.1) hP hS rfl hl.1 rfl (lv_room (Nat.le_of_ble_eq_true rfl)) dX10_gives_233 ⟨Nat.le_of_ble_eq_true rfl, Nat.le_of_ble_eq_true rfl⟩ (fun H locs hP hS _ _ => ?_)
      refine lv_aload_n hx hb dX10_gives_236 rfl (lv_at hl 4 rfl) ?_
      refine g_get (ci := 10) (C := RX10) (T := TX10) (N := 35) (v := .ref (a 11)) hx hb hts iX10_gives_X10 hown hK hP (lt_hn hn (by decide)) cD_D rfl 10 (by decide) rfl (by decide +kernel) rfl dX10_gives_237 ?_
      refine lv_iload_n hx hb dX10_gives_240 rfl (lv_at hl 5 rfl) ?_
      refine g_iald (N := 4) (g := (mX10_gives_13 S p1) 11) hx hb hK hP (lt_hn hn (by decide)) rfl hh1 dX10_gives_241 ?_
      refine lv_imul hx hb dX10_gives_242 ?_
      refine lv_sipush (v := 256) hx hb dX10_gives_243 (by decide) ?_
      refine lv_idiv hx hb dX10_gives_246 (by decide) ?_
      refine lv_isub hx hb dX10_gives_247 ?_
      refine W.eq (g2 := F0 m 248 ls [.int (vX10_gives_14 S p1)]) rfl ?_
      refine lv_istore (lv' := [(6, .int (vX10_gives_14 S p1)), (5, .int (rX10_stride ((fX10_goOnLevel S p1) 6 p1.toNatClampNeg))), (4, .int ((vX10_gives_5 S p1) / 100)), (3, .int (((rX10_told (fX10_goOnLevel S p1) p1 (10 : Int32)) * (vX10_gives_2 S p1)) / 1000)), (2, .int (rX10_told (fX10_goOnLevel S p1) p1 (11 : Int32))), (0, .ref (a 0)), (1, .int p1)]) hx hb dX10_gives_248 hl (by decide) rfl (fun ls hl => ?_)
      refine lv_aload_n hx hb dX10_gives_250 rfl (lv_at hl 5 rfl) ?_
      refine g_get (ci := 10) (C := RX10) (T := TX10) (N := 35) (v := .ref (a 11)) hx hb hts iX10_gives_X10 hown hK hP (lt_hn hn (by decide)) cD_D rfl 10 (by decide) rfl (by decide +kernel) rfl dX10_gives_251 ?_
      refine lv_iload_n hx hb dX10_gives_254 rfl (lv_at hl 6 rfl) ?_
      refine lv_aload_n hx hb dX10_gives_255 rfl (lv_at hl 5 rfl) ?_
      refine g_get (ci := 10) (C := RX10) (T := TX10) (N := 35) (v := .ref (a 11)) hx hb hts iX10_gives_X10 hown hK hP (lt_hn hn (by decide)) cD_D rfl 10 (by decide) rfl (by decide +kernel) rfl dX10_gives_256 ?_
      refine lv_iload_n hx hb dX10_gives_259 rfl (lv_at hl 6 rfl) ?_
      refine g_iald (N := 4) (g := (mX10_gives_13 S p1) 11) hx hb hK hP (lt_hn hn (by decide)) rfl hh1 dX10_gives_260 ?_
      refine lv_aload_n hx hb dX10_gives_261 rfl (lv_at hl 5 rfl) ?_
      refine lv_iload_n hx hb dX10_gives_262 rfl (lv_at hl 6 rfl) ?_
      refine lv_bipush (v := 8) hx hb dX10_gives_263 (by decide) ?_
      refine g_cVi (As := [.int p1, .int 8]) (rest := [.int ((mX10_gives_13 S p1) 11 p1.toNatClampNeg), .int p1, .ref (a 11)]) ⟨hx, hb, hml, hown, hts⟩ (c_X10_told l G cA zq n hn a ha (mX10_gives_13 S p1) L H.size p1 (8 : Int32)  hh1 (hh25 c1 c2)) (cwV 2 hts gX10_gives_X10_told rfl rfl rfl (by decide +kernel) ⟨Nat.le_of_ble_eq_true rfl, Nat.le_of_ble_eq_true rfl⟩) (g_recv hK hP (lt_hn hn (by decide)) cD_D (C := RX10) (T := TX10) (N := 35) rfl) hK (mA_mono hS.1) hP hS rfl hl.1 rfl (lv_room (Nat.le_of_ble_eq_true rfl)) dX10_gives_265 ⟨Nat.le_of_ble_eq_true rfl, Nat.le_of_ble_eq_true rfl⟩ (fun H locs hP hS _ _ => ?_)
      refine lv_iload hx hb dX10_gives_268 (lv_at hl 0 rfl) ?_
      refine lv_imul hx hb dX10_gives_270 ?_
      refine lv_sipush (v := 256) hx hb dX10_gives_271 (by decide) ?_
      refine lv_idiv hx hb dX10_gives_274 (by decide) ?_
      refine lv_iadd hx hb dX10_gives_275 ?_
      refine W.eq (g2 := F0 m 276 ls [.int (vX10_gives_15 S p1), .int p1, .ref (a 11)]) rfl ?_
      refine lv_sipush (v := 4000) hx hb dX10_gives_276 (by decide) ?_
      refine g_cNi (As := [.int (vX10_gives_15 S p1), .int 4000]) (rest := [.int p1, .ref (a 11)]) ⟨hx, hb, hml, hown, hts⟩ (c_X11_keep l G cA zq n hn a ha (mX10_gives_13 S p1) L H.size (vX10_gives_15 S p1) (4000 : Int32)  ) (va_cnB 2 hts gX10_gives_X11_keep_n152 rfl rfl rfl (hK.2.1.at (q := ("MelodeonModel$Desk", 152, yX11_keep, "MelodeonModel")) (by decide +kernel)) (hts (.initialized RX11) (by decide +kernel)) (by decide +kernel) ⟨Nat.le_of_ble_eq_true rfl, Nat.le_of_ble_eq_true rfl⟩) (hts (.static yX11_keep) (by decide +kernel)) hK (mA_mono hS.1) hP hS rfl hl.1 rfl (lv_room (Nat.le_of_ble_eq_true rfl)) dX10_gives_279 ⟨Nat.le_of_ble_eq_true rfl, Nat.le_of_ble_eq_true rfl⟩ (fun H locs hP hS _ _ => ?_)
      refine g_iast (N := 4) (g := (mX10_gives_13 S p1) 11) hx hb hK ha mA_in hP hS (lt_hn hn (by decide)) rfl hh1 rfl dX10_gives_282 (fun H locs hP hS => ?_)
      have hP : va_P G vwCl (wG n a (cD a cA) (mX10_gives_16 S p1) L) H := hP
      refine lv_aload_n hx hb dX10_gives_283 rfl (lv_at hl 5 rfl) ?_
      refine g_get (ci := 10) (C := RX10) (T := TX10) (N := 35) (v := .ref (a 10)) hx hb hts iX10_gives_X10 hown hK hP (lt_hn hn (by decide)) cD_D rfl 9 (by decide) rfl (by decide +kernel) rfl dX10_gives_284 ?_
      refine lv_iload_n hx hb dX10_gives_287 rfl (lv_at hl 6 rfl) ?_
      refine g_iald (N := 4) (g := (mX10_gives_16 S p1) 10) hx hb hK hP (lt_hn hn (by decide)) rfl hh1 dX10_gives_288 ?_
      refine lv_aload_n hx hb dX10_gives_289 rfl (lv_at hl 5 rfl) ?_
      refine g_get (ci := 10) (C := RX10) (T := TX10) (N := 35) (v := .ref (a 7)) hx hb hts iX10_gives_X10 hown hK hP (lt_hn hn (by decide)) cD_D rfl 6 (by decide) rfl (by decide +kernel) rfl dX10_gives_290 ?_
      refine lv_iload_n hx hb dX10_gives_293 rfl (lv_at hl 6 rfl) ?_
      refine g_iald (N := 4) (g := (mX10_gives_16 S p1) 7) hx hb hK hP (lt_hn hn (by decide)) rfl hh1 dX10_gives_294 ?_
      refine lv_imul hx hb dX10_gives_295 ?_
      refine lv_bipush (v := 127) hx hb dX10_gives_296 (by decide) ?_
      refine lv_idiv hx hb dX10_gives_298 (by decide) ?_
      refine lv_aload_n hx hb dX10_gives_299 rfl (lv_at hl 5 rfl) ?_
      refine g_get (ci := 10) (C := RX10) (T := TX10) (N := 35) (v := .ref (a 4)) hx hb hts iX10_gives_X10 hown hK hP (lt_hn hn (by decide)) cD_D rfl 3 (by decide) rfl (by decide +kernel) rfl dX10_gives_300 ?_
      refine lv_iload_n hx hb dX10_gives_303 rfl (lv_at hl 6 rfl) ?_
      refine g_iald (N := 4) (g := (mX10_gives_16 S p1) 4) hx hb hK hP (lt_hn hn (by decide)) rfl hh1 dX10_gives_304 ?_
      refine lv_sipush (v := 1000) hx hb dX10_gives_305 (by decide) ?_
      refine lv_idiv hx hb dX10_gives_308 (by decide) ?_
      refine lv_imul hx hb dX10_gives_309 ?_
      refine W.eq (g2 := F0 m 310 ls [.int (vX10_gives_17 S p1)]) rfl ?_
      refine lv_sipush (v := 1000) hx hb dX10_gives_310 (by decide) ?_
      refine lv_idiv hx hb dX10_gives_313 (by decide) ?_
      exact g_iret hx hb hr hlocks (by unfold rX10_gives; rw [if_neg c1, if_neg c2]) (by unfold fX10_gives; rw [if_neg c1, if_neg c2]) rfl hP hS dX10_gives_314
    ·
      refine lv_iconst (v := 0) hx hb dX10_gives_25 (by decide) ?_
      refine W.widen (k := 1) (n := 12) (by omega) (by omega) ?_
      exact g_iret hx hb hr hlocks (by unfold rX10_gives; rw [if_neg c1, if_pos c2]) (by unfold fX10_gives; rw [if_neg c1, if_pos c2]) rfl hP hS dX10_gives_26
  ·
    refine lv_iconst (v := 0) hx hb dX10_gives_9 (by decide) ?_
    refine W.widen (k := 1) (n := 12) (by omega) (by omega) ?_
    exact g_iret hx hb hr hlocks (by unfold rX10_gives; rw [if_pos c1]) (by unfold fX10_gives; rw [if_pos c1]) rfl hP hS dX10_gives_10
