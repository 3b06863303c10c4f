theorem lp_c {x y k : Nat} (h1 : y ≤ x + 830) (h2 : x ≤ 57 + 830 * k) : y ≤ 57 + 830 * (k + 1) := by
  have e : 830 * (k + 1) = 830 * k + 830 := Nat.mul_succ 830 k
  rw [e, ← Nat.add_assoc]
  exact Nat.le_trans h1 (Nat.add_le_add_right h2 830)
theorem lp_s {x y k : Nat} (h1 : y ≤ x + 10200) (h2 : x ≤ 1500 + 10200 * k) : y ≤ 1500 + 10200 * (k + 1) := by
  have e : 10200 * (k + 1) = 10200 * k + 10200 := Nat.mul_succ 10200 k
  rw [e, ← Nat.add_assoc]
  exact Nat.le_trans h1 (Nat.add_le_add_right h2 10200)
set_option maxHeartbeats 4000000 in
theorem law_loop {p : Program} {l : Launch} {e : Env} {s : State} {m : MethodId} {below : List Frame} {meth : Method} {c : Code} {G : va_G} {cA cJ : ClassId} {a bb : Nat → Nat} {o b N : Nat} {xs : Nat → Int32} (hL : N ≤ 3072) (C : ∀ d : Drawn, LCtx p l (s.setDrawn d) m c G (aN s) cA cJ a bb o b N xs) (hr : meth.sig.returnType = ret) (hlocks : meth.locks = false) : ∀ (n k : Nat), 6 * k ≤ N → N < 6 * (k + n) → ∀ (d0 : Drawn), s.drawn.sameBut d0 lw_cs → ∀ (S T : Mm) (L1 L2 : Int64) (fo : Nat → Int64) (H : Heap) (locs : List Loc) (ls : Array Slot) (cells slots : Nat), RAll (600 * (k : Int)) (200 * (k : Int)) S L1 T L2 → lwP G cA cJ a bb S L1 o fo T L2 H → va_S (aN s) s.heap H locs → lv_has ls 9 (lwL a bb o b (6 * k)) → cells ≤ 57 + 830 * k → slots ≤ 1500 + 10200 * k → W p l e room_1 (s.setDrawn d0) m #[Value.ref b] below meth c H locs cells slots (lw_Z below #[Value.ref b] s) (F0 m 23 ls []) := by
  intro n
  induction n with
  | zero => intro k h1 h2; omega
  | succ n ih =>
  intro k h1 h2 d0 hd0 S T L1 L2 fo H locs ls cells slots h hP hS hl hc hs
  obtain ⟨hfl, hx, hb, hml, hown, hts, F, hK, hXf⟩ := C d0
  have hX := hXf H locs S T L1 L2 fo hP hS h.1.1.2.1
  refine lv_iload hx hb dL_law_23 (lv_at hl 0 rfl) ?_
  refine lv_aload_n hx hb dL_law_25 rfl (lv_at hl 1 rfl) ?_
  refine x_slen hx hb hX dL_law_26 ?_
  refine lv_bipush (v := 6) hx hb dL_law_27 (by decide) ?_
  refine lv_isub hx hb dL_law_29 ?_
  have e6 : (Int32.ofNat N - 6).toInt = (N : Int) - 6 := by
    have hN : (Int32.ofNat N).toInt = (N : Int) := nI_toInt (by omega)
    have h6 : (6 : Int32).toInt = 6 := by decide
    have := (rg_sub (x := Int32.ofNat N) (y := 6) (a := 0) (b := 3072) (c := 6) (d := 6) (by unfold rg; omega) (by unfold rg; omega) (by decide) (by decide)).2
    rw [this, hN, h6]
  refine lv_icmp_gt (tgt := 1997) hx hb dL_law_30 (by decide) (fun c1 => ?_) (fun c1 => ?_)
  · refine va_forget (fun q hq => hS.2.2 q hq) ?_
    refine W.widen (k := 601024) (n := 7293034) (by omega) (by omega) ?_
    refine lv_iconst (v := 1) hx hb dL_law_1997 (by decide) ?_
    exact lw_ret hd0 hx hb hr hlocks dL_law_1998
  · have hi : 6 * k + 6 ≤ N := by
      have h3 : ¬ ((Int32.ofNat N - 6).toInt < (nI (6 * k)).toInt) := fun h => c1 (Int32.lt_iff_toInt_lt.mpr h)
      rw [e6, nI_toInt (by omega)] at h3
      omega
    have kk : ∀ d : Drawn, s.drawn.sameBut d lw_cs → LKK p l e (s.setDrawn d) m below meth c (lw_Z below #[Value.ref b] s) G (aN s) cA cJ a bb o b (6 * k) (600 * (k : Int)) (200 * (k : Int)) cells slots := by
      intro d hd S T L1 L2 fo H locs ls cells1 slots1 hc1 hs1 h hP hS hl
      refine lv_iinc (v := nI (6 * (k + 1))) (lv' := lwL a bb o b (6 * (k + 1))) hx hb dL_law_1991 hl (k := 0) rfl (nI_add (6 * k) 6) (by decide) rfl (fun ls hl => ?_)
      refine lv_goto (tgt := 23) hx hb dL_law_1994 (by decide) ?_
      have e1 : 600 * ((k + 1 : Nat) : Int) = 600 * (k : Int) + 600 := by omega
      have e2 : 200 * ((k + 1 : Nat) : Int) = 200 * (k : Int) + 200 := by omega
      exact ih (k + 1) (by omega) (by omega) d hd S T L1 L2 fo H locs ls cells1 slots1 (by rw [e1, e2]; exact h) hP hS hl (lp_c hc1 hc) (lp_s hs1 hs)
    have D : LSt G (aN s) s cA cJ a bb o b N (6 * k) (600 * (k : Int)) (200 * (k : Int)) S T L1 L2 fo H locs ls cells slots := ⟨hi, hL, h, by omega, by omega, hP, hS, hl, by omega, by omega⟩
    refine lv_aload_n hx hb dL_law_33 rfl (lv_at hl 1 rfl) ?_
    refine lv_iload hx hb dL_law_34 (lv_at hl 0 rfl) ?_
    refine x_sld hx hb hX (vp_in_nI (by omega) (by omega)) dL_law_36 ?_
    refine lv_bipush (v := 63) hx hb dL_law_37 (by decide) ?_
    refine lv_iand hx hb dL_law_39 ?_
    generalize xs (nI (6 * k)).toNatClampNeg &&& 63 = w
    by_cases hw : w.toInt < 0 ∨ 36 < w.toInt
    · refine lv_tableOut (tgt := 1991) hx hb dL_law_40 hw (by decide) ?_
      exact kk d0 hd0 S T L1 L2 fo H locs ls cells slots (by omega) (by omega) (RAll_w h (by omega) (by omega)) hP hS hl
    · obtain ⟨j, hj, ej⟩ : ∃ j : Nat, j < 37 ∧ w.toInt = (j : Int) := ⟨w.toInt.toNat, by omega, by omega⟩
      have g1 : ¬ w.toInt < 0 := fun h => hw (Or.inl h)
      have g2 : ¬ 36 < w.toInt := fun h => hw (Or.inr h)
      match j, hj, ej with
      | 0, _, ej => exact lv_tableIn (off := 164) (tgt := 204) hx hb dL_law_40 g1 g2 (by rw [ej]; rfl) (by decide) (case_draw (C d0) D (kk d0 hd0))
      | 1, _, ej => exact lv_tableIn (off := 232) (tgt := 272) hx hb dL_law_40 g1 g2 (by rw [ej]; rfl) (by decide) (case_wave (C d0) D (kk d0 hd0))
      | 2, _, ej => exact lv_tableIn (off := 300) (tgt := 340) hx hb dL_law_40 g1 g2 (by rw [ej]; rfl) (by decide) (case_stride (C d0) D (kk d0 hd0))
      | 3, _, ej => exact lv_tableIn (off := 356) (tgt := 396) hx hb dL_law_40 g1 g2 (by rw [ej]; rfl) (by decide) (case_setWaves (C d0) D (kk d0 hd0))
      | 4, _, ej => exact lv_tableIn (off := 460) (tgt := 500) hx hb dL_law_40 g1 g2 (by rw [ej]; rfl) (by decide) (case_setEnvelope (C d0) D (kk d0 hd0))
      | 5, _, ej => exact lv_tableIn (off := 564) (tgt := 604) hx hb dL_law_40 g1 g2 (by rw [ej]; rfl) (by decide) (case_setFilter (C d0) D (kk d0 hd0))
      | 6, _, ej => exact lv_tableIn (off := 644) (tgt := 684) hx hb dL_law_40 g1 g2 (by rw [ej]; rfl) (by decide) (case_setVibrato (C d0) D (kk d0 hd0))
      | 7, _, ej => exact lv_tableIn (off := 724) (tgt := 764) hx hb dL_law_40 g1 g2 (by rw [ej]; rfl) (by decide) (case_setGain (C d0) D (kk d0 hd0))
      | 8, _, ej => exact lv_tableIn (off := 780) (tgt := 820) hx hb dL_law_40 g1 g2 (by rw [ej]; rfl) (by decide) (case_setDelay (C d0) D (kk d0 hd0))
      | 9, _, ej => exact lv_tableIn (off := 860) (tgt := 900) hx hb dL_law_40 g1 g2 (by rw [ej]; rfl) (by decide) (case_begin (C d0) D (kk d0 hd0))
      | 10, _, ej => exact lv_tableIn (off := 940) (tgt := 980) hx hb dL_law_40 g1 g2 (by rw [ej]; rfl) (by decide) (case_end (C d0) D (kk d0 hd0))
      | 11, _, ej => exact lv_tableIn (off := 996) (tgt := 1036) hx hb dL_law_40 g1 g2 (by rw [ej]; rfl) (by decide) (case_hush (C d0) D (kk d0 hd0))
      | 12, _, ej => exact lv_tableIn (off := 1009) (tgt := 1049) hx hb dL_law_40 g1 g2 (by rw [ej]; rfl) (by decide) (case_write (C d0) D (kk d0 hd0))
      | 13, _, ej => exact lv_tableIn (off := 1113) (tgt := 1153) hx hb dL_law_40 g1 g2 (by rw [ej]; rfl) (by decide) (case_setTrack (C d0) D (kk d0 hd0))
      | 14, _, ej => exact lv_tableIn (off := 1181) (tgt := 1221) hx hb dL_law_40 g1 g2 (by rw [ej]; rfl) (by decide) (case_setTempo (C d0) D (kk d0 hd0))
      | 15, _, ej => exact lv_tableIn (off := 1249) (tgt := 1289) hx hb dL_law_40 g1 g2 (by rw [ej]; rfl) (by decide) (case_play (C d0) D (kk d0 hd0))
      | 16, _, ej => exact lv_tableIn (off := 1312) (tgt := 1352) hx hb dL_law_40 g1 g2 (by rw [ej]; rfl) (by decide) (case_stop (C d0) D (kk d0 hd0))
      | 17, _, ej => exact lv_tableIn (off := 1325) (tgt := 1365) hx hb dL_law_40 g1 g2 (by rw [ej]; rfl) (by decide) (case_sample (C d0) D (kk d0 hd0))
      | 18, _, ej => exact lv_tableIn (off := 1338) (tgt := 1378) hx hb dL_law_40 g1 g2 (by rw [ej]; rfl) (by decide) (case_run (C d0) D (kk d0 hd0))
      | 19, _, ej => exact lv_tableIn (off := 1394) (tgt := 1434) hx hb dL_law_40 g1 g2 (by rw [ej]; rfl) (by decide) (case_heard (C d0) D (kk d0 hd0))
      | 20, _, ej => exact lv_tableIn (off := 1450) (tgt := 1490) hx hb dL_law_40 g1 g2 (by rw [ej]; rfl) (by decide) (case_clock (C d0) D (kk d0 hd0))
      | 21, _, ej => exact lv_tableIn (off := 1463) (tgt := 1503) hx hb dL_law_40 g1 g2 (by rw [ej]; rfl) (by decide) (case_peak (C d0) D (kk d0 hd0))
      | 22, _, ej => exact lv_tableIn (off := 1476) (tgt := 1516) hx hb dL_law_40 g1 g2 (by rw [ej]; rfl) (by decide) (case_loudness hd0 C D kk)
      | 23, _, ej => exact lv_tableIn (off := 1517) (tgt := 1557) hx hb dL_law_40 g1 g2 (by rw [ej]; rfl) (by decide) (case_clipped (C d0) D (kk d0 hd0))
      | 24, _, ej => exact lv_tableIn (off := 1530) (tgt := 1570) hx hb dL_law_40 g1 g2 (by rw [ej]; rfl) (by decide) (case_crossings (C d0) D (kk d0 hd0))
      | 25, _, ej => exact lv_tableIn (off := 1543) (tgt := 1583) hx hb dL_law_40 g1 g2 (by rw [ej]; rfl) (by decide) (case_reset (C d0) D (kk d0 hd0))
      | 26, _, ej => exact lv_tableIn (off := 1556) (tgt := 1596) hx hb dL_law_40 g1 g2 (by rw [ej]; rfl) (by decide) (case_ofVoice (C d0) D (kk d0 hd0))
      | 27, _, ej => exact lv_tableIn (off := 1624) (tgt := 1664) hx hb dL_law_40 g1 g2 (by rw [ej]; rfl) (by decide) (case_sounding (C d0) D (kk d0 hd0))
      | 28, _, ej => exact lv_tableIn (off := 1637) (tgt := 1677) hx hb dL_law_40 g1 g2 (by rw [ej]; rfl) (by decide) (case_taken (C d0) D (kk d0 hd0))
      | 29, _, ej => exact lv_tableIn (off := 1650) (tgt := 1690) hx hb dL_law_40 g1 g2 (by rw [ej]; rfl) (by decide) (case_isPlaying (C d0) D (kk d0 hd0))
      | 30, _, ej => exact lv_tableIn (off := 1663) (tgt := 1703) hx hb dL_law_40 g1 g2 (by rw [ej]; rfl) (by decide) (case_step (C d0) D (kk d0 hd0))
      | 31, _, ej => exact lv_tableIn (off := 1676) (tgt := 1716) hx hb dL_law_40 g1 g2 (by rw [ej]; rfl) (by decide) (case_ofStep (C d0) D (kk d0 hd0))
      | 32, _, ej => exact lv_tableIn (off := 1756) (tgt := 1796) hx hb dL_law_40 g1 g2 (by rw [ej]; rfl) (by decide) (case_inDelay (C d0) D (kk d0 hd0))
      | 33, _, ej => exact lv_tableIn (off := 1812) (tgt := 1852) hx hb dL_law_40 g1 g2 (by rw [ej]; rfl) (by decide) (case_wouldPeak (C d0) D (kk d0 hd0))
      | 34, _, ej => exact lv_tableIn (off := 1868) (tgt := 1908) hx hb dL_law_40 g1 g2 (by rw [ej]; rfl) (by decide) (case_silentIn (C d0) D (kk d0 hd0))
      | 35, _, ej => exact lv_tableIn (off := 1924) (tgt := 1964) hx hb dL_law_40 g1 g2 (by rw [ej]; rfl) (by decide) (case_nextVoice (C d0) D (kk d0 hd0))
      | 36, _, ej => exact lv_tableIn (off := 1937) (tgt := 1977) hx hb dL_law_40 g1 g2 (by rw [ej]; rfl) (by decide) (case_digest (C d0) D (kk d0 hd0))
      | j + 37, hj, _ => exact absurd hj (by omega)
