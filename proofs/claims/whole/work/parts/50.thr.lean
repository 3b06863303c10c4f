/-- the class of what is thrown, by the law's number -/
def xN (k : Int32) : String := if k = 1 then sIOB else sIAE

def kX9_draw (S : Mm) (p1 : Int32) (p2 : Int32) : Int32 := (if p1 < 0 ∨ (32 : Int32) ≤ p1 then (1 : Int32) else (if p2 < ((-1000) : Int32) ∨ (1000 : Int32) < p2 then (2 : Int32) else (0 : Int32)))
set_option maxHeartbeats 4000000 in
set_option maxRecDepth 100000 in
theorem t_X9_draw (l : Launch) (hfl : l.stackTraces = false) (G : va_G) (cA : ClassId) (a : Nat → Nat) (ha : apart 37 a) (S : Mm) (L : Int64) (sz : Nat) (p1 : Int32) (p2 : Int32) (hbad : ¬ kX9_draw S p1 p2 = 0) : vx_Met l yX9_draw wsX9_draw ({ frames := 7, cells := 1, slots := 6, locals := 104 } : Room) (va_Pc [.ref (a 0), .int p1, .int p2] (gX G cA (a 37) 37 a (cM a cA) S L sz)) (va_Qi (fun _ (_ : Unit) => False) (fun _ _ => True) (mA 37 a sz)) (xC (xN (kX9_draw S p1 p2)) G 37 a (cM a cA) S L sz) 1 6 (mA 37 a sz) := by
  refine g_metX (cc := cX9_draw) (maxL := 3) (ret := (some .int)) (by decide) rfl (Nat.le_of_ble_eq_true rfl) ?_
  intro p e s m below meth c ls hx hb hr hlocks hml hts hown hxt hsz hK hX hP hS hl
  subst hsz
  have hl : lv_has ls 3 [(0, .ref (a 0)), (1, .int p1), (2, .int p2)] := hl
  refine lv_iload_n hx hb dX9_draw_0 rfl (lv_at hl 1 rfl) ?_
  refine lv_bipush (v := 32) hx hb dX9_draw_1 (by decide) ?_
  by_cases q1 : p1 < 0 ∨ (32 : Int32) ≤ p1
  ·
    exact g_thrS (As := [.int p1, .int 32]) (rest := []) ⟨hx, hb, hml, hown, hts⟩ (t_X9_needPlace l hfl G cA (a 37) 37 a (cM a cA) S L s.heap.size p1 (32 : Int32) q1) (va_cwS 2 hts gX9_draw_X9_needPlace rfl rfl rfl (by decide +kernel) ⟨Nat.le_of_ble_eq_true rfl, Nat.le_of_ble_eq_true rfl⟩) hK hX hP hS rfl hl.1 rfl (lv_room (Nat.le_of_ble_eq_true rfl)) dX9_draw_3 ⟨Nat.le_of_ble_eq_true rfl, Nat.le_of_ble_eq_true rfl⟩ hxt hlocks (by unfold kX9_draw; rw [if_pos q1]; rfl) (Nat.le_of_ble_eq_true rfl) (Nat.le_of_ble_eq_true rfl)
  ·
    refine g_cSv (As := [.int p1, .int 32]) (rest := []) ⟨hx, hb, hml, hown, hts⟩ (c_X9_needPlace l G cA a ha S L s.heap.size p1 (32 : Int32) (fun h9 => q1 (Or.inl h9)) (Int32.not_le.mp (fun h9 => q1 (Or.inr h9)))) (va_cwS 2 hts gX9_draw_X9_needPlace rfl rfl rfl (by decide +kernel) ⟨Nat.le_of_ble_eq_true rfl, Nat.le_of_ble_eq_true rfl⟩) hK (mA_mono hS.1) hP hS rfl hl.1 rfl (lv_room (Nat.le_of_ble_eq_true rfl)) dX9_draw_3 ⟨Nat.le_of_ble_eq_true rfl, Nat.le_of_ble_eq_true rfl⟩ (fun H locs hP hS _ _ => ?_)
    refine lv_iload_n hx hb dX9_draw_6 rfl (lv_at hl 2 rfl) ?_
    refine lv_sipush (v := (-1000)) hx hb dX9_draw_7 (by decide) ?_
    refine lv_sipush (v := 1000) hx hb dX9_draw_10 (by decide) ?_
    by_cases q2 : p2 < ((-1000) : Int32) ∨ (1000 : Int32) < p2
    ·
      exact g_thrS (As := [.int p2, .int (-1000), .int 1000]) (rest := []) ⟨hx, hb, hml, hown, hts⟩ (t_X9_needWithin l hfl G cA (a 37) 37 a (cM a cA) S L H.size p2 ((-1000) : Int32) (1000 : Int32) q2) (va_cwS 3 hts gX9_draw_X9_needWithin rfl rfl rfl (by decide +kernel) ⟨Nat.le_of_ble_eq_true rfl, Nat.le_of_ble_eq_true rfl⟩) hK hX hP hS rfl hl.1 rfl (lv_room (Nat.le_of_ble_eq_true rfl)) dX9_draw_13 ⟨Nat.le_of_ble_eq_true rfl, Nat.le_of_ble_eq_true rfl⟩ hxt hlocks (by unfold kX9_draw; rw [if_neg q1, if_pos q2]; rfl) (Nat.le_of_ble_eq_true rfl) (Nat.le_of_ble_eq_true rfl)
    ·
      refine g_cSv (As := [.int p2, .int (-1000), .int 1000]) (rest := []) ⟨hx, hb, hml, hown, hts⟩ (c_X9_needWithin l G cA a ha S L H.size p2 ((-1000) : Int32) (1000 : Int32) (fun h9 => q2 (Or.inl h9)) (Int32.not_lt.mp (fun h9 => q2 (Or.inr h9)))) (va_cwS 3 hts gX9_draw_X9_needWithin rfl rfl rfl (by decide +kernel) ⟨Nat.le_of_ble_eq_true rfl, Nat.le_of_ble_eq_true rfl⟩) hK (mA_mono hS.1) hP hS rfl hl.1 rfl (lv_room (Nat.le_of_ble_eq_true rfl)) dX9_draw_13 ⟨Nat.le_of_ble_eq_true rfl, Nat.le_of_ble_eq_true rfl⟩ (fun H locs hP hS _ _ => ?_)
      exact absurd (by unfold kX9_draw; rw [if_neg q1, if_neg q2]) hbad

def kX9_wave (S : Mm) (p1 : Int32) (p2 : Int32) : Int32 := (if p1 < 0 ∨ (4 : Int32) ≤ p1 then (1 : Int32) else (if p2 < (0 : Int32) ∨ (65535 : Int32) < p2 then (2 : Int32) else (0 : Int32)))
set_option maxHeartbeats 4000000 in
set_option maxRecDepth 100000 in
theorem t_X9_wave (l : Launch) (hfl : l.stackTraces = false) (G : va_G) (cA : ClassId) (a : Nat → Nat) (ha : apart 37 a) (S : Mm) (L : Int64) (sz : Nat) (p1 : Int32) (p2 : Int32) (hbad : ¬ kX9_wave S p1 p2 = 0) : vx_Met l yX9_wave wsX9_wave ({ frames := 7, cells := 1, slots := 6, locals := 104 } : Room) (va_Pc [.ref (a 0), .int p1, .int p2] (gX G cA (a 37) 37 a (cM a cA) S L sz)) (va_Qi (fun _ (_ : Unit) => False) (fun _ _ => True) (mA 37 a sz)) (xC (xN (kX9_wave S p1 p2)) G 37 a (cM a cA) S L sz) 1 6 (mA 37 a sz) := by
  refine g_metX (cc := cX9_wave) (maxL := 3) (ret := (some .int)) (by decide) rfl (Nat.le_of_ble_eq_true rfl) ?_
  intro p e s m below meth c ls hx hb hr hlocks hml hts hown hxt hsz hK hX hP hS hl
  subst hsz
  have hl : lv_has ls 3 [(0, .ref (a 0)), (1, .int p1), (2, .int p2)] := hl
  refine lv_iload_n hx hb dX9_wave_0 rfl (lv_at hl 1 rfl) ?_
  refine lv_iconst (v := 4) hx hb dX9_wave_1 (by decide) ?_
  by_cases q1 : p1 < 0 ∨ (4 : Int32) ≤ p1
  ·
    exact g_thrS (As := [.int p1, .int 4]) (rest := []) ⟨hx, hb, hml, hown, hts⟩ (t_X9_needPlace l hfl G cA (a 37) 37 a (cM a cA) S L s.heap.size p1 (4 : Int32) q1) (va_cwS 2 hts gX9_wave_X9_needPlace rfl rfl rfl (by decide +kernel) ⟨Nat.le_of_ble_eq_true rfl, Nat.le_of_ble_eq_true rfl⟩) hK hX hP hS rfl hl.1 rfl (lv_room (Nat.le_of_ble_eq_true rfl)) dX9_wave_2 ⟨Nat.le_of_ble_eq_true rfl, Nat.le_of_ble_eq_true rfl⟩ hxt hlocks (by unfold kX9_wave; rw [if_pos q1]; rfl) (Nat.le_of_ble_eq_true rfl) (Nat.le_of_ble_eq_true rfl)
  ·
    refine g_cSv (As := [.int p1, .int 4]) (rest := []) ⟨hx, hb, hml, hown, hts⟩ (c_X9_needPlace l G cA a ha S L s.heap.size p1 (4 : Int32) (fun h9 => q1 (Or.inl h9)) (Int32.not_le.mp (fun h9 => q1 (Or.inr h9)))) (va_cwS 2 hts gX9_wave_X9_needPlace rfl rfl rfl (by decide +kernel) ⟨Nat.le_of_ble_eq_true rfl, Nat.le_of_ble_eq_true rfl⟩) hK (mA_mono hS.1) hP hS rfl hl.1 rfl (lv_room (Nat.le_of_ble_eq_true rfl)) dX9_wave_2 ⟨Nat.le_of_ble_eq_true rfl, Nat.le_of_ble_eq_true rfl⟩ (fun H locs hP hS _ _ => ?_)
    refine lv_iload_n hx hb dX9_wave_5 rfl (lv_at hl 2 rfl) ?_
    refine lv_iconst (v := 0) hx hb dX9_wave_6 (by decide) ?_
    refine lv_ldc (v := 65535) hx hb hown (hts (.constant RX9 53 65535) (by decide +kernel)) dX9_wave_7 ?_
    by_cases q2 : p2 < (0 : Int32) ∨ (65535 : Int32) < p2
    ·
      exact g_thrS (As := [.int p2, .int 0, .int 65535]) (rest := []) ⟨hx, hb, hml, hown, hts⟩ (t_X9_needWithin l hfl G cA (a 37) 37 a (cM a cA) S L H.size p2 (0 : Int32) (65535 : Int32) q2) (va_cwS 3 hts gX9_wave_X9_needWithin rfl rfl rfl (by decide +kernel) ⟨Nat.le_of_ble_eq_true rfl, Nat.le_of_ble_eq_true rfl⟩) hK hX hP hS rfl hl.1 rfl (lv_room (Nat.le_of_ble_eq_true rfl)) dX9_wave_9 ⟨Nat.le_of_ble_eq_true rfl, Nat.le_of_ble_eq_true rfl⟩ hxt hlocks (by unfold kX9_wave; rw [if_neg q1, if_pos q2]; rfl) (Nat.le_of_ble_eq_true rfl) (Nat.le_of_ble_eq_true rfl)
    ·
      refine g_cSv (As := [.int p2, .int 0, .int 65535]) (rest := []) ⟨hx, hb, hml, hown, hts⟩ (c_X9_needWithin l G cA a ha S L H.size p2 (0 : Int32) (65535 : Int32) (fun h9 => q2 (Or.inl h9)) (Int32.not_lt.mp (fun h9 => q2 (Or.inr h9)))) (va_cwS 3 hts gX9_wave_X9_needWithin rfl rfl rfl (by decide +kernel) ⟨Nat.le_of_ble_eq_true rfl, Nat.le_of_ble_eq_true rfl⟩) hK (mA_mono hS.1) hP hS rfl hl.1 rfl (lv_room (Nat.le_of_ble_eq_true rfl)) dX9_wave_9 ⟨Nat.le_of_ble_eq_true rfl, Nat.le_of_ble_eq_true rfl⟩ (fun H locs hP hS _ _ => ?_)
      exact absurd (by unfold kX9_wave; rw [if_neg q1, if_neg q2]) hbad

def kX9_stride (S : Mm) (p1 : Int32) : Int32 := (if p1 < (0 : Int32) ∨ (47 : Int32) < p1 then (2 : Int32) else (0 : Int32))
set_option maxHeartbeats 4000000 in
set_option maxRecDepth 100000 in
theorem t_X9_stride (l : Launch) (hfl : l.stackTraces = false) (G : va_G) (cA : ClassId) (a : Nat → Nat) (ha : apart 37 a) (S : Mm) (L : Int64) (sz : Nat) (p1 : Int32) (hbad : ¬ kX9_stride S p1 = 0) : vx_Met l yX9_stride wsX9_stride ({ frames := 7, cells := 1, slots := 6, locals := 104 } : Room) (va_Pc [.ref (a 0), .int p1] (gX G cA (a 37) 37 a (cM a cA) S L sz)) (va_Qi (fun _ (_ : Unit) => False) (fun _ _ => True) (mA 37 a sz)) (xC (xN (kX9_stride S p1)) G 37 a (cM a cA) S L sz) 1 6 (mA 37 a sz) := by
  refine g_metX (cc := cX9_stride) (maxL := 2) (ret := (some .int)) (by decide) rfl (Nat.le_of_ble_eq_true rfl) ?_
  intro p e s m below meth c ls hx hb hr hlocks hml hts hown hxt hsz hK hX hP hS hl
  subst hsz
  have hl : lv_has ls 2 [(0, .ref (a 0)), (1, .int p1)] := hl
  refine lv_iload_n hx hb dX9_stride_0 rfl (lv_at hl 1 rfl) ?_
  refine lv_iconst (v := 0) hx hb dX9_stride_1 (by decide) ?_
  refine lv_bipush (v := 47) hx hb dX9_stride_2 (by decide) ?_
  by_cases q1 : p1 < (0 : Int32) ∨ (47 : Int32) < p1
  ·
    exact g_thrS (As := [.int p1, .int 0, .int 47]) (rest := []) ⟨hx, hb, hml, hown, hts⟩ (t_X9_needWithin l hfl G cA (a 37) 37 a (cM a cA) S L s.heap.size p1 (0 : Int32) (47 : Int32) q1) (va_cwS 3 hts gX9_stride_X9_needWithin rfl rfl rfl (by decide +kernel) ⟨Nat.le_of_ble_eq_true rfl, Nat.le_of_ble_eq_true rfl⟩) hK hX hP hS rfl hl.1 rfl (lv_room (Nat.le_of_ble_eq_true rfl)) dX9_stride_4 ⟨Nat.le_of_ble_eq_true rfl, Nat.le_of_ble_eq_true rfl⟩ hxt hlocks (by unfold kX9_stride; rw [if_pos q1]; rfl) (Nat.le_of_ble_eq_true rfl) (Nat.le_of_ble_eq_true rfl)
  ·
    refine g_cSv (As := [.int p1, .int 0, .int 47]) (rest := []) ⟨hx, hb, hml, hown, hts⟩ (c_X9_needWithin l G cA a ha S L s.heap.size p1 (0 : Int32) (47 : Int32) (fun h9 => q1 (Or.inl h9)) (Int32.not_lt.mp (fun h9 => q1 (Or.inr h9)))) (va_cwS 3 hts gX9_stride_X9_needWithin rfl rfl rfl (by decide +kernel) ⟨Nat.le_of_ble_eq_true rfl, Nat.le_of_ble_eq_true rfl⟩) hK (mA_mono hS.1) hP hS rfl hl.1 rfl (lv_room (Nat.le_of_ble_eq_true rfl)) dX9_stride_4 ⟨Nat.le_of_ble_eq_true rfl, Nat.le_of_ble_eq_true rfl⟩ (fun H locs hP hS _ _ => ?_)
    exact absurd (by unfold kX9_stride; rw [if_neg q1]) hbad

def kX9_setWaves (S : Mm) (p1 : Int32) (p2 : Int32) (p3 : Int32) (p4 : Int32) (p5 : Int32) : Int32 := (if p1 < 0 ∨ (4 : Int32) ≤ p1 then (1 : Int32) else (if p2 < 0 ∨ (4 : Int32) ≤ p2 then (1 : Int32) else (if p3 < 0 ∨ (4 : Int32) ≤ p3 then (1 : Int32) else (if p4 < ((-64) : Int32) ∨ (64 : Int32) < p4 then (2 : Int32) else (if p5 < (0 : Int32) ∨ (100 : Int32) < p5 then (2 : Int32) else (0 : Int32))))))
set_option maxHeartbeats 4000000 in
set_option maxRecDepth 100000 in
theorem t_X9_setWaves (l : Launch) (hfl : l.stackTraces = false) (G : va_G) (cA : ClassId) (a : Nat → Nat) (ha : apart 37 a) (S : Mm) (L : Int64) (sz : Nat) (p1 : Int32) (p2 : Int32) (p3 : Int32) (p4 : Int32) (p5 : Int32) (hbad : ¬ kX9_setWaves S p1 p2 p3 p4 p5 = 0) : vx_Met l yX9_setWaves wsX9_setWaves ({ frames := 7, cells := 1, slots := 6, locals := 104 } : Room) (va_Pc [.ref (a 0), .int p1, .int p2, .int p3, .int p4, .int p5] (gX G cA (a 37) 37 a (cM a cA) S L sz)) (va_Qi (fun _ (_ : Unit) => False) (fun _ _ => True) (mA 37 a sz)) (xC (xN (kX9_setWaves S p1 p2 p3 p4 p5)) G 37 a (cM a cA) S L sz) 1 6 (mA 37 a sz) := by
  refine g_metX (cc := cX9_setWaves) (maxL := 8) (ret := (some .int)) (by decide) rfl (Nat.le_of_ble_eq_true rfl) ?_
  intro p e s m below meth c ls hx hb hr hlocks hml hts hown hxt hsz hK hX hP hS hl
  subst hsz
  have hl : lv_has ls 8 [(0, .ref (a 0)), (1, .int p1), (2, .int p2), (3, .int p3), (4, .int p4), (5, .int p5)] := hl
  refine lv_iload_n hx hb dX9_setWaves_0 rfl (lv_at hl 1 rfl) ?_
  refine lv_iconst (v := 4) hx hb dX9_setWaves_1 (by decide) ?_
  by_cases q1 : p1 < 0 ∨ (4 : Int32) ≤ p1
  ·
    exact g_thrS (As := [.int p1, .int 4]) (rest := []) ⟨hx, hb, hml, hown, hts⟩ (t_X9_needPlace l hfl G cA (a 37) 37 a (cM a cA) S L s.heap.size p1 (4 : Int32) q1) (va_cwS 2 hts gX9_setWaves_X9_needPlace rfl rfl rfl (by decide +kernel) ⟨Nat.le_of_ble_eq_true rfl, Nat.le_of_ble_eq_true rfl⟩) hK hX hP hS rfl hl.1 rfl (lv_room (Nat.le_of_ble_eq_true rfl)) dX9_setWaves_2 ⟨Nat.le_of_ble_eq_true rfl, Nat.le_of_ble_eq_true rfl⟩ hxt hlocks (by unfold kX9_setWaves; rw [if_pos q1]; rfl) (Nat.le_of_ble_eq_true rfl) (Nat.le_of_ble_eq_true rfl)
  ·
    refine g_cSv (As := [.int p1, .int 4]) (rest := []) ⟨hx, hb, hml, hown, hts⟩ (c_X9_needPlace l G cA a ha S L s.heap.size p1 (4 : Int32) (fun h9 => q1 (Or.inl h9)) (Int32.not_le.mp (fun h9 => q1 (Or.inr h9)))) (va_cwS 2 hts gX9_setWaves_X9_needPlace rfl rfl rfl (by decide +kernel) ⟨Nat.le_of_ble_eq_true rfl, Nat.le_of_ble_eq_true rfl⟩) hK (mA_mono hS.1) hP hS rfl hl.1 rfl (lv_room (Nat.le_of_ble_eq_true rfl)) dX9_setWaves_2 ⟨Nat.le_of_ble_eq_true rfl, Nat.le_of_ble_eq_true rfl⟩ (fun H locs hP hS _ _ => ?_)
    refine lv_iload_n hx hb dX9_setWaves_5 rfl (lv_at hl 2 rfl) ?_
    refine lv_iconst (v := 4) hx hb dX9_setWaves_6 (by decide) ?_
    by_cases q2 : p2 < 0 ∨ (4 : Int32) ≤ p2
    ·
      exact g_thrS (As := [.int p2, .int 4]) (rest := []) ⟨hx, hb, hml, hown, hts⟩ (t_X9_needPlace l hfl G cA (a 37) 37 a (cM a cA) S L H.size p2 (4 : Int32) q2) (va_cwS 2 hts gX9_setWaves_X9_needPlace rfl rfl rfl (by decide +kernel) ⟨Nat.le_of_ble_eq_true rfl, Nat.le_of_ble_eq_true rfl⟩) hK hX hP hS rfl hl.1 rfl (lv_room (Nat.le_of_ble_eq_true rfl)) dX9_setWaves_7 ⟨Nat.le_of_ble_eq_true rfl, Nat.le_of_ble_eq_true rfl⟩ hxt hlocks (by unfold kX9_setWaves; rw [if_neg q1, if_pos q2]; rfl) (Nat.le_of_ble_eq_true rfl) (Nat.le_of_ble_eq_true rfl)
    ·
      refine g_cSv (As := [.int p2, .int 4]) (rest := []) ⟨hx, hb, hml, hown, hts⟩ (c_X9_needPlace l G cA a ha S L H.size p2 (4 : Int32) (fun h9 => q2 (Or.inl h9)) (Int32.not_le.mp (fun h9 => q2 (Or.inr h9)))) (va_cwS 2 hts gX9_setWaves_X9_needPlace rfl rfl rfl (by decide +kernel) ⟨Nat.le_of_ble_eq_true rfl, Nat.le_of_ble_eq_true rfl⟩) hK (mA_mono hS.1) hP hS rfl hl.1 rfl (lv_room (Nat.le_of_ble_eq_true rfl)) dX9_setWaves_7 ⟨Nat.le_of_ble_eq_true rfl, Nat.le_of_ble_eq_true rfl⟩ (fun H locs hP hS _ _ => ?_)
      refine lv_iload_n hx hb dX9_setWaves_10 rfl (lv_at hl 3 rfl) ?_
      refine lv_iconst (v := 4) hx hb dX9_setWaves_11 (by decide) ?_
      by_cases q3 : p3 < 0 ∨ (4 : Int32) ≤ p3
      ·
        exact g_thrS (As := [.int p3, .int 4]) (rest := []) ⟨hx, hb, hml, hown, hts⟩ (t_X9_needPlace l hfl G cA (a 37) 37 a (cM a cA) S L H.size p3 (4 : Int32) q3) (va_cwS 2 hts gX9_setWaves_X9_needPlace rfl rfl rfl (by decide +kernel) ⟨Nat.le_of_ble_eq_true rfl, Nat.le_of_ble_eq_true rfl⟩) hK hX hP hS rfl hl.1 rfl (lv_room (Nat.le_of_ble_eq_true rfl)) dX9_setWaves_12 ⟨Nat.le_of_ble_eq_true rfl, Nat.le_of_ble_eq_true rfl⟩ hxt hlocks (by unfold kX9_setWaves; rw [if_neg q1, if_neg q2, if_pos q3]; rfl) (Nat.le_of_ble_eq_true rfl) (Nat.le_of_ble_eq_true rfl)
      ·
        refine g_cSv (As := [.int p3, .int 4]) (rest := []) ⟨hx, hb, hml, hown, hts⟩ (c_X9_needPlace l G cA a ha S L H.size p3 (4 : Int32) (fun h9 => q3 (Or.inl h9)) (Int32.not_le.mp (fun h9 => q3 (Or.inr h9)))) (va_cwS 2 hts gX9_setWaves_X9_needPlace rfl rfl rfl (by decide +kernel) ⟨Nat.le_of_ble_eq_true rfl, Nat.le_of_ble_eq_true rfl⟩) hK (mA_mono hS.1) hP hS rfl hl.1 rfl (lv_room (Nat.le_of_ble_eq_true rfl)) dX9_setWaves_12 ⟨Nat.le_of_ble_eq_true rfl, Nat.le_of_ble_eq_true rfl⟩ (fun H locs hP hS _ _ => ?_)
        refine lv_iload hx hb dX9_setWaves_15 (lv_at hl 4 rfl) ?_
        refine lv_bipush (v := (-64)) hx hb dX9_setWaves_17 (by decide) ?_
        refine lv_bipush (v := 64) hx hb dX9_setWaves_19 (by decide) ?_
        by_cases q4 : p4 < ((-64) : Int32) ∨ (64 : Int32) < p4
        ·
          exact g_thrS (As := [.int p4, .int (-64), .int 64]) (rest := []) ⟨hx, hb, hml, hown, hts⟩ (t_X9_needWithin l hfl G cA (a 37) 37 a (cM a cA) S L H.size p4 ((-64) : Int32) (64 : Int32) q4) (va_cwS 3 hts gX9_setWaves_X9_needWithin rfl rfl rfl (by decide +kernel) ⟨Nat.le_of_ble_eq_true rfl, Nat.le_of_ble_eq_true rfl⟩) hK hX hP hS rfl hl.1 rfl (lv_room (Nat.le_of_ble_eq_true rfl)) dX9_setWaves_21 ⟨Nat.le_of_ble_eq_true rfl, Nat.le_of_ble_eq_true rfl⟩ hxt hlocks (by unfold kX9_setWaves; rw [if_neg q1, if_neg q2, if_neg q3, if_pos q4]; rfl) (Nat.le_of_ble_eq_true rfl) (Nat.le_of_ble_eq_true rfl)
        ·
          refine g_cSv (As := [.int p4, .int (-64), .int 64]) (rest := []) ⟨hx, hb, hml, hown, hts⟩ (c_X9_needWithin l G cA a ha S L H.size p4 ((-64) : Int32) (64 : Int32) (fun h9 => q4 (Or.inl h9)) (Int32.not_lt.mp (fun h9 => q4 (Or.inr h9)))) (va_cwS 3 hts gX9_setWaves_X9_needWithin rfl rfl rfl (by decide +kernel) ⟨Nat.le_of_ble_eq_true rfl, Nat.le_of_ble_eq_true rfl⟩) hK (mA_mono hS.1) hP hS rfl hl.1 rfl (lv_room (Nat.le_of_ble_eq_true rfl)) dX9_setWaves_21 ⟨Nat.le_of_ble_eq_true rfl, Nat.le_of_ble_eq_true rfl⟩ (fun H locs hP hS _ _ => ?_)
          refine lv_iload hx hb dX9_setWaves_24 (lv_at hl 5 rfl) ?_
          refine lv_iconst (v := 0) hx hb dX9_setWaves_26 (by decide) ?_
          refine lv_bipush (v := 100) hx hb dX9_setWaves_27 (by decide) ?_
          by_cases q5 : p5 < (0 : Int32) ∨ (100 : Int32) < p5
          ·
            exact g_thrS (As := [.int p5, .int 0, .int 100]) (rest := []) ⟨hx, hb, hml, hown, hts⟩ (t_X9_needWithin l hfl G cA (a 37) 37 a (cM a cA) S L H.size p5 (0 : Int32) (100 : Int32) q5) (va_cwS 3 hts gX9_setWaves_X9_needWithin rfl rfl rfl (by decide +kernel) ⟨Nat.le_of_ble_eq_true rfl, Nat.le_of_ble_eq_true rfl⟩) hK hX hP hS rfl hl.1 rfl (lv_room (Nat.le_of_ble_eq_true rfl)) dX9_setWaves_29 ⟨Nat.le_of_ble_eq_true rfl, Nat.le_of_ble_eq_true rfl⟩ hxt hlocks (by unfold kX9_setWaves; rw [if_neg q1, if_neg q2, if_neg q3, if_neg q4, if_pos q5]; rfl) (Nat.le_of_ble_eq_true rfl) (Nat.le_of_ble_eq_true rfl)
          ·
            refine g_cSv (As := [.int p5, .int 0, .int 100]) (rest := []) ⟨hx, hb, hml, hown, hts⟩ (c_X9_needWithin l G cA a ha S L H.size p5 (0 : Int32) (100 : Int32) (fun h9 => q5 (Or.inl h9)) (Int32.not_lt.mp (fun h9 => q5 (Or.inr h9)))) (va_cwS 3 hts gX9_setWaves_X9_needWithin rfl rfl rfl (by decide +kernel) ⟨Nat.le_of_ble_eq_true rfl, Nat.le_of_ble_eq_true rfl⟩) hK (mA_mono hS.1) hP hS rfl hl.1 rfl (lv_room (Nat.le_of_ble_eq_true rfl)) dX9_setWaves_29 ⟨Nat.le_of_ble_eq_true rfl, Nat.le_of_ble_eq_true rfl⟩ (fun H locs hP hS _ _ => ?_)
            exact absurd (by unfold kX9_setWaves; rw [if_neg q1, if_neg q2, if_neg q3, if_neg q4, if_neg q5]) hbad

def kX9_setEnvelope (S : Mm) (p1 : Int32) (p2 : Int32) (p3 : Int32) (p4 : Int32) (p5 : Int32) : Int32 := (if p1 < 0 ∨ (4 : Int32) ≤ p1 then (1 : Int32) else (if p2 < (1 : Int32) ∨ (400 : Int32) < p2 then (2 : Int32) else (if p3 < (1 : Int32) ∨ (400 : Int32) < p3 then (2 : Int32) else (if p4 < (0 : Int32) ∨ (1000 : Int32) < p4 then (2 : Int32) else (if p5 < (1 : Int32) ∨ (400 : Int32) < p5 then (2 : Int32) else (0 : Int32))))))
set_option maxHeartbeats 4000000 in
set_option maxRecDepth 100000 in
theorem t_X9_setEnvelope (l : Launch) (hfl : l.stackTraces = false) (G : va_G) (cA : ClassId) (a : Nat → Nat) (ha : apart 37 a) (S : Mm) (L : Int64) (sz : Nat) (p1 : Int32) (p2 : Int32) (p3 : Int32) (p4 : Int32) (p5 : Int32) (hbad : ¬ kX9_setEnvelope S p1 p2 p3 p4 p5 = 0) : vx_Met l yX9_setEnvelope wsX9_setEnvelope ({ frames := 7, cells := 1, slots := 6, locals := 104 } : Room) (va_Pc [.ref (a 0), .int p1, .int p2, .int p3, .int p4, .int p5] (gX G cA (a 37) 37 a (cM a cA) S L sz)) (va_Qi (fun _ (_ : Unit) => False) (fun _ _ => True) (mA 37 a sz)) (xC (xN (kX9_setEnvelope S p1 p2 p3 p4 p5)) G 37 a (cM a cA) S L sz) 1 6 (mA 37 a sz) := by
  refine g_metX (cc := cX9_setEnvelope) (maxL := 8) (ret := (some .int)) (by decide) rfl (Nat.le_of_ble_eq_true rfl) ?_
  intro p e s m below meth c ls hx hb hr hlocks hml hts hown hxt hsz hK hX hP hS hl
  subst hsz
  have hl : lv_has ls 8 [(0, .ref (a 0)), (1, .int p1), (2, .int p2), (3, .int p3), (4, .int p4), (5, .int p5)] := hl
  refine lv_iload_n hx hb dX9_setEnvelope_0 rfl (lv_at hl 1 rfl) ?_
  refine lv_iconst (v := 4) hx hb dX9_setEnvelope_1 (by decide) ?_
  by_cases q1 : p1 < 0 ∨ (4 : Int32) ≤ p1
  ·
    exact g_thrS (As := [.int p1, .int 4]) (rest := []) ⟨hx, hb, hml, hown, hts⟩ (t_X9_needPlace l hfl G cA (a 37) 37 a (cM a cA) S L s.heap.size p1 (4 : Int32) q1) (va_cwS 2 hts gX9_setEnvelope_X9_needPlace rfl rfl rfl (by decide +kernel) ⟨Nat.le_of_ble_eq_true rfl, Nat.le_of_ble_eq_true rfl⟩) hK hX hP hS rfl hl.1 rfl (lv_room (Nat.le_of_ble_eq_true rfl)) dX9_setEnvelope_2 ⟨Nat.le_of_ble_eq_true rfl, Nat.le_of_ble_eq_true rfl⟩ hxt hlocks (by unfold kX9_setEnvelope; rw [if_pos q1]; rfl) (Nat.le_of_ble_eq_true rfl) (Nat.le_of_ble_eq_true rfl)
  ·
    refine g_cSv (As := [.int p1, .int 4]) (rest := []) ⟨hx, hb, hml, hown, hts⟩ (c_X9_needPlace l G cA a ha S L s.heap.size p1 (4 : Int32) (fun h9 => q1 (Or.inl h9)) (Int32.not_le.mp (fun h9 => q1 (Or.inr h9)))) (va_cwS 2 hts gX9_setEnvelope_X9_needPlace rfl rfl rfl (by decide +kernel) ⟨Nat.le_of_ble_eq_true rfl, Nat.le_of_ble_eq_true rfl⟩) hK (mA_mono hS.1) hP hS rfl hl.1 rfl (lv_room (Nat.le_of_ble_eq_true rfl)) dX9_setEnvelope_2 ⟨Nat.le_of_ble_eq_true rfl, Nat.le_of_ble_eq_true rfl⟩ (fun H locs hP hS _ _ => ?_)
    refine lv_iload_n hx hb dX9_setEnvelope_5 rfl (lv_at hl 2 rfl) ?_
    refine lv_iconst (v := 1) hx hb dX9_setEnvelope_6 (by decide) ?_
    refine lv_sipush (v := 400) hx hb dX9_setEnvelope_7 (by decide) ?_
    by_cases q2 : p2 < (1 : Int32) ∨ (400 : Int32) < p2
    ·
      exact g_thrS (As := [.int p2, .int 1, .int 400]) (rest := []) ⟨hx, hb, hml, hown, hts⟩ (t_X9_needWithin l hfl G cA (a 37) 37 a (cM a cA) S L H.size p2 (1 : Int32) (400 : Int32) q2) (va_cwS 3 hts gX9_setEnvelope_X9_needWithin rfl rfl rfl (by decide +kernel) ⟨Nat.le_of_ble_eq_true rfl, Nat.le_of_ble_eq_true rfl⟩) hK hX hP hS rfl hl.1 rfl (lv_room (Nat.le_of_ble_eq_true rfl)) dX9_setEnvelope_10 ⟨Nat.le_of_ble_eq_true rfl, Nat.le_of_ble_eq_true rfl⟩ hxt hlocks (by unfold kX9_setEnvelope; rw [if_neg q1, if_pos q2]; rfl) (Nat.le_of_ble_eq_true rfl) (Nat.le_of_ble_eq_true rfl)
    ·
      refine g_cSv (As := [.int p2, .int 1, .int 400]) (rest := []) ⟨hx, hb, hml, hown, hts⟩ (c_X9_needWithin l G cA a ha S L H.size p2 (1 : Int32) (400 : Int32) (fun h9 => q2 (Or.inl h9)) (Int32.not_lt.mp (fun h9 => q2 (Or.inr h9)))) (va_cwS 3 hts gX9_setEnvelope_X9_needWithin rfl rfl rfl (by decide +kernel) ⟨Nat.le_of_ble_eq_true rfl, Nat.le_of_ble_eq_true rfl⟩) hK (mA_mono hS.1) hP hS rfl hl.1 rfl (lv_room (Nat.le_of_ble_eq_true rfl)) dX9_setEnvelope_10 ⟨Nat.le_of_ble_eq_true rfl, Nat.le_of_ble_eq_true rfl⟩ (fun H locs hP hS _ _ => ?_)
      refine lv_iload_n hx hb dX9_setEnvelope_13 rfl (lv_at hl 3 rfl) ?_
      refine lv_iconst (v := 1) hx hb dX9_setEnvelope_14 (by decide) ?_
      refine lv_sipush (v := 400) hx hb dX9_setEnvelope_15 (by decide) ?_
      by_cases q3 : p3 < (1 : Int32) ∨ (400 : Int32) < p3
      ·
        exact g_thrS (As := [.int p3, .int 1, .int 400]) (rest := []) ⟨hx, hb, hml, hown, hts⟩ (t_X9_needWithin l hfl G cA (a 37) 37 a (cM a cA) S L H.size p3 (1 : Int32) (400 : Int32) q3) (va_cwS 3 hts gX9_setEnvelope_X9_needWithin rfl rfl rfl (by decide +kernel) ⟨Nat.le_of_ble_eq_true rfl, Nat.le_of_ble_eq_true rfl⟩) hK hX hP hS rfl hl.1 rfl (lv_room (Nat.le_of_ble_eq_true rfl)) dX9_setEnvelope_18 ⟨Nat.le_of_ble_eq_true rfl, Nat.le_of_ble_eq_true rfl⟩ hxt hlocks (by unfold kX9_setEnvelope; rw [if_neg q1, if_neg q2, if_pos q3]; rfl) (Nat.le_of_ble_eq_true rfl) (Nat.le_of_ble_eq_true rfl)
      ·
        refine g_cSv (As := [.int p3, .int 1, .int 400]) (rest := []) ⟨hx, hb, hml, hown, hts⟩ (c_X9_needWithin l G cA a ha S L H.size p3 (1 : Int32) (400 : Int32) (fun h9 => q3 (Or.inl h9)) (Int32.not_lt.mp (fun h9 => q3 (Or.inr h9)))) (va_cwS 3 hts gX9_setEnvelope_X9_needWithin rfl rfl rfl (by decide +kernel) ⟨Nat.le_of_ble_eq_true rfl, Nat.le_of_ble_eq_true rfl⟩) hK (mA_mono hS.1) hP hS rfl hl.1 rfl (lv_room (Nat.le_of_ble_eq_true rfl)) dX9_setEnvelope_18 ⟨Nat.le_of_ble_eq_true rfl, Nat.le_of_ble_eq_true rfl⟩ (fun H locs hP hS _ _ => ?_)
        refine lv_iload hx hb dX9_setEnvelope_21 (lv_at hl 4 rfl) ?_
        refine lv_iconst (v := 0) hx hb dX9_setEnvelope_23 (by decide) ?_
        refine lv_sipush (v := 1000) hx hb dX9_setEnvelope_24 (by decide) ?_
        by_cases q4 : p4 < (0 : Int32) ∨ (1000 : Int32) < p4
        ·
          exact g_thrS (As := [.int p4, .int 0, .int 1000]) (rest := []) ⟨hx, hb, hml, hown, hts⟩ (t_X9_needWithin l hfl G cA (a 37) 37 a (cM a cA) S L H.size p4 (0 : Int32) (1000 : Int32) q4) (va_cwS 3 hts gX9_setEnvelope_X9_needWithin rfl rfl rfl (by decide +kernel) ⟨Nat.le_of_ble_eq_true rfl, Nat.le_of_ble_eq_true rfl⟩) hK hX hP hS rfl hl.1 rfl (lv_room (Nat.le_of_ble_eq_true rfl)) dX9_setEnvelope_27 ⟨Nat.le_of_ble_eq_true rfl, Nat.le_of_ble_eq_true rfl⟩ hxt hlocks (by unfold kX9_setEnvelope; rw [if_neg q1, if_neg q2, if_neg q3, if_pos q4]; rfl) (Nat.le_of_ble_eq_true rfl) (Nat.le_of_ble_eq_true rfl)
        ·
          refine g_cSv (As := [.int p4, .int 0, .int 1000]) (rest := []) ⟨hx, hb, hml, hown, hts⟩ (c_X9_needWithin l G cA a ha S L H.size p4 (0 : Int32) (1000 : Int32) (fun h9 => q4 (Or.inl h9)) (Int32.not_lt.mp (fun h9 => q4 (Or.inr h9)))) (va_cwS 3 hts gX9_setEnvelope_X9_needWithin rfl rfl rfl (by decide +kernel) ⟨Nat.le_of_ble_eq_true rfl, Nat.le_of_ble_eq_true rfl⟩) hK (mA_mono hS.1) hP hS rfl hl.1 rfl (lv_room (Nat.le_of_ble_eq_true rfl)) dX9_setEnvelope_27 ⟨Nat.le_of_ble_eq_true rfl, Nat.le_of_ble_eq_true rfl⟩ (fun H locs hP hS _ _ => ?_)
          refine lv_iload hx hb dX9_setEnvelope_30 (lv_at hl 5 rfl) ?_
          refine lv_iconst (v := 1) hx hb dX9_setEnvelope_32 (by decide) ?_
          refine lv_sipush (v := 400) hx hb dX9_setEnvelope_33 (by decide) ?_
          by_cases q5 : p5 < (1 : Int32) ∨ (400 : Int32) < p5
          ·
            exact g_thrS (As := [.int p5, .int 1, .int 400]) (rest := []) ⟨hx, hb, hml, hown, hts⟩ (t_X9_needWithin l hfl G cA (a 37) 37 a (cM a cA) S L H.size p5 (1 : Int32) (400 : Int32) q5) (va_cwS 3 hts gX9_setEnvelope_X9_needWithin rfl rfl rfl (by decide +kernel) ⟨Nat.le_of_ble_eq_true rfl, Nat.le_of_ble_eq_true rfl⟩) hK hX hP hS rfl hl.1 rfl (lv_room (Nat.le_of_ble_eq_true rfl)) dX9_setEnvelope_36 ⟨Nat.le_of_ble_eq_true rfl, Nat.le_of_ble_eq_true rfl⟩ hxt hlocks (by unfold kX9_setEnvelope; rw [if_neg q1, if_neg q2, if_neg q3, if_neg q4, if_pos q5]; rfl) (Nat.le_of_ble_eq_true rfl) (Nat.le_of_ble_eq_true rfl)
          ·
            refine g_cSv (As := [.int p5, .int 1, .int 400]) (rest := []) ⟨hx, hb, hml, hown, hts⟩ (c_X9_needWithin l G cA a ha S L H.size p5 (1 : Int32) (400 : Int32) (fun h9 => q5 (Or.inl h9)) (Int32.not_lt.mp (fun h9 => q5 (Or.inr h9)))) (va_cwS 3 hts gX9_setEnvelope_X9_needWithin rfl rfl rfl (by decide +kernel) ⟨Nat.le_of_ble_eq_true rfl, Nat.le_of_ble_eq_true rfl⟩) hK (mA_mono hS.1) hP hS rfl hl.1 rfl (lv_room (Nat.le_of_ble_eq_true rfl)) dX9_setEnvelope_36 ⟨Nat.le_of_ble_eq_true rfl, Nat.le_of_ble_eq_true rfl⟩ (fun H locs hP hS _ _ => ?_)
            exact absurd (by unfold kX9_setEnvelope; rw [if_neg q1, if_neg q2, if_neg q3, if_neg q4, if_neg q5]) hbad

def kX9_setFilter (S : Mm) (p1 : Int32) (p2 : Int32) (p3 : Int32) : Int32 := (if p1 < 0 ∨ (4 : Int32) ≤ p1 then (1 : Int32) else (if p2 < (1 : Int32) ∨ (128 : Int32) < p2 then (2 : Int32) else (if p3 < (16 : Int32) ∨ (256 : Int32) < p3 then (2 : Int32) else (0 : Int32))))
set_option maxHeartbeats 4000000 in
set_option maxRecDepth 100000 in
theorem t_X9_setFilter (l : Launch) (hfl : l.stackTraces = false) (G : va_G) (cA : ClassId) (a : Nat → Nat) (ha : apart 37 a) (S : Mm) (L : Int64) (sz : Nat) (p1 : Int32) (p2 : Int32) (p3 : Int32) (hbad : ¬ kX9_setFilter S p1 p2 p3 = 0) : vx_Met l yX9_setFilter wsX9_setFilter ({ frames := 7, cells := 1, slots := 6, locals := 104 } : Room) (va_Pc [.ref (a 0), .int p1, .int p2, .int p3] (gX G cA (a 37) 37 a (cM a cA) S L sz)) (va_Qi (fun _ (_ : Unit) => False) (fun _ _ => True) (mA 37 a sz)) (xC (xN (kX9_setFilter S p1 p2 p3)) G 37 a (cM a cA) S L sz) 1 6 (mA 37 a sz) := by
  refine g_metX (cc := cX9_setFilter) (maxL := 6) (ret := (some .int)) (by decide) rfl (Nat.le_of_ble_eq_true rfl) ?_
  intro p e s m below meth c ls hx hb hr hlocks hml hts hown hxt hsz hK hX hP hS hl
  subst hsz
  have hl : lv_has ls 6 [(0, .ref (a 0)), (1, .int p1), (2, .int p2), (3, .int p3)] := hl
  refine lv_iload_n hx hb dX9_setFilter_0 rfl (lv_at hl 1 rfl) ?_
  refine lv_iconst (v := 4) hx hb dX9_setFilter_1 (by decide) ?_
  by_cases q1 : p1 < 0 ∨ (4 : Int32) ≤ p1
  ·
    exact g_thrS (As := [.int p1, .int 4]) (rest := []) ⟨hx, hb, hml, hown, hts⟩ (t_X9_needPlace l hfl G cA (a 37) 37 a (cM a cA) S L s.heap.size p1 (4 : Int32) q1) (va_cwS 2 hts gX9_setFilter_X9_needPlace rfl rfl rfl (by decide +kernel) ⟨Nat.le_of_ble_eq_true rfl, Nat.le_of_ble_eq_true rfl⟩) hK hX hP hS rfl hl.1 rfl (lv_room (Nat.le_of_ble_eq_true rfl)) dX9_setFilter_2 ⟨Nat.le_of_ble_eq_true rfl, Nat.le_of_ble_eq_true rfl⟩ hxt hlocks (by unfold kX9_setFilter; rw [if_pos q1]; rfl) (Nat.le_of_ble_eq_true rfl) (Nat.le_of_ble_eq_true rfl)
  ·
    refine g_cSv (As := [.int p1, .int 4]) (rest := []) ⟨hx, hb, hml, hown, hts⟩ (c_X9_needPlace l G cA a ha S L s.heap.size p1 (4 : Int32) (fun h9 => q1 (Or.inl h9)) (Int32.not_le.mp (fun h9 => q1 (Or.inr h9)))) (va_cwS 2 hts gX9_setFilter_X9_needPlace rfl rfl rfl (by decide +kernel) ⟨Nat.le_of_ble_eq_true rfl, Nat.le_of_ble_eq_true rfl⟩) hK (mA_mono hS.1) hP hS rfl hl.1 rfl (lv_room (Nat.le_of_ble_eq_true rfl)) dX9_setFilter_2 ⟨Nat.le_of_ble_eq_true rfl, Nat.le_of_ble_eq_true rfl⟩ (fun H locs hP hS _ _ => ?_)
    refine lv_iload_n hx hb dX9_setFilter_5 rfl (lv_at hl 2 rfl) ?_
    refine lv_iconst (v := 1) hx hb dX9_setFilter_6 (by decide) ?_
    refine lv_sipush (v := 128) hx hb dX9_setFilter_7 (by decide) ?_
    by_cases q2 : p2 < (1 : Int32) ∨ (128 : Int32) < p2
    ·
      exact g_thrS (As := [.int p2, .int 1, .int 128]) (rest := []) ⟨hx, hb, hml, hown, hts⟩ (t_X9_needWithin l hfl G cA (a 37) 37 a (cM a cA) S L H.size p2 (1 : Int32) (128 : Int32) q2) (va_cwS 3 hts gX9_setFilter_X9_needWithin rfl rfl rfl (by decide +kernel) ⟨Nat.le_of_ble_eq_true rfl, Nat.le_of_ble_eq_true rfl⟩) hK hX hP hS rfl hl.1 rfl (lv_room (Nat.le_of_ble_eq_true rfl)) dX9_setFilter_10 ⟨Nat.le_of_ble_eq_true rfl, Nat.le_of_ble_eq_true rfl⟩ hxt hlocks (by unfold kX9_setFilter; rw [if_neg q1, if_pos q2]; rfl) (Nat.le_of_ble_eq_true rfl) (Nat.le_of_ble_eq_true rfl)
    ·
      refine g_cSv (As := [.int p2, .int 1, .int 128]) (rest := []) ⟨hx, hb, hml, hown, hts⟩ (c_X9_needWithin l G cA a ha S L H.size p2 (1 : Int32) (128 : Int32) (fun h9 => q2 (Or.inl h9)) (Int32.not_lt.mp (fun h9 => q2 (Or.inr h9)))) (va_cwS 3 hts gX9_setFilter_X9_needWithin rfl rfl rfl (by decide +kernel) ⟨Nat.le_of_ble_eq_true rfl, Nat.le_of_ble_eq_true rfl⟩) hK (mA_mono hS.1) hP hS rfl hl.1 rfl (lv_room (Nat.le_of_ble_eq_true rfl)) dX9_setFilter_10 ⟨Nat.le_of_ble_eq_true rfl, Nat.le_of_ble_eq_true rfl⟩ (fun H locs hP hS _ _ => ?_)
      refine lv_iload_n hx hb dX9_setFilter_13 rfl (lv_at hl 3 rfl) ?_
      refine lv_bipush (v := 16) hx hb dX9_setFilter_14 (by decide) ?_
      refine lv_sipush (v := 256) hx hb dX9_setFilter_16 (by decide) ?_
      by_cases q3 : p3 < (16 : Int32) ∨ (256 : Int32) < p3
      ·
        exact g_thrS (As := [.int p3, .int 16, .int 256]) (rest := []) ⟨hx, hb, hml, hown, hts⟩ (t_X9_needWithin l hfl G cA (a 37) 37 a (cM a cA) S L H.size p3 (16 : Int32) (256 : Int32) q3) (va_cwS 3 hts gX9_setFilter_X9_needWithin rfl rfl rfl (by decide +kernel) ⟨Nat.le_of_ble_eq_true rfl, Nat.le_of_ble_eq_true rfl⟩) hK hX hP hS rfl hl.1 rfl (lv_room (Nat.le_of_ble_eq_true rfl)) dX9_setFilter_19 ⟨Nat.le_of_ble_eq_true rfl, Nat.le_of_ble_eq_true rfl⟩ hxt hlocks (by unfold kX9_setFilter; rw [if_neg q1, if_neg q2, if_pos q3]; rfl) (Nat.le_of_ble_eq_true rfl) (Nat.le_of_ble_eq_true rfl)
      ·
        refine g_cSv (As := [.int p3, .int 16, .int 256]) (rest := []) ⟨hx, hb, hml, hown, hts⟩ (c_X9_needWithin l G cA a ha S L H.size p3 (16 : Int32) (256 : Int32) (fun h9 => q3 (Or.inl h9)) (Int32.not_lt.mp (fun h9 => q3 (Or.inr h9)))) (va_cwS 3 hts gX9_setFilter_X9_needWithin rfl rfl rfl (by decide +kernel) ⟨Nat.le_of_ble_eq_true rfl, Nat.le_of_ble_eq_true rfl⟩) hK (mA_mono hS.1) hP hS rfl hl.1 rfl (lv_room (Nat.le_of_ble_eq_true rfl)) dX9_setFilter_19 ⟨Nat.le_of_ble_eq_true rfl, Nat.le_of_ble_eq_true rfl⟩ (fun H locs hP hS _ _ => ?_)
        exact absurd (by unfold kX9_setFilter; rw [if_neg q1, if_neg q2, if_neg q3]) hbad

def kX9_setVibrato (S : Mm) (p1 : Int32) (p2 : Int32) (p3 : Int32) : Int32 := (if p1 < 0 ∨ (4 : Int32) ≤ p1 then (1 : Int32) else (if p2 < (0 : Int32) ∨ (64 : Int32) < p2 then (2 : Int32) else (if p3 < (8 : Int32) ∨ (255 : Int32) < p3 then (2 : Int32) else (0 : Int32))))
set_option maxHeartbeats 4000000 in
set_option maxRecDepth 100000 in
theorem t_X9_setVibrato (l : Launch) (hfl : l.stackTraces = false) (G : va_G) (cA : ClassId) (a : Nat → Nat) (ha : apart 37 a) (S : Mm) (L : Int64) (sz : Nat) (p1 : Int32) (p2 : Int32) (p3 : Int32) (hbad : ¬ kX9_setVibrato S p1 p2 p3 = 0) : vx_Met l yX9_setVibrato wsX9_setVibrato ({ frames := 7, cells := 1, slots := 6, locals := 104 } : Room) (va_Pc [.ref (a 0), .int p1, .int p2, .int p3] (gX G cA (a 37) 37 a (cM a cA) S L sz)) (va_Qi (fun _ (_ : Unit) => False) (fun _ _ => True) (mA 37 a sz)) (xC (xN (kX9_setVibrato S p1 p2 p3)) G 37 a (cM a cA) S L sz) 1 6 (mA 37 a sz) := by
  refine g_metX (cc := cX9_setVibrato) (maxL := 6) (ret := (some .int)) (by decide) rfl (Nat.le_of_ble_eq_true rfl) ?_
  intro p e s m below meth c ls hx hb hr hlocks hml hts hown hxt hsz hK hX hP hS hl
  subst hsz
  have hl : lv_has ls 6 [(0, .ref (a 0)), (1, .int p1), (2, .int p2), (3, .int p3)] := hl
  refine lv_iload_n hx hb dX9_setVibrato_0 rfl (lv_at hl 1 rfl) ?_
  refine lv_iconst (v := 4) hx hb dX9_setVibrato_1 (by decide) ?_
  by_cases q1 : p1 < 0 ∨ (4 : Int32) ≤ p1
  ·
    exact g_thrS (As := [.int p1, .int 4]) (rest := []) ⟨hx, hb, hml, hown, hts⟩ (t_X9_needPlace l hfl G cA (a 37) 37 a (cM a cA) S L s.heap.size p1 (4 : Int32) q1) (va_cwS 2 hts gX9_setVibrato_X9_needPlace rfl rfl rfl (by decide +kernel) ⟨Nat.le_of_ble_eq_true rfl, Nat.le_of_ble_eq_true rfl⟩) hK hX hP hS rfl hl.1 rfl (lv_room (Nat.le_of_ble_eq_true rfl)) dX9_setVibrato_2 ⟨Nat.le_of_ble_eq_true rfl, Nat.le_of_ble_eq_true rfl⟩ hxt hlocks (by unfold kX9_setVibrato; rw [if_pos q1]; rfl) (Nat.le_of_ble_eq_true rfl) (Nat.le_of_ble_eq_true rfl)
  ·
    refine g_cSv (As := [.int p1, .int 4]) (rest := []) ⟨hx, hb, hml, hown, hts⟩ (c_X9_needPlace l G cA a ha S L s.heap.size p1 (4 : Int32) (fun h9 => q1 (Or.inl h9)) (Int32.not_le.mp (fun h9 => q1 (Or.inr h9)))) (va_cwS 2 hts gX9_setVibrato_X9_needPlace rfl rfl rfl (by decide +kernel) ⟨Nat.le_of_ble_eq_true rfl, Nat.le_of_ble_eq_true rfl⟩) hK (mA_mono hS.1) hP hS rfl hl.1 rfl (lv_room (Nat.le_of_ble_eq_true rfl)) dX9_setVibrato_2 ⟨Nat.le_of_ble_eq_true rfl, Nat.le_of_ble_eq_true rfl⟩ (fun H locs hP hS _ _ => ?_)
    refine lv_iload_n hx hb dX9_setVibrato_5 rfl (lv_at hl 2 rfl) ?_
    refine lv_iconst (v := 0) hx hb dX9_setVibrato_6 (by decide) ?_
    refine lv_bipush (v := 64) hx hb dX9_setVibrato_7 (by decide) ?_
    by_cases q2 : p2 < (0 : Int32) ∨ (64 : Int32) < p2
    ·
      exact g_thrS (As := [.int p2, .int 0, .int 64]) (rest := []) ⟨hx, hb, hml, hown, hts⟩ (t_X9_needWithin l hfl G cA (a 37) 37 a (cM a cA) S L H.size p2 (0 : Int32) (64 : Int32) q2) (va_cwS 3 hts gX9_setVibrato_X9_needWithin rfl rfl rfl (by decide +kernel) ⟨Nat.le_of_ble_eq_true rfl, Nat.le_of_ble_eq_true rfl⟩) hK hX hP hS rfl hl.1 rfl (lv_room (Nat.le_of_ble_eq_true rfl)) dX9_setVibrato_9 ⟨Nat.le_of_ble_eq_true rfl, Nat.le_of_ble_eq_true rfl⟩ hxt hlocks (by unfold kX9_setVibrato; rw [if_neg q1, if_pos q2]; rfl) (Nat.le_of_ble_eq_true rfl) (Nat.le_of_ble_eq_true rfl)
    ·
      refine g_cSv (As := [.int p2, .int 0, .int 64]) (rest := []) ⟨hx, hb, hml, hown, hts⟩ (c_X9_needWithin l G cA a ha S L H.size p2 (0 : Int32) (64 : Int32) (fun h9 => q2 (Or.inl h9)) (Int32.not_lt.mp (fun h9 => q2 (Or.inr h9)))) (va_cwS 3 hts gX9_setVibrato_X9_needWithin rfl rfl rfl (by decide +kernel) ⟨Nat.le_of_ble_eq_true rfl, Nat.le_of_ble_eq_true rfl⟩) hK (mA_mono hS.1) hP hS rfl hl.1 rfl (lv_room (Nat.le_of_ble_eq_true rfl)) dX9_setVibrato_9 ⟨Nat.le_of_ble_eq_true rfl, Nat.le_of_ble_eq_true rfl⟩ (fun H locs hP hS _ _ => ?_)
      refine lv_iload_n hx hb dX9_setVibrato_12 rfl (lv_at hl 3 rfl) ?_
      refine lv_bipush (v := 8) hx hb dX9_setVibrato_13 (by decide) ?_
      refine lv_sipush (v := 255) hx hb dX9_setVibrato_15 (by decide) ?_
      by_cases q3 : p3 < (8 : Int32) ∨ (255 : Int32) < p3
      ·
        exact g_thrS (As := [.int p3, .int 8, .int 255]) (rest := []) ⟨hx, hb, hml, hown, hts⟩ (t_X9_needWithin l hfl G cA (a 37) 37 a (cM a cA) S L H.size p3 (8 : Int32) (255 : Int32) q3) (va_cwS 3 hts gX9_setVibrato_X9_needWithin rfl rfl rfl (by decide +kernel) ⟨Nat.le_of_ble_eq_true rfl, Nat.le_of_ble_eq_true rfl⟩) hK hX hP hS rfl hl.1 rfl (lv_room (Nat.le_of_ble_eq_true rfl)) dX9_setVibrato_18 ⟨Nat.le_of_ble_eq_true rfl, Nat.le_of_ble_eq_true rfl⟩ hxt hlocks (by unfold kX9_setVibrato; rw [if_neg q1, if_neg q2, if_pos q3]; rfl) (Nat.le_of_ble_eq_true rfl) (Nat.le_of_ble_eq_true rfl)
      ·
        refine g_cSv (As := [.int p3, .int 8, .int 255]) (rest := []) ⟨hx, hb, hml, hown, hts⟩ (c_X9_needWithin l G cA a ha S L H.size p3 (8 : Int32) (255 : Int32) (fun h9 => q3 (Or.inl h9)) (Int32.not_lt.mp (fun h9 => q3 (Or.inr h9)))) (va_cwS 3 hts gX9_setVibrato_X9_needWithin rfl rfl rfl (by decide +kernel) ⟨Nat.le_of_ble_eq_true rfl, Nat.le_of_ble_eq_true rfl⟩) hK (mA_mono hS.1) hP hS rfl hl.1 rfl (lv_room (Nat.le_of_ble_eq_true rfl)) dX9_setVibrato_18 ⟨Nat.le_of_ble_eq_true rfl, Nat.le_of_ble_eq_true rfl⟩ (fun H locs hP hS _ _ => ?_)
        exact absurd (by unfold kX9_setVibrato; rw [if_neg q1, if_neg q2, if_neg q3]) hbad

def kX9_setGain (S : Mm) (p1 : Int32) : Int32 := (if p1 < (0 : Int32) ∨ (256 : Int32) < p1 then (2 : Int32) else (0 : Int32))
set_option maxHeartbeats 4000000 in
set_option maxRecDepth 100000 in
theorem t_X9_setGain (l : Launch) (hfl : l.stackTraces = false) (G : va_G) (cA : ClassId) (a : Nat → Nat) (ha : apart 37 a) (S : Mm) (L : Int64) (sz : Nat) (p1 : Int32) (hbad : ¬ kX9_setGain S p1 = 0) : vx_Met l yX9_setGain wsX9_setGain ({ frames := 7, cells := 1, slots := 6, locals := 104 } : Room) (va_Pc [.ref (a 0), .int p1] (gX G cA (a 37) 37 a (cM a cA) S L sz)) (va_Qi (fun _ (_ : Unit) => False) (fun _ _ => True) (mA 37 a sz)) (xC (xN (kX9_setGain S p1)) G 37 a (cM a cA) S L sz) 1 6 (mA 37 a sz) := by
  refine g_metX (cc := cX9_setGain) (maxL := 3) (ret := (some .int)) (by decide) rfl (Nat.le_of_ble_eq_true rfl) ?_
  intro p e s m below meth c ls hx hb hr hlocks hml hts hown hxt hsz hK hX hP hS hl
  subst hsz
  have hl : lv_has ls 3 [(0, .ref (a 0)), (1, .int p1)] := hl
  refine lv_iload_n hx hb dX9_setGain_0 rfl (lv_at hl 1 rfl) ?_
  refine lv_iconst (v := 0) hx hb dX9_setGain_1 (by decide) ?_
  refine lv_sipush (v := 256) hx hb dX9_setGain_2 (by decide) ?_
  by_cases q1 : p1 < (0 : Int32) ∨ (256 : Int32) < p1
  ·
    exact g_thrS (As := [.int p1, .int 0, .int 256]) (rest := []) ⟨hx, hb, hml, hown, hts⟩ (t_X9_needWithin l hfl G cA (a 37) 37 a (cM a cA) S L s.heap.size p1 (0 : Int32) (256 : Int32) q1) (va_cwS 3 hts gX9_setGain_X9_needWithin rfl rfl rfl (by decide +kernel) ⟨Nat.le_of_ble_eq_true rfl, Nat.le_of_ble_eq_true rfl⟩) hK hX hP hS rfl hl.1 rfl (lv_room (Nat.le_of_ble_eq_true rfl)) dX9_setGain_5 ⟨Nat.le_of_ble_eq_true rfl, Nat.le_of_ble_eq_true rfl⟩ hxt hlocks (by unfold kX9_setGain; rw [if_pos q1]; rfl) (Nat.le_of_ble_eq_true rfl) (Nat.le_of_ble_eq_true rfl)
  ·
    refine g_cSv (As := [.int p1, .int 0, .int 256]) (rest := []) ⟨hx, hb, hml, hown, hts⟩ (c_X9_needWithin l G cA a ha S L s.heap.size p1 (0 : Int32) (256 : Int32) (fun h9 => q1 (Or.inl h9)) (Int32.not_lt.mp (fun h9 => q1 (Or.inr h9)))) (va_cwS 3 hts gX9_setGain_X9_needWithin rfl rfl rfl (by decide +kernel) ⟨Nat.le_of_ble_eq_true rfl, Nat.le_of_ble_eq_true rfl⟩) hK (mA_mono hS.1) hP hS rfl hl.1 rfl (lv_room (Nat.le_of_ble_eq_true rfl)) dX9_setGain_5 ⟨Nat.le_of_ble_eq_true rfl, Nat.le_of_ble_eq_true rfl⟩ (fun H locs hP hS _ _ => ?_)
    exact absurd (by unfold kX9_setGain; rw [if_neg q1]) hbad

def kX9_setDelay (S : Mm) (p1 : Int32) (p2 : Int32) (p3 : Int32) : Int32 := (if p1 < (0 : Int32) ∨ (200 : Int32) < p1 then (2 : Int32) else (if p2 < (0 : Int32) ∨ (256 : Int32) < p2 then (2 : Int32) else (if p3 < (0 : Int32) ∨ (256 : Int32) < p3 then (2 : Int32) else (0 : Int32))))
set_option maxHeartbeats 4000000 in
set_option maxRecDepth 100000 in
theorem t_X9_setDelay (l : Launch) (hfl : l.stackTraces = false) (G : va_G) (cA : ClassId) (a : Nat → Nat) (ha : apart 37 a) (S : Mm) (L : Int64) (sz : Nat) (p1 : Int32) (p2 : Int32) (p3 : Int32) (hbad : ¬ kX9_setDelay S p1 p2 p3 = 0) : vx_Met l yX9_setDelay wsX9_setDelay ({ frames := 7, cells := 1, slots := 6, locals := 104 } : Room) (va_Pc [.ref (a 0), .int p1, .int p2, .int p3] (gX G cA (a 37) 37 a (cM a cA) S L sz)) (va_Qi (fun _ (_ : Unit) => False) (fun _ _ => True) (mA 37 a sz)) (xC (xN (kX9_setDelay S p1 p2 p3)) G 37 a (cM a cA) S L sz) 1 6 (mA 37 a sz) := by
  refine g_metX (cc := cX9_setDelay) (maxL := 5) (ret := (some .int)) (by decide) rfl (Nat.le_of_ble_eq_true rfl) ?_
  intro p e s m below meth c ls hx hb hr hlocks hml hts hown hxt hsz hK hX hP hS hl
  subst hsz
  have hl : lv_has ls 5 [(0, .ref (a 0)), (1, .int p1), (2, .int p2), (3, .int p3)] := hl
  refine lv_iload_n hx hb dX9_setDelay_0 rfl (lv_at hl 1 rfl) ?_
  refine lv_iconst (v := 0) hx hb dX9_setDelay_1 (by decide) ?_
  refine lv_sipush (v := 200) hx hb dX9_setDelay_2 (by decide) ?_
  by_cases q1 : p1 < (0 : Int32) ∨ (200 : Int32) < p1
  ·
    exact g_thrS (As := [.int p1, .int 0, .int 200]) (rest := []) ⟨hx, hb, hml, hown, hts⟩ (t_X9_needWithin l hfl G cA (a 37) 37 a (cM a cA) S L s.heap.size p1 (0 : Int32) (200 : Int32) q1) (va_cwS 3 hts gX9_setDelay_X9_needWithin rfl rfl rfl (by decide +kernel) ⟨Nat.le_of_ble_eq_true rfl, Nat.le_of_ble_eq_true rfl⟩) hK hX hP hS rfl hl.1 rfl (lv_room (Nat.le_of_ble_eq_true rfl)) dX9_setDelay_5 ⟨Nat.le_of_ble_eq_true rfl, Nat.le_of_ble_eq_true rfl⟩ hxt hlocks (by unfold kX9_setDelay; rw [if_pos q1]; rfl) (Nat.le_of_ble_eq_true rfl) (Nat.le_of_ble_eq_true rfl)
  ·
    refine g_cSv (As := [.int p1, .int 0, .int 200]) (rest := []) ⟨hx, hb, hml, hown, hts⟩ (c_X9_needWithin l G cA a ha S L s.heap.size p1 (0 : Int32) (200 : Int32) (fun h9 => q1 (Or.inl h9)) (Int32.not_lt.mp (fun h9 => q1 (Or.inr h9)))) (va_cwS 3 hts gX9_setDelay_X9_needWithin rfl rfl rfl (by decide +kernel) ⟨Nat.le_of_ble_eq_true rfl, Nat.le_of_ble_eq_true rfl⟩) hK (mA_mono hS.1) hP hS rfl hl.1 rfl (lv_room (Nat.le_of_ble_eq_true rfl)) dX9_setDelay_5 ⟨Nat.le_of_ble_eq_true rfl, Nat.le_of_ble_eq_true rfl⟩ (fun H locs hP hS _ _ => ?_)
    refine lv_iload_n hx hb dX9_setDelay_8 rfl (lv_at hl 2 rfl) ?_
    refine lv_iconst (v := 0) hx hb dX9_setDelay_9 (by decide) ?_
    refine lv_sipush (v := 256) hx hb dX9_setDelay_10 (by decide) ?_
    by_cases q2 : p2 < (0 : Int32) ∨ (256 : Int32) < p2
    ·
      exact g_thrS (As := [.int p2, .int 0, .int 256]) (rest := []) ⟨hx, hb, hml, hown, hts⟩ (t_X9_needWithin l hfl G cA (a 37) 37 a (cM a cA) S L H.size p2 (0 : Int32) (256 : Int32) q2) (va_cwS 3 hts gX9_setDelay_X9_needWithin rfl rfl rfl (by decide +kernel) ⟨Nat.le_of_ble_eq_true rfl, Nat.le_of_ble_eq_true rfl⟩) hK hX hP hS rfl hl.1 rfl (lv_room (Nat.le_of_ble_eq_true rfl)) dX9_setDelay_13 ⟨Nat.le_of_ble_eq_true rfl, Nat.le_of_ble_eq_true rfl⟩ hxt hlocks (by unfold kX9_setDelay; rw [if_neg q1, if_pos q2]; rfl) (Nat.le_of_ble_eq_true rfl) (Nat.le_of_ble_eq_true rfl)
    ·
      refine g_cSv (As := [.int p2, .int 0, .int 256]) (rest := []) ⟨hx, hb, hml, hown, hts⟩ (c_X9_needWithin l G cA a ha S L H.size p2 (0 : Int32) (256 : Int32) (fun h9 => q2 (Or.inl h9)) (Int32.not_lt.mp (fun h9 => q2 (Or.inr h9)))) (va_cwS 3 hts gX9_setDelay_X9_needWithin rfl rfl rfl (by decide +kernel) ⟨Nat.le_of_ble_eq_true rfl, Nat.le_of_ble_eq_true rfl⟩) hK (mA_mono hS.1) hP hS rfl hl.1 rfl (lv_room (Nat.le_of_ble_eq_true rfl)) dX9_setDelay_13 ⟨Nat.le_of_ble_eq_true rfl, Nat.le_of_ble_eq_true rfl⟩ (fun H locs hP hS _ _ => ?_)
      refine lv_iload_n hx hb dX9_setDelay_16 rfl (lv_at hl 3 rfl) ?_
      refine lv_iconst (v := 0) hx hb dX9_setDelay_17 (by decide) ?_
      refine lv_sipush (v := 256) hx hb dX9_setDelay_18 (by decide) ?_
      by_cases q3 : p3 < (0 : Int32) ∨ (256 : Int32) < p3
      ·
        exact g_thrS (As := [.int p3, .int 0, .int 256]) (rest := []) ⟨hx, hb, hml, hown, hts⟩ (t_X9_needWithin l hfl G cA (a 37) 37 a (cM a cA) S L H.size p3 (0 : Int32) (256 : Int32) q3) (va_cwS 3 hts gX9_setDelay_X9_needWithin rfl rfl rfl (by decide +kernel) ⟨Nat.le_of_ble_eq_true rfl, Nat.le_of_ble_eq_true rfl⟩) hK hX hP hS rfl hl.1 rfl (lv_room (Nat.le_of_ble_eq_true rfl)) dX9_setDelay_21 ⟨Nat.le_of_ble_eq_true rfl, Nat.le_of_ble_eq_true rfl⟩ hxt hlocks (by unfold kX9_setDelay; rw [if_neg q1, if_neg q2, if_pos q3]; rfl) (Nat.le_of_ble_eq_true rfl) (Nat.le_of_ble_eq_true rfl)
      ·
        refine g_cSv (As := [.int p3, .int 0, .int 256]) (rest := []) ⟨hx, hb, hml, hown, hts⟩ (c_X9_needWithin l G cA a ha S L H.size p3 (0 : Int32) (256 : Int32) (fun h9 => q3 (Or.inl h9)) (Int32.not_lt.mp (fun h9 => q3 (Or.inr h9)))) (va_cwS 3 hts gX9_setDelay_X9_needWithin rfl rfl rfl (by decide +kernel) ⟨Nat.le_of_ble_eq_true rfl, Nat.le_of_ble_eq_true rfl⟩) hK (mA_mono hS.1) hP hS rfl hl.1 rfl (lv_room (Nat.le_of_ble_eq_true rfl)) dX9_setDelay_21 ⟨Nat.le_of_ble_eq_true rfl, Nat.le_of_ble_eq_true rfl⟩ (fun H locs hP hS _ _ => ?_)
        exact absurd (by unfold kX9_setDelay; rw [if_neg q1, if_neg q2, if_neg q3]) hbad

def kX9_begin (S : Mm) (p1 : Int32) (p2 : Int32) (p3 : Int32) : Int32 := (if p1 < 0 ∨ (4 : Int32) ≤ p1 then (1 : Int32) else (if p2 < (0 : Int32) ∨ (47 : Int32) < p2 then (2 : Int32) else (if p3 < (1 : Int32) ∨ (127 : Int32) < p3 then (2 : Int32) else (0 : Int32))))
set_option maxHeartbeats 4000000 in
set_option maxRecDepth 100000 in
theorem t_X9_begin (l : Launch) (hfl : l.stackTraces = false) (G : va_G) (cA : ClassId) (a : Nat → Nat) (ha : apart 37 a) (S : Mm) (L : Int64) (sz : Nat) (p1 : Int32) (p2 : Int32) (p3 : Int32) (hbad : ¬ kX9_begin S p1 p2 p3 = 0) : vx_Met l yX9_begin wsX9_begin ({ frames := 7, cells := 1, slots := 6, locals := 104 } : Room) (va_Pc [.ref (a 0), .int p1, .int p2, .int p3] (gX G cA (a 37) 37 a (cM a cA) S L sz)) (va_Qi (fun _ (_ : Unit) => False) (fun _ _ => True) (mA 37 a sz)) (xC (xN (kX9_begin S p1 p2 p3)) G 37 a (cM a cA) S L sz) 1 6 (mA 37 a sz) := by
  refine g_metX (cc := cX9_begin) (maxL := 4) (ret := (some .int)) (by decide) rfl (Nat.le_of_ble_eq_true rfl) ?_
  intro p e s m below meth c ls hx hb hr hlocks hml hts hown hxt hsz hK hX hP hS hl
  subst hsz
  have hl : lv_has ls 4 [(0, .ref (a 0)), (1, .int p1), (2, .int p2), (3, .int p3)] := hl
  refine lv_iload_n hx hb dX9_begin_0 rfl (lv_at hl 1 rfl) ?_
  refine lv_iconst (v := 4) hx hb dX9_begin_1 (by decide) ?_
  by_cases q1 : p1 < 0 ∨ (4 : Int32) ≤ p1
  ·
    exact g_thrS (As := [.int p1, .int 4]) (rest := []) ⟨hx, hb, hml, hown, hts⟩ (t_X9_needPlace l hfl G cA (a 37) 37 a (cM a cA) S L s.heap.size p1 (4 : Int32) q1) (va_cwS 2 hts gX9_begin_X9_needPlace rfl rfl rfl (by decide +kernel) ⟨Nat.le_of_ble_eq_true rfl, Nat.le_of_ble_eq_true rfl⟩) hK hX hP hS rfl hl.1 rfl (lv_room (Nat.le_of_ble_eq_true rfl)) dX9_begin_2 ⟨Nat.le_of_ble_eq_true rfl, Nat.le_of_ble_eq_true rfl⟩ hxt hlocks (by unfold kX9_begin; rw [if_pos q1]; rfl) (Nat.le_of_ble_eq_true rfl) (Nat.le_of_ble_eq_true rfl)
  ·
    refine g_cSv (As := [.int p1, .int 4]) (rest := []) ⟨hx, hb, hml, hown, hts⟩ (c_X9_needPlace l G cA a ha S L s.heap.size p1 (4 : Int32) (fun h9 => q1 (Or.inl h9)) (Int32.not_le.mp (fun h9 => q1 (Or.inr h9)))) (va_cwS 2 hts gX9_begin_X9_needPlace rfl rfl rfl (by decide +kernel) ⟨Nat.le_of_ble_eq_true rfl, Nat.le_of_ble_eq_true rfl⟩) hK (mA_mono hS.1) hP hS rfl hl.1 rfl (lv_room (Nat.le_of_ble_eq_true rfl)) dX9_begin_2 ⟨Nat.le_of_ble_eq_true rfl, Nat.le_of_ble_eq_true rfl⟩ (fun H locs hP hS _ _ => ?_)
    refine lv_iload_n hx hb dX9_begin_5 rfl (lv_at hl 2 rfl) ?_
    refine lv_iconst (v := 0) hx hb dX9_begin_6 (by decide) ?_
    refine lv_bipush (v := 47) hx hb dX9_begin_7 (by decide) ?_
    by_cases q2 : p2 < (0 : Int32) ∨ (47 : Int32) < p2
    ·
      exact g_thrS (As := [.int p2, .int 0, .int 47]) (rest := []) ⟨hx, hb, hml, hown, hts⟩ (t_X9_needWithin l hfl G cA (a 37) 37 a (cM a cA) S L H.size p2 (0 : Int32) (47 : Int32) q2) (va_cwS 3 hts gX9_begin_X9_needWithin rfl rfl rfl (by decide +kernel) ⟨Nat.le_of_ble_eq_true rfl, Nat.le_of_ble_eq_true rfl⟩) hK hX hP hS rfl hl.1 rfl (lv_room (Nat.le_of_ble_eq_true rfl)) dX9_begin_9 ⟨Nat.le_of_ble_eq_true rfl, Nat.le_of_ble_eq_true rfl⟩ hxt hlocks (by unfold kX9_begin; rw [if_neg q1, if_pos q2]; rfl) (Nat.le_of_ble_eq_true rfl) (Nat.le_of_ble_eq_true rfl)
    ·
      refine g_cSv (As := [.int p2, .int 0, .int 47]) (rest := []) ⟨hx, hb, hml, hown, hts⟩ (c_X9_needWithin l G cA a ha S L H.size p2 (0 : Int32) (47 : Int32) (fun h9 => q2 (Or.inl h9)) (Int32.not_lt.mp (fun h9 => q2 (Or.inr h9)))) (va_cwS 3 hts gX9_begin_X9_needWithin rfl rfl rfl (by decide +kernel) ⟨Nat.le_of_ble_eq_true rfl, Nat.le_of_ble_eq_true rfl⟩) hK (mA_mono hS.1) hP hS rfl hl.1 rfl (lv_room (Nat.le_of_ble_eq_true rfl)) dX9_begin_9 ⟨Nat.le_of_ble_eq_true rfl, Nat.le_of_ble_eq_true rfl⟩ (fun H locs hP hS _ _ => ?_)
      refine lv_iload_n hx hb dX9_begin_12 rfl (lv_at hl 3 rfl) ?_
      refine lv_iconst (v := 1) hx hb dX9_begin_13 (by decide) ?_
      refine lv_bipush (v := 127) hx hb dX9_begin_14 (by decide) ?_
      by_cases q3 : p3 < (1 : Int32) ∨ (127 : Int32) < p3
      ·
        exact g_thrS (As := [.int p3, .int 1, .int 127]) (rest := []) ⟨hx, hb, hml, hown, hts⟩ (t_X9_needWithin l hfl G cA (a 37) 37 a (cM a cA) S L H.size p3 (1 : Int32) (127 : Int32) q3) (va_cwS 3 hts gX9_begin_X9_needWithin rfl rfl rfl (by decide +kernel) ⟨Nat.le_of_ble_eq_true rfl, Nat.le_of_ble_eq_true rfl⟩) hK hX hP hS rfl hl.1 rfl (lv_room (Nat.le_of_ble_eq_true rfl)) dX9_begin_16 ⟨Nat.le_of_ble_eq_true rfl, Nat.le_of_ble_eq_true rfl⟩ hxt hlocks (by unfold kX9_begin; rw [if_neg q1, if_neg q2, if_pos q3]; rfl) (Nat.le_of_ble_eq_true rfl) (Nat.le_of_ble_eq_true rfl)
      ·
        refine g_cSv (As := [.int p3, .int 1, .int 127]) (rest := []) ⟨hx, hb, hml, hown, hts⟩ (c_X9_needWithin l G cA a ha S L H.size p3 (1 : Int32) (127 : Int32) (fun h9 => q3 (Or.inl h9)) (Int32.not_lt.mp (fun h9 => q3 (Or.inr h9)))) (va_cwS 3 hts gX9_begin_X9_needWithin rfl rfl rfl (by decide +kernel) ⟨Nat.le_of_ble_eq_true rfl, Nat.le_of_ble_eq_true rfl⟩) hK (mA_mono hS.1) hP hS rfl hl.1 rfl (lv_room (Nat.le_of_ble_eq_true rfl)) dX9_begin_16 ⟨Nat.le_of_ble_eq_true rfl, Nat.le_of_ble_eq_true rfl⟩ (fun H locs hP hS _ _ => ?_)
        exact absurd (by unfold kX9_begin; rw [if_neg q1, if_neg q2, if_neg q3]) hbad

def kX9_end (S : Mm) (p1 : Int32) : Int32 := (if p1 < 0 ∨ (4 : Int32) ≤ p1 then (1 : Int32) else (0 : Int32))
set_option maxHeartbeats 4000000 in
set_option maxRecDepth 100000 in
theorem t_X9_end (l : Launch) (hfl : l.stackTraces = false) (G : va_G) (cA : ClassId) (a : Nat → Nat) (ha : apart 37 a) (S : Mm) (L : Int64) (sz : Nat) (p1 : Int32) (hbad : ¬ kX9_end S p1 = 0) : vx_Met l yX9_end wsX9_end ({ frames := 7, cells := 1, slots := 6, locals := 103 } : Room) (va_Pc [.ref (a 0), .int p1] (gX G cA (a 37) 37 a (cM a cA) S L sz)) (va_Qi (fun _ (_ : Unit) => False) (fun _ _ => True) (mA 37 a sz)) (xC (xN (kX9_end S p1)) G 37 a (cM a cA) S L sz) 1 6 (mA 37 a sz) := by
  refine g_metX (cc := cX9_end) (maxL := 4) (ret := (some .int)) (by decide) rfl (Nat.le_of_ble_eq_true rfl) ?_
  intro p e s m below meth c ls hx hb hr hlocks hml hts hown hxt hsz hK hX hP hS hl
  subst hsz
  have hl : lv_has ls 4 [(0, .ref (a 0)), (1, .int p1)] := hl
  refine lv_iload_n hx hb dX9_end_0 rfl (lv_at hl 1 rfl) ?_
  refine lv_iconst (v := 4) hx hb dX9_end_1 (by decide) ?_
  by_cases q1 : p1 < 0 ∨ (4 : Int32) ≤ p1
  ·
    exact g_thrS (As := [.int p1, .int 4]) (rest := []) ⟨hx, hb, hml, hown, hts⟩ (t_X9_needPlace l hfl G cA (a 37) 37 a (cM a cA) S L s.heap.size p1 (4 : Int32) q1) (va_cwS 2 hts gX9_end_X9_needPlace rfl rfl rfl (by decide +kernel) ⟨Nat.le_of_ble_eq_true rfl, Nat.le_of_ble_eq_true rfl⟩) hK hX hP hS rfl hl.1 rfl (lv_room (Nat.le_of_ble_eq_true rfl)) dX9_end_2 ⟨Nat.le_of_ble_eq_true rfl, Nat.le_of_ble_eq_true rfl⟩ hxt hlocks (by unfold kX9_end; rw [if_pos q1]; rfl) (Nat.le_of_ble_eq_true rfl) (Nat.le_of_ble_eq_true rfl)
  ·
    refine g_cSv (As := [.int p1, .int 4]) (rest := []) ⟨hx, hb, hml, hown, hts⟩ (c_X9_needPlace l G cA a ha S L s.heap.size p1 (4 : Int32) (fun h9 => q1 (Or.inl h9)) (Int32.not_le.mp (fun h9 => q1 (Or.inr h9)))) (va_cwS 2 hts gX9_end_X9_needPlace rfl rfl rfl (by decide +kernel) ⟨Nat.le_of_ble_eq_true rfl, Nat.le_of_ble_eq_true rfl⟩) hK (mA_mono hS.1) hP hS rfl hl.1 rfl (lv_room (Nat.le_of_ble_eq_true rfl)) dX9_end_2 ⟨Nat.le_of_ble_eq_true rfl, Nat.le_of_ble_eq_true rfl⟩ (fun H locs hP hS _ _ => ?_)
    exact absurd (by unfold kX9_end; rw [if_neg q1]) hbad

def kX9_write (S : Mm) (p1 : Int32) (p2 : Int32) (p3 : Int32) (p4 : Int32) (p5 : Int32) : Int32 := (if p1 < 0 ∨ (3 : Int32) ≤ p1 then (1 : Int32) else (if p2 < 0 ∨ (8 : Int32) ≤ p2 then (1 : Int32) else (if p3 < ((-1) : Int32) ∨ (47 : Int32) < p3 then (2 : Int32) else (if p3 = (-1) then (0 : Int32) else (if p4 < (1 : Int32) ∨ (127 : Int32) < p4 then (2 : Int32) else (if p5 < (1 : Int32) ∨ (200 : Int32) < p5 then (2 : Int32) else (0 : Int32)))))))
set_option maxHeartbeats 4000000 in
set_option maxRecDepth 100000 in
theorem t_X9_write (l : Launch) (hfl : l.stackTraces = false) (G : va_G) (cA : ClassId) (a : Nat → Nat) (ha : apart 37 a) (S : Mm) (L : Int64) (sz : Nat) (p1 : Int32) (p2 : Int32) (p3 : Int32) (p4 : Int32) (p5 : Int32) (hbad : ¬ kX9_write S p1 p2 p3 p4 p5 = 0) : vx_Met l yX9_write wsX9_write ({ frames := 7, cells := 1, slots := 6, locals := 104 } : Room) (va_Pc [.ref (a 0), .int p1, .int p2, .int p3, .int p4, .int p5] (gX G cA (a 37) 37 a (cM a cA) S L sz)) (va_Qi (fun _ (_ : Unit) => False) (fun _ _ => True) (mA 37 a sz)) (xC (xN (kX9_write S p1 p2 p3 p4 p5)) G 37 a (cM a cA) S L sz) 1 6 (mA 37 a sz) := by
  refine g_metX (cc := cX9_write) (maxL := 7) (ret := (some .int)) (by decide) rfl (Nat.le_of_ble_eq_true rfl) ?_
  intro p e s m below meth c ls hx hb hr hlocks hml hts hown hxt hsz hK hX hP hS hl
  subst hsz
  have hl : lv_has ls 7 [(0, .ref (a 0)), (1, .int p1), (2, .int p2), (3, .int p3), (4, .int p4), (5, .int p5)] := hl
  refine lv_iload_n hx hb dX9_write_0 rfl (lv_at hl 1 rfl) ?_
  refine lv_iconst (v := 3) hx hb dX9_write_1 (by decide) ?_
  by_cases q1 : p1 < 0 ∨ (3 : Int32) ≤ p1
  ·
    exact g_thrS (As := [.int p1, .int 3]) (rest := []) ⟨hx, hb, hml, hown, hts⟩ (t_X9_needPlace l hfl G cA (a 37) 37 a (cM a cA) S L s.heap.size p1 (3 : Int32) q1) (va_cwS 2 hts gX9_write_X9_needPlace rfl rfl rfl (by decide +kernel) ⟨Nat.le_of_ble_eq_true rfl, Nat.le_of_ble_eq_true rfl⟩) hK hX hP hS rfl hl.1 rfl (lv_room (Nat.le_of_ble_eq_true rfl)) dX9_write_2 ⟨Nat.le_of_ble_eq_true rfl, Nat.le_of_ble_eq_true rfl⟩ hxt hlocks (by unfold kX9_write; rw [if_pos q1]; rfl) (Nat.le_of_ble_eq_true rfl) (Nat.le_of_ble_eq_true rfl)
  ·
    refine g_cSv (As := [.int p1, .int 3]) (rest := []) ⟨hx, hb, hml, hown, hts⟩ (c_X9_needPlace l G cA a ha S L s.heap.size p1 (3 : Int32) (fun h9 => q1 (Or.inl h9)) (Int32.not_le.mp (fun h9 => q1 (Or.inr h9)))) (va_cwS 2 hts gX9_write_X9_needPlace rfl rfl rfl (by decide +kernel) ⟨Nat.le_of_ble_eq_true rfl, Nat.le_of_ble_eq_true rfl⟩) hK (mA_mono hS.1) hP hS rfl hl.1 rfl (lv_room (Nat.le_of_ble_eq_true rfl)) dX9_write_2 ⟨Nat.le_of_ble_eq_true rfl, Nat.le_of_ble_eq_true rfl⟩ (fun H locs hP hS _ _ => ?_)
    refine lv_iload_n hx hb dX9_write_5 rfl (lv_at hl 2 rfl) ?_
    refine lv_bipush (v := 8) hx hb dX9_write_6 (by decide) ?_
    by_cases q2 : p2 < 0 ∨ (8 : Int32) ≤ p2
    ·
      exact g_thrS (As := [.int p2, .int 8]) (rest := []) ⟨hx, hb, hml, hown, hts⟩ (t_X9_needPlace l hfl G cA (a 37) 37 a (cM a cA) S L H.size p2 (8 : Int32) q2) (va_cwS 2 hts gX9_write_X9_needPlace rfl rfl rfl (by decide +kernel) ⟨Nat.le_of_ble_eq_true rfl, Nat.le_of_ble_eq_true rfl⟩) hK hX hP hS rfl hl.1 rfl (lv_room (Nat.le_of_ble_eq_true rfl)) dX9_write_8 ⟨Nat.le_of_ble_eq_true rfl, Nat.le_of_ble_eq_true rfl⟩ hxt hlocks (by unfold kX9_write; rw [if_neg q1, if_pos q2]; rfl) (Nat.le_of_ble_eq_true rfl) (Nat.le_of_ble_eq_true rfl)
    ·
      refine g_cSv (As := [.int p2, .int 8]) (rest := []) ⟨hx, hb, hml, hown, hts⟩ (c_X9_needPlace l G cA a ha S L H.size p2 (8 : Int32) (fun h9 => q2 (Or.inl h9)) (Int32.not_le.mp (fun h9 => q2 (Or.inr h9)))) (va_cwS 2 hts gX9_write_X9_needPlace rfl rfl rfl (by decide +kernel) ⟨Nat.le_of_ble_eq_true rfl, Nat.le_of_ble_eq_true rfl⟩) hK (mA_mono hS.1) hP hS rfl hl.1 rfl (lv_room (Nat.le_of_ble_eq_true rfl)) dX9_write_8 ⟨Nat.le_of_ble_eq_true rfl, Nat.le_of_ble_eq_true rfl⟩ (fun H locs hP hS _ _ => ?_)
      refine lv_iload_n hx hb dX9_write_11 rfl (lv_at hl 3 rfl) ?_
      refine lv_iconst (v := (-1)) hx hb dX9_write_12 (by decide) ?_
      refine lv_bipush (v := 47) hx hb dX9_write_13 (by decide) ?_
      by_cases q3 : p3 < ((-1) : Int32) ∨ (47 : Int32) < p3
      ·
        exact g_thrS (As := [.int p3, .int (-1), .int 47]) (rest := []) ⟨hx, hb, hml, hown, hts⟩ (t_X9_needWithin l hfl G cA (a 37) 37 a (cM a cA) S L H.size p3 ((-1) : Int32) (47 : Int32) q3) (va_cwS 3 hts gX9_write_X9_needWithin rfl rfl rfl (by decide +kernel) ⟨Nat.le_of_ble_eq_true rfl, Nat.le_of_ble_eq_true rfl⟩) hK hX hP hS rfl hl.1 rfl (lv_room (Nat.le_of_ble_eq_true rfl)) dX9_write_15 ⟨Nat.le_of_ble_eq_true rfl, Nat.le_of_ble_eq_true rfl⟩ hxt hlocks (by unfold kX9_write; rw [if_neg q1, if_neg q2, if_pos q3]; rfl) (Nat.le_of_ble_eq_true rfl) (Nat.le_of_ble_eq_true rfl)
      ·
        refine g_cSv (As := [.int p3, .int (-1), .int 47]) (rest := []) ⟨hx, hb, hml, hown, hts⟩ (c_X9_needWithin l G cA a ha S L H.size p3 ((-1) : Int32) (47 : Int32) (fun h9 => q3 (Or.inl h9)) (Int32.not_lt.mp (fun h9 => q3 (Or.inr h9)))) (va_cwS 3 hts gX9_write_X9_needWithin rfl rfl rfl (by decide +kernel) ⟨Nat.le_of_ble_eq_true rfl, Nat.le_of_ble_eq_true rfl⟩) hK (mA_mono hS.1) hP hS rfl hl.1 rfl (lv_room (Nat.le_of_ble_eq_true rfl)) dX9_write_15 ⟨Nat.le_of_ble_eq_true rfl, Nat.le_of_ble_eq_true rfl⟩ (fun H locs hP hS _ _ => ?_)
        refine lv_iload_n hx hb dX9_write_18 rfl (lv_at hl 3 rfl) ?_
        refine lv_iconst (v := (-1)) hx hb dX9_write_19 (by decide) ?_
        refine lv_icmp_eq (tgt := 40) hx hb dX9_write_20 (by decide) (fun c4 => ?_) (fun c4 => ?_)
        ·
          exact absurd (by unfold kX9_write; rw [if_neg q1, if_neg q2, if_neg q3, if_pos c4]) hbad
        ·
          refine lv_iload hx hb dX9_write_23 (lv_at hl 4 rfl) ?_
          refine lv_iconst (v := 1) hx hb dX9_write_25 (by decide) ?_
          refine lv_bipush (v := 127) hx hb dX9_write_26 (by decide) ?_
          by_cases q5 : p4 < (1 : Int32) ∨ (127 : Int32) < p4
          ·
            exact g_thrS (As := [.int p4, .int 1, .int 127]) (rest := []) ⟨hx, hb, hml, hown, hts⟩ (t_X9_needWithin l hfl G cA (a 37) 37 a (cM a cA) S L H.size p4 (1 : Int32) (127 : Int32) q5) (va_cwS 3 hts gX9_write_X9_needWithin rfl rfl rfl (by decide +kernel) ⟨Nat.le_of_ble_eq_true rfl, Nat.le_of_ble_eq_true rfl⟩) hK hX hP hS rfl hl.1 rfl (lv_room (Nat.le_of_ble_eq_true rfl)) dX9_write_28 ⟨Nat.le_of_ble_eq_true rfl, Nat.le_of_ble_eq_true rfl⟩ hxt hlocks (by unfold kX9_write; rw [if_neg q1, if_neg q2, if_neg q3, if_neg c4, if_pos q5]; rfl) (Nat.le_of_ble_eq_true rfl) (Nat.le_of_ble_eq_true rfl)
          ·
            refine g_cSv (As := [.int p4, .int 1, .int 127]) (rest := []) ⟨hx, hb, hml, hown, hts⟩ (c_X9_needWithin l G cA a ha S L H.size p4 (1 : Int32) (127 : Int32) (fun h9 => q5 (Or.inl h9)) (Int32.not_lt.mp (fun h9 => q5 (Or.inr h9)))) (va_cwS 3 hts gX9_write_X9_needWithin rfl rfl rfl (by decide +kernel) ⟨Nat.le_of_ble_eq_true rfl, Nat.le_of_ble_eq_true rfl⟩) hK (mA_mono hS.1) hP hS rfl hl.1 rfl (lv_room (Nat.le_of_ble_eq_true rfl)) dX9_write_28 ⟨Nat.le_of_ble_eq_true rfl, Nat.le_of_ble_eq_true rfl⟩ (fun H locs hP hS _ _ => ?_)
            refine lv_iload hx hb dX9_write_31 (lv_at hl 5 rfl) ?_
            refine lv_iconst (v := 1) hx hb dX9_write_33 (by decide) ?_
            refine lv_sipush (v := 200) hx hb dX9_write_34 (by decide) ?_
            by_cases q6 : p5 < (1 : Int32) ∨ (200 : Int32) < p5
            ·
              exact g_thrS (As := [.int p5, .int 1, .int 200]) (rest := []) ⟨hx, hb, hml, hown, hts⟩ (t_X9_needWithin l hfl G cA (a 37) 37 a (cM a cA) S L H.size p5 (1 : Int32) (200 : Int32) q6) (va_cwS 3 hts gX9_write_X9_needWithin rfl rfl rfl (by decide +kernel) ⟨Nat.le_of_ble_eq_true rfl, Nat.le_of_ble_eq_true rfl⟩) hK hX hP hS rfl hl.1 rfl (lv_room (Nat.le_of_ble_eq_true rfl)) dX9_write_37 ⟨Nat.le_of_ble_eq_true rfl, Nat.le_of_ble_eq_true rfl⟩ hxt hlocks (by unfold kX9_write; rw [if_neg q1, if_neg q2, if_neg q3, if_neg c4, if_neg q5, if_pos q6]; rfl) (Nat.le_of_ble_eq_true rfl) (Nat.le_of_ble_eq_true rfl)
            ·
              refine g_cSv (As := [.int p5, .int 1, .int 200]) (rest := []) ⟨hx, hb, hml, hown, hts⟩ (c_X9_needWithin l G cA a ha S L H.size p5 (1 : Int32) (200 : Int32) (fun h9 => q6 (Or.inl h9)) (Int32.not_lt.mp (fun h9 => q6 (Or.inr h9)))) (va_cwS 3 hts gX9_write_X9_needWithin rfl rfl rfl (by decide +kernel) ⟨Nat.le_of_ble_eq_true rfl, Nat.le_of_ble_eq_true rfl⟩) hK (mA_mono hS.1) hP hS rfl hl.1 rfl (lv_room (Nat.le_of_ble_eq_true rfl)) dX9_write_37 ⟨Nat.le_of_ble_eq_true rfl, Nat.le_of_ble_eq_true rfl⟩ (fun H locs hP hS _ _ => ?_)
              exact absurd (by unfold kX9_write; rw [if_neg q1, if_neg q2, if_neg q3, if_neg c4, if_neg q5, if_neg q6]) hbad

def kX9_setTrack (S : Mm) (p1 : Int32) (p2 : Int32) : Int32 := (if p1 < 0 ∨ (3 : Int32) ≤ p1 then (1 : Int32) else (if p2 < 0 ∨ (4 : Int32) ≤ p2 then (1 : Int32) else (0 : Int32)))
set_option maxHeartbeats 4000000 in
set_option maxRecDepth 100000 in
theorem t_X9_setTrack (l : Launch) (hfl : l.stackTraces = false) (G : va_G) (cA : ClassId) (a : Nat → Nat) (ha : apart 37 a) (S : Mm) (L : Int64) (sz : Nat) (p1 : Int32) (p2 : Int32) (hbad : ¬ kX9_setTrack S p1 p2 = 0) : vx_Met l yX9_setTrack wsX9_setTrack ({ frames := 7, cells := 1, slots := 6, locals := 103 } : Room) (va_Pc [.ref (a 0), .int p1, .int p2] (gX G cA (a 37) 37 a (cM a cA) S L sz)) (va_Qi (fun _ (_ : Unit) => False) (fun _ _ => True) (mA 37 a sz)) (xC (xN (kX9_setTrack S p1 p2)) G 37 a (cM a cA) S L sz) 1 6 (mA 37 a sz) := by
  refine g_metX (cc := cX9_setTrack) (maxL := 4) (ret := (some .int)) (by decide) rfl (Nat.le_of_ble_eq_true rfl) ?_
  intro p e s m below meth c ls hx hb hr hlocks hml hts hown hxt hsz hK hX hP hS hl
  subst hsz
  have hl : lv_has ls 4 [(0, .ref (a 0)), (1, .int p1), (2, .int p2)] := hl
  refine lv_iload_n hx hb dX9_setTrack_0 rfl (lv_at hl 1 rfl) ?_
  refine lv_iconst (v := 3) hx hb dX9_setTrack_1 (by decide) ?_
  by_cases q1 : p1 < 0 ∨ (3 : Int32) ≤ p1
  ·
    exact g_thrS (As := [.int p1, .int 3]) (rest := []) ⟨hx, hb, hml, hown, hts⟩ (t_X9_needPlace l hfl G cA (a 37) 37 a (cM a cA) S L s.heap.size p1 (3 : Int32) q1) (va_cwS 2 hts gX9_setTrack_X9_needPlace rfl rfl rfl (by decide +kernel) ⟨Nat.le_of_ble_eq_true rfl, Nat.le_of_ble_eq_true rfl⟩) hK hX hP hS rfl hl.1 rfl (lv_room (Nat.le_of_ble_eq_true rfl)) dX9_setTrack_2 ⟨Nat.le_of_ble_eq_true rfl, Nat.le_of_ble_eq_true rfl⟩ hxt hlocks (by unfold kX9_setTrack; rw [if_pos q1]; rfl) (Nat.le_of_ble_eq_true rfl) (Nat.le_of_ble_eq_true rfl)
  ·
    refine g_cSv (As := [.int p1, .int 3]) (rest := []) ⟨hx, hb, hml, hown, hts⟩ (c_X9_needPlace l G cA a ha S L s.heap.size p1 (3 : Int32) (fun h9 => q1 (Or.inl h9)) (Int32.not_le.mp (fun h9 => q1 (Or.inr h9)))) (va_cwS 2 hts gX9_setTrack_X9_needPlace rfl rfl rfl (by decide +kernel) ⟨Nat.le_of_ble_eq_true rfl, Nat.le_of_ble_eq_true rfl⟩) hK (mA_mono hS.1) hP hS rfl hl.1 rfl (lv_room (Nat.le_of_ble_eq_true rfl)) dX9_setTrack_2 ⟨Nat.le_of_ble_eq_true rfl, Nat.le_of_ble_eq_true rfl⟩ (fun H locs hP hS _ _ => ?_)
    refine lv_iload_n hx hb dX9_setTrack_5 rfl (lv_at hl 2 rfl) ?_
    refine lv_iconst (v := 4) hx hb dX9_setTrack_6 (by decide) ?_
    by_cases q2 : p2 < 0 ∨ (4 : Int32) ≤ p2
    ·
      exact g_thrS (As := [.int p2, .int 4]) (rest := []) ⟨hx, hb, hml, hown, hts⟩ (t_X9_needPlace l hfl G cA (a 37) 37 a (cM a cA) S L H.size p2 (4 : Int32) q2) (va_cwS 2 hts gX9_setTrack_X9_needPlace rfl rfl rfl (by decide +kernel) ⟨Nat.le_of_ble_eq_true rfl, Nat.le_of_ble_eq_true rfl⟩) hK hX hP hS rfl hl.1 rfl (lv_room (Nat.le_of_ble_eq_true rfl)) dX9_setTrack_7 ⟨Nat.le_of_ble_eq_true rfl, Nat.le_of_ble_eq_true rfl⟩ hxt hlocks (by unfold kX9_setTrack; rw [if_neg q1, if_pos q2]; rfl) (Nat.le_of_ble_eq_true rfl) (Nat.le_of_ble_eq_true rfl)
    ·
      refine g_cSv (As := [.int p2, .int 4]) (rest := []) ⟨hx, hb, hml, hown, hts⟩ (c_X9_needPlace l G cA a ha S L H.size p2 (4 : Int32) (fun h9 => q2 (Or.inl h9)) (Int32.not_le.mp (fun h9 => q2 (Or.inr h9)))) (va_cwS 2 hts gX9_setTrack_X9_needPlace rfl rfl rfl (by decide +kernel) ⟨Nat.le_of_ble_eq_true rfl, Nat.le_of_ble_eq_true rfl⟩) hK (mA_mono hS.1) hP hS rfl hl.1 rfl (lv_room (Nat.le_of_ble_eq_true rfl)) dX9_setTrack_7 ⟨Nat.le_of_ble_eq_true rfl, Nat.le_of_ble_eq_true rfl⟩ (fun H locs hP hS _ _ => ?_)
      exact absurd (by unfold kX9_setTrack; rw [if_neg q1, if_neg q2]) hbad

def kX9_setTempo (S : Mm) (p1 : Int32) (p2 : Int32) : Int32 := (if p1 < (1 : Int32) ∨ (200 : Int32) < p1 then (2 : Int32) else (if p2 < (0 : Int32) ∨ (p1 - 1) < p2 then (2 : Int32) else (0 : Int32)))
set_option maxHeartbeats 4000000 in
set_option maxRecDepth 100000 in
theorem t_X9_setTempo (l : Launch) (hfl : l.stackTraces = false) (G : va_G) (cA : ClassId) (a : Nat → Nat) (ha : apart 37 a) (S : Mm) (L : Int64) (sz : Nat) (p1 : Int32) (p2 : Int32) (hbad : ¬ kX9_setTempo S p1 p2 = 0) : vx_Met l yX9_setTempo wsX9_setTempo ({ frames := 7, cells := 1, slots := 6, locals := 104 } : Room) (va_Pc [.ref (a 0), .int p1, .int p2] (gX G cA (a 37) 37 a (cM a cA) S L sz)) (va_Qi (fun _ (_ : Unit) => False) (fun _ _ => True) (mA 37 a sz)) (xC (xN (kX9_setTempo S p1 p2)) G 37 a (cM a cA) S L sz) 1 6 (mA 37 a sz) := by
  refine g_metX (cc := cX9_setTempo) (maxL := 4) (ret := (some .int)) (by decide) rfl (Nat.le_of_ble_eq_true rfl) ?_
  intro p e s m below meth c ls hx hb hr hlocks hml hts hown hxt hsz hK hX hP hS hl
  subst hsz
  have hl : lv_has ls 4 [(0, .ref (a 0)), (1, .int p1), (2, .int p2)] := hl
  refine lv_iload_n hx hb dX9_setTempo_0 rfl (lv_at hl 1 rfl) ?_
  refine lv_iconst (v := 1) hx hb dX9_setTempo_1 (by decide) ?_
  refine lv_sipush (v := 200) hx hb dX9_setTempo_2 (by decide) ?_
  by_cases q1 : p1 < (1 : Int32) ∨ (200 : Int32) < p1
  ·
    exact g_thrS (As := [.int p1, .int 1, .int 200]) (rest := []) ⟨hx, hb, hml, hown, hts⟩ (t_X9_needWithin l hfl G cA (a 37) 37 a (cM a cA) S L s.heap.size p1 (1 : Int32) (200 : Int32) q1) (va_cwS 3 hts gX9_setTempo_X9_needWithin rfl rfl rfl (by decide +kernel) ⟨Nat.le_of_ble_eq_true rfl, Nat.le_of_ble_eq_true rfl⟩) hK hX hP hS rfl hl.1 rfl (lv_room (Nat.le_of_ble_eq_true rfl)) dX9_setTempo_5 ⟨Nat.le_of_ble_eq_true rfl, Nat.le_of_ble_eq_true rfl⟩ hxt hlocks (by unfold kX9_setTempo; rw [if_pos q1]; rfl) (Nat.le_of_ble_eq_true rfl) (Nat.le_of_ble_eq_true rfl)
  ·
    refine g_cSv (As := [.int p1, .int 1, .int 200]) (rest := []) ⟨hx, hb, hml, hown, hts⟩ (c_X9_needWithin l G cA a ha S L s.heap.size p1 (1 : Int32) (200 : Int32) (fun h9 => q1 (Or.inl h9)) (Int32.not_lt.mp (fun h9 => q1 (Or.inr h9)))) (va_cwS 3 hts gX9_setTempo_X9_needWithin rfl rfl rfl (by decide +kernel) ⟨Nat.le_of_ble_eq_true rfl, Nat.le_of_ble_eq_true rfl⟩) hK (mA_mono hS.1) hP hS rfl hl.1 rfl (lv_room (Nat.le_of_ble_eq_true rfl)) dX9_setTempo_5 ⟨Nat.le_of_ble_eq_true rfl, Nat.le_of_ble_eq_true rfl⟩ (fun H locs hP hS _ _ => ?_)
    refine lv_iload_n hx hb dX9_setTempo_8 rfl (lv_at hl 2 rfl) ?_
    refine lv_iconst (v := 0) hx hb dX9_setTempo_9 (by decide) ?_
    refine lv_iload_n hx hb dX9_setTempo_10 rfl (lv_at hl 1 rfl) ?_
    refine lv_iconst (v := 1) hx hb dX9_setTempo_11 (by decide) ?_
    refine lv_isub hx hb dX9_setTempo_12 ?_
    by_cases q2 : p2 < (0 : Int32) ∨ (p1 - 1) < p2
    ·
      exact g_thrS (As := [.int p2, .int 0, .int (p1 - 1)]) (rest := []) ⟨hx, hb, hml, hown, hts⟩ (t_X9_needWithin l hfl G cA (a 37) 37 a (cM a cA) S L H.size p2 (0 : Int32) (p1 - 1) q2) (va_cwS 3 hts gX9_setTempo_X9_needWithin rfl rfl rfl (by decide +kernel) ⟨Nat.le_of_ble_eq_true rfl, Nat.le_of_ble_eq_true rfl⟩) hK hX hP hS rfl hl.1 rfl (lv_room (Nat.le_of_ble_eq_true rfl)) dX9_setTempo_13 ⟨Nat.le_of_ble_eq_true rfl, Nat.le_of_ble_eq_true rfl⟩ hxt hlocks (by unfold kX9_setTempo; rw [if_neg q1, if_pos q2]; rfl) (Nat.le_of_ble_eq_true rfl) (Nat.le_of_ble_eq_true rfl)
    ·
      refine g_cSv (As := [.int p2, .int 0, .int (p1 - 1)]) (rest := []) ⟨hx, hb, hml, hown, hts⟩ (c_X9_needWithin l G cA a ha S L H.size p2 (0 : Int32) (p1 - 1) (fun h9 => q2 (Or.inl h9)) (Int32.not_lt.mp (fun h9 => q2 (Or.inr h9)))) (va_cwS 3 hts gX9_setTempo_X9_needWithin rfl rfl rfl (by decide +kernel) ⟨Nat.le_of_ble_eq_true rfl, Nat.le_of_ble_eq_true rfl⟩) hK (mA_mono hS.1) hP hS rfl hl.1 rfl (lv_room (Nat.le_of_ble_eq_true rfl)) dX9_setTempo_13 ⟨Nat.le_of_ble_eq_true rfl, Nat.le_of_ble_eq_true rfl⟩ (fun H locs hP hS _ _ => ?_)
      exact absurd (by unfold kX9_setTempo; rw [if_neg q1, if_neg q2]) hbad

def kX9_play (S : Mm) (p1 : Int32) : Int32 := (if p1 < 0 ∨ (8 : Int32) ≤ p1 then (1 : Int32) else (0 : Int32))
set_option maxHeartbeats 4000000 in
set_option maxRecDepth 100000 in
theorem t_X9_play (l : Launch) (hfl : l.stackTraces = false) (G : va_G) (cA : ClassId) (a : Nat → Nat) (ha : apart 37 a) (S : Mm) (L : Int64) (sz : Nat) (p1 : Int32) (hbad : ¬ kX9_play S p1 = 0) : vx_Met l yX9_play wsX9_play ({ frames := 7, cells := 1, slots := 6, locals := 103 } : Room) (va_Pc [.ref (a 0), .int p1] (gX G cA (a 37) 37 a (cM a cA) S L sz)) (va_Qi (fun _ (_ : Unit) => False) (fun _ _ => True) (mA 37 a sz)) (xC (xN (kX9_play S p1)) G 37 a (cM a cA) S L sz) 1 6 (mA 37 a sz) := by
  refine g_metX (cc := cX9_play) (maxL := 3) (ret := (some .boolean)) (by decide) rfl (Nat.le_of_ble_eq_true rfl) ?_
  intro p e s m below meth c ls hx hb hr hlocks hml hts hown hxt hsz hK hX hP hS hl
  subst hsz
  have hl : lv_has ls 3 [(0, .ref (a 0)), (1, .int p1)] := hl
  refine lv_iload_n hx hb dX9_play_0 rfl (lv_at hl 1 rfl) ?_
  refine lv_bipush (v := 8) hx hb dX9_play_1 (by decide) ?_
  by_cases q1 : p1 < 0 ∨ (8 : Int32) ≤ p1
  ·
    exact g_thrS (As := [.int p1, .int 8]) (rest := []) ⟨hx, hb, hml, hown, hts⟩ (t_X9_needPlace l hfl G cA (a 37) 37 a (cM a cA) S L s.heap.size p1 (8 : Int32) q1) (va_cwS 2 hts gX9_play_X9_needPlace rfl rfl rfl (by decide +kernel) ⟨Nat.le_of_ble_eq_true rfl, Nat.le_of_ble_eq_true rfl⟩) hK hX hP hS rfl hl.1 rfl (lv_room (Nat.le_of_ble_eq_true rfl)) dX9_play_3 ⟨Nat.le_of_ble_eq_true rfl, Nat.le_of_ble_eq_true rfl⟩ hxt hlocks (by unfold kX9_play; rw [if_pos q1]; rfl) (Nat.le_of_ble_eq_true rfl) (Nat.le_of_ble_eq_true rfl)
  ·
    refine g_cSv (As := [.int p1, .int 8]) (rest := []) ⟨hx, hb, hml, hown, hts⟩ (c_X9_needPlace l G cA a ha S L s.heap.size p1 (8 : Int32) (fun h9 => q1 (Or.inl h9)) (Int32.not_le.mp (fun h9 => q1 (Or.inr h9)))) (va_cwS 2 hts gX9_play_X9_needPlace rfl rfl rfl (by decide +kernel) ⟨Nat.le_of_ble_eq_true rfl, Nat.le_of_ble_eq_true rfl⟩) hK (mA_mono hS.1) hP hS rfl hl.1 rfl (lv_room (Nat.le_of_ble_eq_true rfl)) dX9_play_3 ⟨Nat.le_of_ble_eq_true rfl, Nat.le_of_ble_eq_true rfl⟩ (fun H locs hP hS _ _ => ?_)
    exact absurd (by unfold kX9_play; rw [if_neg q1]) hbad

def kX9_run (S : Mm) (p1 : Int32) : Int32 := (if p1 < (1 : Int32) ∨ (200 : Int32) < p1 then (2 : Int32) else (0 : Int32))
set_option maxHeartbeats 4000000 in
set_option maxRecDepth 100000 in
theorem t_X9_run (l : Launch) (hfl : l.stackTraces = false) (G : va_G) (cA : ClassId) (a : Nat → Nat) (ha : apart 37 a) (S : Mm) (L : Int64) (sz : Nat) (p1 : Int32) (hbad : ¬ kX9_run S p1 = 0) : vx_Met l yX9_run wsX9_run ({ frames := 7, cells := 1, slots := 6, locals := 104 } : Room) (va_Pc [.ref (a 0), .int p1] (gX G cA (a 37) 37 a (cM a cA) S L sz)) (va_Qi (fun _ (_ : Unit) => False) (fun _ _ => True) (mA 37 a sz)) (xC (xN (kX9_run S p1)) G 37 a (cM a cA) S L sz) 1 6 (mA 37 a sz) := by
  refine g_metX (cc := cX9_run) (maxL := 4) (ret := (some .int)) (by decide) rfl (Nat.le_of_ble_eq_true rfl) ?_
  intro p e s m below meth c ls hx hb hr hlocks hml hts hown hxt hsz hK hX hP hS hl
  subst hsz
  have hl : lv_has ls 4 [(0, .ref (a 0)), (1, .int p1)] := hl
  refine lv_iload_n hx hb dX9_run_0 rfl (lv_at hl 1 rfl) ?_
  refine lv_iconst (v := 1) hx hb dX9_run_1 (by decide) ?_
  refine lv_sipush (v := 200) hx hb dX9_run_2 (by decide) ?_
  by_cases q1 : p1 < (1 : Int32) ∨ (200 : Int32) < p1
  ·
    exact g_thrS (As := [.int p1, .int 1, .int 200]) (rest := []) ⟨hx, hb, hml, hown, hts⟩ (t_X9_needWithin l hfl G cA (a 37) 37 a (cM a cA) S L s.heap.size p1 (1 : Int32) (200 : Int32) q1) (va_cwS 3 hts gX9_run_X9_needWithin rfl rfl rfl (by decide +kernel) ⟨Nat.le_of_ble_eq_true rfl, Nat.le_of_ble_eq_true rfl⟩) hK hX hP hS rfl hl.1 rfl (lv_room (Nat.le_of_ble_eq_true rfl)) dX9_run_5 ⟨Nat.le_of_ble_eq_true rfl, Nat.le_of_ble_eq_true rfl⟩ hxt hlocks (by unfold kX9_run; rw [if_pos q1]; rfl) (Nat.le_of_ble_eq_true rfl) (Nat.le_of_ble_eq_true rfl)
  ·
    refine g_cSv (As := [.int p1, .int 1, .int 200]) (rest := []) ⟨hx, hb, hml, hown, hts⟩ (c_X9_needWithin l G cA a ha S L s.heap.size p1 (1 : Int32) (200 : Int32) (fun h9 => q1 (Or.inl h9)) (Int32.not_lt.mp (fun h9 => q1 (Or.inr h9)))) (va_cwS 3 hts gX9_run_X9_needWithin rfl rfl rfl (by decide +kernel) ⟨Nat.le_of_ble_eq_true rfl, Nat.le_of_ble_eq_true rfl⟩) hK (mA_mono hS.1) hP hS rfl hl.1 rfl (lv_room (Nat.le_of_ble_eq_true rfl)) dX9_run_5 ⟨Nat.le_of_ble_eq_true rfl, Nat.le_of_ble_eq_true rfl⟩ (fun H locs hP hS _ _ => ?_)
    exact absurd (by unfold kX9_run; rw [if_neg q1]) hbad

def kX9_heard (S : Mm) (p1 : Int32) : Int32 := (if p1 < (0 : Int32) ∨ (63 : Int32) < p1 then (2 : Int32) else (0 : Int32))
set_option maxHeartbeats 4000000 in
set_option maxRecDepth 100000 in
theorem t_X9_heard (l : Launch) (hfl : l.stackTraces = false) (G : va_G) (cA : ClassId) (a : Nat → Nat) (ha : apart 37 a) (S : Mm) (L : Int64) (sz : Nat) (p1 : Int32) (hbad : ¬ kX9_heard S p1 = 0) : vx_Met l yX9_heard wsX9_heard ({ frames := 7, cells := 1, slots := 6, locals := 104 } : Room) (va_Pc [.ref (a 0), .int p1] (gX G cA (a 37) 37 a (cM a cA) S L sz)) (va_Qi (fun _ (_ : Unit) => False) (fun _ _ => True) (mA 37 a sz)) (xC (xN (kX9_heard S p1)) G 37 a (cM a cA) S L sz) 1 6 (mA 37 a sz) := by
  refine g_metX (cc := cX9_heard) (maxL := 2) (ret := (some .int)) (by decide) rfl (Nat.le_of_ble_eq_true rfl) ?_
  intro p e s m below meth c ls hx hb hr hlocks hml hts hown hxt hsz hK hX hP hS hl
  subst hsz
  have hl : lv_has ls 2 [(0, .ref (a 0)), (1, .int p1)] := hl
  refine lv_iload_n hx hb dX9_heard_0 rfl (lv_at hl 1 rfl) ?_
  refine lv_iconst (v := 0) hx hb dX9_heard_1 (by decide) ?_
  refine lv_bipush (v := 63) hx hb dX9_heard_2 (by decide) ?_
  by_cases q1 : p1 < (0 : Int32) ∨ (63 : Int32) < p1
  ·
    exact g_thrS (As := [.int p1, .int 0, .int 63]) (rest := []) ⟨hx, hb, hml, hown, hts⟩ (t_X9_needWithin l hfl G cA (a 37) 37 a (cM a cA) S L s.heap.size p1 (0 : Int32) (63 : Int32) q1) (va_cwS 3 hts gX9_heard_X9_needWithin rfl rfl rfl (by decide +kernel) ⟨Nat.le_of_ble_eq_true rfl, Nat.le_of_ble_eq_true rfl⟩) hK hX hP hS rfl hl.1 rfl (lv_room (Nat.le_of_ble_eq_true rfl)) dX9_heard_4 ⟨Nat.le_of_ble_eq_true rfl, Nat.le_of_ble_eq_true rfl⟩ hxt hlocks (by unfold kX9_heard; rw [if_pos q1]; rfl) (Nat.le_of_ble_eq_true rfl) (Nat.le_of_ble_eq_true rfl)
  ·
    refine g_cSv (As := [.int p1, .int 0, .int 63]) (rest := []) ⟨hx, hb, hml, hown, hts⟩ (c_X9_needWithin l G cA a ha S L s.heap.size p1 (0 : Int32) (63 : Int32) (fun h9 => q1 (Or.inl h9)) (Int32.not_lt.mp (fun h9 => q1 (Or.inr h9)))) (va_cwS 3 hts gX9_heard_X9_needWithin rfl rfl rfl (by decide +kernel) ⟨Nat.le_of_ble_eq_true rfl, Nat.le_of_ble_eq_true rfl⟩) hK (mA_mono hS.1) hP hS rfl hl.1 rfl (lv_room (Nat.le_of_ble_eq_true rfl)) dX9_heard_4 ⟨Nat.le_of_ble_eq_true rfl, Nat.le_of_ble_eq_true rfl⟩ (fun H locs hP hS _ _ => ?_)
    exact absurd (by unfold kX9_heard; rw [if_neg q1]) hbad

def kX9_ofVoice (S : Mm) (p1 : Int32) (p2 : Int32) : Int32 := (if p1 < 0 ∨ (4 : Int32) ≤ p1 then (1 : Int32) else (if p2 < (0 : Int32) ∨ (9 : Int32) < p2 then (2 : Int32) else (0 : Int32)))
set_option maxHeartbeats 4000000 in
set_option maxRecDepth 100000 in
theorem t_X9_ofVoice (l : Launch) (hfl : l.stackTraces = false) (G : va_G) (cA : ClassId) (a : Nat → Nat) (ha : apart 37 a) (S : Mm) (L : Int64) (sz : Nat) (p1 : Int32) (p2 : Int32) (hbad : ¬ kX9_ofVoice S p1 p2 = 0) : vx_Met l yX9_ofVoice wsX9_ofVoice ({ frames := 7, cells := 1, slots := 6, locals := 104 } : Room) (va_Pc [.ref (a 0), .int p1, .int p2] (gX G cA (a 37) 37 a (cM a cA) S L sz)) (va_Qi (fun _ (_ : Unit) => False) (fun _ _ => True) (mA 37 a sz)) (xC (xN (kX9_ofVoice S p1 p2)) G 37 a (cM a cA) S L sz) 1 6 (mA 37 a sz) := by
  refine g_metX (cc := cX9_ofVoice) (maxL := 3) (ret := (some .int)) (by decide) rfl (Nat.le_of_ble_eq_true rfl) ?_
  intro p e s m below meth c ls hx hb hr hlocks hml hts hown hxt hsz hK hX hP hS hl
  subst hsz
  have hl : lv_has ls 3 [(0, .ref (a 0)), (1, .int p1), (2, .int p2)] := hl
  refine lv_iload_n hx hb dX9_ofVoice_0 rfl (lv_at hl 1 rfl) ?_
  refine lv_iconst (v := 4) hx hb dX9_ofVoice_1 (by decide) ?_
  by_cases q1 : p1 < 0 ∨ (4 : Int32) ≤ p1
  ·
    exact g_thrS (As := [.int p1, .int 4]) (rest := []) ⟨hx, hb, hml, hown, hts⟩ (t_X9_needPlace l hfl G cA (a 37) 37 a (cM a cA) S L s.heap.size p1 (4 : Int32) q1) (va_cwS 2 hts gX9_ofVoice_X9_needPlace rfl rfl rfl (by decide +kernel) ⟨Nat.le_of_ble_eq_true rfl, Nat.le_of_ble_eq_true rfl⟩) hK hX hP hS rfl hl.1 rfl (lv_room (Nat.le_of_ble_eq_true rfl)) dX9_ofVoice_2 ⟨Nat.le_of_ble_eq_true rfl, Nat.le_of_ble_eq_true rfl⟩ hxt hlocks (by unfold kX9_ofVoice; rw [if_pos q1]; rfl) (Nat.le_of_ble_eq_true rfl) (Nat.le_of_ble_eq_true rfl)
  ·
    refine g_cSv (As := [.int p1, .int 4]) (rest := []) ⟨hx, hb, hml, hown, hts⟩ (c_X9_needPlace l G cA a ha S L s.heap.size p1 (4 : Int32) (fun h9 => q1 (Or.inl h9)) (Int32.not_le.mp (fun h9 => q1 (Or.inr h9)))) (va_cwS 2 hts gX9_ofVoice_X9_needPlace rfl rfl rfl (by decide +kernel) ⟨Nat.le_of_ble_eq_true rfl, Nat.le_of_ble_eq_true rfl⟩) hK (mA_mono hS.1) hP hS rfl hl.1 rfl (lv_room (Nat.le_of_ble_eq_true rfl)) dX9_ofVoice_2 ⟨Nat.le_of_ble_eq_true rfl, Nat.le_of_ble_eq_true rfl⟩ (fun H locs hP hS _ _ => ?_)
    refine lv_iload_n hx hb dX9_ofVoice_5 rfl (lv_at hl 2 rfl) ?_
    refine lv_iconst (v := 0) hx hb dX9_ofVoice_6 (by decide) ?_
    refine lv_bipush (v := 9) hx hb dX9_ofVoice_7 (by decide) ?_
    by_cases q2 : p2 < (0 : Int32) ∨ (9 : Int32) < p2
    ·
      exact g_thrS (As := [.int p2, .int 0, .int 9]) (rest := []) ⟨hx, hb, hml, hown, hts⟩ (t_X9_needWithin l hfl G cA (a 37) 37 a (cM a cA) S L H.size p2 (0 : Int32) (9 : Int32) q2) (va_cwS 3 hts gX9_ofVoice_X9_needWithin rfl rfl rfl (by decide +kernel) ⟨Nat.le_of_ble_eq_true rfl, Nat.le_of_ble_eq_true rfl⟩) hK hX hP hS rfl hl.1 rfl (lv_room (Nat.le_of_ble_eq_true rfl)) dX9_ofVoice_9 ⟨Nat.le_of_ble_eq_true rfl, Nat.le_of_ble_eq_true rfl⟩ hxt hlocks (by unfold kX9_ofVoice; rw [if_neg q1, if_pos q2]; rfl) (Nat.le_of_ble_eq_true rfl) (Nat.le_of_ble_eq_true rfl)
    ·
      refine g_cSv (As := [.int p2, .int 0, .int 9]) (rest := []) ⟨hx, hb, hml, hown, hts⟩ (c_X9_needWithin l G cA a ha S L H.size p2 (0 : Int32) (9 : Int32) (fun h9 => q2 (Or.inl h9)) (Int32.not_lt.mp (fun h9 => q2 (Or.inr h9)))) (va_cwS 3 hts gX9_ofVoice_X9_needWithin rfl rfl rfl (by decide +kernel) ⟨Nat.le_of_ble_eq_true rfl, Nat.le_of_ble_eq_true rfl⟩) hK (mA_mono hS.1) hP hS rfl hl.1 rfl (lv_room (Nat.le_of_ble_eq_true rfl)) dX9_ofVoice_9 ⟨Nat.le_of_ble_eq_true rfl, Nat.le_of_ble_eq_true rfl⟩ (fun H locs hP hS _ _ => ?_)
      exact absurd (by unfold kX9_ofVoice; rw [if_neg q1, if_neg q2]) hbad

def kX9_ofStep (S : Mm) (p1 : Int32) (p2 : Int32) (p3 : Int32) : Int32 := (if p1 < 0 ∨ (3 : Int32) ≤ p1 then (1 : Int32) else (if p2 < 0 ∨ (8 : Int32) ≤ p2 then (1 : Int32) else (if p3 < (0 : Int32) ∨ (2 : Int32) < p3 then (2 : Int32) else (0 : Int32))))
set_option maxHeartbeats 4000000 in
set_option maxRecDepth 100000 in
theorem t_X9_ofStep (l : Launch) (hfl : l.stackTraces = false) (G : va_G) (cA : ClassId) (a : Nat → Nat) (ha : apart 37 a) (S : Mm) (L : Int64) (sz : Nat) (p1 : Int32) (p2 : Int32) (p3 : Int32) (hbad : ¬ kX9_ofStep S p1 p2 p3 = 0) : vx_Met l yX9_ofStep wsX9_ofStep ({ frames := 7, cells := 1, slots := 6, locals := 104 } : Room) (va_Pc [.ref (a 0), .int p1, .int p2, .int p3] (gX G cA (a 37) 37 a (cM a cA) S L sz)) (va_Qi (fun _ (_ : Unit) => False) (fun _ _ => True) (mA 37 a sz)) (xC (xN (kX9_ofStep S p1 p2 p3)) G 37 a (cM a cA) S L sz) 1 6 (mA 37 a sz) := by
  refine g_metX (cc := cX9_ofStep) (maxL := 4) (ret := (some .int)) (by decide) rfl (Nat.le_of_ble_eq_true rfl) ?_
  intro p e s m below meth c ls hx hb hr hlocks hml hts hown hxt hsz hK hX hP hS hl
  subst hsz
  have hl : lv_has ls 4 [(0, .ref (a 0)), (1, .int p1), (2, .int p2), (3, .int p3)] := hl
  refine lv_iload_n hx hb dX9_ofStep_0 rfl (lv_at hl 1 rfl) ?_
  refine lv_iconst (v := 3) hx hb dX9_ofStep_1 (by decide) ?_
  by_cases q1 : p1 < 0 ∨ (3 : Int32) ≤ p1
  ·
    exact g_thrS (As := [.int p1, .int 3]) (rest := []) ⟨hx, hb, hml, hown, hts⟩ (t_X9_needPlace l hfl G cA (a 37) 37 a (cM a cA) S L s.heap.size p1 (3 : Int32) q1) (va_cwS 2 hts gX9_ofStep_X9_needPlace rfl rfl rfl (by decide +kernel) ⟨Nat.le_of_ble_eq_true rfl, Nat.le_of_ble_eq_true rfl⟩) hK hX hP hS rfl hl.1 rfl (lv_room (Nat.le_of_ble_eq_true rfl)) dX9_ofStep_2 ⟨Nat.le_of_ble_eq_true rfl, Nat.le_of_ble_eq_true rfl⟩ hxt hlocks (by unfold kX9_ofStep; rw [if_pos q1]; rfl) (Nat.le_of_ble_eq_true rfl) (Nat.le_of_ble_eq_true rfl)
  ·
    refine g_cSv (As := [.int p1, .int 3]) (rest := []) ⟨hx, hb, hml, hown, hts⟩ (c_X9_needPlace l G cA a ha S L s.heap.size p1 (3 : Int32) (fun h9 => q1 (Or.inl h9)) (Int32.not_le.mp (fun h9 => q1 (Or.inr h9)))) (va_cwS 2 hts gX9_ofStep_X9_needPlace rfl rfl rfl (by decide +kernel) ⟨Nat.le_of_ble_eq_true rfl, Nat.le_of_ble_eq_true rfl⟩) hK (mA_mono hS.1) hP hS rfl hl.1 rfl (lv_room (Nat.le_of_ble_eq_true rfl)) dX9_ofStep_2 ⟨Nat.le_of_ble_eq_true rfl, Nat.le_of_ble_eq_true rfl⟩ (fun H locs hP hS _ _ => ?_)
    refine lv_iload_n hx hb dX9_ofStep_5 rfl (lv_at hl 2 rfl) ?_
    refine lv_bipush (v := 8) hx hb dX9_ofStep_6 (by decide) ?_
    by_cases q2 : p2 < 0 ∨ (8 : Int32) ≤ p2
    ·
      exact g_thrS (As := [.int p2, .int 8]) (rest := []) ⟨hx, hb, hml, hown, hts⟩ (t_X9_needPlace l hfl G cA (a 37) 37 a (cM a cA) S L H.size p2 (8 : Int32) q2) (va_cwS 2 hts gX9_ofStep_X9_needPlace rfl rfl rfl (by decide +kernel) ⟨Nat.le_of_ble_eq_true rfl, Nat.le_of_ble_eq_true rfl⟩) hK hX hP hS rfl hl.1 rfl (lv_room (Nat.le_of_ble_eq_true rfl)) dX9_ofStep_8 ⟨Nat.le_of_ble_eq_true rfl, Nat.le_of_ble_eq_true rfl⟩ hxt hlocks (by unfold kX9_ofStep; rw [if_neg q1, if_pos q2]; rfl) (Nat.le_of_ble_eq_true rfl) (Nat.le_of_ble_eq_true rfl)
    ·
      refine g_cSv (As := [.int p2, .int 8]) (rest := []) ⟨hx, hb, hml, hown, hts⟩ (c_X9_needPlace l G cA a ha S L H.size p2 (8 : Int32) (fun h9 => q2 (Or.inl h9)) (Int32.not_le.mp (fun h9 => q2 (Or.inr h9)))) (va_cwS 2 hts gX9_ofStep_X9_needPlace rfl rfl rfl (by decide +kernel) ⟨Nat.le_of_ble_eq_true rfl, Nat.le_of_ble_eq_true rfl⟩) hK (mA_mono hS.1) hP hS rfl hl.1 rfl (lv_room (Nat.le_of_ble_eq_true rfl)) dX9_ofStep_8 ⟨Nat.le_of_ble_eq_true rfl, Nat.le_of_ble_eq_true rfl⟩ (fun H locs hP hS _ _ => ?_)
      refine lv_iload_n hx hb dX9_ofStep_11 rfl (lv_at hl 3 rfl) ?_
      refine lv_iconst (v := 0) hx hb dX9_ofStep_12 (by decide) ?_
      refine lv_iconst (v := 2) hx hb dX9_ofStep_13 (by decide) ?_
      by_cases q3 : p3 < (0 : Int32) ∨ (2 : Int32) < p3
      ·
        exact g_thrS (As := [.int p3, .int 0, .int 2]) (rest := []) ⟨hx, hb, hml, hown, hts⟩ (t_X9_needWithin l hfl G cA (a 37) 37 a (cM a cA) S L H.size p3 (0 : Int32) (2 : Int32) q3) (va_cwS 3 hts gX9_ofStep_X9_needWithin rfl rfl rfl (by decide +kernel) ⟨Nat.le_of_ble_eq_true rfl, Nat.le_of_ble_eq_true rfl⟩) hK hX hP hS rfl hl.1 rfl (lv_room (Nat.le_of_ble_eq_true rfl)) dX9_ofStep_14 ⟨Nat.le_of_ble_eq_true rfl, Nat.le_of_ble_eq_true rfl⟩ hxt hlocks (by unfold kX9_ofStep; rw [if_neg q1, if_neg q2, if_pos q3]; rfl) (Nat.le_of_ble_eq_true rfl) (Nat.le_of_ble_eq_true rfl)
      ·
        refine g_cSv (As := [.int p3, .int 0, .int 2]) (rest := []) ⟨hx, hb, hml, hown, hts⟩ (c_X9_needWithin l G cA a ha S L H.size p3 (0 : Int32) (2 : Int32) (fun h9 => q3 (Or.inl h9)) (Int32.not_lt.mp (fun h9 => q3 (Or.inr h9)))) (va_cwS 3 hts gX9_ofStep_X9_needWithin rfl rfl rfl (by decide +kernel) ⟨Nat.le_of_ble_eq_true rfl, Nat.le_of_ble_eq_true rfl⟩) hK (mA_mono hS.1) hP hS rfl hl.1 rfl (lv_room (Nat.le_of_ble_eq_true rfl)) dX9_ofStep_14 ⟨Nat.le_of_ble_eq_true rfl, Nat.le_of_ble_eq_true rfl⟩ (fun H locs hP hS _ _ => ?_)
        exact absurd (by unfold kX9_ofStep; rw [if_neg q1, if_neg q2, if_neg q3]) hbad

def kX9_inDelay (S : Mm) (p1 : Int32) : Int32 := (if p1 < 0 ∨ (S 19 0) ≤ p1 then (1 : Int32) else (0 : Int32))
theorem itX9_inDelay_X0 : ∀ w ∈ u_ws RX0 TX0 5, w ∈ wsX9_inDelay := by decide +kernel
theorem itX9_inDelay_X6 : ∀ w ∈ u_ws RX6 TX6 12, w ∈ wsX9_inDelay := by decide +kernel
theorem itX9_inDelay_X9 : ∀ w ∈ u_ws RX9 TX9 4, w ∈ wsX9_inDelay := by decide +kernel
set_option maxHeartbeats 4000000 in
set_option maxRecDepth 100000 in
theorem t_X9_inDelay (l : Launch) (hfl : l.stackTraces = false) (G : va_G) (cA : ClassId) (a : Nat → Nat) (ha : apart 37 a) (S : Mm) (L : Int64) (sz : Nat) (p1 : Int32) (hbad : ¬ kX9_inDelay S p1 = 0) : vx_Met l yX9_inDelay wsX9_inDelay ({ frames := 7, cells := 1, slots := 6, locals := 103 } : Room) (va_Pc [.ref (a 0), .int p1] (gX G cA (a 37) 37 a (cM a cA) S L sz)) (va_Qi (fun _ (_ : Unit) => False) (fun _ _ => True) (mA 37 a sz)) (xC (xN (kX9_inDelay S p1)) G 37 a (cM a cA) S L sz) 1 6 (mA 37 a sz) := by
  refine g_metX (cc := cX9_inDelay) (maxL := 2) (ret := (some .int)) (by decide) rfl (Nat.le_of_ble_eq_true rfl) ?_
  intro p e s m below meth c ls hx hb hr hlocks hml hts hown hxt hsz hK hX hP hS hl
  subst hsz
  have hl : lv_has ls 2 [(0, .ref (a 0)), (1, .int p1)] := hl
  refine lv_iload_n hx hb dX9_inDelay_0 rfl (lv_at hl 1 rfl) ?_
  refine lv_aload_n hx hb dX9_inDelay_1 rfl (lv_at hl 0 rfl) ?_
  refine g_get (ci := 9) (C := RX9) (T := TX9) (N := 4) (v := .ref (a 18)) hx hb hts itX9_inDelay_X9 hown hK hP (by decide) rfl rfl 1 (by decide) rfl (by decide +kernel) rfl dX9_inDelay_2 ?_
  refine g_get (ci := 6) (C := RX6) (T := TX6) (N := 12) (v := .ref (a 19)) hx hb hts itX9_inDelay_X6 hown hK hP (lt_G (by decide)) (cM_G (by decide)) rfl 1 (by decide) rfl (by decide +kernel) rfl dX9_inDelay_5 ?_
  refine g_get (ci := 0) (C := RX0) (T := TX0) (N := 5) (v := .int (S 19 0)) hx hb hts itX9_inDelay_X0 hown hK hP (lt_Dl (isDl_G (by decide))) (cM_Dl (isDl_G (by decide))) rfl 0 (by decide) rfl (by decide +kernel) rfl dX9_inDelay_8 ?_
  by_cases q1 : p1 < 0 ∨ (S 19 0) ≤ p1
  ·
    exact g_thrS (As := [.int p1, .int (S 19 0)]) (rest := []) ⟨hx, hb, hml, hown, hts⟩ (t_X9_needPlace l hfl G cA (a 37) 37 a (cM a cA) S L s.heap.size p1 (S 19 0) q1) (va_cwS 2 hts gX9_inDelay_X9_needPlace rfl rfl rfl (by decide +kernel) ⟨Nat.le_of_ble_eq_true rfl, Nat.le_of_ble_eq_true rfl⟩) hK hX hP hS rfl hl.1 rfl (lv_room (Nat.le_of_ble_eq_true rfl)) dX9_inDelay_11 ⟨Nat.le_of_ble_eq_true rfl, Nat.le_of_ble_eq_true rfl⟩ hxt hlocks (by unfold kX9_inDelay; rw [if_pos q1]; rfl) (Nat.le_of_ble_eq_true rfl) (Nat.le_of_ble_eq_true rfl)
  ·
    refine g_cSv (As := [.int p1, .int (S 19 0)]) (rest := []) ⟨hx, hb, hml, hown, hts⟩ (c_X9_needPlace l G cA a ha S L s.heap.size p1 (S 19 0) (fun h9 => q1 (Or.inl h9)) (Int32.not_le.mp (fun h9 => q1 (Or.inr h9)))) (va_cwS 2 hts gX9_inDelay_X9_needPlace rfl rfl rfl (by decide +kernel) ⟨Nat.le_of_ble_eq_true rfl, Nat.le_of_ble_eq_true rfl⟩) hK (mA_mono hS.1) hP hS rfl hl.1 rfl (lv_room (Nat.le_of_ble_eq_true rfl)) dX9_inDelay_11 ⟨Nat.le_of_ble_eq_true rfl, Nat.le_of_ble_eq_true rfl⟩ (fun H locs hP hS _ _ => ?_)
    exact absurd (by unfold kX9_inDelay; rw [if_neg q1]) hbad

def kX9_wouldPeak (S : Mm) (p1 : Int32) : Int32 := (if p1 < (1 : Int32) ∨ (200 : Int32) < p1 then (2 : Int32) else (0 : Int32))
set_option maxHeartbeats 4000000 in
set_option maxRecDepth 100000 in
theorem t_X9_wouldPeak (l : Launch) (hfl : l.stackTraces = false) (G : va_G) (cA : ClassId) (a : Nat → Nat) (ha : apart 37 a) (S : Mm) (L : Int64) (sz : Nat) (p1 : Int32) (hbad : ¬ kX9_wouldPeak S p1 = 0) : vx_Met l yX9_wouldPeak wsX9_wouldPeak ({ frames := 7, cells := 1, slots := 6, locals := 104 } : Room) (va_Pc [.ref (a 0), .int p1] (gX G cA (a 37) 37 a (cM a cA) S L sz)) (va_Qi (fun _ (_ : Unit) => False) (fun _ _ => True) (mA 37 a sz)) (xC (xN (kX9_wouldPeak S p1)) G 37 a (cM a cA) S L sz) 1 6 (mA 37 a sz) := by
  refine g_metX (cc := cX9_wouldPeak) (maxL := 4) (ret := (some .int)) (by decide) rfl (Nat.le_of_ble_eq_true rfl) ?_
  intro p e s m below meth c ls hx hb hr hlocks hml hts hown hxt hsz hK hX hP hS hl
  subst hsz
  have hl : lv_has ls 4 [(0, .ref (a 0)), (1, .int p1)] := hl
  refine lv_iload_n hx hb dX9_wouldPeak_0 rfl (lv_at hl 1 rfl) ?_
  refine lv_iconst (v := 1) hx hb dX9_wouldPeak_1 (by decide) ?_
  refine lv_sipush (v := 200) hx hb dX9_wouldPeak_2 (by decide) ?_
  by_cases q1 : p1 < (1 : Int32) ∨ (200 : Int32) < p1
  ·
    exact g_thrS (As := [.int p1, .int 1, .int 200]) (rest := []) ⟨hx, hb, hml, hown, hts⟩ (t_X9_needWithin l hfl G cA (a 37) 37 a (cM a cA) S L s.heap.size p1 (1 : Int32) (200 : Int32) q1) (va_cwS 3 hts gX9_wouldPeak_X9_needWithin rfl rfl rfl (by decide +kernel) ⟨Nat.le_of_ble_eq_true rfl, Nat.le_of_ble_eq_true rfl⟩) hK hX hP hS rfl hl.1 rfl (lv_room (Nat.le_of_ble_eq_true rfl)) dX9_wouldPeak_5 ⟨Nat.le_of_ble_eq_true rfl, Nat.le_of_ble_eq_true rfl⟩ hxt hlocks (by unfold kX9_wouldPeak; rw [if_pos q1]; rfl) (Nat.le_of_ble_eq_true rfl) (Nat.le_of_ble_eq_true rfl)
  ·
    refine g_cSv (As := [.int p1, .int 1, .int 200]) (rest := []) ⟨hx, hb, hml, hown, hts⟩ (c_X9_needWithin l G cA a ha S L s.heap.size p1 (1 : Int32) (200 : Int32) (fun h9 => q1 (Or.inl h9)) (Int32.not_lt.mp (fun h9 => q1 (Or.inr h9)))) (va_cwS 3 hts gX9_wouldPeak_X9_needWithin rfl rfl rfl (by decide +kernel) ⟨Nat.le_of_ble_eq_true rfl, Nat.le_of_ble_eq_true rfl⟩) hK (mA_mono hS.1) hP hS rfl hl.1 rfl (lv_room (Nat.le_of_ble_eq_true rfl)) dX9_wouldPeak_5 ⟨Nat.le_of_ble_eq_true rfl, Nat.le_of_ble_eq_true rfl⟩ (fun H locs hP hS _ _ => ?_)
    exact absurd (by unfold kX9_wouldPeak; rw [if_neg q1]) hbad

def kX9_silentIn (S : Mm) (p1 : Int32) : Int32 := (if p1 < (1 : Int32) ∨ (200 : Int32) < p1 then (2 : Int32) else (0 : Int32))
set_option maxHeartbeats 4000000 in
set_option maxRecDepth 100000 in
theorem t_X9_silentIn (l : Launch) (hfl : l.stackTraces = false) (G : va_G) (cA : ClassId) (a : Nat → Nat) (ha : apart 37 a) (S : Mm) (L : Int64) (sz : Nat) (p1 : Int32) (hbad : ¬ kX9_silentIn S p1 = 0) : vx_Met l yX9_silentIn wsX9_silentIn ({ frames := 7, cells := 1, slots := 6, locals := 104 } : Room) (va_Pc [.ref (a 0), .int p1] (gX G cA (a 37) 37 a (cM a cA) S L sz)) (va_Qi (fun _ (_ : Unit) => False) (fun _ _ => True) (mA 37 a sz)) (xC (xN (kX9_silentIn S p1)) G 37 a (cM a cA) S L sz) 1 6 (mA 37 a sz) := by
  refine g_metX (cc := cX9_silentIn) (maxL := 3) (ret := (some .int)) (by decide) rfl (Nat.le_of_ble_eq_true rfl) ?_
  intro p e s m below meth c ls hx hb hr hlocks hml hts hown hxt hsz hK hX hP hS hl
  subst hsz
  have hl : lv_has ls 3 [(0, .ref (a 0)), (1, .int p1)] := hl
  refine lv_iload_n hx hb dX9_silentIn_0 rfl (lv_at hl 1 rfl) ?_
  refine lv_iconst (v := 1) hx hb dX9_silentIn_1 (by decide) ?_
  refine lv_sipush (v := 200) hx hb dX9_silentIn_2 (by decide) ?_
  by_cases q1 : p1 < (1 : Int32) ∨ (200 : Int32) < p1
  ·
    exact g_thrS (As := [.int p1, .int 1, .int 200]) (rest := []) ⟨hx, hb, hml, hown, hts⟩ (t_X9_needWithin l hfl G cA (a 37) 37 a (cM a cA) S L s.heap.size p1 (1 : Int32) (200 : Int32) q1) (va_cwS 3 hts gX9_silentIn_X9_needWithin rfl rfl rfl (by decide +kernel) ⟨Nat.le_of_ble_eq_true rfl, Nat.le_of_ble_eq_true rfl⟩) hK hX hP hS rfl hl.1 rfl (lv_room (Nat.le_of_ble_eq_true rfl)) dX9_silentIn_5 ⟨Nat.le_of_ble_eq_true rfl, Nat.le_of_ble_eq_true rfl⟩ hxt hlocks (by unfold kX9_silentIn; rw [if_pos q1]; rfl) (Nat.le_of_ble_eq_true rfl) (Nat.le_of_ble_eq_true rfl)
  ·
    refine g_cSv (As := [.int p1, .int 1, .int 200]) (rest := []) ⟨hx, hb, hml, hown, hts⟩ (c_X9_needWithin l G cA a ha S L s.heap.size p1 (1 : Int32) (200 : Int32) (fun h9 => q1 (Or.inl h9)) (Int32.not_lt.mp (fun h9 => q1 (Or.inr h9)))) (va_cwS 3 hts gX9_silentIn_X9_needWithin rfl rfl rfl (by decide +kernel) ⟨Nat.le_of_ble_eq_true rfl, Nat.le_of_ble_eq_true rfl⟩) hK (mA_mono hS.1) hP hS rfl hl.1 rfl (lv_room (Nat.le_of_ble_eq_true rfl)) dX9_silentIn_5 ⟨Nat.le_of_ble_eq_true rfl, Nat.le_of_ble_eq_true rfl⟩ (fun H locs hP hS _ _ => ?_)
    exact absurd (by unfold kX9_silentIn; rw [if_neg q1]) hbad
