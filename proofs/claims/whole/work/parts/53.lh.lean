theorem upd_0 (f : Nat → Int64) (x : Int64) : vp_updL f (0 : Int32).toNatClampNeg x 0 = x := if_pos rfl
theorem e6_n {S : Mm} (h : S 18 9 = 0 ∨ S 18 9 = 1) : narrow .boolean (.int (eX6_copy S 26 18)) = .int (eX6_copy S 26 18) := by
  rw [e6_eq]
  rcases h with q | q <;> rw [q] <;> rfl
theorem e6_f {S : Mm} (h : S 18 9 = 0 ∨ S 18 9 = 1) : fits .boolean (.int (eX6_copy S 26 18)) = true := by
  rw [e6_eq]
  rcases h with q | q <;> rw [q] <;> rfl
theorem kz_draw {S : Mm} {p1 p2 : Int32} (h : kX9_draw S p1 p2 = 0) : (¬ p1 < 0) ∧ (p1 < (32 : Int32)) ∧ (¬ p2 < ((-1000) : Int32)) ∧ (p2 ≤ (1000 : Int32)) := by
  unfold kX9_draw at h
  by_cases q1 : p1 < 0 ∨ (32 : Int32) ≤ p1
  · rw [if_pos q1] at h
    exact absurd h (by decide)
  · rw [if_neg q1] at h
    by_cases q2 : p2 < ((-1000) : Int32) ∨ (1000 : Int32) < p2
    · rw [if_pos q2] at h
      exact absurd h (by decide)
    · rw [if_neg q2] at h
      exact ⟨fun h9 => q1 (Or.inl h9), Int32.not_le.mp (fun h9 => q1 (Or.inr h9)), fun h9 => q2 (Or.inl h9), Int32.not_lt.mp (fun h9 => q2 (Or.inr h9))⟩
theorem kv_draw {S : Mm} {p1 p2 : Int32} (h : ¬ kX9_draw S p1 p2 = 0) : kX9_draw S p1 p2 = 1 ∨ kX9_draw S p1 p2 = 2 := by
  unfold kX9_draw at h ⊢
  revert h
  (repeat' split) <;> intro h <;> first | exact absurd rfl h | exact rfl | exact Or.inl rfl | exact Or.inr rfl
set_option maxHeartbeats 4000000 in
set_option maxRecDepth 100000 in
theorem h0_L_draw (l : Launch) (hfl : l.stackTraces = false) (G : va_G) (cA cJ : ClassId) (a : Nat → Nat) (ha : apart 37 a) (o : Nat) (hao : ∀ k, k < 37 → a k ≠ o) (S : Mm) (L : Int64) (fo : Nat → Int64) (sz : Nat) (p1 : Int32) (p2 : Int32) (hk : kX9_draw S p1 p2 = 0) : Met l yL_draw wsL_draw ({ frames := 3, cells := 0, slots := 0, locals := 67 } : Room) (va_Pc [.ref (a 0), .int p1, .int p2, .ref o] (gL G cA cJ a S L o fo sz)) (va_Qi (fun (x : Int32) (f9 : Nat → Int64) => x = 0 ∧ f9 0 = (rX9_draw S p1 p2).toInt64) (fun f9 t => va_P G vwCl (wO a cA cJ (fX9_draw S p1 p2) L o f9) t.heap) (mO a o sz)) 0 0 (mO a o sz) := by
  refine l_met (cc := cL_draw) (maxL := 5) (ret := some .int) (hh := [(0, 10, 13, 13), (0, 10, 17, 15)]) (by decide) rfl (Nat.le_of_ble_eq_true rfl) ?_
  intro p e s m below meth c ls hx hb hr hlocks hml hts hown htb hsz hK hP hS hl
  subst hsz
  have hl : lv_has ls 5 [(0, .ref (a 0)), (1, .int p1), (2, .int p2), (3, .ref o)] := hl
  obtain ⟨z1, z2, z3, z4⟩ := kz_draw hk
  refine lv_aload_n hx hb dL_draw_0 rfl (lv_at hl 3 rfl) ?_
  refine lv_iconst (v := 0) hx hb dL_draw_1 (by decide) ?_
  refine lv_aload_n hx hb dL_draw_2 rfl (lv_at hl 0 rfl) ?_
  refine lv_iload_n hx hb dL_draw_3 rfl (lv_at hl 1 rfl) ?_
  refine lv_iload_n hx hb dL_draw_4 rfl (lv_at hl 2 rfl) ?_
  refine l_cVi (As := [.int p1, .int p2]) (rest := [.int 0, .ref o]) ⟨hx, hb, hml, hown, hts⟩ (c_X9_draw l G cA a ha S L s.heap.size p1 p2 z1 z2 z3 z4) (cwV 2 hts gL_draw_X9_draw rfl rfl rfl (by decide +kernel) ⟨Nat.le_of_ble_eq_true rfl, Nat.le_of_ble_eq_true rfl⟩) hao hK hP hS rfl hl.1 rfl (lv_room (Nat.le_of_ble_eq_true rfl)) dL_draw_5 ⟨Nat.le_of_ble_eq_true rfl, Nat.le_of_ble_eq_true rfl⟩ (fun H locs hP hS => ?_)
  refine lv_i2l hx hb dL_draw_8 rfl ?_
  refine l_last hx hb ha hao hK hP hS (vp_in_lit (by decide)) dL_draw_9 (fun H locs hP hS => ?_)
  refine lv_goto (tgt := 21) hx hb dL_draw_10 (by decide) ?_
  refine lv_iconst (v := 0) hx hb dL_draw_21 (by decide) ?_
  exact l_iret (po := fun f9 => f9 0 = (rX9_draw S p1 p2).toInt64) hx hb hr hlocks rfl (upd_0 _ _) hP hS dL_draw_22
set_option maxHeartbeats 4000000 in
set_option maxRecDepth 100000 in
theorem h1_L_draw (l : Launch) (hfl : l.stackTraces = false) (G : va_G) (cA cJ : ClassId) (a : Nat → Nat) (ha : apart 37 a) (o : Nat) (hao : ∀ k, k < 37 → a k ≠ o) (S : Mm) (L : Int64) (fo : Nat → Int64) (sz : Nat) (p1 : Int32) (p2 : Int32) (hk : ¬ kX9_draw S p1 p2 = 0) : Met l yL_draw wsL_draw ({ frames := 8, cells := 1, slots := 6, locals := 126 } : Room) (va_Pc [.ref (a 0), .int p1, .int p2, .ref o] (gL G cA cJ a S L o fo sz)) (va_Qi (fun (x : Int32) (f9 : Nat → Int64) => x = (if kX9_draw S p1 p2 = 1 then (1 : Int32) else 2) ∧ True) (fun f9 t => va_P G vwCl (wO a cA cJ S L o f9) t.heap) (mO a o sz)) 1 6 (mO a o sz) := by
  refine l_met (cc := cL_draw) (maxL := 5) (ret := some .int) (hh := [(0, 10, 13, 13), (0, 10, 17, 15)]) (by decide) rfl (Nat.le_of_ble_eq_true rfl) ?_
  intro p e s m below meth c ls hx hb hr hlocks hml hts hown htb hsz hK hP hS hl
  subst hsz
  have hl : lv_has ls 5 [(0, .ref (a 0)), (1, .int p1), (2, .int p2), (3, .ref o)] := hl
  refine lv_aload_n hx hb dL_draw_0 rfl (lv_at hl 3 rfl) ?_
  refine lv_iconst (v := 0) hx hb dL_draw_1 (by decide) ?_
  refine lv_aload_n hx hb dL_draw_2 rfl (lv_at hl 0 rfl) ?_
  refine lv_iload_n hx hb dL_draw_3 rfl (lv_at hl 1 rfl) ?_
  refine lv_iload_n hx hb dL_draw_4 rfl (lv_at hl 2 rfl) ?_
  refine l_thrV (E0 := xN (kX9_draw S p1 p2)) (As := [.int p1, .int p2]) (rest := [.int 0, .ref o]) ⟨hx, hb, hml, hown, hts⟩ (t_X9_draw l hfl G cA a ha S L s.heap.size p1 p2 hk) (cwV 2 hts gL_draw_X9_draw rfl rfl rfl (by decide +kernel) ⟨Nat.le_of_ble_eq_true rfl, Nat.le_of_ble_eq_true rfl⟩) hao hK hP hS rfl hl.1 rfl (lv_room (Nat.le_of_ble_eq_true rfl)) dL_draw_5 ⟨Nat.le_of_ble_eq_true rfl, Nat.le_of_ble_eq_true rfl⟩ (fun ce q9 H locs hP hS hce hcv hcl => ?_)
  by_cases h9 : kX9_draw S p1 p2 = 1
  · rw [h9] at hcl
    refine vx_catch (own := RL) (name := sIOB) (E := sIOB) hown [] ⟨0, 10, 13, 13⟩ [⟨0, 10, 17, 15⟩] (by rw [htb]; rfl) (fun z hz => nomatch hz) (by decide) (by decide) (hts (.classLink RL 13 sIOB) (by decide +kernel)) (va_Nw.use (by decide) (hK.2.2.1.1 (.castable sIOB sIOB) (by decide))) hce hcv hcl ?_
    refine lv_astore (lv' := [(4, .ref q9), (0, .ref (a 0)), (1, .int p1), (2, .int p2), (3, .ref o)]) hx hb dL_draw_13 hl (by decide) rfl (fun ls hl => ?_)
    refine lv_iconst (v := 1) hx hb dL_draw_15 (by decide) ?_
    exact l_iret (po := fun _ => True) hx hb hr hlocks ((if_pos h9).symm) trivial hP hS dL_draw_16
  · rw [(kv_draw hk).resolve_left h9] at hcl
    refine vx_catch (own := RL) (name := sIAE) (E := sIAE) hown [⟨0, 10, 13, 13⟩] ⟨0, 10, 17, 15⟩ [] (by rw [htb]; rfl) (fun z hz => by rw [List.mem_singleton.mp hz]; exact Or.inr ⟨by decide, sIOB, hts (.classLink RL 13 sIOB) (by decide +kernel), hK.2.2.2⟩) (by decide) (by decide) (hts (.classLink RL 15 sIAE) (by decide +kernel)) (va_Nw.use (by decide) (hK.2.2.1.1 (.castable sIAE sIAE) (by decide))) hce hcv hcl ?_
    refine lv_astore (lv' := [(4, .ref q9), (0, .ref (a 0)), (1, .int p1), (2, .int p2), (3, .ref o)]) hx hb dL_draw_17 hl (by decide) rfl (fun ls hl => ?_)
    refine lv_iconst (v := 2) hx hb dL_draw_19 (by decide) ?_
    exact l_iret (po := fun _ => True) hx hb hr hlocks ((if_neg h9).symm) trivial hP hS dL_draw_20
theorem kz_wave {S : Mm} {p1 p2 : Int32} (h : kX9_wave S p1 p2 = 0) : (¬ p1 < 0) ∧ (p1 < (4 : Int32)) ∧ (¬ p2 < (0 : Int32)) ∧ (p2 ≤ (65535 : Int32)) := by
  unfold kX9_wave at h
  by_cases q1 : p1 < 0 ∨ (4 : Int32) ≤ p1
  · rw [if_pos q1] at h
    exact absurd h (by decide)
  · rw [if_neg q1] at h
    by_cases q2 : p2 < (0 : Int32) ∨ (65535 : Int32) < p2
    · rw [if_pos q2] at h
      exact absurd h (by decide)
    · rw [if_neg q2] at h
      exact ⟨fun h9 => q1 (Or.inl h9), Int32.not_le.mp (fun h9 => q1 (Or.inr h9)), fun h9 => q2 (Or.inl h9), Int32.not_lt.mp (fun h9 => q2 (Or.inr h9))⟩
theorem kv_wave {S : Mm} {p1 p2 : Int32} (h : ¬ kX9_wave S p1 p2 = 0) : kX9_wave S p1 p2 = 1 ∨ kX9_wave S p1 p2 = 2 := by
  unfold kX9_wave at h ⊢
  revert h
  (repeat' split) <;> intro h <;> first | exact absurd rfl h | exact rfl | exact Or.inl rfl | exact Or.inr rfl
set_option maxHeartbeats 4000000 in
set_option maxRecDepth 100000 in
theorem h0_L_wave (l : Launch) (hfl : l.stackTraces = false) (G : va_G) (cA cJ : ClassId) (a : Nat → Nat) (ha : apart 37 a) (o : Nat) (hao : ∀ k, k < 37 → a k ≠ o) (S : Mm) (L : Int64) (fo : Nat → Int64) (sz : Nat) (p1 : Int32) (p2 : Int32) (hk : kX9_wave S p1 p2 = 0) : Met l yL_wave wsL_wave ({ frames := 3, cells := 0, slots := 0, locals := 68 } : Room) (va_Pc [.ref (a 0), .int p1, .int p2, .ref o] (gL G cA cJ a S L o fo sz)) (va_Qi (fun (x : Int32) (f9 : Nat → Int64) => x = 0 ∧ f9 0 = (rX9_wave S p1 p2).toInt64) (fun f9 t => va_P G vwCl (wO a cA cJ S L o f9) t.heap) (mO a o sz)) 0 0 (mO a o sz) := by
  refine l_met (cc := cL_wave) (maxL := 5) (ret := some .int) (hh := [(0, 10, 13, 13), (0, 10, 17, 15)]) (by decide) rfl (Nat.le_of_ble_eq_true rfl) ?_
  intro p e s m below meth c ls hx hb hr hlocks hml hts hown htb hsz hK hP hS hl
  subst hsz
  have hl : lv_has ls 5 [(0, .ref (a 0)), (1, .int p1), (2, .int p2), (3, .ref o)] := hl
  obtain ⟨z1, z2, z3, z4⟩ := kz_wave hk
  refine lv_aload_n hx hb dL_wave_0 rfl (lv_at hl 3 rfl) ?_
  refine lv_iconst (v := 0) hx hb dL_wave_1 (by decide) ?_
  refine lv_aload_n hx hb dL_wave_2 rfl (lv_at hl 0 rfl) ?_
  refine lv_iload_n hx hb dL_wave_3 rfl (lv_at hl 1 rfl) ?_
  refine lv_iload_n hx hb dL_wave_4 rfl (lv_at hl 2 rfl) ?_
  refine l_cVi (As := [.int p1, .int p2]) (rest := [.int 0, .ref o]) ⟨hx, hb, hml, hown, hts⟩ (c_X9_wave l G cA a ha S L s.heap.size p1 p2 z1 z2 z3 z4) (cwV 2 hts gL_wave_X9_wave rfl rfl rfl (by decide +kernel) ⟨Nat.le_of_ble_eq_true rfl, Nat.le_of_ble_eq_true rfl⟩) hao hK hP hS rfl hl.1 rfl (lv_room (Nat.le_of_ble_eq_true rfl)) dL_wave_5 ⟨Nat.le_of_ble_eq_true rfl, Nat.le_of_ble_eq_true rfl⟩ (fun H locs hP hS => ?_)
  refine lv_i2l hx hb dL_wave_8 rfl ?_
  refine l_last hx hb ha hao hK hP hS (vp_in_lit (by decide)) dL_wave_9 (fun H locs hP hS => ?_)
  refine lv_goto (tgt := 21) hx hb dL_wave_10 (by decide) ?_
  refine lv_iconst (v := 0) hx hb dL_wave_21 (by decide) ?_
  exact l_iret (po := fun f9 => f9 0 = (rX9_wave S p1 p2).toInt64) hx hb hr hlocks rfl (upd_0 _ _) hP hS dL_wave_22
set_option maxHeartbeats 4000000 in
set_option maxRecDepth 100000 in
theorem h1_L_wave (l : Launch) (hfl : l.stackTraces = false) (G : va_G) (cA cJ : ClassId) (a : Nat → Nat) (ha : apart 37 a) (o : Nat) (hao : ∀ k, k < 37 → a k ≠ o) (S : Mm) (L : Int64) (fo : Nat → Int64) (sz : Nat) (p1 : Int32) (p2 : Int32) (hk : ¬ kX9_wave S p1 p2 = 0) : Met l yL_wave wsL_wave ({ frames := 8, cells := 1, slots := 6, locals := 126 } : Room) (va_Pc [.ref (a 0), .int p1, .int p2, .ref o] (gL G cA cJ a S L o fo sz)) (va_Qi (fun (x : Int32) (f9 : Nat → Int64) => x = (if kX9_wave S p1 p2 = 1 then (1 : Int32) else 2) ∧ True) (fun f9 t => va_P G vwCl (wO a cA cJ S L o f9) t.heap) (mO a o sz)) 1 6 (mO a o sz) := by
  refine l_met (cc := cL_wave) (maxL := 5) (ret := some .int) (hh := [(0, 10, 13, 13), (0, 10, 17, 15)]) (by decide) rfl (Nat.le_of_ble_eq_true rfl) ?_
  intro p e s m below meth c ls hx hb hr hlocks hml hts hown htb hsz hK hP hS hl
  subst hsz
  have hl : lv_has ls 5 [(0, .ref (a 0)), (1, .int p1), (2, .int p2), (3, .ref o)] := hl
  refine lv_aload_n hx hb dL_wave_0 rfl (lv_at hl 3 rfl) ?_
  refine lv_iconst (v := 0) hx hb dL_wave_1 (by decide) ?_
  refine lv_aload_n hx hb dL_wave_2 rfl (lv_at hl 0 rfl) ?_
  refine lv_iload_n hx hb dL_wave_3 rfl (lv_at hl 1 rfl) ?_
  refine lv_iload_n hx hb dL_wave_4 rfl (lv_at hl 2 rfl) ?_
  refine l_thrV (E0 := xN (kX9_wave S p1 p2)) (As := [.int p1, .int p2]) (rest := [.int 0, .ref o]) ⟨hx, hb, hml, hown, hts⟩ (t_X9_wave l hfl G cA a ha S L s.heap.size p1 p2 hk) (cwV 2 hts gL_wave_X9_wave rfl rfl rfl (by decide +kernel) ⟨Nat.le_of_ble_eq_true rfl, Nat.le_of_ble_eq_true rfl⟩) hao hK hP hS rfl hl.1 rfl (lv_room (Nat.le_of_ble_eq_true rfl)) dL_wave_5 ⟨Nat.le_of_ble_eq_true rfl, Nat.le_of_ble_eq_true rfl⟩ (fun ce q9 H locs hP hS hce hcv hcl => ?_)
  by_cases h9 : kX9_wave S p1 p2 = 1
  · rw [h9] at hcl
    refine vx_catch (own := RL) (name := sIOB) (E := sIOB) hown [] ⟨0, 10, 13, 13⟩ [⟨0, 10, 17, 15⟩] (by rw [htb]; rfl) (fun z hz => nomatch hz) (by decide) (by decide) (hts (.classLink RL 13 sIOB) (by decide +kernel)) (va_Nw.use (by decide) (hK.2.2.1.1 (.castable sIOB sIOB) (by decide))) hce hcv hcl ?_
    refine lv_astore (lv' := [(4, .ref q9), (0, .ref (a 0)), (1, .int p1), (2, .int p2), (3, .ref o)]) hx hb dL_wave_13 hl (by decide) rfl (fun ls hl => ?_)
    refine lv_iconst (v := 1) hx hb dL_wave_15 (by decide) ?_
    exact l_iret (po := fun _ => True) hx hb hr hlocks ((if_pos h9).symm) trivial hP hS dL_wave_16
  · rw [(kv_wave hk).resolve_left h9] at hcl
    refine vx_catch (own := RL) (name := sIAE) (E := sIAE) hown [⟨0, 10, 13, 13⟩] ⟨0, 10, 17, 15⟩ [] (by rw [htb]; rfl) (fun z hz => by rw [List.mem_singleton.mp hz]; exact Or.inr ⟨by decide, sIOB, hts (.classLink RL 13 sIOB) (by decide +kernel), hK.2.2.2⟩) (by decide) (by decide) (hts (.classLink RL 15 sIAE) (by decide +kernel)) (va_Nw.use (by decide) (hK.2.2.1.1 (.castable sIAE sIAE) (by decide))) hce hcv hcl ?_
    refine lv_astore (lv' := [(4, .ref q9), (0, .ref (a 0)), (1, .int p1), (2, .int p2), (3, .ref o)]) hx hb dL_wave_17 hl (by decide) rfl (fun ls hl => ?_)
    refine lv_iconst (v := 2) hx hb dL_wave_19 (by decide) ?_
    exact l_iret (po := fun _ => True) hx hb hr hlocks ((if_neg h9).symm) trivial hP hS dL_wave_20
theorem kz_stride {S : Mm} {p1 : Int32} (h : kX9_stride S p1 = 0) : (¬ p1 < (0 : Int32)) ∧ (p1 ≤ (47 : Int32)) := by
  unfold kX9_stride at h
  by_cases q1 : p1 < (0 : Int32) ∨ (47 : Int32) < p1
  · rw [if_pos q1] at h
    exact absurd h (by decide)
  · rw [if_neg q1] at h
    exact ⟨fun h9 => q1 (Or.inl h9), Int32.not_lt.mp (fun h9 => q1 (Or.inr h9))⟩
theorem kv_stride {S : Mm} {p1 : Int32} (h : ¬ kX9_stride S p1 = 0) : kX9_stride S p1 = 2 := by
  unfold kX9_stride at h ⊢
  revert h
  (repeat' split) <;> intro h <;> first | exact absurd rfl h | exact rfl | exact Or.inl rfl | exact Or.inr rfl
set_option maxHeartbeats 4000000 in
set_option maxRecDepth 100000 in
theorem h0_L_stride (l : Launch) (hfl : l.stackTraces = false) (G : va_G) (cA cJ : ClassId) (a : Nat → Nat) (ha : apart 37 a) (o : Nat) (hao : ∀ k, k < 37 → a k ≠ o) (S : Mm) (L : Int64) (fo : Nat → Int64) (sz : Nat) (p1 : Int32) (hk : kX9_stride S p1 = 0) : Met l yL_stride wsL_stride ({ frames := 2, cells := 0, slots := 0, locals := 43 } : Room) (va_Pc [.ref (a 0), .int p1, .ref o] (gL G cA cJ a S L o fo sz)) (va_Qi (fun (x : Int32) (f9 : Nat → Int64) => x = 0 ∧ f9 0 = (rX9_stride S p1).toInt64) (fun f9 t => va_P G vwCl (wO a cA cJ S L o f9) t.heap) (mO a o sz)) 0 0 (mO a o sz) := by
  refine l_met (cc := cL_stride) (maxL := 4) (ret := some .int) (hh := [(0, 9, 12, 15)]) (by decide) rfl (Nat.le_of_ble_eq_true rfl) ?_
  intro p e s m below meth c ls hx hb hr hlocks hml hts hown htb hsz hK hP hS hl
  subst hsz
  have hl : lv_has ls 4 [(0, .ref (a 0)), (1, .int p1), (2, .ref o)] := hl
  obtain ⟨z1, z2⟩ := kz_stride hk
  refine lv_aload_n hx hb dL_stride_0 rfl (lv_at hl 2 rfl) ?_
  refine lv_iconst (v := 0) hx hb dL_stride_1 (by decide) ?_
  refine lv_aload_n hx hb dL_stride_2 rfl (lv_at hl 0 rfl) ?_
  refine lv_iload_n hx hb dL_stride_3 rfl (lv_at hl 1 rfl) ?_
  refine l_cVi (As := [.int p1]) (rest := [.int 0, .ref o]) ⟨hx, hb, hml, hown, hts⟩ (c_X9_stride l G cA a ha S L s.heap.size p1 z1 z2) (cwV 1 hts gL_stride_X9_stride rfl rfl rfl (by decide +kernel) ⟨Nat.le_of_ble_eq_true rfl, Nat.le_of_ble_eq_true rfl⟩) hao hK hP hS rfl hl.1 rfl (lv_room (Nat.le_of_ble_eq_true rfl)) dL_stride_4 ⟨Nat.le_of_ble_eq_true rfl, Nat.le_of_ble_eq_true rfl⟩ (fun H locs hP hS => ?_)
  refine lv_i2l hx hb dL_stride_7 rfl ?_
  refine l_last hx hb ha hao hK hP hS (vp_in_lit (by decide)) dL_stride_8 (fun H locs hP hS => ?_)
  refine lv_goto (tgt := 15) hx hb dL_stride_9 (by decide) ?_
  refine lv_iconst (v := 0) hx hb dL_stride_15 (by decide) ?_
  exact l_iret (po := fun f9 => f9 0 = (rX9_stride S p1).toInt64) hx hb hr hlocks rfl (upd_0 _ _) hP hS dL_stride_16
set_option maxHeartbeats 4000000 in
set_option maxRecDepth 100000 in
theorem h1_L_stride (l : Launch) (hfl : l.stackTraces = false) (G : va_G) (cA cJ : ClassId) (a : Nat → Nat) (ha : apart 37 a) (o : Nat) (hao : ∀ k, k < 37 → a k ≠ o) (S : Mm) (L : Int64) (fo : Nat → Int64) (sz : Nat) (p1 : Int32) (hk : ¬ kX9_stride S p1 = 0) : Met l yL_stride wsL_stride ({ frames := 8, cells := 1, slots := 6, locals := 125 } : Room) (va_Pc [.ref (a 0), .int p1, .ref o] (gL G cA cJ a S L o fo sz)) (va_Qi (fun (x : Int32) (f9 : Nat → Int64) => x = 1 ∧ True) (fun f9 t => va_P G vwCl (wO a cA cJ S L o f9) t.heap) (mO a o sz)) 1 6 (mO a o sz) := by
  refine l_met (cc := cL_stride) (maxL := 4) (ret := some .int) (hh := [(0, 9, 12, 15)]) (by decide) rfl (Nat.le_of_ble_eq_true rfl) ?_
  intro p e s m below meth c ls hx hb hr hlocks hml hts hown htb hsz hK hP hS hl
  subst hsz
  have hl : lv_has ls 4 [(0, .ref (a 0)), (1, .int p1), (2, .ref o)] := hl
  refine lv_aload_n hx hb dL_stride_0 rfl (lv_at hl 2 rfl) ?_
  refine lv_iconst (v := 0) hx hb dL_stride_1 (by decide) ?_
  refine lv_aload_n hx hb dL_stride_2 rfl (lv_at hl 0 rfl) ?_
  refine lv_iload_n hx hb dL_stride_3 rfl (lv_at hl 1 rfl) ?_
  refine l_thrV (E0 := xN (kX9_stride S p1)) (As := [.int p1]) (rest := [.int 0, .ref o]) ⟨hx, hb, hml, hown, hts⟩ (t_X9_stride l hfl G cA a ha S L s.heap.size p1 hk) (cwV 1 hts gL_stride_X9_stride rfl rfl rfl (by decide +kernel) ⟨Nat.le_of_ble_eq_true rfl, Nat.le_of_ble_eq_true rfl⟩) hao hK hP hS rfl hl.1 rfl (lv_room (Nat.le_of_ble_eq_true rfl)) dL_stride_4 ⟨Nat.le_of_ble_eq_true rfl, Nat.le_of_ble_eq_true rfl⟩ (fun ce q9 H locs hP hS hce hcv hcl => ?_)
  rw [kv_stride hk] at hcl
  refine vx_catch (own := RL) (name := sIAE) (E := sIAE) hown [] ⟨0, 9, 12, 15⟩ [] (by rw [htb]; rfl) (fun z hz => nomatch hz) (by decide) (by decide) (hts (.classLink RL 15 sIAE) (by decide +kernel)) (va_Nw.use (by decide) (hK.2.2.1.1 (.castable sIAE sIAE) (by decide))) hce hcv hcl ?_
  refine lv_astore_n (lv' := [(3, .ref q9), (0, .ref (a 0)), (1, .int p1), (2, .ref o)]) hx hb dL_stride_12 rfl hl (by decide) rfl (fun ls hl => ?_)
  refine lv_iconst (v := 1) hx hb dL_stride_13 (by decide) ?_
  exact l_iret (po := fun _ => True) hx hb hr hlocks (rfl) trivial hP hS dL_stride_14
theorem kz_setWaves {S : Mm} {p1 p2 p3 p4 p5 : Int32} (h : kX9_setWaves S p1 p2 p3 p4 p5 = 0) : (¬ p1 < 0) ∧ (p1 < (4 : Int32)) ∧ (¬ p2 < 0) ∧ (p2 < (4 : Int32)) ∧ (¬ p3 < 0) ∧ (p3 < (4 : Int32)) ∧ (¬ p4 < ((-64) : Int32)) ∧ (p4 ≤ (64 : Int32)) ∧ (¬ p5 < (0 : Int32)) ∧ (p5 ≤ (100 : Int32)) := by
  unfold kX9_setWaves at h
  by_cases q1 : p1 < 0 ∨ (4 : Int32) ≤ p1
  · rw [if_pos q1] at h
    exact absurd h (by decide)
  · rw [if_neg q1] at h
    by_cases q2 : p2 < 0 ∨ (4 : Int32) ≤ p2
    · rw [if_pos q2] at h
      exact absurd h (by decide)
    · rw [if_neg q2] at h
      by_cases q3 : p3 < 0 ∨ (4 : Int32) ≤ p3
      · rw [if_pos q3] at h
        exact absurd h (by decide)
      · rw [if_neg q3] at h
        by_cases q4 : p4 < ((-64) : Int32) ∨ (64 : Int32) < p4
        · rw [if_pos q4] at h
          exact absurd h (by decide)
        · rw [if_neg q4] at h
          by_cases q5 : p5 < (0 : Int32) ∨ (100 : Int32) < p5
          · rw [if_pos q5] at h
            exact absurd h (by decide)
          · rw [if_neg q5] at h
            exact ⟨fun h9 => q1 (Or.inl h9), Int32.not_le.mp (fun h9 => q1 (Or.inr h9)), fun h9 => q2 (Or.inl h9), Int32.not_le.mp (fun h9 => q2 (Or.inr h9)), fun h9 => q3 (Or.inl h9), Int32.not_le.mp (fun h9 => q3 (Or.inr h9)), fun h9 => q4 (Or.inl h9), Int32.not_lt.mp (fun h9 => q4 (Or.inr h9)), fun h9 => q5 (Or.inl h9), Int32.not_lt.mp (fun h9 => q5 (Or.inr h9))⟩
theorem kv_setWaves {S : Mm} {p1 p2 p3 p4 p5 : Int32} (h : ¬ kX9_setWaves S p1 p2 p3 p4 p5 = 0) : kX9_setWaves S p1 p2 p3 p4 p5 = 1 ∨ kX9_setWaves S p1 p2 p3 p4 p5 = 2 := by
  unfold kX9_setWaves at h ⊢
  revert h
  (repeat' split) <;> intro h <;> first | exact absurd rfl h | exact rfl | exact Or.inl rfl | exact Or.inr rfl
set_option maxHeartbeats 4000000 in
set_option maxRecDepth 100000 in
theorem h0_L_setWaves (l : Launch) (hfl : l.stackTraces = false) (G : va_G) (cA cJ : ClassId) (a : Nat → Nat) (ha : apart 37 a) (o : Nat) (hao : ∀ k, k < 37 → a k ≠ o) (S : Mm) (L : Int64) (fo : Nat → Int64) (sz : Nat) (p1 : Int32) (p2 : Int32) (p3 : Int32) (p4 : Int32) (p5 : Int32) (hk : kX9_setWaves S p1 p2 p3 p4 p5 = 0) : Met l yL_setWaves wsL_setWaves ({ frames := 2, cells := 0, slots := 0, locals := 49 } : Room) (va_Pc [.ref (a 0), .int p1, .int p2, .int p3, .int p4, .int p5, .ref o] (gL G cA cJ a S L o fo sz)) (va_Qi (fun (x : Int32) (f9 : Nat → Int64) => x = 0 ∧ f9 0 = (rX9_setWaves S p1 p2 p3 p4 p5).toInt64) (fun f9 t => va_P G vwCl (wO a cA cJ (fX9_setWaves S p1 p2 p3 p4 p5) L o f9) t.heap) (mO a o sz)) 0 0 (mO a o sz) := by
  refine l_met (cc := cL_setWaves) (maxL := 8) (ret := some .int) (hh := [(0, 16, 19, 13), (0, 16, 23, 15)]) (by decide) rfl (Nat.le_of_ble_eq_true rfl) ?_
  intro p e s m below meth c ls hx hb hr hlocks hml hts hown htb hsz hK hP hS hl
  subst hsz
  have hl : lv_has ls 8 [(0, .ref (a 0)), (1, .int p1), (2, .int p2), (3, .int p3), (4, .int p4), (5, .int p5), (6, .ref o)] := hl
  obtain ⟨z1, z2, z3, z4, z5, z6, z7, z8, z9, z10⟩ := kz_setWaves hk
  refine lv_aload hx hb dL_setWaves_0 (lv_at hl 6 rfl) ?_
  refine lv_iconst (v := 0) hx hb dL_setWaves_2 (by decide) ?_
  refine lv_aload_n hx hb dL_setWaves_3 rfl (lv_at hl 0 rfl) ?_
  refine lv_iload_n hx hb dL_setWaves_4 rfl (lv_at hl 1 rfl) ?_
  refine lv_iload_n hx hb dL_setWaves_5 rfl (lv_at hl 2 rfl) ?_
  refine lv_iload_n hx hb dL_setWaves_6 rfl (lv_at hl 3 rfl) ?_
  refine lv_iload hx hb dL_setWaves_7 (lv_at hl 4 rfl) ?_
  refine lv_iload hx hb dL_setWaves_9 (lv_at hl 5 rfl) ?_
  refine l_cVi (As := [.int p1, .int p2, .int p3, .int p4, .int p5]) (rest := [.int 0, .ref o]) ⟨hx, hb, hml, hown, hts⟩ (c_X9_setWaves l G cA a ha S L s.heap.size p1 p2 p3 p4 p5 z1 z2 z3 z4 z5 z6 z7 z8 z9 z10) (cwV 5 hts gL_setWaves_X9_setWaves rfl rfl rfl (by decide +kernel) ⟨Nat.le_of_ble_eq_true rfl, Nat.le_of_ble_eq_true rfl⟩) hao hK hP hS rfl hl.1 rfl (lv_room (Nat.le_of_ble_eq_true rfl)) dL_setWaves_11 ⟨Nat.le_of_ble_eq_true rfl, Nat.le_of_ble_eq_true rfl⟩ (fun H locs hP hS => ?_)
  refine lv_i2l hx hb dL_setWaves_14 rfl ?_
  refine l_last hx hb ha hao hK hP hS (vp_in_lit (by decide)) dL_setWaves_15 (fun H locs hP hS => ?_)
  refine lv_goto (tgt := 27) hx hb dL_setWaves_16 (by decide) ?_
  refine lv_iconst (v := 0) hx hb dL_setWaves_27 (by decide) ?_
  exact l_iret (po := fun f9 => f9 0 = (rX9_setWaves S p1 p2 p3 p4 p5).toInt64) hx hb hr hlocks rfl (upd_0 _ _) hP hS dL_setWaves_28
set_option maxHeartbeats 4000000 in
set_option maxRecDepth 100000 in
theorem h1_L_setWaves (l : Launch) (hfl : l.stackTraces = false) (G : va_G) (cA cJ : ClassId) (a : Nat → Nat) (ha : apart 37 a) (o : Nat) (hao : ∀ k, k < 37 → a k ≠ o) (S : Mm) (L : Int64) (fo : Nat → Int64) (sz : Nat) (p1 : Int32) (p2 : Int32) (p3 : Int32) (p4 : Int32) (p5 : Int32) (hk : ¬ kX9_setWaves S p1 p2 p3 p4 p5 = 0) : Met l yL_setWaves wsL_setWaves ({ frames := 8, cells := 1, slots := 6, locals := 131 } : Room) (va_Pc [.ref (a 0), .int p1, .int p2, .int p3, .int p4, .int p5, .ref o] (gL G cA cJ a S L o fo sz)) (va_Qi (fun (x : Int32) (f9 : Nat → Int64) => x = (if kX9_setWaves S p1 p2 p3 p4 p5 = 1 then (1 : Int32) else 2) ∧ True) (fun f9 t => va_P G vwCl (wO a cA cJ S L o f9) t.heap) (mO a o sz)) 1 6 (mO a o sz) := by
  refine l_met (cc := cL_setWaves) (maxL := 8) (ret := some .int) (hh := [(0, 16, 19, 13), (0, 16, 23, 15)]) (by decide) rfl (Nat.le_of_ble_eq_true rfl) ?_
  intro p e s m below meth c ls hx hb hr hlocks hml hts hown htb hsz hK hP hS hl
  subst hsz
  have hl : lv_has ls 8 [(0, .ref (a 0)), (1, .int p1), (2, .int p2), (3, .int p3), (4, .int p4), (5, .int p5), (6, .ref o)] := hl
  refine lv_aload hx hb dL_setWaves_0 (lv_at hl 6 rfl) ?_
  refine lv_iconst (v := 0) hx hb dL_setWaves_2 (by decide) ?_
  refine lv_aload_n hx hb dL_setWaves_3 rfl (lv_at hl 0 rfl) ?_
  refine lv_iload_n hx hb dL_setWaves_4 rfl (lv_at hl 1 rfl) ?_
  refine lv_iload_n hx hb dL_setWaves_5 rfl (lv_at hl 2 rfl) ?_
  refine lv_iload_n hx hb dL_setWaves_6 rfl (lv_at hl 3 rfl) ?_
  refine lv_iload hx hb dL_setWaves_7 (lv_at hl 4 rfl) ?_
  refine lv_iload hx hb dL_setWaves_9 (lv_at hl 5 rfl) ?_
  refine l_thrV (E0 := xN (kX9_setWaves S p1 p2 p3 p4 p5)) (As := [.int p1, .int p2, .int p3, .int p4, .int p5]) (rest := [.int 0, .ref o]) ⟨hx, hb, hml, hown, hts⟩ (t_X9_setWaves l hfl G cA a ha S L s.heap.size p1 p2 p3 p4 p5 hk) (cwV 5 hts gL_setWaves_X9_setWaves rfl rfl rfl (by decide +kernel) ⟨Nat.le_of_ble_eq_true rfl, Nat.le_of_ble_eq_true rfl⟩) hao hK hP hS rfl hl.1 rfl (lv_room (Nat.le_of_ble_eq_true rfl)) dL_setWaves_11 ⟨Nat.le_of_ble_eq_true rfl, Nat.le_of_ble_eq_true rfl⟩ (fun ce q9 H locs hP hS hce hcv hcl => ?_)
  by_cases h9 : kX9_setWaves S p1 p2 p3 p4 p5 = 1
  · rw [h9] at hcl
    refine vx_catch (own := RL) (name := sIOB) (E := sIOB) hown [] ⟨0, 16, 19, 13⟩ [⟨0, 16, 23, 15⟩] (by rw [htb]; rfl) (fun z hz => nomatch hz) (by decide) (by decide) (hts (.classLink RL 13 sIOB) (by decide +kernel)) (va_Nw.use (by decide) (hK.2.2.1.1 (.castable sIOB sIOB) (by decide))) hce hcv hcl ?_
    refine lv_astore (lv' := [(7, .ref q9), (0, .ref (a 0)), (1, .int p1), (2, .int p2), (3, .int p3), (4, .int p4), (5, .int p5), (6, .ref o)]) hx hb dL_setWaves_19 hl (by decide) rfl (fun ls hl => ?_)
    refine lv_iconst (v := 1) hx hb dL_setWaves_21 (by decide) ?_
    exact l_iret (po := fun _ => True) hx hb hr hlocks ((if_pos h9).symm) trivial hP hS dL_setWaves_22
  · rw [(kv_setWaves hk).resolve_left h9] at hcl
    refine vx_catch (own := RL) (name := sIAE) (E := sIAE) hown [⟨0, 16, 19, 13⟩] ⟨0, 16, 23, 15⟩ [] (by rw [htb]; rfl) (fun z hz => by rw [List.mem_singleton.mp hz]; exact Or.inr ⟨by decide, sIOB, hts (.classLink RL 13 sIOB) (by decide +kernel), hK.2.2.2⟩) (by decide) (by decide) (hts (.classLink RL 15 sIAE) (by decide +kernel)) (va_Nw.use (by decide) (hK.2.2.1.1 (.castable sIAE sIAE) (by decide))) hce hcv hcl ?_
    refine lv_astore (lv' := [(7, .ref q9), (0, .ref (a 0)), (1, .int p1), (2, .int p2), (3, .int p3), (4, .int p4), (5, .int p5), (6, .ref o)]) hx hb dL_setWaves_23 hl (by decide) rfl (fun ls hl => ?_)
    refine lv_iconst (v := 2) hx hb dL_setWaves_25 (by decide) ?_
    exact l_iret (po := fun _ => True) hx hb hr hlocks ((if_neg h9).symm) trivial hP hS dL_setWaves_26
theorem kz_setEnvelope {S : Mm} {p1 p2 p3 p4 p5 : Int32} (h : kX9_setEnvelope S p1 p2 p3 p4 p5 = 0) : (¬ p1 < 0) ∧ (p1 < (4 : Int32)) ∧ (¬ p2 < (1 : Int32)) ∧ (p2 ≤ (400 : Int32)) ∧ (¬ p3 < (1 : Int32)) ∧ (p3 ≤ (400 : Int32)) ∧ (¬ p4 < (0 : Int32)) ∧ (p4 ≤ (1000 : Int32)) ∧ (¬ p5 < (1 : Int32)) ∧ (p5 ≤ (400 : Int32)) := by
  unfold kX9_setEnvelope at h
  by_cases q1 : p1 < 0 ∨ (4 : Int32) ≤ p1
  · rw [if_pos q1] at h
    exact absurd h (by decide)
  · rw [if_neg q1] at h
    by_cases q2 : p2 < (1 : Int32) ∨ (400 : Int32) < p2
    · rw [if_pos q2] at h
      exact absurd h (by decide)
    · rw [if_neg q2] at h
      by_cases q3 : p3 < (1 : Int32) ∨ (400 : Int32) < p3
      · rw [if_pos q3] at h
        exact absurd h (by decide)
      · rw [if_neg q3] at h
        by_cases q4 : p4 < (0 : Int32) ∨ (1000 : Int32) < p4
        · rw [if_pos q4] at h
          exact absurd h (by decide)
        · rw [if_neg q4] at h
          by_cases q5 : p5 < (1 : Int32) ∨ (400 : Int32) < p5
          · rw [if_pos q5] at h
            exact absurd h (by decide)
          · rw [if_neg q5] at h
            exact ⟨fun h9 => q1 (Or.inl h9), Int32.not_le.mp (fun h9 => q1 (Or.inr h9)), fun h9 => q2 (Or.inl h9), Int32.not_lt.mp (fun h9 => q2 (Or.inr h9)), fun h9 => q3 (Or.inl h9), Int32.not_lt.mp (fun h9 => q3 (Or.inr h9)), fun h9 => q4 (Or.inl h9), Int32.not_lt.mp (fun h9 => q4 (Or.inr h9)), fun h9 => q5 (Or.inl h9), Int32.not_lt.mp (fun h9 => q5 (Or.inr h9))⟩
theorem kv_setEnvelope {S : Mm} {p1 p2 p3 p4 p5 : Int32} (h : ¬ kX9_setEnvelope S p1 p2 p3 p4 p5 = 0) : kX9_setEnvelope S p1 p2 p3 p4 p5 = 1 ∨ kX9_setEnvelope S p1 p2 p3 p4 p5 = 2 := by
  unfold kX9_setEnvelope at h ⊢
  revert h
  (repeat' split) <;> intro h <;> first | exact absurd rfl h | exact rfl | exact Or.inl rfl | exact Or.inr rfl
set_option maxHeartbeats 4000000 in
set_option maxRecDepth 100000 in
theorem h0_L_setEnvelope (l : Launch) (hfl : l.stackTraces = false) (G : va_G) (cA cJ : ClassId) (a : Nat → Nat) (ha : apart 37 a) (o : Nat) (hao : ∀ k, k < 37 → a k ≠ o) (S : Mm) (L : Int64) (fo : Nat → Int64) (sz : Nat) (p1 : Int32) (p2 : Int32) (p3 : Int32) (p4 : Int32) (p5 : Int32) (hk : kX9_setEnvelope S p1 p2 p3 p4 p5 = 0) : Met l yL_setEnvelope wsL_setEnvelope ({ frames := 2, cells := 0, slots := 0, locals := 49 } : Room) (va_Pc [.ref (a 0), .int p1, .int p2, .int p3, .int p4, .int p5, .ref o] (gL G cA cJ a S L o fo sz)) (va_Qi (fun (x : Int32) (f9 : Nat → Int64) => x = 0 ∧ f9 0 = (rX9_setEnvelope S p1 p2 p3 p4 p5).toInt64) (fun f9 t => va_P G vwCl (wO a cA cJ (fX9_setEnvelope S p1 p2 p3 p4 p5) L o f9) t.heap) (mO a o sz)) 0 0 (mO a o sz) := by
  refine l_met (cc := cL_setEnvelope) (maxL := 8) (ret := some .int) (hh := [(0, 16, 19, 13), (0, 16, 23, 15)]) (by decide) rfl (Nat.le_of_ble_eq_true rfl) ?_
  intro p e s m below meth c ls hx hb hr hlocks hml hts hown htb hsz hK hP hS hl
  subst hsz
  have hl : lv_has ls 8 [(0, .ref (a 0)), (1, .int p1), (2, .int p2), (3, .int p3), (4, .int p4), (5, .int p5), (6, .ref o)] := hl
  obtain ⟨z1, z2, z3, z4, z5, z6, z7, z8, z9, z10⟩ := kz_setEnvelope hk
  refine lv_aload hx hb dL_setEnvelope_0 (lv_at hl 6 rfl) ?_
  refine lv_iconst (v := 0) hx hb dL_setEnvelope_2 (by decide) ?_
  refine lv_aload_n hx hb dL_setEnvelope_3 rfl (lv_at hl 0 rfl) ?_
  refine lv_iload_n hx hb dL_setEnvelope_4 rfl (lv_at hl 1 rfl) ?_
  refine lv_iload_n hx hb dL_setEnvelope_5 rfl (lv_at hl 2 rfl) ?_
  refine lv_iload_n hx hb dL_setEnvelope_6 rfl (lv_at hl 3 rfl) ?_
  refine lv_iload hx hb dL_setEnvelope_7 (lv_at hl 4 rfl) ?_
  refine lv_iload hx hb dL_setEnvelope_9 (lv_at hl 5 rfl) ?_
  refine l_cVi (As := [.int p1, .int p2, .int p3, .int p4, .int p5]) (rest := [.int 0, .ref o]) ⟨hx, hb, hml, hown, hts⟩ (c_X9_setEnvelope l G cA a ha S L s.heap.size p1 p2 p3 p4 p5 z1 z2 z3 z4 z5 z6 z7 z8 z9 z10) (cwV 5 hts gL_setEnvelope_X9_setEnvelope rfl rfl rfl (by decide +kernel) ⟨Nat.le_of_ble_eq_true rfl, Nat.le_of_ble_eq_true rfl⟩) hao hK hP hS rfl hl.1 rfl (lv_room (Nat.le_of_ble_eq_true rfl)) dL_setEnvelope_11 ⟨Nat.le_of_ble_eq_true rfl, Nat.le_of_ble_eq_true rfl⟩ (fun H locs hP hS => ?_)
  refine lv_i2l hx hb dL_setEnvelope_14 rfl ?_
  refine l_last hx hb ha hao hK hP hS (vp_in_lit (by decide)) dL_setEnvelope_15 (fun H locs hP hS => ?_)
  refine lv_goto (tgt := 27) hx hb dL_setEnvelope_16 (by decide) ?_
  refine lv_iconst (v := 0) hx hb dL_setEnvelope_27 (by decide) ?_
  exact l_iret (po := fun f9 => f9 0 = (rX9_setEnvelope S p1 p2 p3 p4 p5).toInt64) hx hb hr hlocks rfl (upd_0 _ _) hP hS dL_setEnvelope_28
set_option maxHeartbeats 4000000 in
set_option maxRecDepth 100000 in
theorem h1_L_setEnvelope (l : Launch) (hfl : l.stackTraces = false) (G : va_G) (cA cJ : ClassId) (a : Nat → Nat) (ha : apart 37 a) (o : Nat) (hao : ∀ k, k < 37 → a k ≠ o) (S : Mm) (L : Int64) (fo : Nat → Int64) (sz : Nat) (p1 : Int32) (p2 : Int32) (p3 : Int32) (p4 : Int32) (p5 : Int32) (hk : ¬ kX9_setEnvelope S p1 p2 p3 p4 p5 = 0) : Met l yL_setEnvelope wsL_setEnvelope ({ frames := 8, cells := 1, slots := 6, locals := 131 } : Room) (va_Pc [.ref (a 0), .int p1, .int p2, .int p3, .int p4, .int p5, .ref o] (gL G cA cJ a S L o fo sz)) (va_Qi (fun (x : Int32) (f9 : Nat → Int64) => x = (if kX9_setEnvelope S p1 p2 p3 p4 p5 = 1 then (1 : Int32) else 2) ∧ True) (fun f9 t => va_P G vwCl (wO a cA cJ S L o f9) t.heap) (mO a o sz)) 1 6 (mO a o sz) := by
  refine l_met (cc := cL_setEnvelope) (maxL := 8) (ret := some .int) (hh := [(0, 16, 19, 13), (0, 16, 23, 15)]) (by decide) rfl (Nat.le_of_ble_eq_true rfl) ?_
  intro p e s m below meth c ls hx hb hr hlocks hml hts hown htb hsz hK hP hS hl
  subst hsz
  have hl : lv_has ls 8 [(0, .ref (a 0)), (1, .int p1), (2, .int p2), (3, .int p3), (4, .int p4), (5, .int p5), (6, .ref o)] := hl
  refine lv_aload hx hb dL_setEnvelope_0 (lv_at hl 6 rfl) ?_
  refine lv_iconst (v := 0) hx hb dL_setEnvelope_2 (by decide) ?_
  refine lv_aload_n hx hb dL_setEnvelope_3 rfl (lv_at hl 0 rfl) ?_
  refine lv_iload_n hx hb dL_setEnvelope_4 rfl (lv_at hl 1 rfl) ?_
  refine lv_iload_n hx hb dL_setEnvelope_5 rfl (lv_at hl 2 rfl) ?_
  refine lv_iload_n hx hb dL_setEnvelope_6 rfl (lv_at hl 3 rfl) ?_
  refine lv_iload hx hb dL_setEnvelope_7 (lv_at hl 4 rfl) ?_
  refine lv_iload hx hb dL_setEnvelope_9 (lv_at hl 5 rfl) ?_
  refine l_thrV (E0 := xN (kX9_setEnvelope S p1 p2 p3 p4 p5)) (As := [.int p1, .int p2, .int p3, .int p4, .int p5]) (rest := [.int 0, .ref o]) ⟨hx, hb, hml, hown, hts⟩ (t_X9_setEnvelope l hfl G cA a ha S L s.heap.size p1 p2 p3 p4 p5 hk) (cwV 5 hts gL_setEnvelope_X9_setEnvelope rfl rfl rfl (by decide +kernel) ⟨Nat.le_of_ble_eq_true rfl, Nat.le_of_ble_eq_true rfl⟩) hao hK hP hS rfl hl.1 rfl (lv_room (Nat.le_of_ble_eq_true rfl)) dL_setEnvelope_11 ⟨Nat.le_of_ble_eq_true rfl, Nat.le_of_ble_eq_true rfl⟩ (fun ce q9 H locs hP hS hce hcv hcl => ?_)
  by_cases h9 : kX9_setEnvelope S p1 p2 p3 p4 p5 = 1
  · rw [h9] at hcl
    refine vx_catch (own := RL) (name := sIOB) (E := sIOB) hown [] ⟨0, 16, 19, 13⟩ [⟨0, 16, 23, 15⟩] (by rw [htb]; rfl) (fun z hz => nomatch hz) (by decide) (by decide) (hts (.classLink RL 13 sIOB) (by decide +kernel)) (va_Nw.use (by decide) (hK.2.2.1.1 (.castable sIOB sIOB) (by decide))) hce hcv hcl ?_
    refine lv_astore (lv' := [(7, .ref q9), (0, .ref (a 0)), (1, .int p1), (2, .int p2), (3, .int p3), (4, .int p4), (5, .int p5), (6, .ref o)]) hx hb dL_setEnvelope_19 hl (by decide) rfl (fun ls hl => ?_)
    refine lv_iconst (v := 1) hx hb dL_setEnvelope_21 (by decide) ?_
    exact l_iret (po := fun _ => True) hx hb hr hlocks ((if_pos h9).symm) trivial hP hS dL_setEnvelope_22
  · rw [(kv_setEnvelope hk).resolve_left h9] at hcl
    refine vx_catch (own := RL) (name := sIAE) (E := sIAE) hown [⟨0, 16, 19, 13⟩] ⟨0, 16, 23, 15⟩ [] (by rw [htb]; rfl) (fun z hz => by rw [List.mem_singleton.mp hz]; exact Or.inr ⟨by decide, sIOB, hts (.classLink RL 13 sIOB) (by decide +kernel), hK.2.2.2⟩) (by decide) (by decide) (hts (.classLink RL 15 sIAE) (by decide +kernel)) (va_Nw.use (by decide) (hK.2.2.1.1 (.castable sIAE sIAE) (by decide))) hce hcv hcl ?_
    refine lv_astore (lv' := [(7, .ref q9), (0, .ref (a 0)), (1, .int p1), (2, .int p2), (3, .int p3), (4, .int p4), (5, .int p5), (6, .ref o)]) hx hb dL_setEnvelope_23 hl (by decide) rfl (fun ls hl => ?_)
    refine lv_iconst (v := 2) hx hb dL_setEnvelope_25 (by decide) ?_
    exact l_iret (po := fun _ => True) hx hb hr hlocks ((if_neg h9).symm) trivial hP hS dL_setEnvelope_26
theorem kz_setFilter {S : Mm} {p1 p2 p3 : Int32} (h : kX9_setFilter S p1 p2 p3 = 0) : (¬ p1 < 0) ∧ (p1 < (4 : Int32)) ∧ (¬ p2 < (1 : Int32)) ∧ (p2 ≤ (128 : Int32)) ∧ (¬ p3 < (16 : Int32)) ∧ (p3 ≤ (256 : Int32)) := by
  unfold kX9_setFilter at h
  by_cases q1 : p1 < 0 ∨ (4 : Int32) ≤ p1
  · rw [if_pos q1] at h
    exact absurd h (by decide)
  · rw [if_neg q1] at h
    by_cases q2 : p2 < (1 : Int32) ∨ (128 : Int32) < p2
    · rw [if_pos q2] at h
      exact absurd h (by decide)
    · rw [if_neg q2] at h
      by_cases q3 : p3 < (16 : Int32) ∨ (256 : Int32) < p3
      · rw [if_pos q3] at h
        exact absurd h (by decide)
      · rw [if_neg q3] at h
        exact ⟨fun h9 => q1 (Or.inl h9), Int32.not_le.mp (fun h9 => q1 (Or.inr h9)), fun h9 => q2 (Or.inl h9), Int32.not_lt.mp (fun h9 => q2 (Or.inr h9)), fun h9 => q3 (Or.inl h9), Int32.not_lt.mp (fun h9 => q3 (Or.inr h9))⟩
theorem kv_setFilter {S : Mm} {p1 p2 p3 : Int32} (h : ¬ kX9_setFilter S p1 p2 p3 = 0) : kX9_setFilter S p1 p2 p3 = 1 ∨ kX9_setFilter S p1 p2 p3 = 2 := by
  unfold kX9_setFilter at h ⊢
  revert h
  (repeat' split) <;> intro h <;> first | exact absurd rfl h | exact rfl | exact Or.inl rfl | exact Or.inr rfl
set_option maxHeartbeats 4000000 in
set_option maxRecDepth 100000 in
theorem h0_L_setFilter (l : Launch) (hfl : l.stackTraces = false) (G : va_G) (cA cJ : ClassId) (a : Nat → Nat) (ha : apart 37 a) (o : Nat) (hao : ∀ k, k < 37 → a k ≠ o) (S : Mm) (L : Int64) (fo : Nat → Int64) (sz : Nat) (p1 : Int32) (p2 : Int32) (p3 : Int32) (hk : kX9_setFilter S p1 p2 p3 = 0) : Met l yL_setFilter wsL_setFilter ({ frames := 2, cells := 0, slots := 0, locals := 47 } : Room) (va_Pc [.ref (a 0), .int p1, .int p2, .int p3, .ref o] (gL G cA cJ a S L o fo sz)) (va_Qi (fun (x : Int32) (f9 : Nat → Int64) => x = 0 ∧ f9 0 = (rX9_setFilter S p1 p2 p3).toInt64) (fun f9 t => va_P G vwCl (wO a cA cJ (fX9_setFilter S p1 p2 p3) L o f9) t.heap) (mO a o sz)) 0 0 (mO a o sz) := by
  refine l_met (cc := cL_setFilter) (maxL := 6) (ret := some .int) (hh := [(0, 12, 15, 13), (0, 12, 19, 15)]) (by decide) rfl (Nat.le_of_ble_eq_true rfl) ?_
  intro p e s m below meth c ls hx hb hr hlocks hml hts hown htb hsz hK hP hS hl
  subst hsz
  have hl : lv_has ls 6 [(0, .ref (a 0)), (1, .int p1), (2, .int p2), (3, .int p3), (4, .ref o)] := hl
  obtain ⟨z1, z2, z3, z4, z5, z6⟩ := kz_setFilter hk
  refine lv_aload hx hb dL_setFilter_0 (lv_at hl 4 rfl) ?_
  refine lv_iconst (v := 0) hx hb dL_setFilter_2 (by decide) ?_
  refine lv_aload_n hx hb dL_setFilter_3 rfl (lv_at hl 0 rfl) ?_
  refine lv_iload_n hx hb dL_setFilter_4 rfl (lv_at hl 1 rfl) ?_
  refine lv_iload_n hx hb dL_setFilter_5 rfl (lv_at hl 2 rfl) ?_
  refine lv_iload_n hx hb dL_setFilter_6 rfl (lv_at hl 3 rfl) ?_
  refine l_cVi (As := [.int p1, .int p2, .int p3]) (rest := [.int 0, .ref o]) ⟨hx, hb, hml, hown, hts⟩ (c_X9_setFilter l G cA a ha S L s.heap.size p1 p2 p3 z1 z2 z3 z4 z5 z6) (cwV 3 hts gL_setFilter_X9_setFilter rfl rfl rfl (by decide +kernel) ⟨Nat.le_of_ble_eq_true rfl, Nat.le_of_ble_eq_true rfl⟩) hao hK hP hS rfl hl.1 rfl (lv_room (Nat.le_of_ble_eq_true rfl)) dL_setFilter_7 ⟨Nat.le_of_ble_eq_true rfl, Nat.le_of_ble_eq_true rfl⟩ (fun H locs hP hS => ?_)
  refine lv_i2l hx hb dL_setFilter_10 rfl ?_
  refine l_last hx hb ha hao hK hP hS (vp_in_lit (by decide)) dL_setFilter_11 (fun H locs hP hS => ?_)
  refine lv_goto (tgt := 23) hx hb dL_setFilter_12 (by decide) ?_
  refine lv_iconst (v := 0) hx hb dL_setFilter_23 (by decide) ?_
  exact l_iret (po := fun f9 => f9 0 = (rX9_setFilter S p1 p2 p3).toInt64) hx hb hr hlocks rfl (upd_0 _ _) hP hS dL_setFilter_24
set_option maxHeartbeats 4000000 in
set_option maxRecDepth 100000 in
theorem h1_L_setFilter (l : Launch) (hfl : l.stackTraces = false) (G : va_G) (cA cJ : ClassId) (a : Nat → Nat) (ha : apart 37 a) (o : Nat) (hao : ∀ k, k < 37 → a k ≠ o) (S : Mm) (L : Int64) (fo : Nat → Int64) (sz : Nat) (p1 : Int32) (p2 : Int32) (p3 : Int32) (hk : ¬ kX9_setFilter S p1 p2 p3 = 0) : Met l yL_setFilter wsL_setFilter ({ frames := 8, cells := 1, slots := 6, locals := 129 } : Room) (va_Pc [.ref (a 0), .int p1, .int p2, .int p3, .ref o] (gL G cA cJ a S L o fo sz)) (va_Qi (fun (x : Int32) (f9 : Nat → Int64) => x = (if kX9_setFilter S p1 p2 p3 = 1 then (1 : Int32) else 2) ∧ True) (fun f9 t => va_P G vwCl (wO a cA cJ S L o f9) t.heap) (mO a o sz)) 1 6 (mO a o sz) := by
  refine l_met (cc := cL_setFilter) (maxL := 6) (ret := some .int) (hh := [(0, 12, 15, 13), (0, 12, 19, 15)]) (by decide) rfl (Nat.le_of_ble_eq_true rfl) ?_
  intro p e s m below meth c ls hx hb hr hlocks hml hts hown htb hsz hK hP hS hl
  subst hsz
  have hl : lv_has ls 6 [(0, .ref (a 0)), (1, .int p1), (2, .int p2), (3, .int p3), (4, .ref o)] := hl
  refine lv_aload hx hb dL_setFilter_0 (lv_at hl 4 rfl) ?_
  refine lv_iconst (v := 0) hx hb dL_setFilter_2 (by decide) ?_
  refine lv_aload_n hx hb dL_setFilter_3 rfl (lv_at hl 0 rfl) ?_
  refine lv_iload_n hx hb dL_setFilter_4 rfl (lv_at hl 1 rfl) ?_
  refine lv_iload_n hx hb dL_setFilter_5 rfl (lv_at hl 2 rfl) ?_
  refine lv_iload_n hx hb dL_setFilter_6 rfl (lv_at hl 3 rfl) ?_
  refine l_thrV (E0 := xN (kX9_setFilter S p1 p2 p3)) (As := [.int p1, .int p2, .int p3]) (rest := [.int 0, .ref o]) ⟨hx, hb, hml, hown, hts⟩ (t_X9_setFilter l hfl G cA a ha S L s.heap.size p1 p2 p3 hk) (cwV 3 hts gL_setFilter_X9_setFilter rfl rfl rfl (by decide +kernel) ⟨Nat.le_of_ble_eq_true rfl, Nat.le_of_ble_eq_true rfl⟩) hao hK hP hS rfl hl.1 rfl (lv_room (Nat.le_of_ble_eq_true rfl)) dL_setFilter_7 ⟨Nat.le_of_ble_eq_true rfl, Nat.le_of_ble_eq_true rfl⟩ (fun ce q9 H locs hP hS hce hcv hcl => ?_)
  by_cases h9 : kX9_setFilter S p1 p2 p3 = 1
  · rw [h9] at hcl
    refine vx_catch (own := RL) (name := sIOB) (E := sIOB) hown [] ⟨0, 12, 15, 13⟩ [⟨0, 12, 19, 15⟩] (by rw [htb]; rfl) (fun z hz => nomatch hz) (by decide) (by decide) (hts (.classLink RL 13 sIOB) (by decide +kernel)) (va_Nw.use (by decide) (hK.2.2.1.1 (.castable sIOB sIOB) (by decide))) hce hcv hcl ?_
    refine lv_astore (lv' := [(5, .ref q9), (0, .ref (a 0)), (1, .int p1), (2, .int p2), (3, .int p3), (4, .ref o)]) hx hb dL_setFilter_15 hl (by decide) rfl (fun ls hl => ?_)
    refine lv_iconst (v := 1) hx hb dL_setFilter_17 (by decide) ?_
    exact l_iret (po := fun _ => True) hx hb hr hlocks ((if_pos h9).symm) trivial hP hS dL_setFilter_18
  · rw [(kv_setFilter hk).resolve_left h9] at hcl
    refine vx_catch (own := RL) (name := sIAE) (E := sIAE) hown [⟨0, 12, 15, 13⟩] ⟨0, 12, 19, 15⟩ [] (by rw [htb]; rfl) (fun z hz => by rw [List.mem_singleton.mp hz]; exact Or.inr ⟨by decide, sIOB, hts (.classLink RL 13 sIOB) (by decide +kernel), hK.2.2.2⟩) (by decide) (by decide) (hts (.classLink RL 15 sIAE) (by decide +kernel)) (va_Nw.use (by decide) (hK.2.2.1.1 (.castable sIAE sIAE) (by decide))) hce hcv hcl ?_
    refine lv_astore (lv' := [(5, .ref q9), (0, .ref (a 0)), (1, .int p1), (2, .int p2), (3, .int p3), (4, .ref o)]) hx hb dL_setFilter_19 hl (by decide) rfl (fun ls hl => ?_)
    refine lv_iconst (v := 2) hx hb dL_setFilter_21 (by decide) ?_
    exact l_iret (po := fun _ => True) hx hb hr hlocks ((if_neg h9).symm) trivial hP hS dL_setFilter_22
theorem kz_setVibrato {S : Mm} {p1 p2 p3 : Int32} (h : kX9_setVibrato S p1 p2 p3 = 0) : (¬ p1 < 0) ∧ (p1 < (4 : Int32)) ∧ (¬ p2 < (0 : Int32)) ∧ (p2 ≤ (64 : Int32)) ∧ (¬ p3 < (8 : Int32)) ∧ (p3 ≤ (255 : Int32)) := by
  unfold kX9_setVibrato at h
  by_cases q1 : p1 < 0 ∨ (4 : Int32) ≤ p1
  · rw [if_pos q1] at h
    exact absurd h (by decide)
  · rw [if_neg q1] at h
    by_cases q2 : p2 < (0 : Int32) ∨ (64 : Int32) < p2
    · rw [if_pos q2] at h
      exact absurd h (by decide)
    · rw [if_neg q2] at h
      by_cases q3 : p3 < (8 : Int32) ∨ (255 : Int32) < p3
      · rw [if_pos q3] at h
        exact absurd h (by decide)
      · rw [if_neg q3] at h
        exact ⟨fun h9 => q1 (Or.inl h9), Int32.not_le.mp (fun h9 => q1 (Or.inr h9)), fun h9 => q2 (Or.inl h9), Int32.not_lt.mp (fun h9 => q2 (Or.inr h9)), fun h9 => q3 (Or.inl h9), Int32.not_lt.mp (fun h9 => q3 (Or.inr h9))⟩
theorem kv_setVibrato {S : Mm} {p1 p2 p3 : Int32} (h : ¬ kX9_setVibrato S p1 p2 p3 = 0) : kX9_setVibrato S p1 p2 p3 = 1 ∨ kX9_setVibrato S p1 p2 p3 = 2 := by
  unfold kX9_setVibrato at h ⊢
  revert h
  (repeat' split) <;> intro h <;> first | exact absurd rfl h | exact rfl | exact Or.inl rfl | exact Or.inr rfl
set_option maxHeartbeats 4000000 in
set_option maxRecDepth 100000 in
theorem h0_L_setVibrato (l : Launch) (hfl : l.stackTraces = false) (G : va_G) (cA cJ : ClassId) (a : Nat → Nat) (ha : apart 37 a) (o : Nat) (hao : ∀ k, k < 37 → a k ≠ o) (S : Mm) (L : Int64) (fo : Nat → Int64) (sz : Nat) (p1 : Int32) (p2 : Int32) (p3 : Int32) (hk : kX9_setVibrato S p1 p2 p3 = 0) : Met l yL_setVibrato wsL_setVibrato ({ frames := 2, cells := 0, slots := 0, locals := 47 } : Room) (va_Pc [.ref (a 0), .int p1, .int p2, .int p3, .ref o] (gL G cA cJ a S L o fo sz)) (va_Qi (fun (x : Int32) (f9 : Nat → Int64) => x = 0 ∧ f9 0 = (rX9_setVibrato S p1 p2 p3).toInt64) (fun f9 t => va_P G vwCl (wO a cA cJ (fX9_setVibrato S p1 p2 p3) L o f9) t.heap) (mO a o sz)) 0 0 (mO a o sz) := by
  refine l_met (cc := cL_setVibrato) (maxL := 6) (ret := some .int) (hh := [(0, 12, 15, 13), (0, 12, 19, 15)]) (by decide) rfl (Nat.le_of_ble_eq_true rfl) ?_
  intro p e s m below meth c ls hx hb hr hlocks hml hts hown htb hsz hK hP hS hl
  subst hsz
  have hl : lv_has ls 6 [(0, .ref (a 0)), (1, .int p1), (2, .int p2), (3, .int p3), (4, .ref o)] := hl
  obtain ⟨z1, z2, z3, z4, z5, z6⟩ := kz_setVibrato hk
  refine lv_aload hx hb dL_setVibrato_0 (lv_at hl 4 rfl) ?_
  refine lv_iconst (v := 0) hx hb dL_setVibrato_2 (by decide) ?_
  refine lv_aload_n hx hb dL_setVibrato_3 rfl (lv_at hl 0 rfl) ?_
  refine lv_iload_n hx hb dL_setVibrato_4 rfl (lv_at hl 1 rfl) ?_
  refine lv_iload_n hx hb dL_setVibrato_5 rfl (lv_at hl 2 rfl) ?_
  refine lv_iload_n hx hb dL_setVibrato_6 rfl (lv_at hl 3 rfl) ?_
  refine l_cVi (As := [.int p1, .int p2, .int p3]) (rest := [.int 0, .ref o]) ⟨hx, hb, hml, hown, hts⟩ (c_X9_setVibrato l G cA a ha S L s.heap.size p1 p2 p3 z1 z2 z3 z4 z5 z6) (cwV 3 hts gL_setVibrato_X9_setVibrato rfl rfl rfl (by decide +kernel) ⟨Nat.le_of_ble_eq_true rfl, Nat.le_of_ble_eq_true rfl⟩) hao hK hP hS rfl hl.1 rfl (lv_room (Nat.le_of_ble_eq_true rfl)) dL_setVibrato_7 ⟨Nat.le_of_ble_eq_true rfl, Nat.le_of_ble_eq_true rfl⟩ (fun H locs hP hS => ?_)
  refine lv_i2l hx hb dL_setVibrato_10 rfl ?_
  refine l_last hx hb ha hao hK hP hS (vp_in_lit (by decide)) dL_setVibrato_11 (fun H locs hP hS => ?_)
  refine lv_goto (tgt := 23) hx hb dL_setVibrato_12 (by decide) ?_
  refine lv_iconst (v := 0) hx hb dL_setVibrato_23 (by decide) ?_
  exact l_iret (po := fun f9 => f9 0 = (rX9_setVibrato S p1 p2 p3).toInt64) hx hb hr hlocks rfl (upd_0 _ _) hP hS dL_setVibrato_24
set_option maxHeartbeats 4000000 in
set_option maxRecDepth 100000 in
theorem h1_L_setVibrato (l : Launch) (hfl : l.stackTraces = false) (G : va_G) (cA cJ : ClassId) (a : Nat → Nat) (ha : apart 37 a) (o : Nat) (hao : ∀ k, k < 37 → a k ≠ o) (S : Mm) (L : Int64) (fo : Nat → Int64) (sz : Nat) (p1 : Int32) (p2 : Int32) (p3 : Int32) (hk : ¬ kX9_setVibrato S p1 p2 p3 = 0) : Met l yL_setVibrato wsL_setVibrato ({ frames := 8, cells := 1, slots := 6, locals := 129 } : Room) (va_Pc [.ref (a 0), .int p1, .int p2, .int p3, .ref o] (gL G cA cJ a S L o fo sz)) (va_Qi (fun (x : Int32) (f9 : Nat → Int64) => x = (if kX9_setVibrato S p1 p2 p3 = 1 then (1 : Int32) else 2) ∧ True) (fun f9 t => va_P G vwCl (wO a cA cJ S L o f9) t.heap) (mO a o sz)) 1 6 (mO a o sz) := by
  refine l_met (cc := cL_setVibrato) (maxL := 6) (ret := some .int) (hh := [(0, 12, 15, 13), (0, 12, 19, 15)]) (by decide) rfl (Nat.le_of_ble_eq_true rfl) ?_
  intro p e s m below meth c ls hx hb hr hlocks hml hts hown htb hsz hK hP hS hl
  subst hsz
  have hl : lv_has ls 6 [(0, .ref (a 0)), (1, .int p1), (2, .int p2), (3, .int p3), (4, .ref o)] := hl
  refine lv_aload hx hb dL_setVibrato_0 (lv_at hl 4 rfl) ?_
  refine lv_iconst (v := 0) hx hb dL_setVibrato_2 (by decide) ?_
  refine lv_aload_n hx hb dL_setVibrato_3 rfl (lv_at hl 0 rfl) ?_
  refine lv_iload_n hx hb dL_setVibrato_4 rfl (lv_at hl 1 rfl) ?_
  refine lv_iload_n hx hb dL_setVibrato_5 rfl (lv_at hl 2 rfl) ?_
  refine lv_iload_n hx hb dL_setVibrato_6 rfl (lv_at hl 3 rfl) ?_
  refine l_thrV (E0 := xN (kX9_setVibrato S p1 p2 p3)) (As := [.int p1, .int p2, .int p3]) (rest := [.int 0, .ref o]) ⟨hx, hb, hml, hown, hts⟩ (t_X9_setVibrato l hfl G cA a ha S L s.heap.size p1 p2 p3 hk) (cwV 3 hts gL_setVibrato_X9_setVibrato rfl rfl rfl (by decide +kernel) ⟨Nat.le_of_ble_eq_true rfl, Nat.le_of_ble_eq_true rfl⟩) hao hK hP hS rfl hl.1 rfl (lv_room (Nat.le_of_ble_eq_true rfl)) dL_setVibrato_7 ⟨Nat.le_of_ble_eq_true rfl, Nat.le_of_ble_eq_true rfl⟩ (fun ce q9 H locs hP hS hce hcv hcl => ?_)
  by_cases h9 : kX9_setVibrato S p1 p2 p3 = 1
  · rw [h9] at hcl
    refine vx_catch (own := RL) (name := sIOB) (E := sIOB) hown [] ⟨0, 12, 15, 13⟩ [⟨0, 12, 19, 15⟩] (by rw [htb]; rfl) (fun z hz => nomatch hz) (by decide) (by decide) (hts (.classLink RL 13 sIOB) (by decide +kernel)) (va_Nw.use (by decide) (hK.2.2.1.1 (.castable sIOB sIOB) (by decide))) hce hcv hcl ?_
    refine lv_astore (lv' := [(5, .ref q9), (0, .ref (a 0)), (1, .int p1), (2, .int p2), (3, .int p3), (4, .ref o)]) hx hb dL_setVibrato_15 hl (by decide) rfl (fun ls hl => ?_)
    refine lv_iconst (v := 1) hx hb dL_setVibrato_17 (by decide) ?_
    exact l_iret (po := fun _ => True) hx hb hr hlocks ((if_pos h9).symm) trivial hP hS dL_setVibrato_18
  · rw [(kv_setVibrato hk).resolve_left h9] at hcl
    refine vx_catch (own := RL) (name := sIAE) (E := sIAE) hown [⟨0, 12, 15, 13⟩] ⟨0, 12, 19, 15⟩ [] (by rw [htb]; rfl) (fun z hz => by rw [List.mem_singleton.mp hz]; exact Or.inr ⟨by decide, sIOB, hts (.classLink RL 13 sIOB) (by decide +kernel), hK.2.2.2⟩) (by decide) (by decide) (hts (.classLink RL 15 sIAE) (by decide +kernel)) (va_Nw.use (by decide) (hK.2.2.1.1 (.castable sIAE sIAE) (by decide))) hce hcv hcl ?_
    refine lv_astore (lv' := [(5, .ref q9), (0, .ref (a 0)), (1, .int p1), (2, .int p2), (3, .int p3), (4, .ref o)]) hx hb dL_setVibrato_19 hl (by decide) rfl (fun ls hl => ?_)
    refine lv_iconst (v := 2) hx hb dL_setVibrato_21 (by decide) ?_
    exact l_iret (po := fun _ => True) hx hb hr hlocks ((if_neg h9).symm) trivial hP hS dL_setVibrato_22
theorem kz_setGain {S : Mm} {p1 : Int32} (h : kX9_setGain S p1 = 0) : (¬ p1 < (0 : Int32)) ∧ (p1 ≤ (256 : Int32)) := by
  unfold kX9_setGain at h
  by_cases q1 : p1 < (0 : Int32) ∨ (256 : Int32) < p1
  · rw [if_pos q1] at h
    exact absurd h (by decide)
  · rw [if_neg q1] at h
    exact ⟨fun h9 => q1 (Or.inl h9), Int32.not_lt.mp (fun h9 => q1 (Or.inr h9))⟩
theorem kv_setGain {S : Mm} {p1 : Int32} (h : ¬ kX9_setGain S p1 = 0) : kX9_setGain S p1 = 2 := by
  unfold kX9_setGain at h ⊢
  revert h
  (repeat' split) <;> intro h <;> first | exact absurd rfl h | exact rfl | exact Or.inl rfl | exact Or.inr rfl
set_option maxHeartbeats 4000000 in
set_option maxRecDepth 100000 in
theorem h0_L_setGain (l : Launch) (hfl : l.stackTraces = false) (G : va_G) (cA cJ : ClassId) (a : Nat → Nat) (ha : apart 37 a) (o : Nat) (hao : ∀ k, k < 37 → a k ≠ o) (S : Mm) (L : Int64) (fo : Nat → Int64) (sz : Nat) (p1 : Int32) (hk : kX9_setGain S p1 = 0) : Met l yL_setGain wsL_setGain ({ frames := 2, cells := 0, slots := 0, locals := 44 } : Room) (va_Pc [.ref (a 0), .int p1, .ref o] (gL G cA cJ a S L o fo sz)) (va_Qi (fun (x : Int32) (f9 : Nat → Int64) => x = 0 ∧ f9 0 = (rX9_setGain S p1).toInt64) (fun f9 t => va_P G vwCl (wO a cA cJ (fX9_setGain S p1) L o f9) t.heap) (mO a o sz)) 0 0 (mO a o sz) := by
  refine l_met (cc := cL_setGain) (maxL := 4) (ret := some .int) (hh := [(0, 9, 12, 15)]) (by decide) rfl (Nat.le_of_ble_eq_true rfl) ?_
  intro p e s m below meth c ls hx hb hr hlocks hml hts hown htb hsz hK hP hS hl
  subst hsz
  have hl : lv_has ls 4 [(0, .ref (a 0)), (1, .int p1), (2, .ref o)] := hl
  obtain ⟨z1, z2⟩ := kz_setGain hk
  refine lv_aload_n hx hb dL_setGain_0 rfl (lv_at hl 2 rfl) ?_
  refine lv_iconst (v := 0) hx hb dL_setGain_1 (by decide) ?_
  refine lv_aload_n hx hb dL_setGain_2 rfl (lv_at hl 0 rfl) ?_
  refine lv_iload_n hx hb dL_setGain_3 rfl (lv_at hl 1 rfl) ?_
  refine l_cVi (As := [.int p1]) (rest := [.int 0, .ref o]) ⟨hx, hb, hml, hown, hts⟩ (c_X9_setGain l G cA a ha S L s.heap.size p1 z1 z2) (cwV 1 hts gL_setGain_X9_setGain rfl rfl rfl (by decide +kernel) ⟨Nat.le_of_ble_eq_true rfl, Nat.le_of_ble_eq_true rfl⟩) hao hK hP hS rfl hl.1 rfl (lv_room (Nat.le_of_ble_eq_true rfl)) dL_setGain_4 ⟨Nat.le_of_ble_eq_true rfl, Nat.le_of_ble_eq_true rfl⟩ (fun H locs hP hS => ?_)
  refine lv_i2l hx hb dL_setGain_7 rfl ?_
  refine l_last hx hb ha hao hK hP hS (vp_in_lit (by decide)) dL_setGain_8 (fun H locs hP hS => ?_)
  refine lv_goto (tgt := 15) hx hb dL_setGain_9 (by decide) ?_
  refine lv_iconst (v := 0) hx hb dL_setGain_15 (by decide) ?_
  exact l_iret (po := fun f9 => f9 0 = (rX9_setGain S p1).toInt64) hx hb hr hlocks rfl (upd_0 _ _) hP hS dL_setGain_16
set_option maxHeartbeats 4000000 in
set_option maxRecDepth 100000 in
theorem h1_L_setGain (l : Launch) (hfl : l.stackTraces = false) (G : va_G) (cA cJ : ClassId) (a : Nat → Nat) (ha : apart 37 a) (o : Nat) (hao : ∀ k, k < 37 → a k ≠ o) (S : Mm) (L : Int64) (fo : Nat → Int64) (sz : Nat) (p1 : Int32) (hk : ¬ kX9_setGain S p1 = 0) : Met l yL_setGain wsL_setGain ({ frames := 8, cells := 1, slots := 6, locals := 126 } : Room) (va_Pc [.ref (a 0), .int p1, .ref o] (gL G cA cJ a S L o fo sz)) (va_Qi (fun (x : Int32) (f9 : Nat → Int64) => x = 1 ∧ True) (fun f9 t => va_P G vwCl (wO a cA cJ S L o f9) t.heap) (mO a o sz)) 1 6 (mO a o sz) := by
  refine l_met (cc := cL_setGain) (maxL := 4) (ret := some .int) (hh := [(0, 9, 12, 15)]) (by decide) rfl (Nat.le_of_ble_eq_true rfl) ?_
  intro p e s m below meth c ls hx hb hr hlocks hml hts hown htb hsz hK hP hS hl
  subst hsz
  have hl : lv_has ls 4 [(0, .ref (a 0)), (1, .int p1), (2, .ref o)] := hl
  refine lv_aload_n hx hb dL_setGain_0 rfl (lv_at hl 2 rfl) ?_
  refine lv_iconst (v := 0) hx hb dL_setGain_1 (by decide) ?_
  refine lv_aload_n hx hb dL_setGain_2 rfl (lv_at hl 0 rfl) ?_
  refine lv_iload_n hx hb dL_setGain_3 rfl (lv_at hl 1 rfl) ?_
  refine l_thrV (E0 := xN (kX9_setGain S p1)) (As := [.int p1]) (rest := [.int 0, .ref o]) ⟨hx, hb, hml, hown, hts⟩ (t_X9_setGain l hfl G cA a ha S L s.heap.size p1 hk) (cwV 1 hts gL_setGain_X9_setGain rfl rfl rfl (by decide +kernel) ⟨Nat.le_of_ble_eq_true rfl, Nat.le_of_ble_eq_true rfl⟩) hao hK hP hS rfl hl.1 rfl (lv_room (Nat.le_of_ble_eq_true rfl)) dL_setGain_4 ⟨Nat.le_of_ble_eq_true rfl, Nat.le_of_ble_eq_true rfl⟩ (fun ce q9 H locs hP hS hce hcv hcl => ?_)
  rw [kv_setGain hk] at hcl
  refine vx_catch (own := RL) (name := sIAE) (E := sIAE) hown [] ⟨0, 9, 12, 15⟩ [] (by rw [htb]; rfl) (fun z hz => nomatch hz) (by decide) (by decide) (hts (.classLink RL 15 sIAE) (by decide +kernel)) (va_Nw.use (by decide) (hK.2.2.1.1 (.castable sIAE sIAE) (by decide))) hce hcv hcl ?_
  refine lv_astore_n (lv' := [(3, .ref q9), (0, .ref (a 0)), (1, .int p1), (2, .ref o)]) hx hb dL_setGain_12 rfl hl (by decide) rfl (fun ls hl => ?_)
  refine lv_iconst (v := 1) hx hb dL_setGain_13 (by decide) ?_
  exact l_iret (po := fun _ => True) hx hb hr hlocks (rfl) trivial hP hS dL_setGain_14
theorem kz_setDelay {S : Mm} {p1 p2 p3 : Int32} (h : kX9_setDelay S p1 p2 p3 = 0) : (¬ p1 < (0 : Int32)) ∧ (p1 ≤ (200 : Int32)) ∧ (¬ p2 < (0 : Int32)) ∧ (p2 ≤ (256 : Int32)) ∧ (¬ p3 < (0 : Int32)) ∧ (p3 ≤ (256 : Int32)) := by
  unfold kX9_setDelay at h
  by_cases q1 : p1 < (0 : Int32) ∨ (200 : Int32) < p1
  · rw [if_pos q1] at h
    exact absurd h (by decide)
  · rw [if_neg q1] at h
    by_cases q2 : p2 < (0 : Int32) ∨ (256 : Int32) < p2
    · rw [if_pos q2] at h
      exact absurd h (by decide)
    · rw [if_neg q2] at h
      by_cases q3 : p3 < (0 : Int32) ∨ (256 : Int32) < p3
      · rw [if_pos q3] at h
        exact absurd h (by decide)
      · rw [if_neg q3] at h
        exact ⟨fun h9 => q1 (Or.inl h9), Int32.not_lt.mp (fun h9 => q1 (Or.inr h9)), fun h9 => q2 (Or.inl h9), Int32.not_lt.mp (fun h9 => q2 (Or.inr h9)), fun h9 => q3 (Or.inl h9), Int32.not_lt.mp (fun h9 => q3 (Or.inr h9))⟩
theorem kv_setDelay {S : Mm} {p1 p2 p3 : Int32} (h : ¬ kX9_setDelay S p1 p2 p3 = 0) : kX9_setDelay S p1 p2 p3 = 2 := by
  unfold kX9_setDelay at h ⊢
  revert h
  (repeat' split) <;> intro h <;> first | exact absurd rfl h | exact rfl | exact Or.inl rfl | exact Or.inr rfl
set_option maxHeartbeats 4000000 in
set_option maxRecDepth 100000 in
theorem h0_L_setDelay (l : Launch) (hfl : l.stackTraces = false) (G : va_G) (cA cJ : ClassId) (a : Nat → Nat) (ha : apart 37 a) (o : Nat) (hao : ∀ k, k < 37 → a k ≠ o) (S : Mm) (L : Int64) (fo : Nat → Int64) (sz : Nat) (p1 : Int32) (p2 : Int32) (p3 : Int32) (hk : kX9_setDelay S p1 p2 p3 = 0) : Met l yL_setDelay wsL_setDelay ({ frames := 3, cells := 0, slots := 0, locals := 69 } : Room) (va_Pc [.ref (a 0), .int p1, .int p2, .int p3, .ref o] (gL G cA cJ a S L o fo sz)) (va_Qi (fun (x : Int32) (f9 : Nat → Int64) => x = 0 ∧ f9 0 = (rX9_setDelay S p1 p2 p3).toInt64) (fun f9 t => va_P G vwCl (wO a cA cJ (fX9_setDelay S p1 p2 p3) L o f9) t.heap) (mO a o sz)) 0 0 (mO a o sz) := by
  refine l_met (cc := cL_setDelay) (maxL := 6) (ret := some .int) (hh := [(0, 12, 15, 15)]) (by decide) rfl (Nat.le_of_ble_eq_true rfl) ?_
  intro p e s m below meth c ls hx hb hr hlocks hml hts hown htb hsz hK hP hS hl
  subst hsz
  have hl : lv_has ls 6 [(0, .ref (a 0)), (1, .int p1), (2, .int p2), (3, .int p3), (4, .ref o)] := hl
  obtain ⟨z1, z2, z3, z4, z5, z6⟩ := kz_setDelay hk
  refine lv_aload hx hb dL_setDelay_0 (lv_at hl 4 rfl) ?_
  refine lv_iconst (v := 0) hx hb dL_setDelay_2 (by decide) ?_
  refine lv_aload_n hx hb dL_setDelay_3 rfl (lv_at hl 0 rfl) ?_
  refine lv_iload_n hx hb dL_setDelay_4 rfl (lv_at hl 1 rfl) ?_
  refine lv_iload_n hx hb dL_setDelay_5 rfl (lv_at hl 2 rfl) ?_
  refine lv_iload_n hx hb dL_setDelay_6 rfl (lv_at hl 3 rfl) ?_
  refine l_cVi (As := [.int p1, .int p2, .int p3]) (rest := [.int 0, .ref o]) ⟨hx, hb, hml, hown, hts⟩ (c_X9_setDelay l G cA a ha S L s.heap.size p1 p2 p3 z1 z2 z3 z4 z5 z6) (cwV 3 hts gL_setDelay_X9_setDelay rfl rfl rfl (by decide +kernel) ⟨Nat.le_of_ble_eq_true rfl, Nat.le_of_ble_eq_true rfl⟩) hao hK hP hS rfl hl.1 rfl (lv_room (Nat.le_of_ble_eq_true rfl)) dL_setDelay_7 ⟨Nat.le_of_ble_eq_true rfl, Nat.le_of_ble_eq_true rfl⟩ (fun H locs hP hS => ?_)
  refine lv_i2l hx hb dL_setDelay_10 rfl ?_
  refine l_last hx hb ha hao hK hP hS (vp_in_lit (by decide)) dL_setDelay_11 (fun H locs hP hS => ?_)
  refine lv_goto (tgt := 19) hx hb dL_setDelay_12 (by decide) ?_
  refine lv_iconst (v := 0) hx hb dL_setDelay_19 (by decide) ?_
  exact l_iret (po := fun f9 => f9 0 = (rX9_setDelay S p1 p2 p3).toInt64) hx hb hr hlocks rfl (upd_0 _ _) hP hS dL_setDelay_20
set_option maxHeartbeats 4000000 in
set_option maxRecDepth 100000 in
theorem h1_L_setDelay (l : Launch) (hfl : l.stackTraces = false) (G : va_G) (cA cJ : ClassId) (a : Nat → Nat) (ha : apart 37 a) (o : Nat) (hao : ∀ k, k < 37 → a k ≠ o) (S : Mm) (L : Int64) (fo : Nat → Int64) (sz : Nat) (p1 : Int32) (p2 : Int32) (p3 : Int32) (hk : ¬ kX9_setDelay S p1 p2 p3 = 0) : Met l yL_setDelay wsL_setDelay ({ frames := 8, cells := 1, slots := 6, locals := 128 } : Room) (va_Pc [.ref (a 0), .int p1, .int p2, .int p3, .ref o] (gL G cA cJ a S L o fo sz)) (va_Qi (fun (x : Int32) (f9 : Nat → Int64) => x = 1 ∧ True) (fun f9 t => va_P G vwCl (wO a cA cJ S L o f9) t.heap) (mO a o sz)) 1 6 (mO a o sz) := by
  refine l_met (cc := cL_setDelay) (maxL := 6) (ret := some .int) (hh := [(0, 12, 15, 15)]) (by decide) rfl (Nat.le_of_ble_eq_true rfl) ?_
  intro p e s m below meth c ls hx hb hr hlocks hml hts hown htb hsz hK hP hS hl
  subst hsz
  have hl : lv_has ls 6 [(0, .ref (a 0)), (1, .int p1), (2, .int p2), (3, .int p3), (4, .ref o)] := hl
  refine lv_aload hx hb dL_setDelay_0 (lv_at hl 4 rfl) ?_
  refine lv_iconst (v := 0) hx hb dL_setDelay_2 (by decide) ?_
  refine lv_aload_n hx hb dL_setDelay_3 rfl (lv_at hl 0 rfl) ?_
  refine lv_iload_n hx hb dL_setDelay_4 rfl (lv_at hl 1 rfl) ?_
  refine lv_iload_n hx hb dL_setDelay_5 rfl (lv_at hl 2 rfl) ?_
  refine lv_iload_n hx hb dL_setDelay_6 rfl (lv_at hl 3 rfl) ?_
  refine l_thrV (E0 := xN (kX9_setDelay S p1 p2 p3)) (As := [.int p1, .int p2, .int p3]) (rest := [.int 0, .ref o]) ⟨hx, hb, hml, hown, hts⟩ (t_X9_setDelay l hfl G cA a ha S L s.heap.size p1 p2 p3 hk) (cwV 3 hts gL_setDelay_X9_setDelay rfl rfl rfl (by decide +kernel) ⟨Nat.le_of_ble_eq_true rfl, Nat.le_of_ble_eq_true rfl⟩) hao hK hP hS rfl hl.1 rfl (lv_room (Nat.le_of_ble_eq_true rfl)) dL_setDelay_7 ⟨Nat.le_of_ble_eq_true rfl, Nat.le_of_ble_eq_true rfl⟩ (fun ce q9 H locs hP hS hce hcv hcl => ?_)
  rw [kv_setDelay hk] at hcl
  refine vx_catch (own := RL) (name := sIAE) (E := sIAE) hown [] ⟨0, 12, 15, 15⟩ [] (by rw [htb]; rfl) (fun z hz => nomatch hz) (by decide) (by decide) (hts (.classLink RL 15 sIAE) (by decide +kernel)) (va_Nw.use (by decide) (hK.2.2.1.1 (.castable sIAE sIAE) (by decide))) hce hcv hcl ?_
  refine lv_astore (lv' := [(5, .ref q9), (0, .ref (a 0)), (1, .int p1), (2, .int p2), (3, .int p3), (4, .ref o)]) hx hb dL_setDelay_15 hl (by decide) rfl (fun ls hl => ?_)
  refine lv_iconst (v := 1) hx hb dL_setDelay_17 (by decide) ?_
  exact l_iret (po := fun _ => True) hx hb hr hlocks (rfl) trivial hP hS dL_setDelay_18
theorem kz_begin {S : Mm} {p1 p2 p3 : Int32} (h : kX9_begin S p1 p2 p3 = 0) : (¬ p1 < 0) ∧ (p1 < (4 : Int32)) ∧ (¬ p2 < (0 : Int32)) ∧ (p2 ≤ (47 : Int32)) ∧ (¬ p3 < (1 : Int32)) ∧ (p3 ≤ (127 : Int32)) := by
  unfold kX9_begin at h
  by_cases q1 : p1 < 0 ∨ (4 : Int32) ≤ p1
  · rw [if_pos q1] at h
    exact absurd h (by decide)
  · rw [if_neg q1] at h
    by_cases q2 : p2 < (0 : Int32) ∨ (47 : Int32) < p2
    · rw [if_pos q2] at h
      exact absurd h (by decide)
    · rw [if_neg q2] at h
      by_cases q3 : p3 < (1 : Int32) ∨ (127 : Int32) < p3
      · rw [if_pos q3] at h
        exact absurd h (by decide)
      · rw [if_neg q3] at h
        exact ⟨fun h9 => q1 (Or.inl h9), Int32.not_le.mp (fun h9 => q1 (Or.inr h9)), fun h9 => q2 (Or.inl h9), Int32.not_lt.mp (fun h9 => q2 (Or.inr h9)), fun h9 => q3 (Or.inl h9), Int32.not_lt.mp (fun h9 => q3 (Or.inr h9))⟩
theorem kv_begin {S : Mm} {p1 p2 p3 : Int32} (h : ¬ kX9_begin S p1 p2 p3 = 0) : kX9_begin S p1 p2 p3 = 1 ∨ kX9_begin S p1 p2 p3 = 2 := by
  unfold kX9_begin at h ⊢
  revert h
  (repeat' split) <;> intro h <;> first | exact absurd rfl h | exact rfl | exact Or.inl rfl | exact Or.inr rfl
set_option maxHeartbeats 4000000 in
set_option maxRecDepth 100000 in
theorem h0_L_begin (l : Launch) (hfl : l.stackTraces = false) (G : va_G) (cA cJ : ClassId) (a : Nat → Nat) (ha : apart 37 a) (o : Nat) (hao : ∀ k, k < 37 → a k ≠ o) (S : Mm) (L : Int64) (fo : Nat → Int64) (sz : Nat) (p1 : Int32) (p2 : Int32) (p3 : Int32) (hk : kX9_begin S p1 p2 p3 = 0) : Met l yL_begin wsL_begin ({ frames := 5, cells := 0, slots := 0, locals := 114 } : Room) (va_Pc [.ref (a 0), .int p1, .int p2, .int p3, .ref o] (gL G cA cJ a S L o fo sz)) (va_Qi (fun (x : Int32) (f9 : Nat → Int64) => x = 0 ∧ f9 0 = (rX9_begin S p1 p2 p3).toInt64) (fun f9 t => va_P G vwCl (wO a cA cJ (fX9_begin S p1 p2 p3) L o f9) t.heap) (mO a o sz)) 0 0 (mO a o sz) := by
  refine l_met (cc := cL_begin) (maxL := 6) (ret := some .int) (hh := [(0, 12, 15, 13), (0, 12, 19, 15)]) (by decide) rfl (Nat.le_of_ble_eq_true rfl) ?_
  intro p e s m below meth c ls hx hb hr hlocks hml hts hown htb hsz hK hP hS hl
  subst hsz
  have hl : lv_has ls 6 [(0, .ref (a 0)), (1, .int p1), (2, .int p2), (3, .int p3), (4, .ref o)] := hl
  obtain ⟨z1, z2, z3, z4, z5, z6⟩ := kz_begin hk
  refine lv_aload hx hb dL_begin_0 (lv_at hl 4 rfl) ?_
  refine lv_iconst (v := 0) hx hb dL_begin_2 (by decide) ?_
  refine lv_aload_n hx hb dL_begin_3 rfl (lv_at hl 0 rfl) ?_
  refine lv_iload_n hx hb dL_begin_4 rfl (lv_at hl 1 rfl) ?_
  refine lv_iload_n hx hb dL_begin_5 rfl (lv_at hl 2 rfl) ?_
  refine lv_iload_n hx hb dL_begin_6 rfl (lv_at hl 3 rfl) ?_
  refine l_cVi (As := [.int p1, .int p2, .int p3]) (rest := [.int 0, .ref o]) ⟨hx, hb, hml, hown, hts⟩ (c_X9_begin l G cA a ha S L s.heap.size p1 p2 p3 z1 z2 z3 z4 z5 z6) (cwV 3 hts gL_begin_X9_begin rfl rfl rfl (by decide +kernel) ⟨Nat.le_of_ble_eq_true rfl, Nat.le_of_ble_eq_true rfl⟩) hao hK hP hS rfl hl.1 rfl (lv_room (Nat.le_of_ble_eq_true rfl)) dL_begin_7 ⟨Nat.le_of_ble_eq_true rfl, Nat.le_of_ble_eq_true rfl⟩ (fun H locs hP hS => ?_)
  refine lv_i2l hx hb dL_begin_10 rfl ?_
  refine l_last hx hb ha hao hK hP hS (vp_in_lit (by decide)) dL_begin_11 (fun H locs hP hS => ?_)
  refine lv_goto (tgt := 23) hx hb dL_begin_12 (by decide) ?_
  refine lv_iconst (v := 0) hx hb dL_begin_23 (by decide) ?_
  exact l_iret (po := fun f9 => f9 0 = (rX9_begin S p1 p2 p3).toInt64) hx hb hr hlocks rfl (upd_0 _ _) hP hS dL_begin_24
set_option maxHeartbeats 4000000 in
set_option maxRecDepth 100000 in
theorem h1_L_begin (l : Launch) (hfl : l.stackTraces = false) (G : va_G) (cA cJ : ClassId) (a : Nat → Nat) (ha : apart 37 a) (o : Nat) (hao : ∀ k, k < 37 → a k ≠ o) (S : Mm) (L : Int64) (fo : Nat → Int64) (sz : Nat) (p1 : Int32) (p2 : Int32) (p3 : Int32) (hk : ¬ kX9_begin S p1 p2 p3 = 0) : Met l yL_begin wsL_begin ({ frames := 8, cells := 1, slots := 6, locals := 127 } : Room) (va_Pc [.ref (a 0), .int p1, .int p2, .int p3, .ref o] (gL G cA cJ a S L o fo sz)) (va_Qi (fun (x : Int32) (f9 : Nat → Int64) => x = (if kX9_begin S p1 p2 p3 = 1 then (1 : Int32) else 2) ∧ True) (fun f9 t => va_P G vwCl (wO a cA cJ S L o f9) t.heap) (mO a o sz)) 1 6 (mO a o sz) := by
  refine l_met (cc := cL_begin) (maxL := 6) (ret := some .int) (hh := [(0, 12, 15, 13), (0, 12, 19, 15)]) (by decide) rfl (Nat.le_of_ble_eq_true rfl) ?_
  intro p e s m below meth c ls hx hb hr hlocks hml hts hown htb hsz hK hP hS hl
  subst hsz
  have hl : lv_has ls 6 [(0, .ref (a 0)), (1, .int p1), (2, .int p2), (3, .int p3), (4, .ref o)] := hl
  refine lv_aload hx hb dL_begin_0 (lv_at hl 4 rfl) ?_
  refine lv_iconst (v := 0) hx hb dL_begin_2 (by decide) ?_
  refine lv_aload_n hx hb dL_begin_3 rfl (lv_at hl 0 rfl) ?_
  refine lv_iload_n hx hb dL_begin_4 rfl (lv_at hl 1 rfl) ?_
  refine lv_iload_n hx hb dL_begin_5 rfl (lv_at hl 2 rfl) ?_
  refine lv_iload_n hx hb dL_begin_6 rfl (lv_at hl 3 rfl) ?_
  refine l_thrV (E0 := xN (kX9_begin S p1 p2 p3)) (As := [.int p1, .int p2, .int p3]) (rest := [.int 0, .ref o]) ⟨hx, hb, hml, hown, hts⟩ (t_X9_begin l hfl G cA a ha S L s.heap.size p1 p2 p3 hk) (cwV 3 hts gL_begin_X9_begin rfl rfl rfl (by decide +kernel) ⟨Nat.le_of_ble_eq_true rfl, Nat.le_of_ble_eq_true rfl⟩) hao hK hP hS rfl hl.1 rfl (lv_room (Nat.le_of_ble_eq_true rfl)) dL_begin_7 ⟨Nat.le_of_ble_eq_true rfl, Nat.le_of_ble_eq_true rfl⟩ (fun ce q9 H locs hP hS hce hcv hcl => ?_)
  by_cases h9 : kX9_begin S p1 p2 p3 = 1
  · rw [h9] at hcl
    refine vx_catch (own := RL) (name := sIOB) (E := sIOB) hown [] ⟨0, 12, 15, 13⟩ [⟨0, 12, 19, 15⟩] (by rw [htb]; rfl) (fun z hz => nomatch hz) (by decide) (by decide) (hts (.classLink RL 13 sIOB) (by decide +kernel)) (va_Nw.use (by decide) (hK.2.2.1.1 (.castable sIOB sIOB) (by decide))) hce hcv hcl ?_
    refine lv_astore (lv' := [(5, .ref q9), (0, .ref (a 0)), (1, .int p1), (2, .int p2), (3, .int p3), (4, .ref o)]) hx hb dL_begin_15 hl (by decide) rfl (fun ls hl => ?_)
    refine lv_iconst (v := 1) hx hb dL_begin_17 (by decide) ?_
    exact l_iret (po := fun _ => True) hx hb hr hlocks ((if_pos h9).symm) trivial hP hS dL_begin_18
  · rw [(kv_begin hk).resolve_left h9] at hcl
    refine vx_catch (own := RL) (name := sIAE) (E := sIAE) hown [⟨0, 12, 15, 13⟩] ⟨0, 12, 19, 15⟩ [] (by rw [htb]; rfl) (fun z hz => by rw [List.mem_singleton.mp hz]; exact Or.inr ⟨by decide, sIOB, hts (.classLink RL 13 sIOB) (by decide +kernel), hK.2.2.2⟩) (by decide) (by decide) (hts (.classLink RL 15 sIAE) (by decide +kernel)) (va_Nw.use (by decide) (hK.2.2.1.1 (.castable sIAE sIAE) (by decide))) hce hcv hcl ?_
    refine lv_astore (lv' := [(5, .ref q9), (0, .ref (a 0)), (1, .int p1), (2, .int p2), (3, .int p3), (4, .ref o)]) hx hb dL_begin_19 hl (by decide) rfl (fun ls hl => ?_)
    refine lv_iconst (v := 2) hx hb dL_begin_21 (by decide) ?_
    exact l_iret (po := fun _ => True) hx hb hr hlocks ((if_neg h9).symm) trivial hP hS dL_begin_22
theorem kz_end {S : Mm} {p1 : Int32} (h : kX9_end S p1 = 0) : (¬ p1 < 0) ∧ (p1 < (4 : Int32)) := by
  unfold kX9_end at h
  by_cases q1 : p1 < 0 ∨ (4 : Int32) ≤ p1
  · rw [if_pos q1] at h
    exact absurd h (by decide)
  · rw [if_neg q1] at h
    exact ⟨fun h9 => q1 (Or.inl h9), Int32.not_le.mp (fun h9 => q1 (Or.inr h9))⟩
theorem kv_end {S : Mm} {p1 : Int32} (h : ¬ kX9_end S p1 = 0) : kX9_end S p1 = 1 := by
  unfold kX9_end at h ⊢
  revert h
  (repeat' split) <;> intro h <;> first | exact absurd rfl h | exact rfl | exact Or.inl rfl | exact Or.inr rfl
set_option maxHeartbeats 4000000 in
set_option maxRecDepth 100000 in
theorem h0_L_end (l : Launch) (hfl : l.stackTraces = false) (G : va_G) (cA cJ : ClassId) (a : Nat → Nat) (ha : apart 37 a) (o : Nat) (hao : ∀ k, k < 37 → a k ≠ o) (S : Mm) (L : Int64) (fo : Nat → Int64) (sz : Nat) (p1 : Int32) (hk : kX9_end S p1 = 0) : Met l yL_end wsL_end ({ frames := 2, cells := 0, slots := 0, locals := 44 } : Room) (va_Pc [.ref (a 0), .int p1, .ref o] (gL G cA cJ a S L o fo sz)) (va_Qi (fun (x : Int32) (f9 : Nat → Int64) => x = 0 ∧ f9 0 = (rX9_end S p1).toInt64) (fun f9 t => va_P G vwCl (wO a cA cJ (fX9_end S p1) L o f9) t.heap) (mO a o sz)) 0 0 (mO a o sz) := by
  refine l_met (cc := cL_end) (maxL := 4) (ret := some .int) (hh := [(0, 9, 12, 13)]) (by decide) rfl (Nat.le_of_ble_eq_true rfl) ?_
  intro p e s m below meth c ls hx hb hr hlocks hml hts hown htb hsz hK hP hS hl
  subst hsz
  have hl : lv_has ls 4 [(0, .ref (a 0)), (1, .int p1), (2, .ref o)] := hl
  obtain ⟨z1, z2⟩ := kz_end hk
  refine lv_aload_n hx hb dL_end_0 rfl (lv_at hl 2 rfl) ?_
  refine lv_iconst (v := 0) hx hb dL_end_1 (by decide) ?_
  refine lv_aload_n hx hb dL_end_2 rfl (lv_at hl 0 rfl) ?_
  refine lv_iload_n hx hb dL_end_3 rfl (lv_at hl 1 rfl) ?_
  refine l_cVi (As := [.int p1]) (rest := [.int 0, .ref o]) ⟨hx, hb, hml, hown, hts⟩ (c_X9_end l G cA a ha S L s.heap.size p1 z1 z2) (cwV 1 hts gL_end_X9_end rfl rfl rfl (by decide +kernel) ⟨Nat.le_of_ble_eq_true rfl, Nat.le_of_ble_eq_true rfl⟩) hao hK hP hS rfl hl.1 rfl (lv_room (Nat.le_of_ble_eq_true rfl)) dL_end_4 ⟨Nat.le_of_ble_eq_true rfl, Nat.le_of_ble_eq_true rfl⟩ (fun H locs hP hS => ?_)
  refine lv_i2l hx hb dL_end_7 rfl ?_
  refine l_last hx hb ha hao hK hP hS (vp_in_lit (by decide)) dL_end_8 (fun H locs hP hS => ?_)
  refine lv_goto (tgt := 15) hx hb dL_end_9 (by decide) ?_
  refine lv_iconst (v := 0) hx hb dL_end_15 (by decide) ?_
  exact l_iret (po := fun f9 => f9 0 = (rX9_end S p1).toInt64) hx hb hr hlocks rfl (upd_0 _ _) hP hS dL_end_16
set_option maxHeartbeats 4000000 in
set_option maxRecDepth 100000 in
theorem h1_L_end (l : Launch) (hfl : l.stackTraces = false) (G : va_G) (cA cJ : ClassId) (a : Nat → Nat) (ha : apart 37 a) (o : Nat) (hao : ∀ k, k < 37 → a k ≠ o) (S : Mm) (L : Int64) (fo : Nat → Int64) (sz : Nat) (p1 : Int32) (hk : ¬ kX9_end S p1 = 0) : Met l yL_end wsL_end ({ frames := 8, cells := 1, slots := 6, locals := 126 } : Room) (va_Pc [.ref (a 0), .int p1, .ref o] (gL G cA cJ a S L o fo sz)) (va_Qi (fun (x : Int32) (f9 : Nat → Int64) => x = 1 ∧ True) (fun f9 t => va_P G vwCl (wO a cA cJ S L o f9) t.heap) (mO a o sz)) 1 6 (mO a o sz) := by
  refine l_met (cc := cL_end) (maxL := 4) (ret := some .int) (hh := [(0, 9, 12, 13)]) (by decide) rfl (Nat.le_of_ble_eq_true rfl) ?_
  intro p e s m below meth c ls hx hb hr hlocks hml hts hown htb hsz hK hP hS hl
  subst hsz
  have hl : lv_has ls 4 [(0, .ref (a 0)), (1, .int p1), (2, .ref o)] := hl
  refine lv_aload_n hx hb dL_end_0 rfl (lv_at hl 2 rfl) ?_
  refine lv_iconst (v := 0) hx hb dL_end_1 (by decide) ?_
  refine lv_aload_n hx hb dL_end_2 rfl (lv_at hl 0 rfl) ?_
  refine lv_iload_n hx hb dL_end_3 rfl (lv_at hl 1 rfl) ?_
  refine l_thrV (E0 := xN (kX9_end S p1)) (As := [.int p1]) (rest := [.int 0, .ref o]) ⟨hx, hb, hml, hown, hts⟩ (t_X9_end l hfl G cA a ha S L s.heap.size p1 hk) (cwV 1 hts gL_end_X9_end rfl rfl rfl (by decide +kernel) ⟨Nat.le_of_ble_eq_true rfl, Nat.le_of_ble_eq_true rfl⟩) hao hK hP hS rfl hl.1 rfl (lv_room (Nat.le_of_ble_eq_true rfl)) dL_end_4 ⟨Nat.le_of_ble_eq_true rfl, Nat.le_of_ble_eq_true rfl⟩ (fun ce q9 H locs hP hS hce hcv hcl => ?_)
  rw [kv_end hk] at hcl
  refine vx_catch (own := RL) (name := sIOB) (E := sIOB) hown [] ⟨0, 9, 12, 13⟩ [] (by rw [htb]; rfl) (fun z hz => nomatch hz) (by decide) (by decide) (hts (.classLink RL 13 sIOB) (by decide +kernel)) (va_Nw.use (by decide) (hK.2.2.1.1 (.castable sIOB sIOB) (by decide))) hce hcv hcl ?_
  refine lv_astore_n (lv' := [(3, .ref q9), (0, .ref (a 0)), (1, .int p1), (2, .ref o)]) hx hb dL_end_12 rfl hl (by decide) rfl (fun ls hl => ?_)
  refine lv_iconst (v := 1) hx hb dL_end_13 (by decide) ?_
  exact l_iret (po := fun _ => True) hx hb hr hlocks (rfl) trivial hP hS dL_end_14
theorem kz_write {S : Mm} {p1 p2 p3 p4 p5 : Int32} (h : kX9_write S p1 p2 p3 p4 p5 = 0) : (¬ p1 < 0) ∧ (p1 < (3 : Int32)) ∧ (¬ p2 < 0) ∧ (p2 < (8 : Int32)) ∧ (¬ p3 < ((-1) : Int32)) ∧ (p3 ≤ (47 : Int32)) ∧ (¬ (p3 = (-1)) → ¬ p4 < (1 : Int32)) ∧ (¬ (p3 = (-1)) → p4 ≤ (127 : Int32)) ∧ (¬ (p3 = (-1)) → ¬ p5 < (1 : Int32)) ∧ (¬ (p3 = (-1)) → p5 ≤ (200 : Int32)) := by
  unfold kX9_write at h
  by_cases q1 : p1 < 0 ∨ (3 : Int32) ≤ p1
  · rw [if_pos q1] at h
    exact absurd h (by decide)
  · rw [if_neg q1] at h
    by_cases q2 : p2 < 0 ∨ (8 : Int32) ≤ p2
    · rw [if_pos q2] at h
      exact absurd h (by decide)
    · rw [if_neg q2] at h
      by_cases q3 : p3 < ((-1) : Int32) ∨ (47 : Int32) < p3
      · rw [if_pos q3] at h
        exact absurd h (by decide)
      · rw [if_neg q3] at h
        by_cases q4 : p3 = (-1)
        · rw [if_pos q4] at h
          exact ⟨fun h9 => q1 (Or.inl h9), Int32.not_le.mp (fun h9 => q1 (Or.inr h9)), fun h9 => q2 (Or.inl h9), Int32.not_le.mp (fun h9 => q2 (Or.inr h9)), fun h9 => q3 (Or.inl h9), Int32.not_lt.mp (fun h9 => q3 (Or.inr h9)), fun h9 => absurd q4 h9, fun h9 => absurd q4 h9, fun h9 => absurd q4 h9, fun h9 => absurd q4 h9⟩
        · rw [if_neg q4] at h
          by_cases q5 : p4 < (1 : Int32) ∨ (127 : Int32) < p4
          · rw [if_pos q5] at h
            exact absurd h (by decide)
          · rw [if_neg q5] at h
            by_cases q6 : p5 < (1 : Int32) ∨ (200 : Int32) < p5
            · rw [if_pos q6] at h
              exact absurd h (by decide)
            · rw [if_neg q6] at h
              exact ⟨fun h9 => q1 (Or.inl h9), Int32.not_le.mp (fun h9 => q1 (Or.inr h9)), fun h9 => q2 (Or.inl h9), Int32.not_le.mp (fun h9 => q2 (Or.inr h9)), fun h9 => q3 (Or.inl h9), Int32.not_lt.mp (fun h9 => q3 (Or.inr h9)), fun _ => fun h9 => q5 (Or.inl h9), fun _ => Int32.not_lt.mp (fun h9 => q5 (Or.inr h9)), fun _ => fun h9 => q6 (Or.inl h9), fun _ => Int32.not_lt.mp (fun h9 => q6 (Or.inr h9))⟩
theorem kv_write {S : Mm} {p1 p2 p3 p4 p5 : Int32} (h : ¬ kX9_write S p1 p2 p3 p4 p5 = 0) : kX9_write S p1 p2 p3 p4 p5 = 1 ∨ kX9_write S p1 p2 p3 p4 p5 = 2 := by
  unfold kX9_write at h ⊢
  revert h
  (repeat' split) <;> intro h <;> first | exact absurd rfl h | exact rfl | exact Or.inl rfl | exact Or.inr rfl
set_option maxHeartbeats 4000000 in
set_option maxRecDepth 100000 in
theorem h0_L_write (l : Launch) (hfl : l.stackTraces = false) (G : va_G) (cA cJ : ClassId) (a : Nat → Nat) (ha : apart 37 a) (o : Nat) (hao : ∀ k, k < 37 → a k ≠ o) (S : Mm) (L : Int64) (fo : Nat → Int64) (sz : Nat) (p1 : Int32) (p2 : Int32) (p3 : Int32) (p4 : Int32) (p5 : Int32) (hk : kX9_write S p1 p2 p3 p4 p5 = 0) : Met l yL_write wsL_write ({ frames := 3, cells := 0, slots := 0, locals := 74 } : Room) (va_Pc [.ref (a 0), .int p1, .int p2, .int p3, .int p4, .int p5, .ref o] (gL G cA cJ a S L o fo sz)) (va_Qi (fun (x : Int32) (f9 : Nat → Int64) => x = 0 ∧ f9 0 = (rX9_write S p1 p2 p3 p4 p5).toInt64) (fun f9 t => va_P G vwCl (wO a cA cJ (fX9_write S p1 p2 p3 p4 p5) L o f9) t.heap) (mO a o sz)) 0 0 (mO a o sz) := by
  refine l_met (cc := cL_write) (maxL := 8) (ret := some .int) (hh := [(0, 16, 19, 13), (0, 16, 23, 15)]) (by decide) rfl (Nat.le_of_ble_eq_true rfl) ?_
  intro p e s m below meth c ls hx hb hr hlocks hml hts hown htb hsz hK hP hS hl
  subst hsz
  have hl : lv_has ls 8 [(0, .ref (a 0)), (1, .int p1), (2, .int p2), (3, .int p3), (4, .int p4), (5, .int p5), (6, .ref o)] := hl
  obtain ⟨z1, z2, z3, z4, z5, z6, z7, z8, z9, z10⟩ := kz_write hk
  refine lv_aload hx hb dL_write_0 (lv_at hl 6 rfl) ?_
  refine lv_iconst (v := 0) hx hb dL_write_2 (by decide) ?_
  refine lv_aload_n hx hb dL_write_3 rfl (lv_at hl 0 rfl) ?_
  refine lv_iload_n hx hb dL_write_4 rfl (lv_at hl 1 rfl) ?_
  refine lv_iload_n hx hb dL_write_5 rfl (lv_at hl 2 rfl) ?_
  refine lv_iload_n hx hb dL_write_6 rfl (lv_at hl 3 rfl) ?_
  refine lv_iload hx hb dL_write_7 (lv_at hl 4 rfl) ?_
  refine lv_iload hx hb dL_write_9 (lv_at hl 5 rfl) ?_
  refine l_cVi (As := [.int p1, .int p2, .int p3, .int p4, .int p5]) (rest := [.int 0, .ref o]) ⟨hx, hb, hml, hown, hts⟩ (c_X9_write l G cA a ha S L s.heap.size p1 p2 p3 p4 p5 z1 z2 z3 z4 z5 z6 z7 z8 z9 z10) (cwV 5 hts gL_write_X9_write rfl rfl rfl (by decide +kernel) ⟨Nat.le_of_ble_eq_true rfl, Nat.le_of_ble_eq_true rfl⟩) hao hK hP hS rfl hl.1 rfl (lv_room (Nat.le_of_ble_eq_true rfl)) dL_write_11 ⟨Nat.le_of_ble_eq_true rfl, Nat.le_of_ble_eq_true rfl⟩ (fun H locs hP hS => ?_)
  refine lv_i2l hx hb dL_write_14 rfl ?_
  refine l_last hx hb ha hao hK hP hS (vp_in_lit (by decide)) dL_write_15 (fun H locs hP hS => ?_)
  refine lv_goto (tgt := 27) hx hb dL_write_16 (by decide) ?_
  refine lv_iconst (v := 0) hx hb dL_write_27 (by decide) ?_
  exact l_iret (po := fun f9 => f9 0 = (rX9_write S p1 p2 p3 p4 p5).toInt64) hx hb hr hlocks rfl (upd_0 _ _) hP hS dL_write_28
set_option maxHeartbeats 4000000 in
set_option maxRecDepth 100000 in
theorem h1_L_write (l : Launch) (hfl : l.stackTraces = false) (G : va_G) (cA cJ : ClassId) (a : Nat → Nat) (ha : apart 37 a) (o : Nat) (hao : ∀ k, k < 37 → a k ≠ o) (S : Mm) (L : Int64) (fo : Nat → Int64) (sz : Nat) (p1 : Int32) (p2 : Int32) (p3 : Int32) (p4 : Int32) (p5 : Int32) (hk : ¬ kX9_write S p1 p2 p3 p4 p5 = 0) : Met l yL_write wsL_write ({ frames := 8, cells := 1, slots := 6, locals := 130 } : Room) (va_Pc [.ref (a 0), .int p1, .int p2, .int p3, .int p4, .int p5, .ref o] (gL G cA cJ a S L o fo sz)) (va_Qi (fun (x : Int32) (f9 : Nat → Int64) => x = (if kX9_write S p1 p2 p3 p4 p5 = 1 then (1 : Int32) else 2) ∧ True) (fun f9 t => va_P G vwCl (wO a cA cJ S L o f9) t.heap) (mO a o sz)) 1 6 (mO a o sz) := by
  refine l_met (cc := cL_write) (maxL := 8) (ret := some .int) (hh := [(0, 16, 19, 13), (0, 16, 23, 15)]) (by decide) rfl (Nat.le_of_ble_eq_true rfl) ?_
  intro p e s m below meth c ls hx hb hr hlocks hml hts hown htb hsz hK hP hS hl
  subst hsz
  have hl : lv_has ls 8 [(0, .ref (a 0)), (1, .int p1), (2, .int p2), (3, .int p3), (4, .int p4), (5, .int p5), (6, .ref o)] := hl
  refine lv_aload hx hb dL_write_0 (lv_at hl 6 rfl) ?_
  refine lv_iconst (v := 0) hx hb dL_write_2 (by decide) ?_
  refine lv_aload_n hx hb dL_write_3 rfl (lv_at hl 0 rfl) ?_
  refine lv_iload_n hx hb dL_write_4 rfl (lv_at hl 1 rfl) ?_
  refine lv_iload_n hx hb dL_write_5 rfl (lv_at hl 2 rfl) ?_
  refine lv_iload_n hx hb dL_write_6 rfl (lv_at hl 3 rfl) ?_
  refine lv_iload hx hb dL_write_7 (lv_at hl 4 rfl) ?_
  refine lv_iload hx hb dL_write_9 (lv_at hl 5 rfl) ?_
  refine l_thrV (E0 := xN (kX9_write S p1 p2 p3 p4 p5)) (As := [.int p1, .int p2, .int p3, .int p4, .int p5]) (rest := [.int 0, .ref o]) ⟨hx, hb, hml, hown, hts⟩ (t_X9_write l hfl G cA a ha S L s.heap.size p1 p2 p3 p4 p5 hk) (cwV 5 hts gL_write_X9_write rfl rfl rfl (by decide +kernel) ⟨Nat.le_of_ble_eq_true rfl, Nat.le_of_ble_eq_true rfl⟩) hao hK hP hS rfl hl.1 rfl (lv_room (Nat.le_of_ble_eq_true rfl)) dL_write_11 ⟨Nat.le_of_ble_eq_true rfl, Nat.le_of_ble_eq_true rfl⟩ (fun ce q9 H locs hP hS hce hcv hcl => ?_)
  by_cases h9 : kX9_write S p1 p2 p3 p4 p5 = 1
  · rw [h9] at hcl
    refine vx_catch (own := RL) (name := sIOB) (E := sIOB) hown [] ⟨0, 16, 19, 13⟩ [⟨0, 16, 23, 15⟩] (by rw [htb]; rfl) (fun z hz => nomatch hz) (by decide) (by decide) (hts (.classLink RL 13 sIOB) (by decide +kernel)) (va_Nw.use (by decide) (hK.2.2.1.1 (.castable sIOB sIOB) (by decide))) hce hcv hcl ?_
    refine lv_astore (lv' := [(7, .ref q9), (0, .ref (a 0)), (1, .int p1), (2, .int p2), (3, .int p3), (4, .int p4), (5, .int p5), (6, .ref o)]) hx hb dL_write_19 hl (by decide) rfl (fun ls hl => ?_)
    refine lv_iconst (v := 1) hx hb dL_write_21 (by decide) ?_
    exact l_iret (po := fun _ => True) hx hb hr hlocks ((if_pos h9).symm) trivial hP hS dL_write_22
  · rw [(kv_write hk).resolve_left h9] at hcl
    refine vx_catch (own := RL) (name := sIAE) (E := sIAE) hown [⟨0, 16, 19, 13⟩] ⟨0, 16, 23, 15⟩ [] (by rw [htb]; rfl) (fun z hz => by rw [List.mem_singleton.mp hz]; exact Or.inr ⟨by decide, sIOB, hts (.classLink RL 13 sIOB) (by decide +kernel), hK.2.2.2⟩) (by decide) (by decide) (hts (.classLink RL 15 sIAE) (by decide +kernel)) (va_Nw.use (by decide) (hK.2.2.1.1 (.castable sIAE sIAE) (by decide))) hce hcv hcl ?_
    refine lv_astore (lv' := [(7, .ref q9), (0, .ref (a 0)), (1, .int p1), (2, .int p2), (3, .int p3), (4, .int p4), (5, .int p5), (6, .ref o)]) hx hb dL_write_23 hl (by decide) rfl (fun ls hl => ?_)
    refine lv_iconst (v := 2) hx hb dL_write_25 (by decide) ?_
    exact l_iret (po := fun _ => True) hx hb hr hlocks ((if_neg h9).symm) trivial hP hS dL_write_26
theorem kz_setTrack {S : Mm} {p1 p2 : Int32} (h : kX9_setTrack S p1 p2 = 0) : (¬ p1 < 0) ∧ (p1 < (3 : Int32)) ∧ (¬ p2 < 0) ∧ (p2 < (4 : Int32)) := by
  unfold kX9_setTrack at h
  by_cases q1 : p1 < 0 ∨ (3 : Int32) ≤ p1
  · rw [if_pos q1] at h
    exact absurd h (by decide)
  · rw [if_neg q1] at h
    by_cases q2 : p2 < 0 ∨ (4 : Int32) ≤ p2
    · rw [if_pos q2] at h
      exact absurd h (by decide)
    · rw [if_neg q2] at h
      exact ⟨fun h9 => q1 (Or.inl h9), Int32.not_le.mp (fun h9 => q1 (Or.inr h9)), fun h9 => q2 (Or.inl h9), Int32.not_le.mp (fun h9 => q2 (Or.inr h9))⟩
theorem kv_setTrack {S : Mm} {p1 p2 : Int32} (h : ¬ kX9_setTrack S p1 p2 = 0) : kX9_setTrack S p1 p2 = 1 := by
  unfold kX9_setTrack at h ⊢
  revert h
  (repeat' split) <;> intro h <;> first | exact absurd rfl h | exact rfl | exact Or.inl rfl | exact Or.inr rfl
set_option maxHeartbeats 4000000 in
set_option maxRecDepth 100000 in
theorem h0_L_setTrack (l : Launch) (hfl : l.stackTraces = false) (G : va_G) (cA cJ : ClassId) (a : Nat → Nat) (ha : apart 37 a) (o : Nat) (hao : ∀ k, k < 37 → a k ≠ o) (S : Mm) (L : Int64) (fo : Nat → Int64) (sz : Nat) (p1 : Int32) (p2 : Int32) (hk : kX9_setTrack S p1 p2 = 0) : Met l yL_setTrack wsL_setTrack ({ frames := 2, cells := 0, slots := 0, locals := 45 } : Room) (va_Pc [.ref (a 0), .int p1, .int p2, .ref o] (gL G cA cJ a S L o fo sz)) (va_Qi (fun (x : Int32) (f9 : Nat → Int64) => x = 0 ∧ f9 0 = (rX9_setTrack S p1 p2).toInt64) (fun f9 t => va_P G vwCl (wO a cA cJ (fX9_setTrack S p1 p2) L o f9) t.heap) (mO a o sz)) 0 0 (mO a o sz) := by
  refine l_met (cc := cL_setTrack) (maxL := 5) (ret := some .int) (hh := [(0, 10, 13, 13)]) (by decide) rfl (Nat.le_of_ble_eq_true rfl) ?_
  intro p e s m below meth c ls hx hb hr hlocks hml hts hown htb hsz hK hP hS hl
  subst hsz
  have hl : lv_has ls 5 [(0, .ref (a 0)), (1, .int p1), (2, .int p2), (3, .ref o)] := hl
  obtain ⟨z1, z2, z3, z4⟩ := kz_setTrack hk
  refine lv_aload_n hx hb dL_setTrack_0 rfl (lv_at hl 3 rfl) ?_
  refine lv_iconst (v := 0) hx hb dL_setTrack_1 (by decide) ?_
  refine lv_aload_n hx hb dL_setTrack_2 rfl (lv_at hl 0 rfl) ?_
  refine lv_iload_n hx hb dL_setTrack_3 rfl (lv_at hl 1 rfl) ?_
  refine lv_iload_n hx hb dL_setTrack_4 rfl (lv_at hl 2 rfl) ?_
  refine l_cVi (As := [.int p1, .int p2]) (rest := [.int 0, .ref o]) ⟨hx, hb, hml, hown, hts⟩ (c_X9_setTrack l G cA a ha S L s.heap.size p1 p2 z1 z2 z3 z4) (cwV 2 hts gL_setTrack_X9_setTrack rfl rfl rfl (by decide +kernel) ⟨Nat.le_of_ble_eq_true rfl, Nat.le_of_ble_eq_true rfl⟩) hao hK hP hS rfl hl.1 rfl (lv_room (Nat.le_of_ble_eq_true rfl)) dL_setTrack_5 ⟨Nat.le_of_ble_eq_true rfl, Nat.le_of_ble_eq_true rfl⟩ (fun H locs hP hS => ?_)
  refine lv_i2l hx hb dL_setTrack_8 rfl ?_
  refine l_last hx hb ha hao hK hP hS (vp_in_lit (by decide)) dL_setTrack_9 (fun H locs hP hS => ?_)
  refine lv_goto (tgt := 17) hx hb dL_setTrack_10 (by decide) ?_
  refine lv_iconst (v := 0) hx hb dL_setTrack_17 (by decide) ?_
  exact l_iret (po := fun f9 => f9 0 = (rX9_setTrack S p1 p2).toInt64) hx hb hr hlocks rfl (upd_0 _ _) hP hS dL_setTrack_18
set_option maxHeartbeats 4000000 in
set_option maxRecDepth 100000 in
theorem h1_L_setTrack (l : Launch) (hfl : l.stackTraces = false) (G : va_G) (cA cJ : ClassId) (a : Nat → Nat) (ha : apart 37 a) (o : Nat) (hao : ∀ k, k < 37 → a k ≠ o) (S : Mm) (L : Int64) (fo : Nat → Int64) (sz : Nat) (p1 : Int32) (p2 : Int32) (hk : ¬ kX9_setTrack S p1 p2 = 0) : Met l yL_setTrack wsL_setTrack ({ frames := 8, cells := 1, slots := 6, locals := 126 } : Room) (va_Pc [.ref (a 0), .int p1, .int p2, .ref o] (gL G cA cJ a S L o fo sz)) (va_Qi (fun (x : Int32) (f9 : Nat → Int64) => x = 1 ∧ True) (fun f9 t => va_P G vwCl (wO a cA cJ S L o f9) t.heap) (mO a o sz)) 1 6 (mO a o sz) := by
  refine l_met (cc := cL_setTrack) (maxL := 5) (ret := some .int) (hh := [(0, 10, 13, 13)]) (by decide) rfl (Nat.le_of_ble_eq_true rfl) ?_
  intro p e s m below meth c ls hx hb hr hlocks hml hts hown htb hsz hK hP hS hl
  subst hsz
  have hl : lv_has ls 5 [(0, .ref (a 0)), (1, .int p1), (2, .int p2), (3, .ref o)] := hl
  refine lv_aload_n hx hb dL_setTrack_0 rfl (lv_at hl 3 rfl) ?_
  refine lv_iconst (v := 0) hx hb dL_setTrack_1 (by decide) ?_
  refine lv_aload_n hx hb dL_setTrack_2 rfl (lv_at hl 0 rfl) ?_
  refine lv_iload_n hx hb dL_setTrack_3 rfl (lv_at hl 1 rfl) ?_
  refine lv_iload_n hx hb dL_setTrack_4 rfl (lv_at hl 2 rfl) ?_
  refine l_thrV (E0 := xN (kX9_setTrack S p1 p2)) (As := [.int p1, .int p2]) (rest := [.int 0, .ref o]) ⟨hx, hb, hml, hown, hts⟩ (t_X9_setTrack l hfl G cA a ha S L s.heap.size p1 p2 hk) (cwV 2 hts gL_setTrack_X9_setTrack rfl rfl rfl (by decide +kernel) ⟨Nat.le_of_ble_eq_true rfl, Nat.le_of_ble_eq_true rfl⟩) hao hK hP hS rfl hl.1 rfl (lv_room (Nat.le_of_ble_eq_true rfl)) dL_setTrack_5 ⟨Nat.le_of_ble_eq_true rfl, Nat.le_of_ble_eq_true rfl⟩ (fun ce q9 H locs hP hS hce hcv hcl => ?_)
  rw [kv_setTrack hk] at hcl
  refine vx_catch (own := RL) (name := sIOB) (E := sIOB) hown [] ⟨0, 10, 13, 13⟩ [] (by rw [htb]; rfl) (fun z hz => nomatch hz) (by decide) (by decide) (hts (.classLink RL 13 sIOB) (by decide +kernel)) (va_Nw.use (by decide) (hK.2.2.1.1 (.castable sIOB sIOB) (by decide))) hce hcv hcl ?_
  refine lv_astore (lv' := [(4, .ref q9), (0, .ref (a 0)), (1, .int p1), (2, .int p2), (3, .ref o)]) hx hb dL_setTrack_13 hl (by decide) rfl (fun ls hl => ?_)
  refine lv_iconst (v := 1) hx hb dL_setTrack_15 (by decide) ?_
  exact l_iret (po := fun _ => True) hx hb hr hlocks (rfl) trivial hP hS dL_setTrack_16
theorem kz_setTempo {S : Mm} {p1 p2 : Int32} (h : kX9_setTempo S p1 p2 = 0) : (¬ p1 < (1 : Int32)) ∧ (p1 ≤ (200 : Int32)) ∧ (¬ p2 < (0 : Int32)) ∧ (p2 ≤ (p1 - 1)) := by
  unfold kX9_setTempo at h
  by_cases q1 : p1 < (1 : Int32) ∨ (200 : Int32) < p1
  · rw [if_pos q1] at h
    exact absurd h (by decide)
  · rw [if_neg q1] at h
    by_cases q2 : p2 < (0 : Int32) ∨ (p1 - 1) < p2
    · rw [if_pos q2] at h
      exact absurd h (by decide)
    · rw [if_neg q2] at h
      exact ⟨fun h9 => q1 (Or.inl h9), Int32.not_lt.mp (fun h9 => q1 (Or.inr h9)), fun h9 => q2 (Or.inl h9), Int32.not_lt.mp (fun h9 => q2 (Or.inr h9))⟩
theorem kv_setTempo {S : Mm} {p1 p2 : Int32} (h : ¬ kX9_setTempo S p1 p2 = 0) : kX9_setTempo S p1 p2 = 2 := by
  unfold kX9_setTempo at h ⊢
  revert h
  (repeat' split) <;> intro h <;> first | exact absurd rfl h | exact rfl | exact Or.inl rfl | exact Or.inr rfl
set_option maxHeartbeats 4000000 in
set_option maxRecDepth 100000 in
theorem h0_L_setTempo (l : Launch) (hfl : l.stackTraces = false) (G : va_G) (cA cJ : ClassId) (a : Nat → Nat) (ha : apart 37 a) (o : Nat) (hao : ∀ k, k < 37 → a k ≠ o) (S : Mm) (L : Int64) (fo : Nat → Int64) (sz : Nat) (p1 : Int32) (p2 : Int32) (hk : kX9_setTempo S p1 p2 = 0) : Met l yL_setTempo wsL_setTempo ({ frames := 2, cells := 0, slots := 0, locals := 45 } : Room) (va_Pc [.ref (a 0), .int p1, .int p2, .ref o] (gL G cA cJ a S L o fo sz)) (va_Qi (fun (x : Int32) (f9 : Nat → Int64) => x = 0 ∧ f9 0 = (rX9_setTempo S p1 p2).toInt64) (fun f9 t => va_P G vwCl (wO a cA cJ (fX9_setTempo S p1 p2) L o f9) t.heap) (mO a o sz)) 0 0 (mO a o sz) := by
  refine l_met (cc := cL_setTempo) (maxL := 5) (ret := some .int) (hh := [(0, 10, 13, 15)]) (by decide) rfl (Nat.le_of_ble_eq_true rfl) ?_
  intro p e s m below meth c ls hx hb hr hlocks hml hts hown htb hsz hK hP hS hl
  subst hsz
  have hl : lv_has ls 5 [(0, .ref (a 0)), (1, .int p1), (2, .int p2), (3, .ref o)] := hl
  obtain ⟨z1, z2, z3, z4⟩ := kz_setTempo hk
  refine lv_aload_n hx hb dL_setTempo_0 rfl (lv_at hl 3 rfl) ?_
  refine lv_iconst (v := 0) hx hb dL_setTempo_1 (by decide) ?_
  refine lv_aload_n hx hb dL_setTempo_2 rfl (lv_at hl 0 rfl) ?_
  refine lv_iload_n hx hb dL_setTempo_3 rfl (lv_at hl 1 rfl) ?_
  refine lv_iload_n hx hb dL_setTempo_4 rfl (lv_at hl 2 rfl) ?_
  refine l_cVi (As := [.int p1, .int p2]) (rest := [.int 0, .ref o]) ⟨hx, hb, hml, hown, hts⟩ (c_X9_setTempo l G cA a ha S L s.heap.size p1 p2 z1 z2 z3 z4) (cwV 2 hts gL_setTempo_X9_setTempo rfl rfl rfl (by decide +kernel) ⟨Nat.le_of_ble_eq_true rfl, Nat.le_of_ble_eq_true rfl⟩) hao hK hP hS rfl hl.1 rfl (lv_room (Nat.le_of_ble_eq_true rfl)) dL_setTempo_5 ⟨Nat.le_of_ble_eq_true rfl, Nat.le_of_ble_eq_true rfl⟩ (fun H locs hP hS => ?_)
  refine lv_i2l hx hb dL_setTempo_8 rfl ?_
  refine l_last hx hb ha hao hK hP hS (vp_in_lit (by decide)) dL_setTempo_9 (fun H locs hP hS => ?_)
  refine lv_goto (tgt := 17) hx hb dL_setTempo_10 (by decide) ?_
  refine lv_iconst (v := 0) hx hb dL_setTempo_17 (by decide) ?_
  exact l_iret (po := fun f9 => f9 0 = (rX9_setTempo S p1 p2).toInt64) hx hb hr hlocks rfl (upd_0 _ _) hP hS dL_setTempo_18
set_option maxHeartbeats 4000000 in
set_option maxRecDepth 100000 in
theorem h1_L_setTempo (l : Launch) (hfl : l.stackTraces = false) (G : va_G) (cA cJ : ClassId) (a : Nat → Nat) (ha : apart 37 a) (o : Nat) (hao : ∀ k, k < 37 → a k ≠ o) (S : Mm) (L : Int64) (fo : Nat → Int64) (sz : Nat) (p1 : Int32) (p2 : Int32) (hk : ¬ kX9_setTempo S p1 p2 = 0) : Met l yL_setTempo wsL_setTempo ({ frames := 8, cells := 1, slots := 6, locals := 127 } : Room) (va_Pc [.ref (a 0), .int p1, .int p2, .ref o] (gL G cA cJ a S L o fo sz)) (va_Qi (fun (x : Int32) (f9 : Nat → Int64) => x = 1 ∧ True) (fun f9 t => va_P G vwCl (wO a cA cJ S L o f9) t.heap) (mO a o sz)) 1 6 (mO a o sz) := by
  refine l_met (cc := cL_setTempo) (maxL := 5) (ret := some .int) (hh := [(0, 10, 13, 15)]) (by decide) rfl (Nat.le_of_ble_eq_true rfl) ?_
  intro p e s m below meth c ls hx hb hr hlocks hml hts hown htb hsz hK hP hS hl
  subst hsz
  have hl : lv_has ls 5 [(0, .ref (a 0)), (1, .int p1), (2, .int p2), (3, .ref o)] := hl
  refine lv_aload_n hx hb dL_setTempo_0 rfl (lv_at hl 3 rfl) ?_
  refine lv_iconst (v := 0) hx hb dL_setTempo_1 (by decide) ?_
  refine lv_aload_n hx hb dL_setTempo_2 rfl (lv_at hl 0 rfl) ?_
  refine lv_iload_n hx hb dL_setTempo_3 rfl (lv_at hl 1 rfl) ?_
  refine lv_iload_n hx hb dL_setTempo_4 rfl (lv_at hl 2 rfl) ?_
  refine l_thrV (E0 := xN (kX9_setTempo S p1 p2)) (As := [.int p1, .int p2]) (rest := [.int 0, .ref o]) ⟨hx, hb, hml, hown, hts⟩ (t_X9_setTempo l hfl G cA a ha S L s.heap.size p1 p2 hk) (cwV 2 hts gL_setTempo_X9_setTempo rfl rfl rfl (by decide +kernel) ⟨Nat.le_of_ble_eq_true rfl, Nat.le_of_ble_eq_true rfl⟩) hao hK hP hS rfl hl.1 rfl (lv_room (Nat.le_of_ble_eq_true rfl)) dL_setTempo_5 ⟨Nat.le_of_ble_eq_true rfl, Nat.le_of_ble_eq_true rfl⟩ (fun ce q9 H locs hP hS hce hcv hcl => ?_)
  rw [kv_setTempo hk] at hcl
  refine vx_catch (own := RL) (name := sIAE) (E := sIAE) hown [] ⟨0, 10, 13, 15⟩ [] (by rw [htb]; rfl) (fun z hz => nomatch hz) (by decide) (by decide) (hts (.classLink RL 15 sIAE) (by decide +kernel)) (va_Nw.use (by decide) (hK.2.2.1.1 (.castable sIAE sIAE) (by decide))) hce hcv hcl ?_
  refine lv_astore (lv' := [(4, .ref q9), (0, .ref (a 0)), (1, .int p1), (2, .int p2), (3, .ref o)]) hx hb dL_setTempo_13 hl (by decide) rfl (fun ls hl => ?_)
  refine lv_iconst (v := 1) hx hb dL_setTempo_15 (by decide) ?_
  exact l_iret (po := fun _ => True) hx hb hr hlocks (rfl) trivial hP hS dL_setTempo_16
theorem kz_play {S : Mm} {p1 : Int32} (h : kX9_play S p1 = 0) : (¬ p1 < 0) ∧ (p1 < (8 : Int32)) := by
  unfold kX9_play at h
  by_cases q1 : p1 < 0 ∨ (8 : Int32) ≤ p1
  · rw [if_pos q1] at h
    exact absurd h (by decide)
  · rw [if_neg q1] at h
    exact ⟨fun h9 => q1 (Or.inl h9), Int32.not_le.mp (fun h9 => q1 (Or.inr h9))⟩
theorem kv_play {S : Mm} {p1 : Int32} (h : ¬ kX9_play S p1 = 0) : kX9_play S p1 = 1 := by
  unfold kX9_play at h ⊢
  revert h
  (repeat' split) <;> intro h <;> first | exact absurd rfl h | exact rfl | exact Or.inl rfl | exact Or.inr rfl
set_option maxHeartbeats 4000000 in
set_option maxRecDepth 100000 in
theorem h0_L_play (l : Launch) (hfl : l.stackTraces = false) (G : va_G) (cA cJ : ClassId) (a : Nat → Nat) (ha : apart 37 a) (o : Nat) (hao : ∀ k, k < 37 → a k ≠ o) (S : Mm) (L : Int64) (fo : Nat → Int64) (sz : Nat) (p1 : Int32) (hk : kX9_play S p1 = 0) (hB : S 18 9 = 0 ∨ S 18 9 = 1) : Met l yL_play wsL_play ({ frames := 2, cells := 0, slots := 0, locals := 43 } : Room) (va_Pc [.ref (a 0), .int p1, .ref o] (gL G cA cJ a S L o fo sz)) (va_Qi (fun (x : Int32) (f9 : Nat → Int64) => x = 0 ∧ f9 0 = (if (rX9_play S p1) = 0 then (0 : Int64) else 1)) (fun f9 t => va_P G vwCl (wO a cA cJ (fX9_play S p1) L o f9) t.heap) (mO a o sz)) 0 0 (mO a o sz) := by
  refine l_met (cc := cL_play) (maxL := 4) (ret := some .int) (hh := [(0, 16, 19, 13)]) (by decide) rfl (Nat.le_of_ble_eq_true rfl) ?_
  intro p e s m below meth c ls hx hb hr hlocks hml hts hown htb hsz hK hP hS hl
  subst hsz
  have hl : lv_has ls 4 [(0, .ref (a 0)), (1, .int p1), (2, .ref o)] := hl
  obtain ⟨z1, z2⟩ := kz_play hk
  refine lv_aload_n hx hb dL_play_0 rfl (lv_at hl 2 rfl) ?_
  refine lv_iconst (v := 0) hx hb dL_play_1 (by decide) ?_
  refine lv_aload_n hx hb dL_play_2 rfl (lv_at hl 0 rfl) ?_
  refine lv_iload_n hx hb dL_play_3 rfl (lv_at hl 1 rfl) ?_
  refine l_cVi (As := [.int p1]) (rest := [.int 0, .ref o]) ⟨hx, hb, hml, hown, hts⟩ (c_X9_play l G cA a ha S L s.heap.size p1 (by rcases hB with q | q <;> rw [q] <;> rfl) z1 z2) (cwV 1 hts gL_play_X9_play rfl rfl rfl (by decide +kernel) ⟨Nat.le_of_ble_eq_true rfl, Nat.le_of_ble_eq_true rfl⟩) hao hK hP hS rfl hl.1 rfl (lv_room (Nat.le_of_ble_eq_true rfl)) dL_play_4 ⟨Nat.le_of_ble_eq_true rfl, Nat.le_of_ble_eq_true rfl⟩ (fun H locs hP hS => ?_)
  refine lv_if_eq (tgt := 14) hx hb dL_play_7 (by decide) (fun c1 => ?_) (fun c1 => ?_)
  · refine lv_lconst (v := 0) hx hb dL_play_14 (by decide) ?_
    refine l_last hx hb ha hao hK hP hS (vp_in_lit (by decide)) dL_play_15 (fun H locs hP hS => ?_)
    refine lv_goto (tgt := 22) hx hb dL_play_16 (by decide) ?_
    refine lv_iconst (v := 0) hx hb dL_play_22 (by decide) ?_
    exact l_iret (po := fun f9 => f9 0 = (if (rX9_play S p1) = 0 then (0 : Int64) else 1)) hx hb hr hlocks rfl ((upd_0 _ _).trans (if_pos c1).symm) hP hS dL_play_23
  · refine lv_lconst (v := 1) hx hb dL_play_10 (by decide) ?_
    refine lv_goto (tgt := 15) hx hb dL_play_11 (by decide) ?_
    refine l_last hx hb ha hao hK hP hS (vp_in_lit (by decide)) dL_play_15 (fun H locs hP hS => ?_)
    refine lv_goto (tgt := 22) hx hb dL_play_16 (by decide) ?_
    refine lv_iconst (v := 0) hx hb dL_play_22 (by decide) ?_
    exact l_iret (po := fun f9 => f9 0 = (if (rX9_play S p1) = 0 then (0 : Int64) else 1)) hx hb hr hlocks rfl ((upd_0 _ _).trans (if_neg c1).symm) hP hS dL_play_23
set_option maxHeartbeats 4000000 in
set_option maxRecDepth 100000 in
theorem h1_L_play (l : Launch) (hfl : l.stackTraces = false) (G : va_G) (cA cJ : ClassId) (a : Nat → Nat) (ha : apart 37 a) (o : Nat) (hao : ∀ k, k < 37 → a k ≠ o) (S : Mm) (L : Int64) (fo : Nat → Int64) (sz : Nat) (p1 : Int32) (hk : ¬ kX9_play S p1 = 0) : Met l yL_play wsL_play ({ frames := 8, cells := 1, slots := 6, locals := 125 } : Room) (va_Pc [.ref (a 0), .int p1, .ref o] (gL G cA cJ a S L o fo sz)) (va_Qi (fun (x : Int32) (f9 : Nat → Int64) => x = 1 ∧ True) (fun f9 t => va_P G vwCl (wO a cA cJ S L o f9) t.heap) (mO a o sz)) 1 6 (mO a o sz) := by
  refine l_met (cc := cL_play) (maxL := 4) (ret := some .int) (hh := [(0, 16, 19, 13)]) (by decide) rfl (Nat.le_of_ble_eq_true rfl) ?_
  intro p e s m below meth c ls hx hb hr hlocks hml hts hown htb hsz hK hP hS hl
  subst hsz
  have hl : lv_has ls 4 [(0, .ref (a 0)), (1, .int p1), (2, .ref o)] := hl
  refine lv_aload_n hx hb dL_play_0 rfl (lv_at hl 2 rfl) ?_
  refine lv_iconst (v := 0) hx hb dL_play_1 (by decide) ?_
  refine lv_aload_n hx hb dL_play_2 rfl (lv_at hl 0 rfl) ?_
  refine lv_iload_n hx hb dL_play_3 rfl (lv_at hl 1 rfl) ?_
  refine l_thrV (E0 := xN (kX9_play S p1)) (As := [.int p1]) (rest := [.int 0, .ref o]) ⟨hx, hb, hml, hown, hts⟩ (t_X9_play l hfl G cA a ha S L s.heap.size p1 hk) (cwV 1 hts gL_play_X9_play rfl rfl rfl (by decide +kernel) ⟨Nat.le_of_ble_eq_true rfl, Nat.le_of_ble_eq_true rfl⟩) hao hK hP hS rfl hl.1 rfl (lv_room (Nat.le_of_ble_eq_true rfl)) dL_play_4 ⟨Nat.le_of_ble_eq_true rfl, Nat.le_of_ble_eq_true rfl⟩ (fun ce q9 H locs hP hS hce hcv hcl => ?_)
  rw [kv_play hk] at hcl
  refine vx_catch (own := RL) (name := sIOB) (E := sIOB) hown [] ⟨0, 16, 19, 13⟩ [] (by rw [htb]; rfl) (fun z hz => nomatch hz) (by decide) (by decide) (hts (.classLink RL 13 sIOB) (by decide +kernel)) (va_Nw.use (by decide) (hK.2.2.1.1 (.castable sIOB sIOB) (by decide))) hce hcv hcl ?_
  refine lv_astore_n (lv' := [(3, .ref q9), (0, .ref (a 0)), (1, .int p1), (2, .ref o)]) hx hb dL_play_19 rfl hl (by decide) rfl (fun ls hl => ?_)
  refine lv_iconst (v := 1) hx hb dL_play_20 (by decide) ?_
  exact l_iret (po := fun _ => True) hx hb hr hlocks (rfl) trivial hP hS dL_play_21
theorem kz_run {S : Mm} {p1 : Int32} (h : kX9_run S p1 = 0) : (¬ p1 < (1 : Int32)) ∧ (p1 ≤ (200 : Int32)) := by
  unfold kX9_run at h
  by_cases q1 : p1 < (1 : Int32) ∨ (200 : Int32) < p1
  · rw [if_pos q1] at h
    exact absurd h (by decide)
  · rw [if_neg q1] at h
    exact ⟨fun h9 => q1 (Or.inl h9), Int32.not_lt.mp (fun h9 => q1 (Or.inr h9))⟩
theorem kv_run {S : Mm} {p1 : Int32} (h : ¬ kX9_run S p1 = 0) : kX9_run S p1 = 2 := by
  unfold kX9_run at h ⊢
  revert h
  (repeat' split) <;> intro h <;> first | exact absurd rfl h | exact rfl | exact Or.inl rfl | exact Or.inr rfl
set_option maxHeartbeats 4000000 in
set_option maxRecDepth 100000 in
theorem h0_L_run (l : Launch) (hfl : l.stackTraces = false) (G : va_G) (cA cJ : ClassId) (a : Nat → Nat) (ha : apart 37 a) (o : Nat) (hao : ∀ k, k < 37 → a k ≠ o) (S : Mm) (L : Int64) (fo : Nat → Int64) (sz : Nat) (p1 : Int32) (hk : kX9_run S p1 = 0) : Met l yL_run wsL_run ({ frames := 8, cells := 0, slots := 0, locals := 186 } : Room) (va_Pc [.ref (a 0), .int p1, .ref o] (gL G cA cJ a S L o fo sz)) (va_Qi (fun (x : Int32) (f9 : Nat → Int64) => x = 0 ∧ f9 0 = (rX9_run S L p1).toInt64) (fun f9 t => va_P G vwCl (wO a cA cJ (fX9_run S L p1) (lX9_run S L p1) o f9) t.heap) (mO a o sz)) 0 0 (mO a o sz) := by
  refine l_met (cc := cL_run) (maxL := 4) (ret := some .int) (hh := [(0, 9, 12, 15)]) (by decide) rfl (Nat.le_of_ble_eq_true rfl) ?_
  intro p e s m below meth c ls hx hb hr hlocks hml hts hown htb hsz hK hP hS hl
  subst hsz
  have hl : lv_has ls 4 [(0, .ref (a 0)), (1, .int p1), (2, .ref o)] := hl
  obtain ⟨z1, z2⟩ := kz_run hk
  refine lv_aload_n hx hb dL_run_0 rfl (lv_at hl 2 rfl) ?_
  refine lv_iconst (v := 0) hx hb dL_run_1 (by decide) ?_
  refine lv_aload_n hx hb dL_run_2 rfl (lv_at hl 0 rfl) ?_
  refine lv_iload_n hx hb dL_run_3 rfl (lv_at hl 1 rfl) ?_
  refine l_cVi (As := [.int p1]) (rest := [.int 0, .ref o]) ⟨hx, hb, hml, hown, hts⟩ (c_X9_run l G cA a ha S L s.heap.size p1 z1 z2) (cwV 1 hts gL_run_X9_run rfl rfl rfl (by decide +kernel) ⟨Nat.le_of_ble_eq_true rfl, Nat.le_of_ble_eq_true rfl⟩) hao hK hP hS rfl hl.1 rfl (lv_room (Nat.le_of_ble_eq_true rfl)) dL_run_4 ⟨Nat.le_of_ble_eq_true rfl, Nat.le_of_ble_eq_true rfl⟩ (fun H locs hP hS => ?_)
  refine lv_i2l hx hb dL_run_7 rfl ?_
  refine l_last hx hb ha hao hK hP hS (vp_in_lit (by decide)) dL_run_8 (fun H locs hP hS => ?_)
  refine lv_goto (tgt := 15) hx hb dL_run_9 (by decide) ?_
  refine lv_iconst (v := 0) hx hb dL_run_15 (by decide) ?_
  exact l_iret (po := fun f9 => f9 0 = (rX9_run S L p1).toInt64) hx hb hr hlocks rfl (upd_0 _ _) hP hS dL_run_16
set_option maxHeartbeats 4000000 in
set_option maxRecDepth 100000 in
theorem h1_L_run (l : Launch) (hfl : l.stackTraces = false) (G : va_G) (cA cJ : ClassId) (a : Nat → Nat) (ha : apart 37 a) (o : Nat) (hao : ∀ k, k < 37 → a k ≠ o) (S : Mm) (L : Int64) (fo : Nat → Int64) (sz : Nat) (p1 : Int32) (hk : ¬ kX9_run S p1 = 0) : Met l yL_run wsL_run ({ frames := 8, cells := 1, slots := 6, locals := 127 } : Room) (va_Pc [.ref (a 0), .int p1, .ref o] (gL G cA cJ a S L o fo sz)) (va_Qi (fun (x : Int32) (f9 : Nat → Int64) => x = 1 ∧ True) (fun f9 t => va_P G vwCl (wO a cA cJ S L o f9) t.heap) (mO a o sz)) 1 6 (mO a o sz) := by
  refine l_met (cc := cL_run) (maxL := 4) (ret := some .int) (hh := [(0, 9, 12, 15)]) (by decide) rfl (Nat.le_of_ble_eq_true rfl) ?_
  intro p e s m below meth c ls hx hb hr hlocks hml hts hown htb hsz hK hP hS hl
  subst hsz
  have hl : lv_has ls 4 [(0, .ref (a 0)), (1, .int p1), (2, .ref o)] := hl
  refine lv_aload_n hx hb dL_run_0 rfl (lv_at hl 2 rfl) ?_
  refine lv_iconst (v := 0) hx hb dL_run_1 (by decide) ?_
  refine lv_aload_n hx hb dL_run_2 rfl (lv_at hl 0 rfl) ?_
  refine lv_iload_n hx hb dL_run_3 rfl (lv_at hl 1 rfl) ?_
  refine l_thrV (E0 := xN (kX9_run S p1)) (As := [.int p1]) (rest := [.int 0, .ref o]) ⟨hx, hb, hml, hown, hts⟩ (t_X9_run l hfl G cA a ha S L s.heap.size p1 hk) (cwV 1 hts gL_run_X9_run rfl rfl rfl (by decide +kernel) ⟨Nat.le_of_ble_eq_true rfl, Nat.le_of_ble_eq_true rfl⟩) hao hK hP hS rfl hl.1 rfl (lv_room (Nat.le_of_ble_eq_true rfl)) dL_run_4 ⟨Nat.le_of_ble_eq_true rfl, Nat.le_of_ble_eq_true rfl⟩ (fun ce q9 H locs hP hS hce hcv hcl => ?_)
  rw [kv_run hk] at hcl
  refine vx_catch (own := RL) (name := sIAE) (E := sIAE) hown [] ⟨0, 9, 12, 15⟩ [] (by rw [htb]; rfl) (fun z hz => nomatch hz) (by decide) (by decide) (hts (.classLink RL 15 sIAE) (by decide +kernel)) (va_Nw.use (by decide) (hK.2.2.1.1 (.castable sIAE sIAE) (by decide))) hce hcv hcl ?_
  refine lv_astore_n (lv' := [(3, .ref q9), (0, .ref (a 0)), (1, .int p1), (2, .ref o)]) hx hb dL_run_12 rfl hl (by decide) rfl (fun ls hl => ?_)
  refine lv_iconst (v := 1) hx hb dL_run_13 (by decide) ?_
  exact l_iret (po := fun _ => True) hx hb hr hlocks (rfl) trivial hP hS dL_run_14
theorem kz_heard {S : Mm} {p1 : Int32} (h : kX9_heard S p1 = 0) : (¬ p1 < (0 : Int32)) ∧ (p1 ≤ (63 : Int32)) := by
  unfold kX9_heard at h
  by_cases q1 : p1 < (0 : Int32) ∨ (63 : Int32) < p1
  · rw [if_pos q1] at h
    exact absurd h (by decide)
  · rw [if_neg q1] at h
    exact ⟨fun h9 => q1 (Or.inl h9), Int32.not_lt.mp (fun h9 => q1 (Or.inr h9))⟩
theorem kv_heard {S : Mm} {p1 : Int32} (h : ¬ kX9_heard S p1 = 0) : kX9_heard S p1 = 2 := by
  unfold kX9_heard at h ⊢
  revert h
  (repeat' split) <;> intro h <;> first | exact absurd rfl h | exact rfl | exact Or.inl rfl | exact Or.inr rfl
set_option maxHeartbeats 4000000 in
set_option maxRecDepth 100000 in
theorem h0_L_heard (l : Launch) (hfl : l.stackTraces = false) (G : va_G) (cA cJ : ClassId) (a : Nat → Nat) (ha : apart 37 a) (o : Nat) (hao : ∀ k, k < 37 → a k ≠ o) (S : Mm) (L : Int64) (fo : Nat → Int64) (sz : Nat) (p1 : Int32) (hk : kX9_heard S p1 = 0) : Met l yL_heard wsL_heard ({ frames := 3, cells := 0, slots := 0, locals := 64 } : Room) (va_Pc [.ref (a 0), .int p1, .ref o] (gL G cA cJ a S L o fo sz)) (va_Qi (fun (x : Int32) (f9 : Nat → Int64) => x = 0 ∧ f9 0 = (rX9_heard S p1).toInt64) (fun f9 t => va_P G vwCl (wO a cA cJ S L o f9) t.heap) (mO a o sz)) 0 0 (mO a o sz) := by
  refine l_met (cc := cL_heard) (maxL := 4) (ret := some .int) (hh := [(0, 9, 12, 15)]) (by decide) rfl (Nat.le_of_ble_eq_true rfl) ?_
  intro p e s m below meth c ls hx hb hr hlocks hml hts hown htb hsz hK hP hS hl
  subst hsz
  have hl : lv_has ls 4 [(0, .ref (a 0)), (1, .int p1), (2, .ref o)] := hl
  obtain ⟨z1, z2⟩ := kz_heard hk
  refine lv_aload_n hx hb dL_heard_0 rfl (lv_at hl 2 rfl) ?_
  refine lv_iconst (v := 0) hx hb dL_heard_1 (by decide) ?_
  refine lv_aload_n hx hb dL_heard_2 rfl (lv_at hl 0 rfl) ?_
  refine lv_iload_n hx hb dL_heard_3 rfl (lv_at hl 1 rfl) ?_
  refine l_cVi (As := [.int p1]) (rest := [.int 0, .ref o]) ⟨hx, hb, hml, hown, hts⟩ (c_X9_heard l G cA a ha S L s.heap.size p1 z1 z2) (cwV 1 hts gL_heard_X9_heard rfl rfl rfl (by decide +kernel) ⟨Nat.le_of_ble_eq_true rfl, Nat.le_of_ble_eq_true rfl⟩) hao hK hP hS rfl hl.1 rfl (lv_room (Nat.le_of_ble_eq_true rfl)) dL_heard_4 ⟨Nat.le_of_ble_eq_true rfl, Nat.le_of_ble_eq_true rfl⟩ (fun H locs hP hS => ?_)
  refine lv_i2l hx hb dL_heard_7 rfl ?_
  refine l_last hx hb ha hao hK hP hS (vp_in_lit (by decide)) dL_heard_8 (fun H locs hP hS => ?_)
  refine lv_goto (tgt := 15) hx hb dL_heard_9 (by decide) ?_
  refine lv_iconst (v := 0) hx hb dL_heard_15 (by decide) ?_
  exact l_iret (po := fun f9 => f9 0 = (rX9_heard S p1).toInt64) hx hb hr hlocks rfl (upd_0 _ _) hP hS dL_heard_16
set_option maxHeartbeats 4000000 in
set_option maxRecDepth 100000 in
theorem h1_L_heard (l : Launch) (hfl : l.stackTraces = false) (G : va_G) (cA cJ : ClassId) (a : Nat → Nat) (ha : apart 37 a) (o : Nat) (hao : ∀ k, k < 37 → a k ≠ o) (S : Mm) (L : Int64) (fo : Nat → Int64) (sz : Nat) (p1 : Int32) (hk : ¬ kX9_heard S p1 = 0) : Met l yL_heard wsL_heard ({ frames := 8, cells := 1, slots := 6, locals := 125 } : Room) (va_Pc [.ref (a 0), .int p1, .ref o] (gL G cA cJ a S L o fo sz)) (va_Qi (fun (x : Int32) (f9 : Nat → Int64) => x = 1 ∧ True) (fun f9 t => va_P G vwCl (wO a cA cJ S L o f9) t.heap) (mO a o sz)) 1 6 (mO a o sz) := by
  refine l_met (cc := cL_heard) (maxL := 4) (ret := some .int) (hh := [(0, 9, 12, 15)]) (by decide) rfl (Nat.le_of_ble_eq_true rfl) ?_
  intro p e s m below meth c ls hx hb hr hlocks hml hts hown htb hsz hK hP hS hl
  subst hsz
  have hl : lv_has ls 4 [(0, .ref (a 0)), (1, .int p1), (2, .ref o)] := hl
  refine lv_aload_n hx hb dL_heard_0 rfl (lv_at hl 2 rfl) ?_
  refine lv_iconst (v := 0) hx hb dL_heard_1 (by decide) ?_
  refine lv_aload_n hx hb dL_heard_2 rfl (lv_at hl 0 rfl) ?_
  refine lv_iload_n hx hb dL_heard_3 rfl (lv_at hl 1 rfl) ?_
  refine l_thrV (E0 := xN (kX9_heard S p1)) (As := [.int p1]) (rest := [.int 0, .ref o]) ⟨hx, hb, hml, hown, hts⟩ (t_X9_heard l hfl G cA a ha S L s.heap.size p1 hk) (cwV 1 hts gL_heard_X9_heard rfl rfl rfl (by decide +kernel) ⟨Nat.le_of_ble_eq_true rfl, Nat.le_of_ble_eq_true rfl⟩) hao hK hP hS rfl hl.1 rfl (lv_room (Nat.le_of_ble_eq_true rfl)) dL_heard_4 ⟨Nat.le_of_ble_eq_true rfl, Nat.le_of_ble_eq_true rfl⟩ (fun ce q9 H locs hP hS hce hcv hcl => ?_)
  rw [kv_heard hk] at hcl
  refine vx_catch (own := RL) (name := sIAE) (E := sIAE) hown [] ⟨0, 9, 12, 15⟩ [] (by rw [htb]; rfl) (fun z hz => nomatch hz) (by decide) (by decide) (hts (.classLink RL 15 sIAE) (by decide +kernel)) (va_Nw.use (by decide) (hK.2.2.1.1 (.castable sIAE sIAE) (by decide))) hce hcv hcl ?_
  refine lv_astore_n (lv' := [(3, .ref q9), (0, .ref (a 0)), (1, .int p1), (2, .ref o)]) hx hb dL_heard_12 rfl hl (by decide) rfl (fun ls hl => ?_)
  refine lv_iconst (v := 1) hx hb dL_heard_13 (by decide) ?_
  exact l_iret (po := fun _ => True) hx hb hr hlocks (rfl) trivial hP hS dL_heard_14
theorem kz_ofVoice {S : Mm} {p1 p2 : Int32} (h : kX9_ofVoice S p1 p2 = 0) : (¬ p1 < 0) ∧ (p1 < (4 : Int32)) ∧ (¬ p2 < (0 : Int32)) ∧ (p2 ≤ (9 : Int32)) := by
  unfold kX9_ofVoice at h
  by_cases q1 : p1 < 0 ∨ (4 : Int32) ≤ p1
  · rw [if_pos q1] at h
    exact absurd h (by decide)
  · rw [if_neg q1] at h
    by_cases q2 : p2 < (0 : Int32) ∨ (9 : Int32) < p2
    · rw [if_pos q2] at h
      exact absurd h (by decide)
    · rw [if_neg q2] at h
      exact ⟨fun h9 => q1 (Or.inl h9), Int32.not_le.mp (fun h9 => q1 (Or.inr h9)), fun h9 => q2 (Or.inl h9), Int32.not_lt.mp (fun h9 => q2 (Or.inr h9))⟩
theorem kv_ofVoice {S : Mm} {p1 p2 : Int32} (h : ¬ kX9_ofVoice S p1 p2 = 0) : kX9_ofVoice S p1 p2 = 1 ∨ kX9_ofVoice S p1 p2 = 2 := by
  unfold kX9_ofVoice at h ⊢
  revert h
  (repeat' split) <;> intro h <;> first | exact absurd rfl h | exact rfl | exact Or.inl rfl | exact Or.inr rfl
set_option maxHeartbeats 4000000 in
set_option maxRecDepth 100000 in
theorem h0_L_ofVoice (l : Launch) (hfl : l.stackTraces = false) (G : va_G) (cA cJ : ClassId) (a : Nat → Nat) (ha : apart 37 a) (o : Nat) (hao : ∀ k, k < 37 → a k ≠ o) (S : Mm) (L : Int64) (fo : Nat → Int64) (sz : Nat) (p1 : Int32) (p2 : Int32) (hk : kX9_ofVoice S p1 p2 = 0) : Met l yL_ofVoice wsL_ofVoice ({ frames := 2, cells := 0, slots := 0, locals := 44 } : Room) (va_Pc [.ref (a 0), .int p1, .int p2, .ref o] (gL G cA cJ a S L o fo sz)) (va_Qi (fun (x : Int32) (f9 : Nat → Int64) => x = 0 ∧ f9 0 = (rX9_ofVoice S p1 p2).toInt64) (fun f9 t => va_P G vwCl (wO a cA cJ S L o f9) t.heap) (mO a o sz)) 0 0 (mO a o sz) := by
  refine l_met (cc := cL_ofVoice) (maxL := 5) (ret := some .int) (hh := [(0, 10, 13, 13), (0, 10, 17, 15)]) (by decide) rfl (Nat.le_of_ble_eq_true rfl) ?_
  intro p e s m below meth c ls hx hb hr hlocks hml hts hown htb hsz hK hP hS hl
  subst hsz
  have hl : lv_has ls 5 [(0, .ref (a 0)), (1, .int p1), (2, .int p2), (3, .ref o)] := hl
  obtain ⟨z1, z2, z3, z4⟩ := kz_ofVoice hk
  refine lv_aload_n hx hb dL_ofVoice_0 rfl (lv_at hl 3 rfl) ?_
  refine lv_iconst (v := 0) hx hb dL_ofVoice_1 (by decide) ?_
  refine lv_aload_n hx hb dL_ofVoice_2 rfl (lv_at hl 0 rfl) ?_
  refine lv_iload_n hx hb dL_ofVoice_3 rfl (lv_at hl 1 rfl) ?_
  refine lv_iload_n hx hb dL_ofVoice_4 rfl (lv_at hl 2 rfl) ?_
  refine l_cVi (As := [.int p1, .int p2]) (rest := [.int 0, .ref o]) ⟨hx, hb, hml, hown, hts⟩ (c_X9_ofVoice l G cA a ha S L s.heap.size p1 p2 z1 z2 z3 z4) (cwV 2 hts gL_ofVoice_X9_ofVoice rfl rfl rfl (by decide +kernel) ⟨Nat.le_of_ble_eq_true rfl, Nat.le_of_ble_eq_true rfl⟩) hao hK hP hS rfl hl.1 rfl (lv_room (Nat.le_of_ble_eq_true rfl)) dL_ofVoice_5 ⟨Nat.le_of_ble_eq_true rfl, Nat.le_of_ble_eq_true rfl⟩ (fun H locs hP hS => ?_)
  refine lv_i2l hx hb dL_ofVoice_8 rfl ?_
  refine l_last hx hb ha hao hK hP hS (vp_in_lit (by decide)) dL_ofVoice_9 (fun H locs hP hS => ?_)
  refine lv_goto (tgt := 21) hx hb dL_ofVoice_10 (by decide) ?_
  refine lv_iconst (v := 0) hx hb dL_ofVoice_21 (by decide) ?_
  exact l_iret (po := fun f9 => f9 0 = (rX9_ofVoice S p1 p2).toInt64) hx hb hr hlocks rfl (upd_0 _ _) hP hS dL_ofVoice_22
set_option maxHeartbeats 4000000 in
set_option maxRecDepth 100000 in
theorem h1_L_ofVoice (l : Launch) (hfl : l.stackTraces = false) (G : va_G) (cA cJ : ClassId) (a : Nat → Nat) (ha : apart 37 a) (o : Nat) (hao : ∀ k, k < 37 → a k ≠ o) (S : Mm) (L : Int64) (fo : Nat → Int64) (sz : Nat) (p1 : Int32) (p2 : Int32) (hk : ¬ kX9_ofVoice S p1 p2 = 0) : Met l yL_ofVoice wsL_ofVoice ({ frames := 8, cells := 1, slots := 6, locals := 126 } : Room) (va_Pc [.ref (a 0), .int p1, .int p2, .ref o] (gL G cA cJ a S L o fo sz)) (va_Qi (fun (x : Int32) (f9 : Nat → Int64) => x = (if kX9_ofVoice S p1 p2 = 1 then (1 : Int32) else 2) ∧ True) (fun f9 t => va_P G vwCl (wO a cA cJ S L o f9) t.heap) (mO a o sz)) 1 6 (mO a o sz) := by
  refine l_met (cc := cL_ofVoice) (maxL := 5) (ret := some .int) (hh := [(0, 10, 13, 13), (0, 10, 17, 15)]) (by decide) rfl (Nat.le_of_ble_eq_true rfl) ?_
  intro p e s m below meth c ls hx hb hr hlocks hml hts hown htb hsz hK hP hS hl
  subst hsz
  have hl : lv_has ls 5 [(0, .ref (a 0)), (1, .int p1), (2, .int p2), (3, .ref o)] := hl
  refine lv_aload_n hx hb dL_ofVoice_0 rfl (lv_at hl 3 rfl) ?_
  refine lv_iconst (v := 0) hx hb dL_ofVoice_1 (by decide) ?_
  refine lv_aload_n hx hb dL_ofVoice_2 rfl (lv_at hl 0 rfl) ?_
  refine lv_iload_n hx hb dL_ofVoice_3 rfl (lv_at hl 1 rfl) ?_
  refine lv_iload_n hx hb dL_ofVoice_4 rfl (lv_at hl 2 rfl) ?_
  refine l_thrV (E0 := xN (kX9_ofVoice S p1 p2)) (As := [.int p1, .int p2]) (rest := [.int 0, .ref o]) ⟨hx, hb, hml, hown, hts⟩ (t_X9_ofVoice l hfl G cA a ha S L s.heap.size p1 p2 hk) (cwV 2 hts gL_ofVoice_X9_ofVoice rfl rfl rfl (by decide +kernel) ⟨Nat.le_of_ble_eq_true rfl, Nat.le_of_ble_eq_true rfl⟩) hao hK hP hS rfl hl.1 rfl (lv_room (Nat.le_of_ble_eq_true rfl)) dL_ofVoice_5 ⟨Nat.le_of_ble_eq_true rfl, Nat.le_of_ble_eq_true rfl⟩ (fun ce q9 H locs hP hS hce hcv hcl => ?_)
  by_cases h9 : kX9_ofVoice S p1 p2 = 1
  · rw [h9] at hcl
    refine vx_catch (own := RL) (name := sIOB) (E := sIOB) hown [] ⟨0, 10, 13, 13⟩ [⟨0, 10, 17, 15⟩] (by rw [htb]; rfl) (fun z hz => nomatch hz) (by decide) (by decide) (hts (.classLink RL 13 sIOB) (by decide +kernel)) (va_Nw.use (by decide) (hK.2.2.1.1 (.castable sIOB sIOB) (by decide))) hce hcv hcl ?_
    refine lv_astore (lv' := [(4, .ref q9), (0, .ref (a 0)), (1, .int p1), (2, .int p2), (3, .ref o)]) hx hb dL_ofVoice_13 hl (by decide) rfl (fun ls hl => ?_)
    refine lv_iconst (v := 1) hx hb dL_ofVoice_15 (by decide) ?_
    exact l_iret (po := fun _ => True) hx hb hr hlocks ((if_pos h9).symm) trivial hP hS dL_ofVoice_16
  · rw [(kv_ofVoice hk).resolve_left h9] at hcl
    refine vx_catch (own := RL) (name := sIAE) (E := sIAE) hown [⟨0, 10, 13, 13⟩] ⟨0, 10, 17, 15⟩ [] (by rw [htb]; rfl) (fun z hz => by rw [List.mem_singleton.mp hz]; exact Or.inr ⟨by decide, sIOB, hts (.classLink RL 13 sIOB) (by decide +kernel), hK.2.2.2⟩) (by decide) (by decide) (hts (.classLink RL 15 sIAE) (by decide +kernel)) (va_Nw.use (by decide) (hK.2.2.1.1 (.castable sIAE sIAE) (by decide))) hce hcv hcl ?_
    refine lv_astore (lv' := [(4, .ref q9), (0, .ref (a 0)), (1, .int p1), (2, .int p2), (3, .ref o)]) hx hb dL_ofVoice_17 hl (by decide) rfl (fun ls hl => ?_)
    refine lv_iconst (v := 2) hx hb dL_ofVoice_19 (by decide) ?_
    exact l_iret (po := fun _ => True) hx hb hr hlocks ((if_neg h9).symm) trivial hP hS dL_ofVoice_20
theorem kz_ofStep {S : Mm} {p1 p2 p3 : Int32} (h : kX9_ofStep S p1 p2 p3 = 0) : (¬ p1 < 0) ∧ (p1 < (3 : Int32)) ∧ (¬ p2 < 0) ∧ (p2 < (8 : Int32)) ∧ (¬ p3 < (0 : Int32)) ∧ (p3 ≤ (2 : Int32)) := by
  unfold kX9_ofStep at h
  by_cases q1 : p1 < 0 ∨ (3 : Int32) ≤ p1
  · rw [if_pos q1] at h
    exact absurd h (by decide)
  · rw [if_neg q1] at h
    by_cases q2 : p2 < 0 ∨ (8 : Int32) ≤ p2
    · rw [if_pos q2] at h
      exact absurd h (by decide)
    · rw [if_neg q2] at h
      by_cases q3 : p3 < (0 : Int32) ∨ (2 : Int32) < p3
      · rw [if_pos q3] at h
        exact absurd h (by decide)
      · rw [if_neg q3] at h
        exact ⟨fun h9 => q1 (Or.inl h9), Int32.not_le.mp (fun h9 => q1 (Or.inr h9)), fun h9 => q2 (Or.inl h9), Int32.not_le.mp (fun h9 => q2 (Or.inr h9)), fun h9 => q3 (Or.inl h9), Int32.not_lt.mp (fun h9 => q3 (Or.inr h9))⟩
theorem kv_ofStep {S : Mm} {p1 p2 p3 : Int32} (h : ¬ kX9_ofStep S p1 p2 p3 = 0) : kX9_ofStep S p1 p2 p3 = 1 ∨ kX9_ofStep S p1 p2 p3 = 2 := by
  unfold kX9_ofStep at h ⊢
  revert h
  (repeat' split) <;> intro h <;> first | exact absurd rfl h | exact rfl | exact Or.inl rfl | exact Or.inr rfl
set_option maxHeartbeats 4000000 in
set_option maxRecDepth 100000 in
theorem h0_L_ofStep (l : Launch) (hfl : l.stackTraces = false) (G : va_G) (cA cJ : ClassId) (a : Nat → Nat) (ha : apart 37 a) (o : Nat) (hao : ∀ k, k < 37 → a k ≠ o) (S : Mm) (L : Int64) (fo : Nat → Int64) (sz : Nat) (p1 : Int32) (p2 : Int32) (p3 : Int32) (hk : kX9_ofStep S p1 p2 p3 = 0) : Met l yL_ofStep wsL_ofStep ({ frames := 4, cells := 0, slots := 0, locals := 89 } : Room) (va_Pc [.ref (a 0), .int p1, .int p2, .int p3, .ref o] (gL G cA cJ a S L o fo sz)) (va_Qi (fun (x : Int32) (f9 : Nat → Int64) => x = 0 ∧ f9 0 = (rX9_ofStep S p1 p2 p3).toInt64) (fun f9 t => va_P G vwCl (wO a cA cJ S L o f9) t.heap) (mO a o sz)) 0 0 (mO a o sz) := by
  refine l_met (cc := cL_ofStep) (maxL := 6) (ret := some .int) (hh := [(0, 12, 15, 13), (0, 12, 19, 15)]) (by decide) rfl (Nat.le_of_ble_eq_true rfl) ?_
  intro p e s m below meth c ls hx hb hr hlocks hml hts hown htb hsz hK hP hS hl
  subst hsz
  have hl : lv_has ls 6 [(0, .ref (a 0)), (1, .int p1), (2, .int p2), (3, .int p3), (4, .ref o)] := hl
  obtain ⟨z1, z2, z3, z4, z5, z6⟩ := kz_ofStep hk
  refine lv_aload hx hb dL_ofStep_0 (lv_at hl 4 rfl) ?_
  refine lv_iconst (v := 0) hx hb dL_ofStep_2 (by decide) ?_
  refine lv_aload_n hx hb dL_ofStep_3 rfl (lv_at hl 0 rfl) ?_
  refine lv_iload_n hx hb dL_ofStep_4 rfl (lv_at hl 1 rfl) ?_
  refine lv_iload_n hx hb dL_ofStep_5 rfl (lv_at hl 2 rfl) ?_
  refine lv_iload_n hx hb dL_ofStep_6 rfl (lv_at hl 3 rfl) ?_
  refine l_cVi (As := [.int p1, .int p2, .int p3]) (rest := [.int 0, .ref o]) ⟨hx, hb, hml, hown, hts⟩ (c_X9_ofStep l G cA a ha S L s.heap.size p1 p2 p3 z1 z2 z3 z4 z5 z6) (cwV 3 hts gL_ofStep_X9_ofStep rfl rfl rfl (by decide +kernel) ⟨Nat.le_of_ble_eq_true rfl, Nat.le_of_ble_eq_true rfl⟩) hao hK hP hS rfl hl.1 rfl (lv_room (Nat.le_of_ble_eq_true rfl)) dL_ofStep_7 ⟨Nat.le_of_ble_eq_true rfl, Nat.le_of_ble_eq_true rfl⟩ (fun H locs hP hS => ?_)
  refine lv_i2l hx hb dL_ofStep_10 rfl ?_
  refine l_last hx hb ha hao hK hP hS (vp_in_lit (by decide)) dL_ofStep_11 (fun H locs hP hS => ?_)
  refine lv_goto (tgt := 23) hx hb dL_ofStep_12 (by decide) ?_
  refine lv_iconst (v := 0) hx hb dL_ofStep_23 (by decide) ?_
  exact l_iret (po := fun f9 => f9 0 = (rX9_ofStep S p1 p2 p3).toInt64) hx hb hr hlocks rfl (upd_0 _ _) hP hS dL_ofStep_24
set_option maxHeartbeats 4000000 in
set_option maxRecDepth 100000 in
theorem h1_L_ofStep (l : Launch) (hfl : l.stackTraces = false) (G : va_G) (cA cJ : ClassId) (a : Nat → Nat) (ha : apart 37 a) (o : Nat) (hao : ∀ k, k < 37 → a k ≠ o) (S : Mm) (L : Int64) (fo : Nat → Int64) (sz : Nat) (p1 : Int32) (p2 : Int32) (p3 : Int32) (hk : ¬ kX9_ofStep S p1 p2 p3 = 0) : Met l yL_ofStep wsL_ofStep ({ frames := 8, cells := 1, slots := 6, locals := 127 } : Room) (va_Pc [.ref (a 0), .int p1, .int p2, .int p3, .ref o] (gL G cA cJ a S L o fo sz)) (va_Qi (fun (x : Int32) (f9 : Nat → Int64) => x = (if kX9_ofStep S p1 p2 p3 = 1 then (1 : Int32) else 2) ∧ True) (fun f9 t => va_P G vwCl (wO a cA cJ S L o f9) t.heap) (mO a o sz)) 1 6 (mO a o sz) := by
  refine l_met (cc := cL_ofStep) (maxL := 6) (ret := some .int) (hh := [(0, 12, 15, 13), (0, 12, 19, 15)]) (by decide) rfl (Nat.le_of_ble_eq_true rfl) ?_
  intro p e s m below meth c ls hx hb hr hlocks hml hts hown htb hsz hK hP hS hl
  subst hsz
  have hl : lv_has ls 6 [(0, .ref (a 0)), (1, .int p1), (2, .int p2), (3, .int p3), (4, .ref o)] := hl
  refine lv_aload hx hb dL_ofStep_0 (lv_at hl 4 rfl) ?_
  refine lv_iconst (v := 0) hx hb dL_ofStep_2 (by decide) ?_
  refine lv_aload_n hx hb dL_ofStep_3 rfl (lv_at hl 0 rfl) ?_
  refine lv_iload_n hx hb dL_ofStep_4 rfl (lv_at hl 1 rfl) ?_
  refine lv_iload_n hx hb dL_ofStep_5 rfl (lv_at hl 2 rfl) ?_
  refine lv_iload_n hx hb dL_ofStep_6 rfl (lv_at hl 3 rfl) ?_
  refine l_thrV (E0 := xN (kX9_ofStep S p1 p2 p3)) (As := [.int p1, .int p2, .int p3]) (rest := [.int 0, .ref o]) ⟨hx, hb, hml, hown, hts⟩ (t_X9_ofStep l hfl G cA a ha S L s.heap.size p1 p2 p3 hk) (cwV 3 hts gL_ofStep_X9_ofStep rfl rfl rfl (by decide +kernel) ⟨Nat.le_of_ble_eq_true rfl, Nat.le_of_ble_eq_true rfl⟩) hao hK hP hS rfl hl.1 rfl (lv_room (Nat.le_of_ble_eq_true rfl)) dL_ofStep_7 ⟨Nat.le_of_ble_eq_true rfl, Nat.le_of_ble_eq_true rfl⟩ (fun ce q9 H locs hP hS hce hcv hcl => ?_)
  by_cases h9 : kX9_ofStep S p1 p2 p3 = 1
  · rw [h9] at hcl
    refine vx_catch (own := RL) (name := sIOB) (E := sIOB) hown [] ⟨0, 12, 15, 13⟩ [⟨0, 12, 19, 15⟩] (by rw [htb]; rfl) (fun z hz => nomatch hz) (by decide) (by decide) (hts (.classLink RL 13 sIOB) (by decide +kernel)) (va_Nw.use (by decide) (hK.2.2.1.1 (.castable sIOB sIOB) (by decide))) hce hcv hcl ?_
    refine lv_astore (lv' := [(5, .ref q9), (0, .ref (a 0)), (1, .int p1), (2, .int p2), (3, .int p3), (4, .ref o)]) hx hb dL_ofStep_15 hl (by decide) rfl (fun ls hl => ?_)
    refine lv_iconst (v := 1) hx hb dL_ofStep_17 (by decide) ?_
    exact l_iret (po := fun _ => True) hx hb hr hlocks ((if_pos h9).symm) trivial hP hS dL_ofStep_18
  · rw [(kv_ofStep hk).resolve_left h9] at hcl
    refine vx_catch (own := RL) (name := sIAE) (E := sIAE) hown [⟨0, 12, 15, 13⟩] ⟨0, 12, 19, 15⟩ [] (by rw [htb]; rfl) (fun z hz => by rw [List.mem_singleton.mp hz]; exact Or.inr ⟨by decide, sIOB, hts (.classLink RL 13 sIOB) (by decide +kernel), hK.2.2.2⟩) (by decide) (by decide) (hts (.classLink RL 15 sIAE) (by decide +kernel)) (va_Nw.use (by decide) (hK.2.2.1.1 (.castable sIAE sIAE) (by decide))) hce hcv hcl ?_
    refine lv_astore (lv' := [(5, .ref q9), (0, .ref (a 0)), (1, .int p1), (2, .int p2), (3, .int p3), (4, .ref o)]) hx hb dL_ofStep_19 hl (by decide) rfl (fun ls hl => ?_)
    refine lv_iconst (v := 2) hx hb dL_ofStep_21 (by decide) ?_
    exact l_iret (po := fun _ => True) hx hb hr hlocks ((if_neg h9).symm) trivial hP hS dL_ofStep_22
theorem kz_inDelay {S : Mm} {p1 : Int32} (h : kX9_inDelay S p1 = 0) : (¬ p1 < 0) ∧ (p1 < (S 19 0)) := by
  unfold kX9_inDelay at h
  by_cases q1 : p1 < 0 ∨ (S 19 0) ≤ p1
  · rw [if_pos q1] at h
    exact absurd h (by decide)
  · rw [if_neg q1] at h
    exact ⟨fun h9 => q1 (Or.inl h9), Int32.not_le.mp (fun h9 => q1 (Or.inr h9))⟩
theorem kv_inDelay {S : Mm} {p1 : Int32} (h : ¬ kX9_inDelay S p1 = 0) : kX9_inDelay S p1 = 1 := by
  unfold kX9_inDelay at h ⊢
  revert h
  (repeat' split) <;> intro h <;> first | exact absurd rfl h | exact rfl | exact Or.inl rfl | exact Or.inr rfl
set_option maxHeartbeats 4000000 in
set_option maxRecDepth 100000 in
theorem h0_L_inDelay (l : Launch) (hfl : l.stackTraces = false) (G : va_G) (cA cJ : ClassId) (a : Nat → Nat) (ha : apart 37 a) (o : Nat) (hao : ∀ k, k < 37 → a k ≠ o) (S : Mm) (L : Int64) (fo : Nat → Int64) (sz : Nat) (p1 : Int32) (hk : kX9_inDelay S p1 = 0) : Met l yL_inDelay wsL_inDelay ({ frames := 3, cells := 0, slots := 0, locals := 64 } : Room) (va_Pc [.ref (a 0), .int p1, .ref o] (gL G cA cJ a S L o fo sz)) (va_Qi (fun (x : Int32) (f9 : Nat → Int64) => x = 0 ∧ f9 0 = (rX9_inDelay S p1).toInt64) (fun f9 t => va_P G vwCl (wO a cA cJ S L o f9) t.heap) (mO a o sz)) 0 0 (mO a o sz) := by
  refine l_met (cc := cL_inDelay) (maxL := 4) (ret := some .int) (hh := [(0, 9, 12, 13)]) (by decide) rfl (Nat.le_of_ble_eq_true rfl) ?_
  intro p e s m below meth c ls hx hb hr hlocks hml hts hown htb hsz hK hP hS hl
  subst hsz
  have hl : lv_has ls 4 [(0, .ref (a 0)), (1, .int p1), (2, .ref o)] := hl
  obtain ⟨z1, z2⟩ := kz_inDelay hk
  refine lv_aload_n hx hb dL_inDelay_0 rfl (lv_at hl 2 rfl) ?_
  refine lv_iconst (v := 0) hx hb dL_inDelay_1 (by decide) ?_
  refine lv_aload_n hx hb dL_inDelay_2 rfl (lv_at hl 0 rfl) ?_
  refine lv_iload_n hx hb dL_inDelay_3 rfl (lv_at hl 1 rfl) ?_
  refine l_cVi (As := [.int p1]) (rest := [.int 0, .ref o]) ⟨hx, hb, hml, hown, hts⟩ (c_X9_inDelay l G cA a ha S L s.heap.size p1 z1 z2) (cwV 1 hts gL_inDelay_X9_inDelay rfl rfl rfl (by decide +kernel) ⟨Nat.le_of_ble_eq_true rfl, Nat.le_of_ble_eq_true rfl⟩) hao hK hP hS rfl hl.1 rfl (lv_room (Nat.le_of_ble_eq_true rfl)) dL_inDelay_4 ⟨Nat.le_of_ble_eq_true rfl, Nat.le_of_ble_eq_true rfl⟩ (fun H locs hP hS => ?_)
  refine lv_i2l hx hb dL_inDelay_7 rfl ?_
  refine l_last hx hb ha hao hK hP hS (vp_in_lit (by decide)) dL_inDelay_8 (fun H locs hP hS => ?_)
  refine lv_goto (tgt := 15) hx hb dL_inDelay_9 (by decide) ?_
  refine lv_iconst (v := 0) hx hb dL_inDelay_15 (by decide) ?_
  exact l_iret (po := fun f9 => f9 0 = (rX9_inDelay S p1).toInt64) hx hb hr hlocks rfl (upd_0 _ _) hP hS dL_inDelay_16
set_option maxHeartbeats 4000000 in
set_option maxRecDepth 100000 in
theorem h1_L_inDelay (l : Launch) (hfl : l.stackTraces = false) (G : va_G) (cA cJ : ClassId) (a : Nat → Nat) (ha : apart 37 a) (o : Nat) (hao : ∀ k, k < 37 → a k ≠ o) (S : Mm) (L : Int64) (fo : Nat → Int64) (sz : Nat) (p1 : Int32) (hk : ¬ kX9_inDelay S p1 = 0) : Met l yL_inDelay wsL_inDelay ({ frames := 8, cells := 1, slots := 6, locals := 124 } : Room) (va_Pc [.ref (a 0), .int p1, .ref o] (gL G cA cJ a S L o fo sz)) (va_Qi (fun (x : Int32) (f9 : Nat → Int64) => x = 1 ∧ True) (fun f9 t => va_P G vwCl (wO a cA cJ S L o f9) t.heap) (mO a o sz)) 1 6 (mO a o sz) := by
  refine l_met (cc := cL_inDelay) (maxL := 4) (ret := some .int) (hh := [(0, 9, 12, 13)]) (by decide) rfl (Nat.le_of_ble_eq_true rfl) ?_
  intro p e s m below meth c ls hx hb hr hlocks hml hts hown htb hsz hK hP hS hl
  subst hsz
  have hl : lv_has ls 4 [(0, .ref (a 0)), (1, .int p1), (2, .ref o)] := hl
  refine lv_aload_n hx hb dL_inDelay_0 rfl (lv_at hl 2 rfl) ?_
  refine lv_iconst (v := 0) hx hb dL_inDelay_1 (by decide) ?_
  refine lv_aload_n hx hb dL_inDelay_2 rfl (lv_at hl 0 rfl) ?_
  refine lv_iload_n hx hb dL_inDelay_3 rfl (lv_at hl 1 rfl) ?_
  refine l_thrV (E0 := xN (kX9_inDelay S p1)) (As := [.int p1]) (rest := [.int 0, .ref o]) ⟨hx, hb, hml, hown, hts⟩ (t_X9_inDelay l hfl G cA a ha S L s.heap.size p1 hk) (cwV 1 hts gL_inDelay_X9_inDelay rfl rfl rfl (by decide +kernel) ⟨Nat.le_of_ble_eq_true rfl, Nat.le_of_ble_eq_true rfl⟩) hao hK hP hS rfl hl.1 rfl (lv_room (Nat.le_of_ble_eq_true rfl)) dL_inDelay_4 ⟨Nat.le_of_ble_eq_true rfl, Nat.le_of_ble_eq_true rfl⟩ (fun ce q9 H locs hP hS hce hcv hcl => ?_)
  rw [kv_inDelay hk] at hcl
  refine vx_catch (own := RL) (name := sIOB) (E := sIOB) hown [] ⟨0, 9, 12, 13⟩ [] (by rw [htb]; rfl) (fun z hz => nomatch hz) (by decide) (by decide) (hts (.classLink RL 13 sIOB) (by decide +kernel)) (va_Nw.use (by decide) (hK.2.2.1.1 (.castable sIOB sIOB) (by decide))) hce hcv hcl ?_
  refine lv_astore_n (lv' := [(3, .ref q9), (0, .ref (a 0)), (1, .int p1), (2, .ref o)]) hx hb dL_inDelay_12 rfl hl (by decide) rfl (fun ls hl => ?_)
  refine lv_iconst (v := 1) hx hb dL_inDelay_13 (by decide) ?_
  exact l_iret (po := fun _ => True) hx hb hr hlocks (rfl) trivial hP hS dL_inDelay_14
theorem kz_wouldPeak {S : Mm} {p1 : Int32} (h : kX9_wouldPeak S p1 = 0) : (¬ p1 < (1 : Int32)) ∧ (p1 ≤ (200 : Int32)) := by
  unfold kX9_wouldPeak at h
  by_cases q1 : p1 < (1 : Int32) ∨ (200 : Int32) < p1
  · rw [if_pos q1] at h
    exact absurd h (by decide)
  · rw [if_neg q1] at h
    exact ⟨fun h9 => q1 (Or.inl h9), Int32.not_lt.mp (fun h9 => q1 (Or.inr h9))⟩
theorem kv_wouldPeak {S : Mm} {p1 : Int32} (h : ¬ kX9_wouldPeak S p1 = 0) : kX9_wouldPeak S p1 = 2 := by
  unfold kX9_wouldPeak at h ⊢
  revert h
  (repeat' split) <;> intro h <;> first | exact absurd rfl h | exact rfl | exact Or.inl rfl | exact Or.inr rfl
set_option maxHeartbeats 4000000 in
set_option maxRecDepth 100000 in
theorem h0_L_wouldPeak (l : Launch) (hfl : l.stackTraces = false) (G : va_G) (cA cJ : ClassId) (a : Nat → Nat) (ha : apart 37 a) (o : Nat) (hao : ∀ k, k < 37 → a k ≠ o) (S : Mm) (L : Int64) (fo : Nat → Int64) (sz : Nat) (p1 : Int32) (hk : kX9_wouldPeak S p1 = 0) (hB : S 18 9 = 0 ∨ S 18 9 = 1) : Met l yL_wouldPeak wsL_wouldPeak ({ frames := 8, cells := 0, slots := 0, locals := 186 } : Room) (va_Pc [.ref (a 0), .int p1, .ref o] (gL G cA cJ a S L o fo sz)) (va_Qi (fun (x : Int32) (f9 : Nat → Int64) => x = 0 ∧ f9 0 = (rX9_wouldPeak S p1).toInt64) (fun f9 t => va_P G vwCl (wO a cA cJ (fX9_wouldPeak S p1) L o f9) t.heap) (mO a o sz)) 0 0 (mO a o sz) := by
  refine l_met (cc := cL_wouldPeak) (maxL := 4) (ret := some .int) (hh := [(0, 9, 12, 15)]) (by decide) rfl (Nat.le_of_ble_eq_true rfl) ?_
  intro p e s m below meth c ls hx hb hr hlocks hml hts hown htb hsz hK hP hS hl
  subst hsz
  have hl : lv_has ls 4 [(0, .ref (a 0)), (1, .int p1), (2, .ref o)] := hl
  obtain ⟨z1, z2⟩ := kz_wouldPeak hk
  refine lv_aload_n hx hb dL_wouldPeak_0 rfl (lv_at hl 2 rfl) ?_
  refine lv_iconst (v := 0) hx hb dL_wouldPeak_1 (by decide) ?_
  refine lv_aload_n hx hb dL_wouldPeak_2 rfl (lv_at hl 0 rfl) ?_
  refine lv_iload_n hx hb dL_wouldPeak_3 rfl (lv_at hl 1 rfl) ?_
  refine l_cVi (As := [.int p1]) (rest := [.int 0, .ref o]) ⟨hx, hb, hml, hown, hts⟩ (c_X9_wouldPeak l G cA a ha S L s.heap.size p1 z1 z2 (e6_n hB) (e6_f hB)) (cwV 1 hts gL_wouldPeak_X9_wouldPeak rfl rfl rfl (by decide +kernel) ⟨Nat.le_of_ble_eq_true rfl, Nat.le_of_ble_eq_true rfl⟩) hao hK hP hS rfl hl.1 rfl (lv_room (Nat.le_of_ble_eq_true rfl)) dL_wouldPeak_4 ⟨Nat.le_of_ble_eq_true rfl, Nat.le_of_ble_eq_true rfl⟩ (fun H locs hP hS => ?_)
  refine lv_i2l hx hb dL_wouldPeak_7 rfl ?_
  refine l_last hx hb ha hao hK hP hS (vp_in_lit (by decide)) dL_wouldPeak_8 (fun H locs hP hS => ?_)
  refine lv_goto (tgt := 15) hx hb dL_wouldPeak_9 (by decide) ?_
  refine lv_iconst (v := 0) hx hb dL_wouldPeak_15 (by decide) ?_
  exact l_iret (po := fun f9 => f9 0 = (rX9_wouldPeak S p1).toInt64) hx hb hr hlocks rfl (upd_0 _ _) hP hS dL_wouldPeak_16
set_option maxHeartbeats 4000000 in
set_option maxRecDepth 100000 in
theorem h1_L_wouldPeak (l : Launch) (hfl : l.stackTraces = false) (G : va_G) (cA cJ : ClassId) (a : Nat → Nat) (ha : apart 37 a) (o : Nat) (hao : ∀ k, k < 37 → a k ≠ o) (S : Mm) (L : Int64) (fo : Nat → Int64) (sz : Nat) (p1 : Int32) (hk : ¬ kX9_wouldPeak S p1 = 0) : Met l yL_wouldPeak wsL_wouldPeak ({ frames := 8, cells := 1, slots := 6, locals := 127 } : Room) (va_Pc [.ref (a 0), .int p1, .ref o] (gL G cA cJ a S L o fo sz)) (va_Qi (fun (x : Int32) (f9 : Nat → Int64) => x = 1 ∧ True) (fun f9 t => va_P G vwCl (wO a cA cJ S L o f9) t.heap) (mO a o sz)) 1 6 (mO a o sz) := by
  refine l_met (cc := cL_wouldPeak) (maxL := 4) (ret := some .int) (hh := [(0, 9, 12, 15)]) (by decide) rfl (Nat.le_of_ble_eq_true rfl) ?_
  intro p e s m below meth c ls hx hb hr hlocks hml hts hown htb hsz hK hP hS hl
  subst hsz
  have hl : lv_has ls 4 [(0, .ref (a 0)), (1, .int p1), (2, .ref o)] := hl
  refine lv_aload_n hx hb dL_wouldPeak_0 rfl (lv_at hl 2 rfl) ?_
  refine lv_iconst (v := 0) hx hb dL_wouldPeak_1 (by decide) ?_
  refine lv_aload_n hx hb dL_wouldPeak_2 rfl (lv_at hl 0 rfl) ?_
  refine lv_iload_n hx hb dL_wouldPeak_3 rfl (lv_at hl 1 rfl) ?_
  refine l_thrV (E0 := xN (kX9_wouldPeak S p1)) (As := [.int p1]) (rest := [.int 0, .ref o]) ⟨hx, hb, hml, hown, hts⟩ (t_X9_wouldPeak l hfl G cA a ha S L s.heap.size p1 hk) (cwV 1 hts gL_wouldPeak_X9_wouldPeak rfl rfl rfl (by decide +kernel) ⟨Nat.le_of_ble_eq_true rfl, Nat.le_of_ble_eq_true rfl⟩) hao hK hP hS rfl hl.1 rfl (lv_room (Nat.le_of_ble_eq_true rfl)) dL_wouldPeak_4 ⟨Nat.le_of_ble_eq_true rfl, Nat.le_of_ble_eq_true rfl⟩ (fun ce q9 H locs hP hS hce hcv hcl => ?_)
  rw [kv_wouldPeak hk] at hcl
  refine vx_catch (own := RL) (name := sIAE) (E := sIAE) hown [] ⟨0, 9, 12, 15⟩ [] (by rw [htb]; rfl) (fun z hz => nomatch hz) (by decide) (by decide) (hts (.classLink RL 15 sIAE) (by decide +kernel)) (va_Nw.use (by decide) (hK.2.2.1.1 (.castable sIAE sIAE) (by decide))) hce hcv hcl ?_
  refine lv_astore_n (lv' := [(3, .ref q9), (0, .ref (a 0)), (1, .int p1), (2, .ref o)]) hx hb dL_wouldPeak_12 rfl hl (by decide) rfl (fun ls hl => ?_)
  refine lv_iconst (v := 1) hx hb dL_wouldPeak_13 (by decide) ?_
  exact l_iret (po := fun _ => True) hx hb hr hlocks (rfl) trivial hP hS dL_wouldPeak_14
theorem kz_silentIn {S : Mm} {p1 : Int32} (h : kX9_silentIn S p1 = 0) : (¬ p1 < (1 : Int32)) ∧ (p1 ≤ (200 : Int32)) := by
  unfold kX9_silentIn at h
  by_cases q1 : p1 < (1 : Int32) ∨ (200 : Int32) < p1
  · rw [if_pos q1] at h
    exact absurd h (by decide)
  · rw [if_neg q1] at h
    exact ⟨fun h9 => q1 (Or.inl h9), Int32.not_lt.mp (fun h9 => q1 (Or.inr h9))⟩
theorem kv_silentIn {S : Mm} {p1 : Int32} (h : ¬ kX9_silentIn S p1 = 0) : kX9_silentIn S p1 = 2 := by
  unfold kX9_silentIn at h ⊢
  revert h
  (repeat' split) <;> intro h <;> first | exact absurd rfl h | exact rfl | exact Or.inl rfl | exact Or.inr rfl
set_option maxHeartbeats 4000000 in
set_option maxRecDepth 100000 in
theorem h0_L_silentIn (l : Launch) (hfl : l.stackTraces = false) (G : va_G) (cA cJ : ClassId) (a : Nat → Nat) (ha : apart 37 a) (o : Nat) (hao : ∀ k, k < 37 → a k ≠ o) (S : Mm) (L : Int64) (fo : Nat → Int64) (sz : Nat) (p1 : Int32) (hk : kX9_silentIn S p1 = 0) (hB : S 18 9 = 0 ∨ S 18 9 = 1) : Met l yL_silentIn wsL_silentIn ({ frames := 8, cells := 0, slots := 0, locals := 185 } : Room) (va_Pc [.ref (a 0), .int p1, .ref o] (gL G cA cJ a S L o fo sz)) (va_Qi (fun (x : Int32) (f9 : Nat → Int64) => x = 0 ∧ f9 0 = (rX9_silentIn S p1).toInt64) (fun f9 t => va_P G vwCl (wO a cA cJ (fX9_silentIn S p1) L o f9) t.heap) (mO a o sz)) 0 0 (mO a o sz) := by
  refine l_met (cc := cL_silentIn) (maxL := 4) (ret := some .int) (hh := [(0, 9, 12, 15)]) (by decide) rfl (Nat.le_of_ble_eq_true rfl) ?_
  intro p e s m below meth c ls hx hb hr hlocks hml hts hown htb hsz hK hP hS hl
  subst hsz
  have hl : lv_has ls 4 [(0, .ref (a 0)), (1, .int p1), (2, .ref o)] := hl
  obtain ⟨z1, z2⟩ := kz_silentIn hk
  refine lv_aload_n hx hb dL_silentIn_0 rfl (lv_at hl 2 rfl) ?_
  refine lv_iconst (v := 0) hx hb dL_silentIn_1 (by decide) ?_
  refine lv_aload_n hx hb dL_silentIn_2 rfl (lv_at hl 0 rfl) ?_
  refine lv_iload_n hx hb dL_silentIn_3 rfl (lv_at hl 1 rfl) ?_
  refine l_cVi (As := [.int p1]) (rest := [.int 0, .ref o]) ⟨hx, hb, hml, hown, hts⟩ (c_X9_silentIn l G cA a ha S L s.heap.size p1 z1 z2 (fun _ => (e6_n hB)) (fun _ => (e6_f hB))) (cwV 1 hts gL_silentIn_X9_silentIn rfl rfl rfl (by decide +kernel) ⟨Nat.le_of_ble_eq_true rfl, Nat.le_of_ble_eq_true rfl⟩) hao hK hP hS rfl hl.1 rfl (lv_room (Nat.le_of_ble_eq_true rfl)) dL_silentIn_4 ⟨Nat.le_of_ble_eq_true rfl, Nat.le_of_ble_eq_true rfl⟩ (fun H locs hP hS => ?_)
  refine lv_i2l hx hb dL_silentIn_7 rfl ?_
  refine l_last hx hb ha hao hK hP hS (vp_in_lit (by decide)) dL_silentIn_8 (fun H locs hP hS => ?_)
  refine lv_goto (tgt := 15) hx hb dL_silentIn_9 (by decide) ?_
  refine lv_iconst (v := 0) hx hb dL_silentIn_15 (by decide) ?_
  exact l_iret (po := fun f9 => f9 0 = (rX9_silentIn S p1).toInt64) hx hb hr hlocks rfl (upd_0 _ _) hP hS dL_silentIn_16
set_option maxHeartbeats 4000000 in
set_option maxRecDepth 100000 in
theorem h1_L_silentIn (l : Launch) (hfl : l.stackTraces = false) (G : va_G) (cA cJ : ClassId) (a : Nat → Nat) (ha : apart 37 a) (o : Nat) (hao : ∀ k, k < 37 → a k ≠ o) (S : Mm) (L : Int64) (fo : Nat → Int64) (sz : Nat) (p1 : Int32) (hk : ¬ kX9_silentIn S p1 = 0) : Met l yL_silentIn wsL_silentIn ({ frames := 8, cells := 1, slots := 6, locals := 126 } : Room) (va_Pc [.ref (a 0), .int p1, .ref o] (gL G cA cJ a S L o fo sz)) (va_Qi (fun (x : Int32) (f9 : Nat → Int64) => x = 1 ∧ True) (fun f9 t => va_P G vwCl (wO a cA cJ S L o f9) t.heap) (mO a o sz)) 1 6 (mO a o sz) := by
  refine l_met (cc := cL_silentIn) (maxL := 4) (ret := some .int) (hh := [(0, 9, 12, 15)]) (by decide) rfl (Nat.le_of_ble_eq_true rfl) ?_
  intro p e s m below meth c ls hx hb hr hlocks hml hts hown htb hsz hK hP hS hl
  subst hsz
  have hl : lv_has ls 4 [(0, .ref (a 0)), (1, .int p1), (2, .ref o)] := hl
  refine lv_aload_n hx hb dL_silentIn_0 rfl (lv_at hl 2 rfl) ?_
  refine lv_iconst (v := 0) hx hb dL_silentIn_1 (by decide) ?_
  refine lv_aload_n hx hb dL_silentIn_2 rfl (lv_at hl 0 rfl) ?_
  refine lv_iload_n hx hb dL_silentIn_3 rfl (lv_at hl 1 rfl) ?_
  refine l_thrV (E0 := xN (kX9_silentIn S p1)) (As := [.int p1]) (rest := [.int 0, .ref o]) ⟨hx, hb, hml, hown, hts⟩ (t_X9_silentIn l hfl G cA a ha S L s.heap.size p1 hk) (cwV 1 hts gL_silentIn_X9_silentIn rfl rfl rfl (by decide +kernel) ⟨Nat.le_of_ble_eq_true rfl, Nat.le_of_ble_eq_true rfl⟩) hao hK hP hS rfl hl.1 rfl (lv_room (Nat.le_of_ble_eq_true rfl)) dL_silentIn_4 ⟨Nat.le_of_ble_eq_true rfl, Nat.le_of_ble_eq_true rfl⟩ (fun ce q9 H locs hP hS hce hcv hcl => ?_)
  rw [kv_silentIn hk] at hcl
  refine vx_catch (own := RL) (name := sIAE) (E := sIAE) hown [] ⟨0, 9, 12, 15⟩ [] (by rw [htb]; rfl) (fun z hz => nomatch hz) (by decide) (by decide) (hts (.classLink RL 15 sIAE) (by decide +kernel)) (va_Nw.use (by decide) (hK.2.2.1.1 (.castable sIAE sIAE) (by decide))) hce hcv hcl ?_
  refine lv_astore_n (lv' := [(3, .ref q9), (0, .ref (a 0)), (1, .int p1), (2, .ref o)]) hx hb dL_silentIn_12 rfl hl (by decide) rfl (fun ls hl => ?_)
  refine lv_iconst (v := 1) hx hb dL_silentIn_13 (by decide) ?_
  exact l_iret (po := fun _ => True) hx hb hr hlocks (rfl) trivial hP hS dL_silentIn_14
