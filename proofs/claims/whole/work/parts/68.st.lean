set_option maxHeartbeats 4000000 in
set_option maxRecDepth 100000 in
/-- YOUR PART: from the entry, for every script of at most 3072 ints, the law comes to its end with true ('hflags': the launch's flags, for a law that throws: no stack traces) -/
theorem whole_start {p : Program} {e : Env} {s : State} {m : MethodId} {below : List Frame} {meth : Method} {c : Code} (l : Launch) (hflags : l.flags = flags0) {b L : Nat} {xs : Nat → Int32} (hL : L ≤ 3072) (C0 : lw_At p s m meth c b L xs) : W p l e room_1 s m #[Value.ref b] below meth c s.heap [] 0 0 (lw_Z below #[Value.ref b] s) (entryFrame m ([Value.ref b] : List Value).toArray 9) := by
  obtain ⟨hx, hb, hr, hml, hown0, hts0, hX, hbl, hlocks, hgv⟩ := id C0
  have hfl : l.stackTraces = false := by
    unfold Launch.stackTraces
    rw [hflags]
    decide
  obtain ⟨G, cA, z, hz, hKP⟩ := st_KP hts0 hgv
  have hXP := st_XP hts0 hgv
  have hNc := st_Nc hgv
  have hts : ∀ w ∈ wsL_law, w.before #[Value.ref b] s = true := fun w h => hts0 w (wsL_law_in w h)
  have hown : s.vm.findClass RL = some m.cls := hown0
  have hA : ∀ q : Nat, s.heap.size ≤ q → aN s q := fun _ h => h
  have hS : va_S (aN s) s.heap s.heap [] := va_S.rf
  have hP : va_P G vwCl [] s.heap := fun k q h => by simp at h
  have hD : va_D (aN s) [] := ⟨fun i j p q h => by simp at h, fun k q h => by simp at h⟩
  have hl := lv_entry ([.ref b]) (n := 9) (Nat.le_of_ble_eq_true rfl)
  rw [lg_entry_eq]
  generalize (lg_sl ([.ref b]) ++ List.replicate (9 - (lg_sl ([.ref b])).length) Slot.unset).toArray = ls at hl ⊢
  have hl : lv_has ls 9 [(0, .ref b)] := hl
  refine va_new (ci := 9) (fs := [.null, .null, .null, .null]) (C := RX9) (T := TX9) (N := 4) hx hb hts inlX9 tyX9 tyX9_ok hown (hts0 (.classLink RL 8 RX9) (by decide +kernel)) (hts0 (.instantiable RX9 4) (by decide +kernel)) (hts0 (.initialized RX9) (by decide +kernel)) hKP.1 hP hD hS hA rfl (fun j hj => by rcases (show j = 0 ∨ j = 1 ∨ j = 2 ∨ j = 3 by omega) with rfl | rfl | rfl | rfl <;> rfl) (Nat.le_of_ble_eq_true rfl) (Nat.le_of_ble_eq_true rfl) dL_law_0 (fun q0 H hP hD hS => ?_)
  have hP : va_P G vwCl [(q0, .inr (9, [.null, .null, .null, .null]))] H := hP
  have hD : va_D (aN s) [(q0, .inr (9, [.null, .null, .null, .null]))] := hD
  refine lv_dup hx hb dL_law_3 rfl ?_
  refine j_next (wr := []) (wl := fun b => wG 37 b (cM b cA) SM0 0) (va_runI (As := []) (rest := [.ref q0]) ⟨hx, hb, hml, hown, hts⟩ (c_X9_init l G cA z q0 H.size) (cwI 0 hts gL_law_X9_init rfl rfl rfl (hts0 (.initialized RX9) (by decide +kernel)) (hts0 (.methodLink RL 84 yX9_init) (by decide +kernel)) (hts0 (.instanceMethod yX9_init) (by decide +kernel)) rfl (by decide +kernel) ⟨Nat.le_of_ble_eq_true rfl, Nat.le_of_ble_eq_true rfl⟩) (j_pre hKP hP hD hS hA 0 rfl) rfl rfl hl.1 rfl (lv_room (Nat.le_of_ble_eq_true rfl)) dL_law_4 ⟨Nat.le_of_ble_eq_true rfl, Nat.le_of_ble_eq_true rfl⟩) hP hD hS hA 0 [] rfl rfl (by decide) (by decide) (fun b1 H locs hq hP hD hS => ?_)
  have hP : va_P G vwCl (wG 37 b1 (cM b1 cA) SM0 0) H := hP
  have hD : va_D (aN s) (wG 37 b1 (cM b1 cA) SM0 0) := hD
  refine lv_astore_n (lv' := [(1, .ref q0), (0, .ref b)]) hx hb dL_law_7 rfl hl (by decide) rfl (fun ls hl => ?_)
  refine va_new (ci := 11) (fs := [.int 0, .null]) (C := RX11) (T := TX11) (N := 2) hx hb hts inlX11 tyX11 tyX11_ok hown (hts0 (.classLink RL 85 RX11) (by decide +kernel)) (hts0 (.instantiable RX11 2) (by decide +kernel)) (hts0 (.initialized RX11) (by decide +kernel)) hKP.1 hP hD hS hA rfl (fun j hj => by rcases (show j = 0 ∨ j = 1 by omega) with rfl | rfl <;> rfl) (Nat.le_of_ble_eq_true rfl) (Nat.le_of_ble_eq_true rfl) dL_law_8 (fun q1 H hP hD hS => ?_)
  refine lv_dup hx hb dL_law_11 rfl ?_
  refine j_next (wr := wG 37 b1 (cM b1 cA) SM0 0) (wl := fun b => wG 19 (aD b) (cD (aD b) cA) SD0 0) (va_runI (As := []) (rest := [.ref q1]) ⟨hx, hb, hml, hown, hts⟩ (c_X11_init l G cA z q1 H.size) (cwI 0 hts gL_law_X11_init rfl rfl rfl (hts0 (.initialized RX11) (by decide +kernel)) (hts0 (.methodLink RL 87 yX11_init) (by decide +kernel)) (hts0 (.instanceMethod yX11_init) (by decide +kernel)) rfl (by decide +kernel) ⟨Nat.le_of_ble_eq_true rfl, Nat.le_of_ble_eq_true rfl⟩) (j_pre hKP hP hD hS hA 37 wx_last) rfl rfl hl.1 rfl (lv_room (Nat.le_of_ble_eq_true rfl)) dL_law_12 ⟨Nat.le_of_ble_eq_true rfl, Nat.le_of_ble_eq_true rfl⟩) hP hD hS hA 37 (List.range 37) wx_last wx_ids (by decide +kernel) (fun i hi => Nat.ne_of_lt (List.mem_range.mp hi)) (fun b2 H locs hq2 hP hD hS => ?_)
  refine lv_astore_n (lv' := [(2, .ref q1), (1, .ref q0), (0, .ref b)]) hx hb dL_law_15 rfl hl (by decide) rfl (fun ls hl => ?_)
  refine lv_iconst (v := 1) hx hb dL_law_16 (by decide) ?_
  refine va_newa (atype := .long) (ty := .long) (N' := 1) (a0 := (1, .inr (.inl (fun _ => 0)))) hx hb (hts0 (.arrayClass .long) (by decide +kernel)) rfl hKP.1 hP hD hS hA (fun _ => rfl) (by decide) (by decide) (by decide) (Nat.le_of_ble_eq_true rfl) (Nat.le_of_ble_eq_true rfl) dL_law_17 (fun q2 cJ H hKx hP hD hS => ?_)
  refine lv_astore_n (lv' := [(3, .ref q2), (2, .ref q1), (1, .ref q0), (0, .ref b)]) hx hb dL_law_19 rfl hl (by decide) rfl (fun ls hl => ?_)
  refine lv_iconst (v := 0) hx hb dL_law_20 (by decide) ?_
  refine lv_istore (lv' := [(4, .int 0), (3, .ref q2), (2, .ref q1), (1, .ref q0), (0, .ref b)]) hx hb dL_law_21 hl (by decide) rfl (fun ls hl => ?_)
  have hD : va_D (aN s) (w3 37 19 b1 (aD b2) (cM b1 cA) (cD (aD b2) cA) SM0 SD0 0 0 (q2, .inl (cJ, 1, .inr (.inl (fun _ => 0))))) := hD
  have hP : va_P G vwCl (w3 37 19 b1 (aD b2) (cM b1 cA) (cD (aD b2) cA) SM0 SD0 0 0 (q2, .inl (cJ, 1, .inr (.inl (fun _ => 0))))) H := hP
  have hl : lv_has ls 9 (lwL (a38 z b1) (aD b2) q2 b (6 * 0)) := by
    show lv_has ls 9 [(4, .int 0), (0, .ref b), (1, .ref (b1 0)), (2, .ref (b2 0)), (3, .ref q2)]
    rw [hq, hq2]
    exact lv_sub hl [0, 4, 3, 2, 1] rfl
  have C1 : LCtx p l s m c G (aN s) cA cJ (a38 z b1) (aD b2) q2 b L xs := ⟨hfl, hx, hb, hml, hown, hts, st_F hD, ⟨by rw [a38_z]; exact hKP, hKx.sub [1] rfl, hXP, hNc⟩, fun H locs S T L L' fo _ h2 _ => by
    obtain ⟨scr, g1, g2⟩ := hX
    exact ⟨scr, (h2.2.1 b hbl (Nat.not_le.mpr hbl)).trans g1, g2⟩⟩
  refine W.base ?_
  have hd0 := Drawn.sameBut.refl s.drawn lw_cs
  have e1 : (600 * ((0 : Nat) : Int)) = 0 := by decide
  have e2 : (200 * ((0 : Nat) : Int)) = 0 := by decide
  exact law_loop hL (LCtx_d C1) hr hlocks (L + 1) 0 (by omega) (by omega) s.drawn hd0 S00 SD0 0 0 (fun _ => 0) H _ ls _ _ (by rw [e1, e2]; exact init_ok) (st_P (s := s) (A := aN s) hP) hS hl (by decide) (by decide)
