/-! the law's object writes -/
def pw (cA : ClassId) (P : List (Nat × (Nat → Int32))) : va_W := P.map (fun e => (e.1, .inl (cA, 3, .inl e.2)))
def PR (S : Mm) (wr : Nat → Nat → Option Nat) (P : List (Nat × (Nat → Int32))) : Prop := ∀ t, t < 3 → ∀ k, k < 8 → (wr t k = none → S 9 (8 * t + k) = -1) ∧ ∀ q, wr t k = some q → ∃ g, (q, g) ∈ P ∧ g 0 = S 9 (8 * t + k)
def wrU (wr : Nat → Nat → Option Nat) (t : Nat) (f : Nat → Option Nat) : Nat → Nat → Option Nat := fun t' => if t' = t then f else wr t'
theorem wrU_at {wr : Nat → Nat → Option Nat} {t k : Nat} {x : Option Nat} : wrU wr t (va_up (wr t) k x) t k = x := by
  unfold wrU va_up
  rw [if_pos rfl, if_pos rfl]
section WP
variable {a : Nat → Nat} {cA c2 c3 : ClassId} {β ρ : Nat → Nat} {b : Nat} {wr : Nat → Nat → Option Nat} {S : Mm} {L : Int64} {B : Mm} {X X1 Z : va_W} {P : List (Nat × (Nat → Int32))}
theorem wB_app : wB a cA c2 c3 β ρ b wr S L B X ++ Z = wB a cA c2 c3 β ρ b wr S L B (X ++ Z) := by
  unfold wB
  rw [List.append_assoc, List.append_assoc]
theorem wB_X {n : Nat} {q : Nat × va_E} (h : X[n]? = some q) : (wB a cA c2 c3 β ρ b wr S L B X)[48 + n]? = some q := by
  show (wG 37 a (cM a cA) S L ++ _)[48 + n]? = _
  rw [List.getElem?_append_right (by rw [wG_len]; omega), wG_len, List.getElem?_append_right (by rw [wG_len]; omega), wG_len, show 48 + n - 37 - 11 = n by omega]
  exact h
theorem x_last {x : Nat × va_E} : (X ++ [x])[X.length]? = some x := by simp
theorem wB_Xs {x y : Nat × va_E} : (wB a cA c2 c3 β ρ b wr S L B (X ++ [x])).set (48 + X.length) y = wB a cA c2 c3 β ρ b wr S L B (X ++ [y]) := by
  show (wG 37 a (cM a cA) S L ++ _).set (48 + X.length) y = _
  rw [List.set_append_right _ _ (by rw [wG_len]; omega), wG_len, List.set_append_right _ _ (by rw [wG_len]; omega), wG_len, show 48 + X.length - 37 - 11 = X.length by omega, List.set_append_right _ _ (Nat.le_refl _), Nat.sub_self]
  rfl
theorem pw_add {q : Nat} {f : Nat → Int32} : X1 ++ pw cA P ++ [(q, .inl (cA, 3, .inl f))] = X1 ++ pw cA (P ++ [(q, f)]) := by
  unfold pw
  rw [List.map_append, List.append_assoc]
  rfl
theorem pw_get {q : Nat} {g : Nat → Int32} (h : (q, g) ∈ P) : ∃ n : Nat, (X1 ++ pw cA P)[n]? = some (q, .inl (cA, 3, .inl g)) := by
  have h1 : ((q, .inl (cA, 3, .inl g)) : Nat × va_E) ∈ X1 ++ pw cA P := List.mem_append_right _ (List.mem_map.mpr ⟨_, h, rfl⟩)
  exact List.getElem?_of_mem h1
theorem wG_F {n : Nat} {f f' : Cf} {o : Nat} {e : va_E} (h : o < n) (he : f' o (B o) L = e) (hc : ∀ o', o' < n → o' ≠ o → f' o' (B o') L = f o' (B o') L) : (wG n β f B L).set o (β o, e) = wG n β f' B L := by
  apply List.ext_getElem?
  intro k
  by_cases hk : k < n
  · rw [wG_get hk]
    by_cases ho : k = o
    · subst ho
      rw [List.getElem?_set_self (by rw [wG_len]; exact h), he]
    · rw [List.getElem?_set_ne (fun q => ho q.symm), wG_get hk, hc k hk ho]
  · rw [List.getElem?_eq_none (by rw [List.length_set, wG_len]; omega), List.getElem?_eq_none (by rw [wG_len]; omega)]
theorem wB_w {t : Nat} {f : Nat → Option Nat} (ht : t < 3) : (wB a cA c2 c3 β ρ b wr S L B X).set (37 + (8 + t)) (β (8 + t), .inl (c2, 8, .inr (.inr (.inr (.inr f))))) = wB a cA c2 c3 β ρ b (wrU wr t f) S L B X := by
  show (wG 37 a (cM a cA) S L ++ _).set (37 + (8 + t)) _ = _
  rw [List.set_append_right _ _ (by rw [wG_len]; omega), wG_len, Nat.add_sub_cancel_left, List.set_append_left _ _ (by rw [wG_len]; omega)]
  rw [wG_F (f' := cB a cA c2 c3 β ρ b (wrU wr t f)) (by omega) (by rw [cB_w ht]; unfold wrU; rw [if_pos rfl]) (fun o ho hne => ?_)]
  rcases (show o < 8 ∨ ∃ t', t' < 3 ∧ o = 8 + t' by
    rcases Nat.lt_or_ge o 8 with h | h
    · exact Or.inl h
    · exact Or.inr ⟨o - 8, by omega, by omega⟩) with h | ⟨t', ht', rfl⟩
  · rcases (show o = 0 ∨ o = 1 ∨ o = 2 ∨ o = 3 ∨ o = 4 ∨ o = 5 ∨ o = 6 ∨ o = 7 by omega) with rfl | rfl | rfl | rfl | rfl | rfl | rfl | rfl <;> rfl
  · rw [cB_w ht', cB_w ht']
    unfold wrU
    rw [if_neg (by omega)]
end WP
theorem nx_i {t k : Nat} : (nI t * 8) + nI k = nI (8 * t + k) := by
  rw [show (8 : Int32) = nI 8 from rfl, pk_mul, nI_add, Nat.mul_comm]
theorem wr_r {S : Mm} {t k : Nat} {p3 p4 p5 : Int32} (ht : t < 3) (hk : k < 8) : rX9_write S (nI t) (nI k) p3 p4 p5 = S 9 (8 * t + k) := by
  unfold rX9_write rX4_pitchOf
  rw [nx_i, get_at (N := 24) rfl (by omega)]
theorem wr_f {S : Mm} {t k : Nat} {p3 p4 p5 : Int32} (ht : t < 3) (hk : k < 8) : ∃ y z, fX9_write S (nI t) (nI k) p3 p4 p5 = up2 (up2 (up2 S 9 (8 * t + k) p3) 11 (8 * t + k) y) 13 (8 * t + k) z := by
  unfold fX9_write
  by_cases h : p3 = -1
  · rw [if_pos h, note_f ht hk, h]
    exact ⟨0, 0, rfl⟩
  · rw [if_neg h, note_f ht hk]
    exact ⟨p4, p5, rfl⟩
theorem wr_9 {S : Mm} {t k : Nat} {p3 p4 p5 : Int32} (ht : t < 3) (hk : k < 8) : fX9_write S (nI t) (nI k) p3 p4 p5 9 = upd (S 9) (8 * t + k) p3 := by
  obtain ⟨y, z, e⟩ := wr_f (S := S) (p3 := p3) (p4 := p4) (p5 := p5) ht hk
  rw [e, up2_n (by decide), up2_n (by decide), up2_s]
theorem wr_n {S : Mm} {t k : Nat} {p3 p4 p5 : Int32} (ht : t < 3) (hk : k < 8) {o : Nat} (h9 : o ≠ 9) (h11 : o ≠ 11) (h13 : o ≠ 13) : fX9_write S (nI t) (nI k) p3 p4 p5 o = S o := by
  obtain ⟨y, z, e⟩ := wr_f (S := S) (p3 := p3) (p4 := p4) (p5 := p5) ht hk
  rw [e, up2_n h13, up2_n h11, up2_n h9]
theorem PR_w {S S1 : Mm} {wr : Nat → Nat → Option Nat} {P : List (Nat × (Nat → Int32))} {t k q9 : Nat} {v : Int32} {f : Nat → Int32} {x : Option Nat} (h : PR S wr P) (ht : t < 3) (hk : k < 8) (hx : (x = none ∧ v = -1) ∨ (x = some q9 ∧ f 0 = v)) (h9 : S1 9 = upd (S 9) (8 * t + k) v) : PR S1 (wrU wr t (va_up (wr t) k x)) (P ++ [(q9, f)]) := by
  intro t' ht' k' hk'
  rw [h9]
  by_cases e : t' = t ∧ k' = k
  · obtain ⟨rfl, rfl⟩ := e
    rw [wrU_at, pk_us]
    rcases hx with ⟨rfl, rfl⟩ | ⟨rfl, e2⟩
    · exact ⟨fun _ => rfl, fun q hq => by cases hq⟩
    · refine ⟨fun hq => (by cases hq), fun q hq => ?_⟩
      cases hq
      exact ⟨f, List.mem_append_right _ List.mem_cons_self, e2⟩
  · have e1 : wrU wr t (va_up (wr t) k x) t' k' = wr t' k' := by
      unfold wrU va_up
      by_cases e2 : t' = t
      · rw [if_pos e2, if_neg (fun q => e ⟨e2, q⟩), e2]
      · rw [if_neg e2]
    rw [e1, pk_un (by omega)]
    obtain ⟨g1, g2⟩ := h t' ht' k' hk'
    refine ⟨g1, fun q hq => ?_⟩
    obtain ⟨g, h1, h2⟩ := g2 q hq
    exact ⟨g, List.mem_append_left _ h1, h2⟩
def wrP (S : Mm) (K : Int) (r : Int32) (u : Mm × Mm × (Nat → Nat → Option Nat) × List (Nat × (Nat → Int32))) : Prop := r = 1 ∧ PR u.1 u.2.2.1 u.2.2.2 ∧ RB u.1 u.2.1 ∧ (∀ o, o ≠ 9 → o ≠ 11 → o ≠ 13 → u.1 o = S o) ∧ rg (u.2.1 0 2) 0 (K + 10)
theorem iX10_write_X10 : ∀ w ∈ u_ws RX10 TX10 22, w ∈ wsX10_write := by decide +kernel
set_option maxHeartbeats 16000000 in
set_option maxRecDepth 100000 in
theorem c_X10_write (l : Launch) (G : va_G) (cA c2 c3 : ClassId) (b N : Nat) (xs : Nat → Int32) (sz : Nat) (a β ρ : Nat → Nat) (wr : Nat → Nat → Option Nat) (S : Mm) (L : Int64) (B : Mm) (X1 : va_W) (P : List (Nat × (Nat → Int32))) (hN : N ≤ 260) {K : Int} (hKK : K ≤ 1000000) (hd : rg (B 0 2) 0 K) (hRB : RB S B) (hPR : PR S wr P) (hW : va_D (fun _ => True) (wB a cA c2 c3 β ρ b wr S L B (X1 ++ pw cA P))) : Met l yX10_write wsX10_write ({ frames := 3, cells := 1, slots := 3, locals := 74 } : Room) (va_Pc [.ref (β 0)] (bI G cA c2 c3 (a 37) b N xs (wB a cA c2 c3 β ρ b wr S L B (X1 ++ pw cA P)) sz)) (bQi (wrP S K) (fun u => wB a cA c2 c3 β ρ b u.2.2.1 u.1 L u.2.1 (X1 ++ pw cA u.2.2.2)) G (wB a cA c2 c3 β ρ b wr S L B (X1 ++ pw cA P)) sz) 1 3 (va_A (wB a cA c2 c3 β ρ b wr S L B (X1 ++ pw cA P)) sz) := by
  refine b_met (cc := cX10_write) (maxL := 5) (ret := some .boolean) (by decide) rfl (Nat.le_of_ble_eq_true rfl) hW ?_
  intro p e s m below meth c ls hx hb hr hlocks hml hts hown hnm hsz hK hP hD hA hS hl
  subst hsz
  have hl : lv_has ls 5 [(0, .ref (β 0))] := hl
  refine lv_aload_n hx hb dX10_write_0 rfl (lv_at hl 0 rfl) ?_
  refine lv_iconst (v := 3) hx hb dX10_write_1 (by decide) ?_
  refine v_cVi (k0 := 37) (q0 := β 0) (e0 := .inr (10, bcl a β ρ b (B 0))) (e1 := .inr (10, bcl a β ρ b (upd (B 0) 2 (B 0 2 + 1)))) (As := [.int 3]) (rest := []) ⟨hx, hb, hml, hown, hts⟩ (c_X10_draw l G cA c2 c3 (a 37) b N xs s.heap.size a β ρ (β 0) (B 0) 3 (by decide) (by decide) hN hd) (cwV 1 hts gX10_write_X10_draw rfl rfl rfl (by decide +kernel) ⟨Nat.le_of_ble_eq_true rfl, Nat.le_of_ble_eq_true rfl⟩) (wB_recv hK.1.1 hP) hK hA hP hD (wB_get (o := 0) (by decide)) hS rfl hl.1 rfl (lv_room (Nat.le_of_ble_eq_true rfl)) dX10_write_2 ⟨Nat.le_of_ble_eq_true rfl, Nat.le_of_ble_eq_true rfl⟩ (fun w1 H locs hw1 hP hD hS => ?_)
  rw [wB_d] at hP hD
  obtain ⟨B1, hB1⟩ : ∃ Z9 : Mm, Z9 = up2 B 0 2 (B 0 2 + 1) := ⟨_, rfl⟩
  rw [← hB1] at hP hD
  have hd1 := dr_rg hd (by omega) (B' := B1) hB1
  obtain ⟨t, ht, et⟩ := vp_nI hw1 (by decide)
  rw [et]
  refine lv_istore_n (lv' := [(1, .int (nI t)), (0, .ref (β 0))]) hx hb dX10_write_5 rfl hl (by decide) rfl (fun ls hl => ?_)
  refine lv_aload_n hx hb dX10_write_6 rfl (lv_at hl 1 rfl) ?_
  refine lv_bipush (v := 8) hx hb dX10_write_7 (by decide) ?_
  refine v_cVi (k0 := 37) (q0 := β 0) (e0 := .inr (10, bcl a β ρ b (B1 0))) (e1 := .inr (10, bcl a β ρ b (upd (B1 0) 2 (B1 0 2 + 1)))) (As := [.int 8]) (rest := []) ⟨hx, hb, hml, hown, hts⟩ (c_X10_draw l G cA c2 c3 (a 37) b N xs H.size a β ρ (β 0) (B1 0) 8 (by decide) (by decide) hN hd1) (cwV 1 hts gX10_write_X10_draw rfl rfl rfl (by decide +kernel) ⟨Nat.le_of_ble_eq_true rfl, Nat.le_of_ble_eq_true rfl⟩) (wB_recv hK.1.1 hP) hK hA hP hD (wB_get (o := 0) (by decide)) hS rfl hl.1 rfl (lv_room (Nat.le_of_ble_eq_true rfl)) dX10_write_9 ⟨Nat.le_of_ble_eq_true rfl, Nat.le_of_ble_eq_true rfl⟩ (fun w2 H locs hw2 hP hD hS => ?_)
  rw [wB_d] at hP hD
  obtain ⟨B2, hB2⟩ : ∃ Z9 : Mm, Z9 = up2 B1 0 2 (B1 0 2 + 1) := ⟨_, rfl⟩
  rw [← hB2] at hP hD
  have hd2 := dr_rg hd1 (by omega) (B' := B2) hB2
  obtain ⟨k, hk, ek⟩ := vp_nI hw2 (by decide)
  rw [ek]
  refine lv_istore_n (lv' := [(2, .int (nI k)), (1, .int (nI t)), (0, .ref (β 0))]) hx hb dX10_write_12 rfl hl (by decide) rfl (fun ls hl => ?_)
  rcases hq : wr t k with _ | q
  ·
    refine lv_aload_n hx hb dX10_write_13 rfl (lv_at hl 2 rfl) ?_
    refine va_get (D := G) (ci := 10) (v := .ref (β 7)) (C := RX10) (T := TX10) (N := 22) hx hb hts iX10_write_X10 hown hK.1.1 hP 37 (wB_get (o := 0) (by decide)) rfl 13 (by decide) (hts (.fieldLink RX10 40 "MelodeonLaw$Bench" "written" "[[[I") (by decide +kernel)) (fun _ h9 => h9) rfl dX10_write_14 ?_
    refine lv_iload_n hx hb dX10_write_17 rfl (lv_at hl 1 rfl) ?_
    refine e_aald hx hb hK.2.1 hP (37 + 7) 2 (wB_get (o := 7) (by decide)) rfl (vp_in_nI ht (by decide)) (v := .ref (β (8 + t))) (by rw [nI_clamp (by omega)]; rfl) dX10_write_18 ?_
    refine lv_iload_n hx hb dX10_write_19 rfl (lv_at hl 0 rfl) ?_
    refine e_aald hx hb hK.2.1 hP (37 + (8 + t)) 1 ((wB_get (o := 8 + t) (by omega)).trans (by rw [cB_w ht])) rfl (vp_in_nI hk (by decide)) (v := .null) (by rw [nI_clamp (by omega)]; exact (by rw [hq]; rfl)) dX10_write_20 ?_
    refine lv_ifnonnullN hx hb dX10_write_21 ?_
    refine lv_iconst (v := (-1)) hx hb dX10_write_24 (by decide) ?_
    refine lv_goto (tgt := 38) hx hb dX10_write_25 (by decide) ?_
    refine lv_istore_n (lv' := [(3, .int ((-1))), (2, .int (nI k)), (1, .int (nI t)), (0, .ref (β 0))]) hx hb dX10_write_38 rfl hl (by decide) rfl (fun ls hl => ?_)
    refine lv_iconst (v := 3) hx hb dX10_write_39 (by decide) ?_
    refine va_newa (atype := .int) (ty := .int) (N' := 3) (a0 := (3, .inl (fun _ => 0))) hx hb (hts (.arrayClass .int) (by decide +kernel)) rfl hK.1.1 hP hD hS hA (fun _ => rfl) (by decide) (by decide) (by decide) (Nat.le_of_ble_eq_true rfl) (Nat.le_of_ble_eq_true rfl) dX10_write_40 (fun q9 cQ H hKx hP hD hS => ?_)
    have eQ := cQ_eq2 hKx
    rw [eQ] at hP hD
    rw [wB_app] at hP hD
    refine lv_dup hx hb dX10_write_42 rfl ?_
    refine lv_iconst (v := 0) hx hb dX10_write_43 (by decide) ?_
    refine lv_aload_n hx hb dX10_write_44 rfl (lv_at hl 3 rfl) ?_
    refine lv_bipush (v := 48) hx hb dX10_write_45 (by decide) ?_
    refine v_cVi (k0 := 37) (q0 := β 0) (e0 := .inr (10, bcl a β ρ b (B2 0))) (e1 := .inr (10, bcl a β ρ b (upd (B2 0) 2 (B2 0 2 + 1)))) (As := [.int 48]) (rest := [.int 0, .ref q9, .ref q9]) ⟨hx, hb, hml, hown, hts⟩ (c_X10_draw l G cA c2 c3 (a 37) b N xs H.size a β ρ (β 0) (B2 0) 48 (by decide) (by decide) hN hd2) (cwV 1 hts gX10_write_X10_draw rfl rfl rfl (by decide +kernel) ⟨Nat.le_of_ble_eq_true rfl, Nat.le_of_ble_eq_true rfl⟩) (wB_recv hK.1.1 hP) hK hA hP hD (wB_get (o := 0) (by decide)) hS rfl hl.1 rfl (lv_room (Nat.le_of_ble_eq_true rfl)) dX10_write_47 ⟨Nat.le_of_ble_eq_true rfl, Nat.le_of_ble_eq_true rfl⟩ (fun w3 H locs hw3 hP hD hS => ?_)
    rw [wB_d] at hP hD
    obtain ⟨B3, hB3⟩ : ∃ Z9 : Mm, Z9 = up2 B2 0 2 (B2 0 2 + 1) := ⟨_, rfl⟩
    rw [← hB3] at hP hD
    have hd3 := dr_rg hd2 (by omega) (B' := B3) hB3
    refine s_ist hx hb hK.2.1 hP hD hS (wB_X x_last) (vp_in_lit (by decide)) (j := 0) (by decide) dX10_write_50 (fun H locs hP hD hS => ?_)
    rw [wB_Xs] at hP hD
    obtain ⟨f1, hf1⟩ : ∃ Z9 : Nat → Int32, Z9 = upd (fun _ => 0) 0 w3 := ⟨_, rfl⟩
    rw [← hf1] at hP hD
    refine lv_dup hx hb dX10_write_51 rfl ?_
    refine lv_iconst (v := 1) hx hb dX10_write_52 (by decide) ?_
    refine lv_iconst (v := 1) hx hb dX10_write_53 (by decide) ?_
    refine lv_aload_n hx hb dX10_write_54 rfl (lv_at hl 3 rfl) ?_
    refine lv_bipush (v := 127) hx hb dX10_write_55 (by decide) ?_
    refine v_cVi (k0 := 37) (q0 := β 0) (e0 := .inr (10, bcl a β ρ b (B3 0))) (e1 := .inr (10, bcl a β ρ b (upd (B3 0) 2 (B3 0 2 + 1)))) (As := [.int 127]) (rest := [.int 1, .int 1, .ref q9, .ref q9]) ⟨hx, hb, hml, hown, hts⟩ (c_X10_draw l G cA c2 c3 (a 37) b N xs H.size a β ρ (β 0) (B3 0) 127 (by decide) (by decide) hN hd3) (cwV 1 hts gX10_write_X10_draw rfl rfl rfl (by decide +kernel) ⟨Nat.le_of_ble_eq_true rfl, Nat.le_of_ble_eq_true rfl⟩) (wB_recv hK.1.1 hP) hK hA hP hD (wB_get (o := 0) (by decide)) hS rfl hl.1 rfl (lv_room (Nat.le_of_ble_eq_true rfl)) dX10_write_57 ⟨Nat.le_of_ble_eq_true rfl, Nat.le_of_ble_eq_true rfl⟩ (fun w4 H locs hw4 hP hD hS => ?_)
    rw [wB_d] at hP hD
    obtain ⟨B4, hB4⟩ : ∃ Z9 : Mm, Z9 = up2 B3 0 2 (B3 0 2 + 1) := ⟨_, rfl⟩
    rw [← hB4] at hP hD
    have hd4 := dr_rg hd3 (by omega) (B' := B4) hB4
    refine lv_iadd hx hb dX10_write_60 ?_
    refine s_ist hx hb hK.2.1 hP hD hS (wB_X x_last) (vp_in_lit (by decide)) (j := 1) (by decide) dX10_write_61 (fun H locs hP hD hS => ?_)
    rw [wB_Xs] at hP hD
    obtain ⟨f2, hf2⟩ : ∃ Z9 : Nat → Int32, Z9 = upd f1 1 (1 + w4) := ⟨_, rfl⟩
    rw [← hf2] at hP hD
    refine lv_dup hx hb dX10_write_62 rfl ?_
    refine lv_iconst (v := 2) hx hb dX10_write_63 (by decide) ?_
    refine lv_iconst (v := 1) hx hb dX10_write_64 (by decide) ?_
    refine lv_aload_n hx hb dX10_write_65 rfl (lv_at hl 3 rfl) ?_
    refine lv_bipush (v := 12) hx hb dX10_write_66 (by decide) ?_
    refine v_cVi (k0 := 37) (q0 := β 0) (e0 := .inr (10, bcl a β ρ b (B4 0))) (e1 := .inr (10, bcl a β ρ b (upd (B4 0) 2 (B4 0 2 + 1)))) (As := [.int 12]) (rest := [.int 1, .int 2, .ref q9, .ref q9]) ⟨hx, hb, hml, hown, hts⟩ (c_X10_draw l G cA c2 c3 (a 37) b N xs H.size a β ρ (β 0) (B4 0) 12 (by decide) (by decide) hN hd4) (cwV 1 hts gX10_write_X10_draw rfl rfl rfl (by decide +kernel) ⟨Nat.le_of_ble_eq_true rfl, Nat.le_of_ble_eq_true rfl⟩) (wB_recv hK.1.1 hP) hK hA hP hD (wB_get (o := 0) (by decide)) hS rfl hl.1 rfl (lv_room (Nat.le_of_ble_eq_true rfl)) dX10_write_68 ⟨Nat.le_of_ble_eq_true rfl, Nat.le_of_ble_eq_true rfl⟩ (fun w5 H locs hw5 hP hD hS => ?_)
    rw [wB_d] at hP hD
    obtain ⟨B5, hB5⟩ : ∃ Z9 : Mm, Z9 = up2 B4 0 2 (B4 0 2 + 1) := ⟨_, rfl⟩
    rw [← hB5] at hP hD
    have hd5 := dr_rg hd4 (by omega) (B' := B5) hB5
    refine lv_iadd hx hb dX10_write_71 ?_
    refine s_ist hx hb hK.2.1 hP hD hS (wB_X x_last) (vp_in_lit (by decide)) (j := 2) (by decide) dX10_write_72 (fun H locs hP hD hS => ?_)
    rw [wB_Xs] at hP hD
    obtain ⟨f3, hf3⟩ : ∃ Z9 : Nat → Int32, Z9 = upd f2 2 (1 + w5) := ⟨_, rfl⟩
    rw [← hf3] at hP hD
    refine lv_astore (lv' := [(4, .ref q9), (3, .int ((-1))), (2, .int (nI k)), (1, .int (nI t)), (0, .ref (β 0))]) hx hb dX10_write_73 hl (by decide) rfl (fun ls hl => ?_)
    refine lv_aload_n hx hb dX10_write_75 rfl (lv_at hl 4 rfl) ?_
    refine va_get (D := G) (ci := 10) (v := .ref (β 7)) (C := RX10) (T := TX10) (N := 22) hx hb hts iX10_write_X10 hown hK.1.1 hP 37 (wB_get (o := 0) (by decide)) rfl 13 (by decide) (hts (.fieldLink RX10 40 "MelodeonLaw$Bench" "written" "[[[I") (by decide +kernel)) (fun _ h9 => h9) rfl dX10_write_76 ?_
    refine lv_iload_n hx hb dX10_write_79 rfl (lv_at hl 3 rfl) ?_
    refine e_aald hx hb hK.2.1 hP (37 + 7) 2 (wB_get (o := 7) (by decide)) rfl (vp_in_nI ht (by decide)) (v := .ref (β (8 + t))) (by rw [nI_clamp (by omega)]; rfl) dX10_write_80 ?_
    refine lv_iload_n hx hb dX10_write_81 rfl (lv_at hl 2 rfl) ?_
    refine lv_aload_n hx hb dX10_write_82 rfl (lv_at hl 4 rfl) ?_
    refine lv_iconst (v := 4) hx hb dX10_write_83 (by decide) ?_
    refine v_cVi (k0 := 37) (q0 := β 0) (e0 := .inr (10, bcl a β ρ b (B5 0))) (e1 := .inr (10, bcl a β ρ b (upd (B5 0) 2 (B5 0 2 + 1)))) (As := [.int 4]) (rest := [.int (nI k), .ref (β (8 + t))]) ⟨hx, hb, hml, hown, hts⟩ (c_X10_draw l G cA c2 c3 (a 37) b N xs H.size a β ρ (β 0) (B5 0) 4 (by decide) (by decide) hN hd5) (cwV 1 hts gX10_write_X10_draw rfl rfl rfl (by decide +kernel) ⟨Nat.le_of_ble_eq_true rfl, Nat.le_of_ble_eq_true rfl⟩) (wB_recv hK.1.1 hP) hK hA hP hD (wB_get (o := 0) (by decide)) hS rfl hl.1 rfl (lv_room (Nat.le_of_ble_eq_true rfl)) dX10_write_84 ⟨Nat.le_of_ble_eq_true rfl, Nat.le_of_ble_eq_true rfl⟩ (fun w6 H locs hw6 hP hD hS => ?_)
    rw [wB_d] at hP hD
    obtain ⟨B6, hB6⟩ : ∃ Z9 : Mm, Z9 = up2 B5 0 2 (B5 0 2 + 1) := ⟨_, rfl⟩
    rw [← hB6] at hP hD
    have hd6 := dr_rg hd5 (by omega) (B' := B6) hB6
    refine lv_if_ne (tgt := 94) hx hb dX10_write_87 (by decide) (fun c1 => ?_) (fun c1 => ?_)
    ·
      refine lv_aload hx hb dX10_write_94 (lv_at hl 0 rfl) ?_
      refine e_aast hx hb hK.2.2.2.2 hP hD hS (37 + (8 + t)) (48 + (X1 ++ pw cA P).length) ((wB_get (o := 8 + t) (by omega)).trans (by rw [cB_w ht])) (wB_X x_last) (vp_in_nI hk (by decide)) dX10_write_96 (fun H locs hP hD hS => ?_)
      rw [nI_clamp (by omega), wB_w ht] at hP hD
      refine lv_aload_n hx hb dX10_write_97 rfl (lv_at hl 4 rfl) ?_
      refine va_get (D := G) (ci := 10) (v := .ref (a 0)) (C := RX10) (T := TX10) (N := 22) hx hb hts iX10_write_X10 hown hK.1.1 hP 37 (wB_get (o := 0) (by decide)) rfl 0 (by decide) (hts (.fieldLink RX10 10 "MelodeonLaw$Bench" "m" "LMelodeon;") (by decide +kernel)) (fun _ h9 => h9) rfl dX10_write_98 ?_
      refine lv_iload_n hx hb dX10_write_101 rfl (lv_at hl 3 rfl) ?_
      refine lv_iload_n hx hb dX10_write_102 rfl (lv_at hl 2 rfl) ?_
      refine lv_aload_n hx hb dX10_write_103 rfl (lv_at hl 4 rfl) ?_
      refine va_get (D := G) (ci := 10) (v := .ref (β 7)) (C := RX10) (T := TX10) (N := 22) hx hb hts iX10_write_X10 hown hK.1.1 hP 37 (wB_get (o := 0) (by decide)) rfl 13 (by decide) (hts (.fieldLink RX10 40 "MelodeonLaw$Bench" "written" "[[[I") (by decide +kernel)) (fun _ h9 => h9) rfl dX10_write_104 ?_
      refine lv_iload_n hx hb dX10_write_107 rfl (lv_at hl 3 rfl) ?_
      refine e_aald hx hb hK.2.1 hP (37 + 7) 2 (wB_get (o := 7) (by decide)) rfl (vp_in_nI ht (by decide)) (v := .ref (β (8 + t))) (by rw [nI_clamp (by omega)]; rfl) dX10_write_108 ?_
      refine lv_iload_n hx hb dX10_write_109 rfl (lv_at hl 2 rfl) ?_
      refine e_aald hx hb hK.2.1 hP (37 + (8 + t)) 1 ((wB_get (o := 8 + t) (by omega)).trans (by rw [cB_w ht])) rfl (vp_in_nI hk (by decide)) (v := .ref q9) (by rw [nI_clamp (by omega)]; exact (by rw [wrU_at]; rfl)) dX10_write_110 ?_
      refine lv_ifnonnull (tgt := 118) hx hb dX10_write_111 (by decide) ?_
      refine lv_aload hx hb dX10_write_118 (lv_at hl 0 rfl) ?_
      refine lv_iconst (v := 0) hx hb dX10_write_120 (by decide) ?_
      refine s_ild hx hb hK.2.1 hP (wB_X x_last) (vp_in_lit (by decide)) (j := 0) (by decide) (v := w3) (by rw [hf3, pk_un (by decide), hf2, pk_un (by decide), hf1, pk_us]) dX10_write_121 ?_
      refine lv_aload hx hb dX10_write_122 (lv_at hl 0 rfl) ?_
      refine lv_iconst (v := 1) hx hb dX10_write_124 (by decide) ?_
      refine s_ild hx hb hK.2.1 hP (wB_X x_last) (vp_in_lit (by decide)) (j := 1) (by decide) (v := 1 + w4) (by rw [hf3, pk_un (by decide), hf2, pk_us]) dX10_write_125 ?_
      refine lv_aload hx hb dX10_write_126 (lv_at hl 0 rfl) ?_
      refine lv_iconst (v := 2) hx hb dX10_write_128 (by decide) ?_
      refine s_ild hx hb hK.2.1 hP (wB_X x_last) (vp_in_lit (by decide)) (j := 2) (by decide) (v := 1 + w5) (by rw [hf3, pk_us]) dX10_write_129 ?_
      refine t_cVi (As := [.int (nI t), .int (nI k), .int w3, .int (1 + w4), .int (1 + w5)]) (rest := []) ⟨hx, hb, hml, hown, hts⟩ (c_X9_write l G cA a (t_ap hD) S L H.size (nI t) (nI k) w3 (1 + w4) (1 + w5) (rg_ge (vp_rg 2 (vp_in_nI ht (by decide)) (by decide) (by decide)) (C := 0) (by decide) (by decide)) (rg_lt (vp_rg 2 (vp_in_nI ht (by decide)) (by decide) (by decide)) (C := 3) (by decide) (by decide)) (rg_ge (vp_rg 7 (vp_in_nI hk (by decide)) (by decide) (by decide)) (C := 0) (by decide) (by decide)) (rg_lt (vp_rg 7 (vp_in_nI hk (by decide)) (by decide) (by decide)) (C := 8) (by decide) (by decide)) (rg_ge (vp_rg 47 hw3 (by decide) (by decide)) (C := (-1)) (by decide) (by decide)) (rg_le (vp_rg 47 hw3 (by decide) (by decide)) (C := 47) (by decide) (by decide)) (fun _ => (rg_ge (rg_w (a' := 1) (b' := 127) (rg_add (rg_c (show (1 : Int32).toInt = 1 from by decide)) (vp_rg 126 hw4 (by decide) (by decide)) (by decide) (by decide)).1 (by decide) (by decide)) (C := 1) (by decide) (by decide))) (fun _ => (rg_le (rg_w (a' := 1) (b' := 127) (rg_add (rg_c (show (1 : Int32).toInt = 1 from by decide)) (vp_rg 126 hw4 (by decide) (by decide)) (by decide) (by decide)).1 (by decide) (by decide)) (C := 127) (by decide) (by decide))) (fun _ => (rg_ge (rg_w (a' := 1) (b' := 12) (rg_add (rg_c (show (1 : Int32).toInt = 1 from by decide)) (vp_rg 11 hw5 (by decide) (by decide)) (by decide) (by decide)).1 (by decide) (by decide)) (C := 1) (by decide) (by decide))) (fun _ => (rg_le (rg_w (a' := 1) (b' := 12) (rg_add (rg_c (show (1 : Int32).toInt = 1 from by decide)) (vp_rg 11 hw5 (by decide) (by decide)) (by decide) (by decide)).1 (by decide) (by decide)) (C := 200) (by decide) (by decide)))) (cwV 5 hts gX10_write_X9_write rfl rfl rfl (by decide +kernel) ⟨Nat.le_of_ble_eq_true rfl, Nat.le_of_ble_eq_true rfl⟩) hK.1 hA hP hD hS rfl hl.1 rfl (lv_room (Nat.le_of_ble_eq_true rfl)) dX10_write_130 ⟨Nat.le_of_ble_eq_true rfl, Nat.le_of_ble_eq_true rfl⟩ (fun H locs hP hD hS => ?_)
      refine lv_iload_n hx hb dX10_write_133 rfl (lv_at hl 1 rfl) ?_
      refine lv_icmp_ne (tgt := 141) hx hb dX10_write_134 (by decide) (fun c9 => absurd ((wr_r ht hk).trans ((hPR t ht k hk).1 hq)) c9) (fun _ => ?_)
      refine lv_iconst (v := 1) hx hb dX10_write_137 (by decide) ?_
      refine lv_goto (tgt := 142) hx hb dX10_write_138 (by decide) ?_
      rw [pw_add] at hP hD
      refine b_zret (u := (fX9_write S (nI t) (nI k) w3 (1 + w4) (1 + w5), B6, wrU wr t (va_up (wr t) k (some q9)), P ++ [(q9, f3)])) hx hb hr hlocks rfl ⟨rfl, ?_, ?_, ?_, ?_⟩ hP hD hS dX10_write_142
      · show PR (fX9_write S (nI t) (nI k) w3 (1 + w4) (1 + w5)) (wrU wr t (va_up (wr t) k (some q9))) (P ++ [(q9, f3)])
        exact PR_w hPR ht hk (Or.inr ⟨rfl, by rw [hf3, pk_un (by decide), hf2, pk_un (by decide), hf1, pk_us]⟩) (wr_9 ht hk)
      · show RB (fX9_write S (nI t) (nI k) w3 (1 + w4) (1 + w5)) B6
        refine RB_fr (S := S) ?_ (fun o ho => wr_n ht hk (by omega) (by omega) (by omega))
        show RB S B6
        rw [hB6, hB5, hB4, hB3, hB2, hB1]
        exact RB_dr (by decide) (RB_dr (by decide) (RB_dr (by decide) (RB_dr (by decide) (RB_dr (by decide) (RB_dr (by decide) (hRB))))))
      · intro o h1 h2 h3
        show (fX9_write S (nI t) (nI k) w3 (1 + w4) (1 + w5)) o = S o
        exact wr_n ht hk h1 h2 h3
      · exact rg_w hd6 (by omega) (by omega)
    ·
      refine lv_null hx hb dX10_write_90 ?_
      refine lv_goto (tgt := 96) hx hb dX10_write_91 (by decide) ?_
      refine e_aastN hx hb hK.2.1 hP hD hS (37 + (8 + t)) 1 ((wB_get (o := 8 + t) (by omega)).trans (by rw [cB_w ht])) rfl (vp_in_nI hk (by decide)) dX10_write_96 (fun H locs hP hD hS => ?_)
      rw [nI_clamp (by omega), wB_w ht] at hP hD
      refine lv_aload_n hx hb dX10_write_97 rfl (lv_at hl 4 rfl) ?_
      refine va_get (D := G) (ci := 10) (v := .ref (a 0)) (C := RX10) (T := TX10) (N := 22) hx hb hts iX10_write_X10 hown hK.1.1 hP 37 (wB_get (o := 0) (by decide)) rfl 0 (by decide) (hts (.fieldLink RX10 10 "MelodeonLaw$Bench" "m" "LMelodeon;") (by decide +kernel)) (fun _ h9 => h9) rfl dX10_write_98 ?_
      refine lv_iload_n hx hb dX10_write_101 rfl (lv_at hl 3 rfl) ?_
      refine lv_iload_n hx hb dX10_write_102 rfl (lv_at hl 2 rfl) ?_
      refine lv_aload_n hx hb dX10_write_103 rfl (lv_at hl 4 rfl) ?_
      refine va_get (D := G) (ci := 10) (v := .ref (β 7)) (C := RX10) (T := TX10) (N := 22) hx hb hts iX10_write_X10 hown hK.1.1 hP 37 (wB_get (o := 0) (by decide)) rfl 13 (by decide) (hts (.fieldLink RX10 40 "MelodeonLaw$Bench" "written" "[[[I") (by decide +kernel)) (fun _ h9 => h9) rfl dX10_write_104 ?_
      refine lv_iload_n hx hb dX10_write_107 rfl (lv_at hl 3 rfl) ?_
      refine e_aald hx hb hK.2.1 hP (37 + 7) 2 (wB_get (o := 7) (by decide)) rfl (vp_in_nI ht (by decide)) (v := .ref (β (8 + t))) (by rw [nI_clamp (by omega)]; rfl) dX10_write_108 ?_
      refine lv_iload_n hx hb dX10_write_109 rfl (lv_at hl 2 rfl) ?_
      refine e_aald hx hb hK.2.1 hP (37 + (8 + t)) 1 ((wB_get (o := 8 + t) (by omega)).trans (by rw [cB_w ht])) rfl (vp_in_nI hk (by decide)) (v := .null) (by rw [nI_clamp (by omega)]; exact (by rw [wrU_at]; rfl)) dX10_write_110 ?_
      refine lv_ifnonnullN hx hb dX10_write_111 ?_
      refine lv_iconst (v := (-1)) hx hb dX10_write_114 (by decide) ?_
      refine lv_goto (tgt := 122) hx hb dX10_write_115 (by decide) ?_
      refine lv_aload hx hb dX10_write_122 (lv_at hl 0 rfl) ?_
      refine lv_iconst (v := 1) hx hb dX10_write_124 (by decide) ?_
      refine s_ild hx hb hK.2.1 hP (wB_X x_last) (vp_in_lit (by decide)) (j := 1) (by decide) (v := 1 + w4) (by rw [hf3, pk_un (by decide), hf2, pk_us]) dX10_write_125 ?_
      refine lv_aload hx hb dX10_write_126 (lv_at hl 0 rfl) ?_
      refine lv_iconst (v := 2) hx hb dX10_write_128 (by decide) ?_
      refine s_ild hx hb hK.2.1 hP (wB_X x_last) (vp_in_lit (by decide)) (j := 2) (by decide) (v := 1 + w5) (by rw [hf3, pk_us]) dX10_write_129 ?_
      refine t_cVi (As := [.int (nI t), .int (nI k), .int ((-1)), .int (1 + w4), .int (1 + w5)]) (rest := []) ⟨hx, hb, hml, hown, hts⟩ (c_X9_write l G cA a (t_ap hD) S L H.size (nI t) (nI k) ((-1)) (1 + w4) (1 + w5) (rg_ge (vp_rg 2 (vp_in_nI ht (by decide)) (by decide) (by decide)) (C := 0) (by decide) (by decide)) (rg_lt (vp_rg 2 (vp_in_nI ht (by decide)) (by decide) (by decide)) (C := 3) (by decide) (by decide)) (rg_ge (vp_rg 7 (vp_in_nI hk (by decide)) (by decide) (by decide)) (C := 0) (by decide) (by decide)) (rg_lt (vp_rg 7 (vp_in_nI hk (by decide)) (by decide) (by decide)) (C := 8) (by decide) (by decide)) (rg_ge (rg_c (show ((-1) : Int32).toInt = (-1) from by decide)) (C := (-1)) (by decide) (by decide)) (rg_le (rg_c (show ((-1) : Int32).toInt = (-1) from by decide)) (C := 47) (by decide) (by decide)) (fun _ => (rg_ge (rg_w (a' := 1) (b' := 127) (rg_add (rg_c (show (1 : Int32).toInt = 1 from by decide)) (vp_rg 126 hw4 (by decide) (by decide)) (by decide) (by decide)).1 (by decide) (by decide)) (C := 1) (by decide) (by decide))) (fun _ => (rg_le (rg_w (a' := 1) (b' := 127) (rg_add (rg_c (show (1 : Int32).toInt = 1 from by decide)) (vp_rg 126 hw4 (by decide) (by decide)) (by decide) (by decide)).1 (by decide) (by decide)) (C := 127) (by decide) (by decide))) (fun _ => (rg_ge (rg_w (a' := 1) (b' := 12) (rg_add (rg_c (show (1 : Int32).toInt = 1 from by decide)) (vp_rg 11 hw5 (by decide) (by decide)) (by decide) (by decide)).1 (by decide) (by decide)) (C := 1) (by decide) (by decide))) (fun _ => (rg_le (rg_w (a' := 1) (b' := 12) (rg_add (rg_c (show (1 : Int32).toInt = 1 from by decide)) (vp_rg 11 hw5 (by decide) (by decide)) (by decide) (by decide)).1 (by decide) (by decide)) (C := 200) (by decide) (by decide)))) (cwV 5 hts gX10_write_X9_write rfl rfl rfl (by decide +kernel) ⟨Nat.le_of_ble_eq_true rfl, Nat.le_of_ble_eq_true rfl⟩) hK.1 hA hP hD hS rfl hl.1 rfl (lv_room (Nat.le_of_ble_eq_true rfl)) dX10_write_130 ⟨Nat.le_of_ble_eq_true rfl, Nat.le_of_ble_eq_true rfl⟩ (fun H locs hP hD hS => ?_)
      refine lv_iload_n hx hb dX10_write_133 rfl (lv_at hl 1 rfl) ?_
      refine lv_icmp_ne (tgt := 141) hx hb dX10_write_134 (by decide) (fun c9 => absurd ((wr_r ht hk).trans ((hPR t ht k hk).1 hq)) c9) (fun _ => ?_)
      refine lv_iconst (v := 1) hx hb dX10_write_137 (by decide) ?_
      refine lv_goto (tgt := 142) hx hb dX10_write_138 (by decide) ?_
      rw [pw_add] at hP hD
      refine b_zret (u := (fX9_write S (nI t) (nI k) ((-1)) (1 + w4) (1 + w5), B6, wrU wr t (va_up (wr t) k none), P ++ [(q9, f3)])) hx hb hr hlocks rfl ⟨rfl, ?_, ?_, ?_, ?_⟩ hP hD hS dX10_write_142
      · show PR (fX9_write S (nI t) (nI k) ((-1)) (1 + w4) (1 + w5)) (wrU wr t (va_up (wr t) k none)) (P ++ [(q9, f3)])
        exact PR_w hPR ht hk (Or.inl ⟨rfl, rfl⟩) (wr_9 ht hk)
      · show RB (fX9_write S (nI t) (nI k) ((-1)) (1 + w4) (1 + w5)) B6
        refine RB_fr (S := S) ?_ (fun o ho => wr_n ht hk (by omega) (by omega) (by omega))
        show RB S B6
        rw [hB6, hB5, hB4, hB3, hB2, hB1]
        exact RB_dr (by decide) (RB_dr (by decide) (RB_dr (by decide) (RB_dr (by decide) (RB_dr (by decide) (RB_dr (by decide) (hRB))))))
      · intro o h1 h2 h3
        show (fX9_write S (nI t) (nI k) ((-1)) (1 + w4) (1 + w5)) o = S o
        exact wr_n ht hk h1 h2 h3
      · exact rg_w hd6 (by omega) (by omega)
  ·
    obtain ⟨g, hg1, hg2⟩ := (hPR t ht k hk).2 q hq
    obtain ⟨n0, hn0⟩ := pw_get (cA := cA) (X1 := X1) hg1
    refine lv_aload_n hx hb dX10_write_13 rfl (lv_at hl 2 rfl) ?_
    refine va_get (D := G) (ci := 10) (v := .ref (β 7)) (C := RX10) (T := TX10) (N := 22) hx hb hts iX10_write_X10 hown hK.1.1 hP 37 (wB_get (o := 0) (by decide)) rfl 13 (by decide) (hts (.fieldLink RX10 40 "MelodeonLaw$Bench" "written" "[[[I") (by decide +kernel)) (fun _ h9 => h9) rfl dX10_write_14 ?_
    refine lv_iload_n hx hb dX10_write_17 rfl (lv_at hl 1 rfl) ?_
    refine e_aald hx hb hK.2.1 hP (37 + 7) 2 (wB_get (o := 7) (by decide)) rfl (vp_in_nI ht (by decide)) (v := .ref (β (8 + t))) (by rw [nI_clamp (by omega)]; rfl) dX10_write_18 ?_
    refine lv_iload_n hx hb dX10_write_19 rfl (lv_at hl 0 rfl) ?_
    refine e_aald hx hb hK.2.1 hP (37 + (8 + t)) 1 ((wB_get (o := 8 + t) (by omega)).trans (by rw [cB_w ht])) rfl (vp_in_nI hk (by decide)) (v := .ref q) (by rw [nI_clamp (by omega)]; exact (by rw [hq]; rfl)) dX10_write_20 ?_
    refine lv_ifnonnull (tgt := 28) hx hb dX10_write_21 (by decide) ?_
    refine lv_aload_n hx hb dX10_write_28 rfl (lv_at hl 2 rfl) ?_
    refine va_get (D := G) (ci := 10) (v := .ref (β 7)) (C := RX10) (T := TX10) (N := 22) hx hb hts iX10_write_X10 hown hK.1.1 hP 37 (wB_get (o := 0) (by decide)) rfl 13 (by decide) (hts (.fieldLink RX10 40 "MelodeonLaw$Bench" "written" "[[[I") (by decide +kernel)) (fun _ h9 => h9) rfl dX10_write_29 ?_
    refine lv_iload_n hx hb dX10_write_32 rfl (lv_at hl 1 rfl) ?_
    refine e_aald hx hb hK.2.1 hP (37 + 7) 2 (wB_get (o := 7) (by decide)) rfl (vp_in_nI ht (by decide)) (v := .ref (β (8 + t))) (by rw [nI_clamp (by omega)]; rfl) dX10_write_33 ?_
    refine lv_iload_n hx hb dX10_write_34 rfl (lv_at hl 0 rfl) ?_
    refine e_aald hx hb hK.2.1 hP (37 + (8 + t)) 1 ((wB_get (o := 8 + t) (by omega)).trans (by rw [cB_w ht])) rfl (vp_in_nI hk (by decide)) (v := .ref q) (by rw [nI_clamp (by omega)]; exact (by rw [hq]; rfl)) dX10_write_35 ?_
    refine lv_iconst (v := 0) hx hb dX10_write_36 (by decide) ?_
    refine s_ild hx hb hK.2.1 hP (wB_X hn0) (vp_in_lit (by decide)) (j := 0) (by decide) (v := S 9 (8 * t + k)) hg2 dX10_write_37 ?_
    refine lv_istore_n (lv' := [(3, .int (S 9 (8 * t + k))), (2, .int (nI k)), (1, .int (nI t)), (0, .ref (β 0))]) hx hb dX10_write_38 rfl hl (by decide) rfl (fun ls hl => ?_)
    refine lv_iconst (v := 3) hx hb dX10_write_39 (by decide) ?_
    refine va_newa (atype := .int) (ty := .int) (N' := 3) (a0 := (3, .inl (fun _ => 0))) hx hb (hts (.arrayClass .int) (by decide +kernel)) rfl hK.1.1 hP hD hS hA (fun _ => rfl) (by decide) (by decide) (by decide) (Nat.le_of_ble_eq_true rfl) (Nat.le_of_ble_eq_true rfl) dX10_write_40 (fun q9 cQ H hKx hP hD hS => ?_)
    have eQ := cQ_eq2 hKx
    rw [eQ] at hP hD
    rw [wB_app] at hP hD
    refine lv_dup hx hb dX10_write_42 rfl ?_
    refine lv_iconst (v := 0) hx hb dX10_write_43 (by decide) ?_
    refine lv_aload_n hx hb dX10_write_44 rfl (lv_at hl 3 rfl) ?_
    refine lv_bipush (v := 48) hx hb dX10_write_45 (by decide) ?_
    refine v_cVi (k0 := 37) (q0 := β 0) (e0 := .inr (10, bcl a β ρ b (B2 0))) (e1 := .inr (10, bcl a β ρ b (upd (B2 0) 2 (B2 0 2 + 1)))) (As := [.int 48]) (rest := [.int 0, .ref q9, .ref q9]) ⟨hx, hb, hml, hown, hts⟩ (c_X10_draw l G cA c2 c3 (a 37) b N xs H.size a β ρ (β 0) (B2 0) 48 (by decide) (by decide) hN hd2) (cwV 1 hts gX10_write_X10_draw rfl rfl rfl (by decide +kernel) ⟨Nat.le_of_ble_eq_true rfl, Nat.le_of_ble_eq_true rfl⟩) (wB_recv hK.1.1 hP) hK hA hP hD (wB_get (o := 0) (by decide)) hS rfl hl.1 rfl (lv_room (Nat.le_of_ble_eq_true rfl)) dX10_write_47 ⟨Nat.le_of_ble_eq_true rfl, Nat.le_of_ble_eq_true rfl⟩ (fun w7 H locs hw7 hP hD hS => ?_)
    rw [wB_d] at hP hD
    obtain ⟨B7, hB7⟩ : ∃ Z9 : Mm, Z9 = up2 B2 0 2 (B2 0 2 + 1) := ⟨_, rfl⟩
    rw [← hB7] at hP hD
    have hd7 := dr_rg hd2 (by omega) (B' := B7) hB7
    refine s_ist hx hb hK.2.1 hP hD hS (wB_X x_last) (vp_in_lit (by decide)) (j := 0) (by decide) dX10_write_50 (fun H locs hP hD hS => ?_)
    rw [wB_Xs] at hP hD
    obtain ⟨f4, hf4⟩ : ∃ Z9 : Nat → Int32, Z9 = upd (fun _ => 0) 0 w7 := ⟨_, rfl⟩
    rw [← hf4] at hP hD
    refine lv_dup hx hb dX10_write_51 rfl ?_
    refine lv_iconst (v := 1) hx hb dX10_write_52 (by decide) ?_
    refine lv_iconst (v := 1) hx hb dX10_write_53 (by decide) ?_
    refine lv_aload_n hx hb dX10_write_54 rfl (lv_at hl 3 rfl) ?_
    refine lv_bipush (v := 127) hx hb dX10_write_55 (by decide) ?_
    refine v_cVi (k0 := 37) (q0 := β 0) (e0 := .inr (10, bcl a β ρ b (B7 0))) (e1 := .inr (10, bcl a β ρ b (upd (B7 0) 2 (B7 0 2 + 1)))) (As := [.int 127]) (rest := [.int 1, .int 1, .ref q9, .ref q9]) ⟨hx, hb, hml, hown, hts⟩ (c_X10_draw l G cA c2 c3 (a 37) b N xs H.size a β ρ (β 0) (B7 0) 127 (by decide) (by decide) hN hd7) (cwV 1 hts gX10_write_X10_draw rfl rfl rfl (by decide +kernel) ⟨Nat.le_of_ble_eq_true rfl, Nat.le_of_ble_eq_true rfl⟩) (wB_recv hK.1.1 hP) hK hA hP hD (wB_get (o := 0) (by decide)) hS rfl hl.1 rfl (lv_room (Nat.le_of_ble_eq_true rfl)) dX10_write_57 ⟨Nat.le_of_ble_eq_true rfl, Nat.le_of_ble_eq_true rfl⟩ (fun w8 H locs hw8 hP hD hS => ?_)
    rw [wB_d] at hP hD
    obtain ⟨B8, hB8⟩ : ∃ Z9 : Mm, Z9 = up2 B7 0 2 (B7 0 2 + 1) := ⟨_, rfl⟩
    rw [← hB8] at hP hD
    have hd8 := dr_rg hd7 (by omega) (B' := B8) hB8
    refine lv_iadd hx hb dX10_write_60 ?_
    refine s_ist hx hb hK.2.1 hP hD hS (wB_X x_last) (vp_in_lit (by decide)) (j := 1) (by decide) dX10_write_61 (fun H locs hP hD hS => ?_)
    rw [wB_Xs] at hP hD
    obtain ⟨f5, hf5⟩ : ∃ Z9 : Nat → Int32, Z9 = upd f4 1 (1 + w8) := ⟨_, rfl⟩
    rw [← hf5] at hP hD
    refine lv_dup hx hb dX10_write_62 rfl ?_
    refine lv_iconst (v := 2) hx hb dX10_write_63 (by decide) ?_
    refine lv_iconst (v := 1) hx hb dX10_write_64 (by decide) ?_
    refine lv_aload_n hx hb dX10_write_65 rfl (lv_at hl 3 rfl) ?_
    refine lv_bipush (v := 12) hx hb dX10_write_66 (by decide) ?_
    refine v_cVi (k0 := 37) (q0 := β 0) (e0 := .inr (10, bcl a β ρ b (B8 0))) (e1 := .inr (10, bcl a β ρ b (upd (B8 0) 2 (B8 0 2 + 1)))) (As := [.int 12]) (rest := [.int 1, .int 2, .ref q9, .ref q9]) ⟨hx, hb, hml, hown, hts⟩ (c_X10_draw l G cA c2 c3 (a 37) b N xs H.size a β ρ (β 0) (B8 0) 12 (by decide) (by decide) hN hd8) (cwV 1 hts gX10_write_X10_draw rfl rfl rfl (by decide +kernel) ⟨Nat.le_of_ble_eq_true rfl, Nat.le_of_ble_eq_true rfl⟩) (wB_recv hK.1.1 hP) hK hA hP hD (wB_get (o := 0) (by decide)) hS rfl hl.1 rfl (lv_room (Nat.le_of_ble_eq_true rfl)) dX10_write_68 ⟨Nat.le_of_ble_eq_true rfl, Nat.le_of_ble_eq_true rfl⟩ (fun w9 H locs hw9 hP hD hS => ?_)
    rw [wB_d] at hP hD
    obtain ⟨B9, hB9⟩ : ∃ Z9 : Mm, Z9 = up2 B8 0 2 (B8 0 2 + 1) := ⟨_, rfl⟩
    rw [← hB9] at hP hD
    have hd9 := dr_rg hd8 (by omega) (B' := B9) hB9
    refine lv_iadd hx hb dX10_write_71 ?_
    refine s_ist hx hb hK.2.1 hP hD hS (wB_X x_last) (vp_in_lit (by decide)) (j := 2) (by decide) dX10_write_72 (fun H locs hP hD hS => ?_)
    rw [wB_Xs] at hP hD
    obtain ⟨f6, hf6⟩ : ∃ Z9 : Nat → Int32, Z9 = upd f5 2 (1 + w9) := ⟨_, rfl⟩
    rw [← hf6] at hP hD
    refine lv_astore (lv' := [(4, .ref q9), (3, .int (S 9 (8 * t + k))), (2, .int (nI k)), (1, .int (nI t)), (0, .ref (β 0))]) hx hb dX10_write_73 hl (by decide) rfl (fun ls hl => ?_)
    refine lv_aload_n hx hb dX10_write_75 rfl (lv_at hl 4 rfl) ?_
    refine va_get (D := G) (ci := 10) (v := .ref (β 7)) (C := RX10) (T := TX10) (N := 22) hx hb hts iX10_write_X10 hown hK.1.1 hP 37 (wB_get (o := 0) (by decide)) rfl 13 (by decide) (hts (.fieldLink RX10 40 "MelodeonLaw$Bench" "written" "[[[I") (by decide +kernel)) (fun _ h9 => h9) rfl dX10_write_76 ?_
    refine lv_iload_n hx hb dX10_write_79 rfl (lv_at hl 3 rfl) ?_
    refine e_aald hx hb hK.2.1 hP (37 + 7) 2 (wB_get (o := 7) (by decide)) rfl (vp_in_nI ht (by decide)) (v := .ref (β (8 + t))) (by rw [nI_clamp (by omega)]; rfl) dX10_write_80 ?_
    refine lv_iload_n hx hb dX10_write_81 rfl (lv_at hl 2 rfl) ?_
    refine lv_aload_n hx hb dX10_write_82 rfl (lv_at hl 4 rfl) ?_
    refine lv_iconst (v := 4) hx hb dX10_write_83 (by decide) ?_
    refine v_cVi (k0 := 37) (q0 := β 0) (e0 := .inr (10, bcl a β ρ b (B9 0))) (e1 := .inr (10, bcl a β ρ b (upd (B9 0) 2 (B9 0 2 + 1)))) (As := [.int 4]) (rest := [.int (nI k), .ref (β (8 + t))]) ⟨hx, hb, hml, hown, hts⟩ (c_X10_draw l G cA c2 c3 (a 37) b N xs H.size a β ρ (β 0) (B9 0) 4 (by decide) (by decide) hN hd9) (cwV 1 hts gX10_write_X10_draw rfl rfl rfl (by decide +kernel) ⟨Nat.le_of_ble_eq_true rfl, Nat.le_of_ble_eq_true rfl⟩) (wB_recv hK.1.1 hP) hK hA hP hD (wB_get (o := 0) (by decide)) hS rfl hl.1 rfl (lv_room (Nat.le_of_ble_eq_true rfl)) dX10_write_84 ⟨Nat.le_of_ble_eq_true rfl, Nat.le_of_ble_eq_true rfl⟩ (fun w10 H locs hw10 hP hD hS => ?_)
    rw [wB_d] at hP hD
    obtain ⟨B10, hB10⟩ : ∃ Z9 : Mm, Z9 = up2 B9 0 2 (B9 0 2 + 1) := ⟨_, rfl⟩
    rw [← hB10] at hP hD
    have hd10 := dr_rg hd9 (by omega) (B' := B10) hB10
    refine lv_if_ne (tgt := 94) hx hb dX10_write_87 (by decide) (fun c1 => ?_) (fun c1 => ?_)
    ·
      refine lv_aload hx hb dX10_write_94 (lv_at hl 0 rfl) ?_
      refine e_aast hx hb hK.2.2.2.2 hP hD hS (37 + (8 + t)) (48 + (X1 ++ pw cA P).length) ((wB_get (o := 8 + t) (by omega)).trans (by rw [cB_w ht])) (wB_X x_last) (vp_in_nI hk (by decide)) dX10_write_96 (fun H locs hP hD hS => ?_)
      rw [nI_clamp (by omega), wB_w ht] at hP hD
      refine lv_aload_n hx hb dX10_write_97 rfl (lv_at hl 4 rfl) ?_
      refine va_get (D := G) (ci := 10) (v := .ref (a 0)) (C := RX10) (T := TX10) (N := 22) hx hb hts iX10_write_X10 hown hK.1.1 hP 37 (wB_get (o := 0) (by decide)) rfl 0 (by decide) (hts (.fieldLink RX10 10 "MelodeonLaw$Bench" "m" "LMelodeon;") (by decide +kernel)) (fun _ h9 => h9) rfl dX10_write_98 ?_
      refine lv_iload_n hx hb dX10_write_101 rfl (lv_at hl 3 rfl) ?_
      refine lv_iload_n hx hb dX10_write_102 rfl (lv_at hl 2 rfl) ?_
      refine lv_aload_n hx hb dX10_write_103 rfl (lv_at hl 4 rfl) ?_
      refine va_get (D := G) (ci := 10) (v := .ref (β 7)) (C := RX10) (T := TX10) (N := 22) hx hb hts iX10_write_X10 hown hK.1.1 hP 37 (wB_get (o := 0) (by decide)) rfl 13 (by decide) (hts (.fieldLink RX10 40 "MelodeonLaw$Bench" "written" "[[[I") (by decide +kernel)) (fun _ h9 => h9) rfl dX10_write_104 ?_
      refine lv_iload_n hx hb dX10_write_107 rfl (lv_at hl 3 rfl) ?_
      refine e_aald hx hb hK.2.1 hP (37 + 7) 2 (wB_get (o := 7) (by decide)) rfl (vp_in_nI ht (by decide)) (v := .ref (β (8 + t))) (by rw [nI_clamp (by omega)]; rfl) dX10_write_108 ?_
      refine lv_iload_n hx hb dX10_write_109 rfl (lv_at hl 2 rfl) ?_
      refine e_aald hx hb hK.2.1 hP (37 + (8 + t)) 1 ((wB_get (o := 8 + t) (by omega)).trans (by rw [cB_w ht])) rfl (vp_in_nI hk (by decide)) (v := .ref q9) (by rw [nI_clamp (by omega)]; exact (by rw [wrU_at]; rfl)) dX10_write_110 ?_
      refine lv_ifnonnull (tgt := 118) hx hb dX10_write_111 (by decide) ?_
      refine lv_aload hx hb dX10_write_118 (lv_at hl 0 rfl) ?_
      refine lv_iconst (v := 0) hx hb dX10_write_120 (by decide) ?_
      refine s_ild hx hb hK.2.1 hP (wB_X x_last) (vp_in_lit (by decide)) (j := 0) (by decide) (v := w7) (by rw [hf6, pk_un (by decide), hf5, pk_un (by decide), hf4, pk_us]) dX10_write_121 ?_
      refine lv_aload hx hb dX10_write_122 (lv_at hl 0 rfl) ?_
      refine lv_iconst (v := 1) hx hb dX10_write_124 (by decide) ?_
      refine s_ild hx hb hK.2.1 hP (wB_X x_last) (vp_in_lit (by decide)) (j := 1) (by decide) (v := 1 + w8) (by rw [hf6, pk_un (by decide), hf5, pk_us]) dX10_write_125 ?_
      refine lv_aload hx hb dX10_write_126 (lv_at hl 0 rfl) ?_
      refine lv_iconst (v := 2) hx hb dX10_write_128 (by decide) ?_
      refine s_ild hx hb hK.2.1 hP (wB_X x_last) (vp_in_lit (by decide)) (j := 2) (by decide) (v := 1 + w9) (by rw [hf6, pk_us]) dX10_write_129 ?_
      refine t_cVi (As := [.int (nI t), .int (nI k), .int w7, .int (1 + w8), .int (1 + w9)]) (rest := []) ⟨hx, hb, hml, hown, hts⟩ (c_X9_write l G cA a (t_ap hD) S L H.size (nI t) (nI k) w7 (1 + w8) (1 + w9) (rg_ge (vp_rg 2 (vp_in_nI ht (by decide)) (by decide) (by decide)) (C := 0) (by decide) (by decide)) (rg_lt (vp_rg 2 (vp_in_nI ht (by decide)) (by decide) (by decide)) (C := 3) (by decide) (by decide)) (rg_ge (vp_rg 7 (vp_in_nI hk (by decide)) (by decide) (by decide)) (C := 0) (by decide) (by decide)) (rg_lt (vp_rg 7 (vp_in_nI hk (by decide)) (by decide) (by decide)) (C := 8) (by decide) (by decide)) (rg_ge (vp_rg 47 hw7 (by decide) (by decide)) (C := (-1)) (by decide) (by decide)) (rg_le (vp_rg 47 hw7 (by decide) (by decide)) (C := 47) (by decide) (by decide)) (fun _ => (rg_ge (rg_w (a' := 1) (b' := 127) (rg_add (rg_c (show (1 : Int32).toInt = 1 from by decide)) (vp_rg 126 hw8 (by decide) (by decide)) (by decide) (by decide)).1 (by decide) (by decide)) (C := 1) (by decide) (by decide))) (fun _ => (rg_le (rg_w (a' := 1) (b' := 127) (rg_add (rg_c (show (1 : Int32).toInt = 1 from by decide)) (vp_rg 126 hw8 (by decide) (by decide)) (by decide) (by decide)).1 (by decide) (by decide)) (C := 127) (by decide) (by decide))) (fun _ => (rg_ge (rg_w (a' := 1) (b' := 12) (rg_add (rg_c (show (1 : Int32).toInt = 1 from by decide)) (vp_rg 11 hw9 (by decide) (by decide)) (by decide) (by decide)).1 (by decide) (by decide)) (C := 1) (by decide) (by decide))) (fun _ => (rg_le (rg_w (a' := 1) (b' := 12) (rg_add (rg_c (show (1 : Int32).toInt = 1 from by decide)) (vp_rg 11 hw9 (by decide) (by decide)) (by decide) (by decide)).1 (by decide) (by decide)) (C := 200) (by decide) (by decide)))) (cwV 5 hts gX10_write_X9_write rfl rfl rfl (by decide +kernel) ⟨Nat.le_of_ble_eq_true rfl, Nat.le_of_ble_eq_true rfl⟩) hK.1 hA hP hD hS rfl hl.1 rfl (lv_room (Nat.le_of_ble_eq_true rfl)) dX10_write_130 ⟨Nat.le_of_ble_eq_true rfl, Nat.le_of_ble_eq_true rfl⟩ (fun H locs hP hD hS => ?_)
      refine lv_iload_n hx hb dX10_write_133 rfl (lv_at hl 1 rfl) ?_
      refine lv_icmp_ne (tgt := 141) hx hb dX10_write_134 (by decide) (fun c9 => absurd (wr_r ht hk) c9) (fun _ => ?_)
      refine lv_iconst (v := 1) hx hb dX10_write_137 (by decide) ?_
      refine lv_goto (tgt := 142) hx hb dX10_write_138 (by decide) ?_
      rw [pw_add] at hP hD
      refine b_zret (u := (fX9_write S (nI t) (nI k) w7 (1 + w8) (1 + w9), B10, wrU wr t (va_up (wr t) k (some q9)), P ++ [(q9, f6)])) hx hb hr hlocks rfl ⟨rfl, ?_, ?_, ?_, ?_⟩ hP hD hS dX10_write_142
      · show PR (fX9_write S (nI t) (nI k) w7 (1 + w8) (1 + w9)) (wrU wr t (va_up (wr t) k (some q9))) (P ++ [(q9, f6)])
        exact PR_w hPR ht hk (Or.inr ⟨rfl, by rw [hf6, pk_un (by decide), hf5, pk_un (by decide), hf4, pk_us]⟩) (wr_9 ht hk)
      · show RB (fX9_write S (nI t) (nI k) w7 (1 + w8) (1 + w9)) B10
        refine RB_fr (S := S) ?_ (fun o ho => wr_n ht hk (by omega) (by omega) (by omega))
        show RB S B10
        rw [hB10, hB9, hB8, hB7, hB2, hB1]
        exact RB_dr (by decide) (RB_dr (by decide) (RB_dr (by decide) (RB_dr (by decide) (RB_dr (by decide) (RB_dr (by decide) (hRB))))))
      · intro o h1 h2 h3
        show (fX9_write S (nI t) (nI k) w7 (1 + w8) (1 + w9)) o = S o
        exact wr_n ht hk h1 h2 h3
      · exact rg_w hd10 (by omega) (by omega)
    ·
      refine lv_null hx hb dX10_write_90 ?_
      refine lv_goto (tgt := 96) hx hb dX10_write_91 (by decide) ?_
      refine e_aastN hx hb hK.2.1 hP hD hS (37 + (8 + t)) 1 ((wB_get (o := 8 + t) (by omega)).trans (by rw [cB_w ht])) rfl (vp_in_nI hk (by decide)) dX10_write_96 (fun H locs hP hD hS => ?_)
      rw [nI_clamp (by omega), wB_w ht] at hP hD
      refine lv_aload_n hx hb dX10_write_97 rfl (lv_at hl 4 rfl) ?_
      refine va_get (D := G) (ci := 10) (v := .ref (a 0)) (C := RX10) (T := TX10) (N := 22) hx hb hts iX10_write_X10 hown hK.1.1 hP 37 (wB_get (o := 0) (by decide)) rfl 0 (by decide) (hts (.fieldLink RX10 10 "MelodeonLaw$Bench" "m" "LMelodeon;") (by decide +kernel)) (fun _ h9 => h9) rfl dX10_write_98 ?_
      refine lv_iload_n hx hb dX10_write_101 rfl (lv_at hl 3 rfl) ?_
      refine lv_iload_n hx hb dX10_write_102 rfl (lv_at hl 2 rfl) ?_
      refine lv_aload_n hx hb dX10_write_103 rfl (lv_at hl 4 rfl) ?_
      refine va_get (D := G) (ci := 10) (v := .ref (β 7)) (C := RX10) (T := TX10) (N := 22) hx hb hts iX10_write_X10 hown hK.1.1 hP 37 (wB_get (o := 0) (by decide)) rfl 13 (by decide) (hts (.fieldLink RX10 40 "MelodeonLaw$Bench" "written" "[[[I") (by decide +kernel)) (fun _ h9 => h9) rfl dX10_write_104 ?_
      refine lv_iload_n hx hb dX10_write_107 rfl (lv_at hl 3 rfl) ?_
      refine e_aald hx hb hK.2.1 hP (37 + 7) 2 (wB_get (o := 7) (by decide)) rfl (vp_in_nI ht (by decide)) (v := .ref (β (8 + t))) (by rw [nI_clamp (by omega)]; rfl) dX10_write_108 ?_
      refine lv_iload_n hx hb dX10_write_109 rfl (lv_at hl 2 rfl) ?_
      refine e_aald hx hb hK.2.1 hP (37 + (8 + t)) 1 ((wB_get (o := 8 + t) (by omega)).trans (by rw [cB_w ht])) rfl (vp_in_nI hk (by decide)) (v := .null) (by rw [nI_clamp (by omega)]; exact (by rw [wrU_at]; rfl)) dX10_write_110 ?_
      refine lv_ifnonnullN hx hb dX10_write_111 ?_
      refine lv_iconst (v := (-1)) hx hb dX10_write_114 (by decide) ?_
      refine lv_goto (tgt := 122) hx hb dX10_write_115 (by decide) ?_
      refine lv_aload hx hb dX10_write_122 (lv_at hl 0 rfl) ?_
      refine lv_iconst (v := 1) hx hb dX10_write_124 (by decide) ?_
      refine s_ild hx hb hK.2.1 hP (wB_X x_last) (vp_in_lit (by decide)) (j := 1) (by decide) (v := 1 + w8) (by rw [hf6, pk_un (by decide), hf5, pk_us]) dX10_write_125 ?_
      refine lv_aload hx hb dX10_write_126 (lv_at hl 0 rfl) ?_
      refine lv_iconst (v := 2) hx hb dX10_write_128 (by decide) ?_
      refine s_ild hx hb hK.2.1 hP (wB_X x_last) (vp_in_lit (by decide)) (j := 2) (by decide) (v := 1 + w9) (by rw [hf6, pk_us]) dX10_write_129 ?_
      refine t_cVi (As := [.int (nI t), .int (nI k), .int ((-1)), .int (1 + w8), .int (1 + w9)]) (rest := []) ⟨hx, hb, hml, hown, hts⟩ (c_X9_write l G cA a (t_ap hD) S L H.size (nI t) (nI k) ((-1)) (1 + w8) (1 + w9) (rg_ge (vp_rg 2 (vp_in_nI ht (by decide)) (by decide) (by decide)) (C := 0) (by decide) (by decide)) (rg_lt (vp_rg 2 (vp_in_nI ht (by decide)) (by decide) (by decide)) (C := 3) (by decide) (by decide)) (rg_ge (vp_rg 7 (vp_in_nI hk (by decide)) (by decide) (by decide)) (C := 0) (by decide) (by decide)) (rg_lt (vp_rg 7 (vp_in_nI hk (by decide)) (by decide) (by decide)) (C := 8) (by decide) (by decide)) (rg_ge (rg_c (show ((-1) : Int32).toInt = (-1) from by decide)) (C := (-1)) (by decide) (by decide)) (rg_le (rg_c (show ((-1) : Int32).toInt = (-1) from by decide)) (C := 47) (by decide) (by decide)) (fun _ => (rg_ge (rg_w (a' := 1) (b' := 127) (rg_add (rg_c (show (1 : Int32).toInt = 1 from by decide)) (vp_rg 126 hw8 (by decide) (by decide)) (by decide) (by decide)).1 (by decide) (by decide)) (C := 1) (by decide) (by decide))) (fun _ => (rg_le (rg_w (a' := 1) (b' := 127) (rg_add (rg_c (show (1 : Int32).toInt = 1 from by decide)) (vp_rg 126 hw8 (by decide) (by decide)) (by decide) (by decide)).1 (by decide) (by decide)) (C := 127) (by decide) (by decide))) (fun _ => (rg_ge (rg_w (a' := 1) (b' := 12) (rg_add (rg_c (show (1 : Int32).toInt = 1 from by decide)) (vp_rg 11 hw9 (by decide) (by decide)) (by decide) (by decide)).1 (by decide) (by decide)) (C := 1) (by decide) (by decide))) (fun _ => (rg_le (rg_w (a' := 1) (b' := 12) (rg_add (rg_c (show (1 : Int32).toInt = 1 from by decide)) (vp_rg 11 hw9 (by decide) (by decide)) (by decide) (by decide)).1 (by decide) (by decide)) (C := 200) (by decide) (by decide)))) (cwV 5 hts gX10_write_X9_write rfl rfl rfl (by decide +kernel) ⟨Nat.le_of_ble_eq_true rfl, Nat.le_of_ble_eq_true rfl⟩) hK.1 hA hP hD hS rfl hl.1 rfl (lv_room (Nat.le_of_ble_eq_true rfl)) dX10_write_130 ⟨Nat.le_of_ble_eq_true rfl, Nat.le_of_ble_eq_true rfl⟩ (fun H locs hP hD hS => ?_)
      refine lv_iload_n hx hb dX10_write_133 rfl (lv_at hl 1 rfl) ?_
      refine lv_icmp_ne (tgt := 141) hx hb dX10_write_134 (by decide) (fun c9 => absurd (wr_r ht hk) c9) (fun _ => ?_)
      refine lv_iconst (v := 1) hx hb dX10_write_137 (by decide) ?_
      refine lv_goto (tgt := 142) hx hb dX10_write_138 (by decide) ?_
      rw [pw_add] at hP hD
      refine b_zret (u := (fX9_write S (nI t) (nI k) ((-1)) (1 + w8) (1 + w9), B10, wrU wr t (va_up (wr t) k none), P ++ [(q9, f6)])) hx hb hr hlocks rfl ⟨rfl, ?_, ?_, ?_, ?_⟩ hP hD hS dX10_write_142
      · show PR (fX9_write S (nI t) (nI k) ((-1)) (1 + w8) (1 + w9)) (wrU wr t (va_up (wr t) k none)) (P ++ [(q9, f6)])
        exact PR_w hPR ht hk (Or.inl ⟨rfl, rfl⟩) (wr_9 ht hk)
      · show RB (fX9_write S (nI t) (nI k) ((-1)) (1 + w8) (1 + w9)) B10
        refine RB_fr (S := S) ?_ (fun o ho => wr_n ht hk (by omega) (by omega) (by omega))
        show RB S B10
        rw [hB10, hB9, hB8, hB7, hB2, hB1]
        exact RB_dr (by decide) (RB_dr (by decide) (RB_dr (by decide) (RB_dr (by decide) (RB_dr (by decide) (RB_dr (by decide) (hRB))))))
      · intro o h1 h2 h3
        show (fX9_write S (nI t) (nI k) ((-1)) (1 + w8) (1 + w9)) o = S o
        exact wr_n ht hk h1 h2 h3
      · exact rg_w hd10 (by omega) (by omega)
