def fX3_putq (S : Mm) (w : Nat) (N : Nat) (p1 : Int32) (p2 : Int32) : Mm := (if p1 < 0 then S else (if Int32.ofNat N ≤ p1 then S else up2 S (w + 1) p1.toNatClampNeg p2))
theorem iX3_put_X3q : ∀ w ∈ u_ws RX3 TX3 1, w ∈ wsX3_put := by decide +kernel
set_option maxHeartbeats 4000000 in
set_option maxRecDepth 100000 in
theorem c_X3_putq (l : Launch) (G : va_G) (cA : ClassId) (zq n : Nat) (f : Cf) (a : Nat → Nat) (ha : apart n a) (S : Mm) (L : Int64) (sz : Nat) (w : Nat) (N : Nat) (p1 : Int32) (p2 : Int32)  (hN0 : N < 2 ^ 31) (hw : w + 1 < n) (hfR : ∀ r L, f w r L = .inr (3, [.ref (a (w + 1))])) (hfA : ∀ r L, f (w + 1) r L = .inl (cA, N, .inl r)) : Met l yX3_put wsX3_put ({ frames := 0, cells := 0, slots := 0, locals := 0 } : Room) (va_Pc [.ref (a w), .int p1, .int p2] (gI G cA zq n a f S L sz)) (gQv G n a f (fX3_putq S w N p1 p2) L sz) 0 0 (mA n a sz) := by
  refine g_met (cc := cX3_put) (maxL := 3) (ret := none) (by decide) rfl (Nat.le_of_ble_eq_true rfl) ?_
  intro p e s m below meth c ls hx hb hr hlocks hml hts hown hnm hsz hK hP hS hl
  subst hsz
  have hl : lv_has ls 3 [(0, .ref (a w)), (1, .int p1), (2, .int p2)] := hl
  refine lv_iload_n hx hb dX3_put_0 rfl (lv_at hl 1 rfl) ?_
  refine lv_if_lt (tgt := 20) hx hb dX3_put_1 (by decide) (fun c1 => ?_) (fun c1 => ?_)
  ·
    exact g_vret hx hb hr hlocks (by unfold fX3_putq; rw [if_pos c1]) rfl hP hS dX3_put_20
  ·
    refine lv_iload_n hx hb dX3_put_4 rfl (lv_at hl 1 rfl) ?_
    refine lv_aload_n hx hb dX3_put_5 rfl (lv_at hl 0 rfl) ?_
    refine g_get (ci := 3) (C := RX3) (T := TX3) (N := 1) (v := .ref (a (w + 1))) hx hb hts iX3_put_X3q hown hK hP (by omega) (hfR _ _) rfl 0 (by decide) rfl (by decide +kernel) rfl dX3_put_6 ?_
    refine g_alen (N := N) hx hb hK hP hw (hfA _ _) dX3_put_9 ?_
    refine lv_icmp_ge (tgt := 20) hx hb dX3_put_10 (by decide) (fun c2 => ?_) (fun c2 => ?_)
    ·
      exact g_vret hx hb hr hlocks (by unfold fX3_putq; rw [if_neg c1, if_pos c2]) rfl hP hS dX3_put_20
    ·
      refine lv_aload_n hx hb dX3_put_13 rfl (lv_at hl 0 rfl) ?_
      refine g_get (ci := 3) (C := RX3) (T := TX3) (N := 1) (v := .ref (a (w + 1))) hx hb hts iX3_put_X3q hown hK hP (by omega) (hfR _ _) rfl 0 (by decide) rfl (by decide +kernel) rfl dX3_put_14 ?_
      refine lv_iload_n hx hb dX3_put_17 rfl (lv_at hl 1 rfl) ?_
      refine lv_iload_n hx hb dX3_put_18 rfl (lv_at hl 2 rfl) ?_
      refine g_iast (N := N) (g := S (w + 1)) hx hb hK ha mA_in hP hS hw (hfA _ _) (in_ge c1 c2 hN0) (hfA _ _) dX3_put_19 (fun H locs hP hS => ?_)
      exact g_vret hx hb hr hlocks (by unfold fX3_putq; rw [if_neg c1, if_neg c2]) rfl hP hS dX3_put_20

def bX3_fill_2_zSq (S : Mm) (w : Nat) (N : Nat) (p1 : Int32) (zS : Mm) (i : Nat) : Mm := up2 zS (w + 1) (nI i).toNatClampNeg p1
def lpX3_fill_2q (S : Mm) (w : Nat) (N : Nat) (p1 : Int32) : Nat → Mm
  | 0 => S
  | i + 1 => bX3_fill_2_zSq S w N p1 (lpX3_fill_2q S w N p1 i) i
theorem lpX3_fill_2_0q (S : Mm) (w : Nat) (N : Nat) (p1 : Int32) : lpX3_fill_2q S w N p1 0 = S := by rw [lpX3_fill_2q]
theorem lpX3_fill_2_sq (S : Mm) (w : Nat) (N : Nat) (p1 : Int32) (i : Nat) : lpX3_fill_2q S w N p1 (i + 1) = bX3_fill_2_zSq S w N p1 (lpX3_fill_2q S w N p1 i) i := by rw [lpX3_fill_2q]
def fX3_fillq (S : Mm) (w : Nat) (N : Nat) (p1 : Int32) : Mm := (lpX3_fill_2q S w N p1 ((Int32.ofNat N).toNatClampNeg))
theorem iX3_fill_X3q : ∀ w ∈ u_ws RX3 TX3 1, w ∈ wsX3_fill := by decide +kernel
set_option maxHeartbeats 4000000 in
set_option maxRecDepth 100000 in
theorem c_X3_fillq (l : Launch) (G : va_G) (cA : ClassId) (zq n : Nat) (f : Cf) (a : Nat → Nat) (ha : apart n a) (S : Mm) (L : Int64) (sz : Nat) (w : Nat) (N : Nat) (p1 : Int32)  (hN0 : N < 2 ^ 31) (hw : w + 1 < n) (hfR : ∀ r L, f w r L = .inr (3, [.ref (a (w + 1))])) (hfA : ∀ r L, f (w + 1) r L = .inl (cA, N, .inl r)) : Met l yX3_fill wsX3_fill ({ frames := 0, cells := 0, slots := 0, locals := 0 } : Room) (va_Pc [.ref (a w), .int p1] (gI G cA zq n a f S L sz)) (gQv G n a f (fX3_fillq S w N p1) L sz) 0 0 (mA n a sz) := by
  refine g_met (cc := cX3_fill) (maxL := 3) (ret := none) (by decide) rfl (Nat.le_of_ble_eq_true rfl) ?_
  intro p e s m below meth c ls hx hb hr hlocks hml hts hown hnm hsz hK hP hS hl
  subst hsz
  have hl : lv_has ls 3 [(0, .ref (a w)), (1, .int p1)] := hl
  refine lv_iconst (v := 0) hx hb dX3_fill_0 (by decide) ?_
  refine lv_istore_n (lv' := [(2, .int 0), (0, .ref (a w)), (1, .int p1)]) hx hb dX3_fill_1 rfl hl (by decide) rfl (fun ls hl => ?_)
  have loop : ∀ (k i : Nat), i ≤ (Int32.ofNat N).toNatClampNeg → (Int32.ofNat N).toNatClampNeg < i + k → ∀ (zS : Mm) (H : Heap) (locs : List Loc) (ls : Array Slot), zS = (lpX3_fill_2q S w N p1 i) → va_P G vwCl (wG n a f zS L) H → va_S (mA n a s.heap.size) s.heap H locs → lv_has ls 3 [(2, .int (nI i)), (0, .ref (a w)), (1, .int p1)] → W p l e ({ frames := 0, cells := 0, slots := 0, locals := 0 } : Room) s m ([.ref (a w), .int p1] : List Value).toArray below meth c H locs 0 0 (MQ below (gQv G n a f (fX3_fillq S w N p1) L s.heap.size) ([.ref (a w), .int p1] : List Value).toArray s 0 0 (mA n a s.heap.size)) (F0 m 2 ls []) := by
    intro k
    induction k with
    | zero => intro i h1 h2; omega
    | succ k ih =>
      intro i hi hk zS H locs ls ezS hP hS hl
      refine lv_iload_n hx hb dX3_fill_2 rfl (lv_at hl 0 rfl) ?_
      refine lv_aload_n hx hb dX3_fill_3 rfl (lv_at hl 1 rfl) ?_
      refine g_get (ci := 3) (C := RX3) (T := TX3) (N := 1) (v := .ref (a (w + 1))) hx hb hts iX3_fill_X3q hown hK hP (by omega) (hfR _ _) rfl 0 (by decide) rfl (by decide +kernel) rfl dX3_fill_4 ?_
      refine g_alen (N := N) hx hb hK hP hw (hfA _ _) dX3_fill_7 ?_
      refine lv_icmp_ge (tgt := 24) hx hb dX3_fill_8 (by decide) (fun cx => ?_) (fun cx => ?_)
      ·
        have hN := lx_exit hi cx
        subst hN
        rw [ezS] at hP
        exact g_vret hx hb hr hlocks (by unfold fX3_fillq; rfl) rfl hP hS dX3_fill_24
      ·
        have hlt := lx_body cx hi
        refine lv_aload_n hx hb dX3_fill_11 rfl (lv_at hl 1 rfl) ?_
        refine g_get (ci := 3) (C := RX3) (T := TX3) (N := 1) (v := .ref (a (w + 1))) hx hb hts iX3_fill_X3q hown hK hP (by omega) (hfR _ _) rfl 0 (by decide) rfl (by decide +kernel) rfl dX3_fill_12 ?_
        refine lv_iload_n hx hb dX3_fill_15 rfl (lv_at hl 0 rfl) ?_
        refine lv_iload_n hx hb dX3_fill_16 rfl (lv_at hl 2 rfl) ?_
        refine g_iast (N := N) (g := zS (w + 1)) hx hb hK ha mA_in hP hS hw (hfA _ _) (in_loop hlt hN0) (hfA _ _) dX3_fill_17 (fun H locs hP hS => ?_)
        refine lv_iinc (v := nI (i + 1)) (lv' := [(2, .int (nI (i + 1))), (0, .ref (a w)), (1, .int p1)]) hx hb dX3_fill_18 hl (k := 0) rfl (nI_1 i) (by decide) rfl (fun ls hl => ?_)
        refine lv_goto (tgt := 2) hx hb dX3_fill_21 (by decide) ?_
        exact ih (i + 1) (by omega) (by omega) (up2 zS (w + 1) (nI i).toNatClampNeg p1) _ _ _ (by rw [lpX3_fill_2_sq]; (try rw [← ezS]); (try dsimp only); unfold bX3_fill_2_zSq; rfl) hP hS (lv_sub hl [0, 1, 2] rfl)
  exact loop ((Int32.ofNat N).toNatClampNeg + 1) 0 (Nat.zero_le _) (by omega) S _ _ _ (by rw [lpX3_fill_2_0q]) hP hS (lv_sub hl [0, 1, 2] rfl)

def cWv (a : Nat → Nat) (cA : ClassId) : Cf := fun o r _ => match o with
  | 0 => .inr (8, [.ref (a 1)])
  | 1 => .inr (3, [.ref (a 2)])
  | _ => .inl (cA, 128, .inl r)
def jX8_init_1 (S : Mm) (zS : Mm) (i : Nat) : Int32 := (if 16 ≤ nI i then 0 else 1)
def jX8_init_2 (S : Mm) (zS : Mm) (i : Nat) : Int32 := (if (jX8_init_1 S zS i) = 0 then (-1000) else 1000)
def mX8_init_3 (S : Mm) (zS : Mm) (i : Nat) : Mm := fX3_putq (fX3_putq zS 1 128 (0 + (nI i)) ((-992) + (64 * (nI i)))) 1 128 (32 + (nI i)) (jX8_init_2 S zS i)
def jX8_init_4 (S : Mm) (zS : Mm) (i : Nat) : Int32 := (if (jX8_init_1 S zS i) = 0 then 1000 - (125 * ((nI i) - 16)) else (-1000) + (125 * (nI i)))
def bX8_init_20_zS (S : Mm) (zS : Mm) (i : Nat) : Mm := fX3_putq (mX8_init_3 S zS i) 1 128 (64 + (nI i)) (jX8_init_4 S zS i)
def lpX8_init_20 (S : Mm) : Nat → Mm
  | 0 => S
  | i + 1 => bX8_init_20_zS S (lpX8_init_20 S i) i
theorem lpX8_init_20_0 (S : Mm) : lpX8_init_20 S 0 = S := by rw [lpX8_init_20]
theorem lpX8_init_20_s (S : Mm) (i : Nat) : lpX8_init_20 S (i + 1) = bX8_init_20_zS S (lpX8_init_20 S i) i := by rw [lpX8_init_20]
def SW0 : Mm := (fun S : Mm => (lpX8_init_20 S ((32 : Int32).toNatClampNeg))) (fun _ _ => 0)
theorem iX8_init_X8 : ∀ w ∈ u_ws RX8 TX8 1, w ∈ wsX8_init := by decide +kernel
set_option maxHeartbeats 4000000 in
set_option maxRecDepth 100000 in
theorem c_X8_init (l : Launch) (G : va_G) (cA : ClassId) (zq h0 sz : Nat) : Met l yX8_init wsX8_init ({ frames := 2, cells := 2, slots := 129, locals := 42 } : Room) (va_Pc [.ref h0] (jI G cA zq [(h0, .inr (8, [.null]))] sz)) (jQ h0 G (fun b => wG 3 b (cWv b cA) SW0 0) [(h0, .inr (8, [.null]))] sz) 2 129 (va_A [(h0, .inr (8, [.null]))] sz) := by
  refine j_met (cc := cX8_init) (maxL := 3) (ret := none) (by decide) rfl (Nat.le_of_ble_eq_true rfl) ?_
  intro p e s m below meth c ls hx hb hr hlocks hml hts hown hin hsz hK hP hD hA hS hl
  subst hsz
  have hl : lv_has ls 3 [(0, .ref h0)] := hl
  refine lv_aload_n hx hb dX8_init_0 rfl (lv_at hl 0 rfl) ?_
  refine W.objInit hx hb hown (hts (.methodLink RX8 3 objectInit) (by decide +kernel)) (hts (.instanceMethod objectInit) (by decide +kernel)) (hts (.code objectInit ⟨#[0xb1]⟩ 1 none) (by decide +kernel)) rfl (by rw [hml]; exact hl.1) rfl dX8_init_1 (Nat.le_of_ble_eq_true rfl) (Nat.le_of_ble_eq_true rfl) ?_
  refine W.eq (g2 := F0 m 4 ls []) rfl ?_
  refine lv_aload_n hx hb dX8_init_4 rfl (lv_at hl 0 rfl) ?_
  refine va_new (ci := 3) (fs := [.null]) (C := RX3) (T := TX3) (N := 1) hx hb hts (by decide +kernel) tyX3 tyX3_ok hown (hts (.classLink RX8 9 RX3) (by decide +kernel)) (hts (.instantiable RX3 1) (by decide +kernel)) (hts (.initialized RX3) (by decide +kernel)) hK.1 hP hD hS hA rfl (fun j hj => by rcases (show j = 0 by omega) with rfl <;> rfl) (Nat.le_of_ble_eq_true rfl) (Nat.le_of_ble_eq_true rfl) dX8_init_5 (fun q5 H hP hD hS => ?_)
  have hP : va_P G vwCl [(h0, .inr (8, [.null])), (q5, .inr (3, [.null]))] H := hP
  have hD : va_D _ [(h0, .inr (8, [.null])), (q5, .inr (3, [.null]))] := hD
  refine lv_dup hx hb dX8_init_8 rfl ?_
  refine lv_sipush (v := 128) hx hb dX8_init_9 (by decide) ?_
  refine j_next (wr := [(h0, .inr (8, [.null]))]) (va_runI (As := [.int 128]) (rest := [.ref q5, .ref h0]) ⟨hx, hb, hml, hown, hts⟩ (c_X3_init l G cA zq q5 H.size 128 (by decide)) (cwI 1 hts gX8_init_X3_init rfl rfl rfl (hts (.initialized RX3) (by decide +kernel)) (hts (.methodLink RX8 11 yX3_init) (by decide +kernel)) (hts (.instanceMethod yX3_init) (by decide +kernel)) rfl (by decide +kernel) ⟨Nat.le_of_ble_eq_true rfl, Nat.le_of_ble_eq_true rfl⟩) (j_pre hK hP hD hS hA 1 rfl) rfl rfl hl.1 rfl (lv_room (Nat.le_of_ble_eq_true rfl)) dX8_init_12 ⟨Nat.le_of_ble_eq_true rfl, Nat.le_of_ble_eq_true rfl⟩) hP hD hS hA 1 [0] rfl rfl (by decide) (by decide) (fun b12 H locs hq hP hD hS => ?_)
  have hP : va_P G vwCl [(h0, .inr (8, [.null])), ((b12 0), .inr (3, [.ref (b12 1)])), ((b12 1), .inl (cA, 128, .inl (fun _ => 0)))] H := hP
  have hD : va_D _ [(h0, .inr (8, [.null])), ((b12 0), .inr (3, [.ref (b12 1)])), ((b12 1), .inl (cA, 128, .inl (fun _ => 0)))] := hD
  rw [hq] at hP hD
  refine va_putF (D := G) (ci := 8) (v := .ref q5) (ty := (.object "Melodeon$Row")) (C := RX8) (T := TX8) (N := 1) hx hb hts iX8_init_X8 tyX8 tyX8_ok nmX8 hown hK.1 hP hD hS 0 rfl rfl 0 (by decide) (hts (.fieldLink RX8 14 "Melodeon$Waves" "values" "LMelodeon$Row;") (by decide +kernel)) (fun _ h9 => h9) rfl hin rfl (by decide +kernel) rfl rfl (Nat.le_of_ble_eq_true rfl) dX8_init_15 (fun H locs hP hD hS => ?_)
  have hP : va_P G vwCl [(h0, .inr (8, [.ref q5])), (q5, .inr (3, [.ref (b12 1)])), ((b12 1), .inl (cA, 128, .inl (fun _ => 0)))] H := hP
  have hD : va_D _ [(h0, .inr (8, [.ref q5])), (q5, .inr (3, [.ref (b12 1)])), ((b12 1), .inl (cA, 128, .inl (fun _ => 0)))] := hD
  have hP9 := hP.sub (ws' := [(h0, .inr (8, [.ref q5])), (q5, .inr (3, [.ref (b12 1)])), ((b12 1), .inl (cA, 128, .inl (fun _ => 0)))]) [0, 1, 2] rfl
  have hD9 := hD.sub (ws' := [(h0, .inr (8, [.ref q5])), (q5, .inr (3, [.ref (b12 1)])), ((b12 1), .inl (cA, 128, .inl (fun _ => 0)))]) [0, 1, 2] (by decide) rfl
  obtain ⟨S, eS⟩ : ∃ S : Mm, S = (fun _ _ => 0) := ⟨_, rfl⟩
  obtain ⟨a, ea⟩ : ∃ a : Nat → Nat, a = fun k => [h0, q5, (b12 1)].getD k 0 := ⟨_, rfl⟩
  have hP : va_P G vwCl (wG 3 a (cWv a cA) S 0) H := by rw [ea, eS]; exact hP9
  have hD : va_D (va_A [(h0, .inr (8, [.null]))] s.heap.size) (wG 3 a (cWv a cA) S 0) := by rw [ea, eS]; exact hD9
  have ha : apart 3 a := fun i j hi hj e => hD.1 i j _ _ (wG_get hi) (wG_get hj) e
  have hAk : ∀ k, k < 3 → (va_A [(h0, .inr (8, [.null]))] s.heap.size) (a k) := fun k hk => hD.2 k _ (wG_get hk)
  have ha0 : a 0 = h0 := by rw [ea]; rfl
  rw [← ha0] at hl
  refine lv_iconst (v := 0) hx hb dX8_init_18 (by decide) ?_
  refine lv_istore_n (lv' := [(1, .int 0), (0, .ref (a 0))]) hx hb dX8_init_19 rfl hl (by decide) rfl (fun ls hl => ?_)
  have loop : ∀ (k i : Nat), i ≤ (32 : Int32).toNatClampNeg → (32 : Int32).toNatClampNeg < i + k → ∀ (zS : Mm) (H : Heap) (locs : List Loc) (ls : Array Slot), zS = (lpX8_init_20 S i) → va_P G vwCl (wG 3 a (cWv a cA) zS 0) H → va_S (va_A [(h0, .inr (8, [.null]))] s.heap.size) s.heap H locs → lv_has ls 3 [(1, .int (nI i)), (0, .ref (a 0))] → W p l e ({ frames := 2, cells := 2, slots := 129, locals := 42 } : Room) s m ([.ref h0] : List Value).toArray below meth c H locs 2 129 (MQ below (jQ h0 G (fun b => wG 3 b (cWv b cA) SW0 0) [(h0, .inr (8, [.null]))] s.heap.size) ([.ref h0] : List Value).toArray s 2 129 (va_A [(h0, .inr (8, [.null]))] s.heap.size)) (F0 m 20 ls []) := by
    intro k
    induction k with
    | zero => intro i h1 h2; omega
    | succ k ih =>
      intro i hi hk zS H locs ls ezS hP hS hl
      refine lv_iload_n hx hb dX8_init_20 rfl (lv_at hl 0 rfl) ?_
      refine lv_bipush (v := 32) hx hb dX8_init_21 (by decide) ?_
      refine lv_icmp_ge (tgt := 123) hx hb dX8_init_23 (by decide) (fun cx => ?_) (fun cx => ?_)
      ·
        have hN := lx_exit hi cx
        subst hN
        rw [ezS] at hP
        have hP : va_P G vwCl (wG 3 a (cWv a cA) SW0 0) H := by unfold SW0; dsimp only; rw [← eS]; exact hP
        exact j_vret (b := a) hx hb hr hlocks ha0 hP (wG_D ha hAk) hS dX8_init_123
      ·
        have hlt := lx_body cx hi
        refine lv_iload_n hx hb dX8_init_26 rfl (lv_at hl 0 rfl) ?_
        refine lv_bipush (v := 16) hx hb dX8_init_27 (by decide) ?_
        have hj2 : ∀ (zy0_hj2 : Int32) (H : Heap) (locs : List Loc) (ls : Array Slot), zy0_hj2 = (jX8_init_1 S zS i) → va_P G vwCl (wG 3 a (cWv a cA) zS 0) H → va_S (va_A [(h0, .inr (8, [.null]))] s.heap.size) s.heap H locs → lv_has ls 3 [(1, .int (nI i)), (0, .ref (a 0))] → W p l e ({ frames := 2, cells := 2, slots := 129, locals := 42 } : Room) s m ([.ref h0] : List Value).toArray below meth c H locs 2 129 (MQ below (jQ h0 G (fun b => wG 3 b (cWv b cA) SW0 0) [(h0, .inr (8, [.null]))] s.heap.size) ([.ref h0] : List Value).toArray s 2 129 (va_A [(h0, .inr (8, [.null]))] s.heap.size)) (F0 m 37 ls [.int zy0_hj2]) := by
          intro zy0_hj2 H locs ls ezy0_hj2 hP hS hl
          rw [ezy0_hj2]
          refine lv_istore_n (lv' := [(2, .int (jX8_init_1 S zS i)), (1, .int (nI i)), (0, .ref (a 0))]) hx hb dX8_init_37 rfl hl (by decide) rfl (fun ls hl => ?_)
          refine lv_aload_n hx hb dX8_init_38 rfl (lv_at hl 2 rfl) ?_
          refine g_get (ci := 8) (C := RX8) (T := TX8) (N := 1) (v := .ref (a 1)) hx hb hts iX8_init_X8 hown hK hP (by decide) rfl rfl 0 (by decide) rfl (by decide +kernel) rfl dX8_init_39 ?_
          refine lv_iconst (v := 0) hx hb dX8_init_42 (by decide) ?_
          refine lv_iload_n hx hb dX8_init_43 rfl (lv_at hl 1 rfl) ?_
          refine lv_iadd hx hb dX8_init_44 ?_
          refine lv_sipush (v := (-992)) hx hb dX8_init_45 (by decide) ?_
          refine lv_bipush (v := 64) hx hb dX8_init_48 (by decide) ?_
          refine lv_iload_n hx hb dX8_init_50 rfl (lv_at hl 1 rfl) ?_
          refine lv_imul hx hb dX8_init_51 ?_
          refine lv_iadd hx hb dX8_init_52 ?_
          refine g_cVv (As := [.int (0 + (nI i)), .int ((-992) + (64 * (nI i)))]) (rest := []) ⟨hx, hb, hml, hown, hts⟩ (c_X3_putq l G cA zq 3 (cWv a cA) a ha zS 0 H.size 1 128 (0 + (nI i)) ((-992) + (64 * (nI i))) (by decide) (by decide) (fun _ _ => rfl) (fun _ _ => rfl)) (cwV 2 hts gX8_init_X3_put rfl rfl rfl (by decide +kernel) ⟨Nat.le_of_ble_eq_true rfl, Nat.le_of_ble_eq_true rfl⟩) (g_recv hK hP (by decide) rfl (C := RX3) (T := TX3) (N := 1) rfl) hK (fun x hx => hx.elim (fun ⟨k, hk, e⟩ => e ▸ hAk k hk) (fun h => Or.inr (Nat.le_trans hS.1 h))) hP hS rfl hl.1 rfl (lv_room (Nat.le_of_ble_eq_true rfl)) dX8_init_53 ⟨Nat.le_of_ble_eq_true rfl, Nat.le_of_ble_eq_true rfl⟩ (fun H locs hP hS _ _ => ?_)
          refine lv_aload_n hx hb dX8_init_56 rfl (lv_at hl 2 rfl) ?_
          refine g_get (ci := 8) (C := RX8) (T := TX8) (N := 1) (v := .ref (a 1)) hx hb hts iX8_init_X8 hown hK hP (by decide) rfl rfl 0 (by decide) rfl (by decide +kernel) rfl dX8_init_57 ?_
          refine lv_bipush (v := 32) hx hb dX8_init_60 (by decide) ?_
          refine lv_iload_n hx hb dX8_init_62 rfl (lv_at hl 1 rfl) ?_
          refine lv_iadd hx hb dX8_init_63 ?_
          refine lv_iload_n hx hb dX8_init_64 rfl (lv_at hl 0 rfl) ?_
          have hj4 : ∀ (zy0_hj4 : Int32) (H : Heap) (locs : List Loc) (ls : Array Slot), zy0_hj4 = (jX8_init_2 S zS i) → va_P G vwCl (wG 3 a (cWv a cA) (fX3_putq zS 1 128 (0 + (nI i)) ((-992) + (64 * (nI i)))) 0) H → va_S (va_A [(h0, .inr (8, [.null]))] s.heap.size) s.heap H locs → lv_has ls 3 [(2, .int (jX8_init_1 S zS i)), (1, .int (nI i)), (0, .ref (a 0))] → W p l e ({ frames := 2, cells := 2, slots := 129, locals := 42 } : Room) s m ([.ref h0] : List Value).toArray below meth c H locs 2 129 (MQ below (jQ h0 G (fun b => wG 3 b (cWv b cA) SW0 0) [(h0, .inr (8, [.null]))] s.heap.size) ([.ref h0] : List Value).toArray s 2 129 (va_A [(h0, .inr (8, [.null]))] s.heap.size)) (F0 m 77 ls [.int zy0_hj4, .int (32 + (nI i)), .ref (a 1)]) := by
            intro zy0_hj4 H locs ls ezy0_hj4 hP hS hl
            rw [ezy0_hj4]
            refine g_cVv (As := [.int (32 + (nI i)), .int (jX8_init_2 S zS i)]) (rest := []) ⟨hx, hb, hml, hown, hts⟩ (c_X3_putq l G cA zq 3 (cWv a cA) a ha (fX3_putq zS 1 128 (0 + (nI i)) ((-992) + (64 * (nI i)))) 0 H.size 1 128 (32 + (nI i)) (jX8_init_2 S zS i) (by decide) (by decide) (fun _ _ => rfl) (fun _ _ => rfl)) (cwV 2 hts gX8_init_X3_put rfl rfl rfl (by decide +kernel) ⟨Nat.le_of_ble_eq_true rfl, Nat.le_of_ble_eq_true rfl⟩) (g_recv hK hP (by decide) rfl (C := RX3) (T := TX3) (N := 1) rfl) hK (fun x hx => hx.elim (fun ⟨k, hk, e⟩ => e ▸ hAk k hk) (fun h => Or.inr (Nat.le_trans hS.1 h))) hP hS rfl hl.1 rfl (lv_room (Nat.le_of_ble_eq_true rfl)) dX8_init_77 ⟨Nat.le_of_ble_eq_true rfl, Nat.le_of_ble_eq_true rfl⟩ (fun H locs hP hS _ _ => ?_)
            have hP : va_P G vwCl (wG 3 a (cWv a cA) (mX8_init_3 S zS i) 0) H := hP
            refine lv_aload_n hx hb dX8_init_80 rfl (lv_at hl 2 rfl) ?_
            refine g_get (ci := 8) (C := RX8) (T := TX8) (N := 1) (v := .ref (a 1)) hx hb hts iX8_init_X8 hown hK hP (by decide) rfl rfl 0 (by decide) rfl (by decide +kernel) rfl dX8_init_81 ?_
            refine lv_bipush (v := 64) hx hb dX8_init_84 (by decide) ?_
            refine lv_iload_n hx hb dX8_init_86 rfl (lv_at hl 1 rfl) ?_
            refine lv_iadd hx hb dX8_init_87 ?_
            refine lv_iload_n hx hb dX8_init_88 rfl (lv_at hl 0 rfl) ?_
            have hj6 : ∀ (zy0_hj6 : Int32) (H : Heap) (locs : List Loc) (ls : Array Slot), zy0_hj6 = (jX8_init_4 S zS i) → va_P G vwCl (wG 3 a (cWv a cA) (mX8_init_3 S zS i) 0) H → va_S (va_A [(h0, .inr (8, [.null]))] s.heap.size) s.heap H locs → lv_has ls 3 [(2, .int (jX8_init_1 S zS i)), (1, .int (nI i)), (0, .ref (a 0))] → W p l e ({ frames := 2, cells := 2, slots := 129, locals := 42 } : Room) s m ([.ref h0] : List Value).toArray below meth c H locs 2 129 (MQ below (jQ h0 G (fun b => wG 3 b (cWv b cA) SW0 0) [(h0, .inr (8, [.null]))] s.heap.size) ([.ref h0] : List Value).toArray s 2 129 (va_A [(h0, .inr (8, [.null]))] s.heap.size)) (F0 m 114 ls [.int zy0_hj6, .int (64 + (nI i)), .ref (a 1)]) := by
              intro zy0_hj6 H locs ls ezy0_hj6 hP hS hl
              rw [ezy0_hj6]
              refine g_cVv (As := [.int (64 + (nI i)), .int (jX8_init_4 S zS i)]) (rest := []) ⟨hx, hb, hml, hown, hts⟩ (c_X3_putq l G cA zq 3 (cWv a cA) a ha (mX8_init_3 S zS i) 0 H.size 1 128 (64 + (nI i)) (jX8_init_4 S zS i) (by decide) (by decide) (fun _ _ => rfl) (fun _ _ => rfl)) (cwV 2 hts gX8_init_X3_put rfl rfl rfl (by decide +kernel) ⟨Nat.le_of_ble_eq_true rfl, Nat.le_of_ble_eq_true rfl⟩) (g_recv hK hP (by decide) rfl (C := RX3) (T := TX3) (N := 1) rfl) hK (fun x hx => hx.elim (fun ⟨k, hk, e⟩ => e ▸ hAk k hk) (fun h => Or.inr (Nat.le_trans hS.1 h))) hP hS rfl hl.1 rfl (lv_room (Nat.le_of_ble_eq_true rfl)) dX8_init_114 ⟨Nat.le_of_ble_eq_true rfl, Nat.le_of_ble_eq_true rfl⟩ (fun H locs hP hS _ _ => ?_)
              refine lv_iinc (v := nI (i + 1)) (lv' := [(1, .int (nI (i + 1))), (2, .int (jX8_init_1 S zS i)), (0, .ref (a 0))]) hx hb dX8_init_117 hl (k := 1) rfl (nI_1 i) (by decide) rfl (fun ls hl => ?_)
              refine lv_goto (tgt := 20) hx hb dX8_init_120 (by decide) ?_
              exact ih (i + 1) (by omega) (by omega) (fX3_putq (mX8_init_3 S zS i) 1 128 (64 + (nI i)) (jX8_init_4 S zS i)) _ _ _ (by rw [lpX8_init_20_s]; (try rw [← ezS]); (try dsimp only); unfold bX8_init_20_zS; rfl) hP hS (lv_sub hl [0, 2] rfl)
            refine lv_if_eq (tgt := 103) hx hb dX8_init_89 (by decide) (fun c5 => ?_) (fun c5 => ?_)
            ·
              refine lv_sipush (v := 1000) hx hb dX8_init_103 (by decide) ?_
              refine lv_bipush (v := 125) hx hb dX8_init_106 (by decide) ?_
              refine lv_iload_n hx hb dX8_init_108 rfl (lv_at hl 1 rfl) ?_
              refine lv_bipush (v := 16) hx hb dX8_init_109 (by decide) ?_
              refine lv_isub hx hb dX8_init_111 ?_
              refine lv_imul hx hb dX8_init_112 ?_
              refine lv_isub hx hb dX8_init_113 ?_
              exact hj6 _ _ _ _ (by unfold jX8_init_4; rw [if_pos c5]) hP hS (lv_sub hl [0, 1, 2] rfl)
            ·
              refine lv_sipush (v := (-1000)) hx hb dX8_init_92 (by decide) ?_
              refine lv_bipush (v := 125) hx hb dX8_init_95 (by decide) ?_
              refine lv_iload_n hx hb dX8_init_97 rfl (lv_at hl 1 rfl) ?_
              refine lv_imul hx hb dX8_init_98 ?_
              refine lv_iadd hx hb dX8_init_99 ?_
              refine lv_goto (tgt := 114) hx hb dX8_init_100 (by decide) ?_
              exact hj6 _ _ _ _ (by unfold jX8_init_4; rw [if_neg c5]) hP hS (lv_sub hl [0, 1, 2] rfl)
          refine lv_if_eq (tgt := 74) hx hb dX8_init_65 (by decide) (fun c3 => ?_) (fun c3 => ?_)
          ·
            refine lv_sipush (v := (-1000)) hx hb dX8_init_74 (by decide) ?_
            exact hj4 _ _ _ _ (by unfold jX8_init_2; rw [if_pos c3]) hP hS (lv_sub hl [0, 1, 2] rfl)
          ·
            refine lv_sipush (v := 1000) hx hb dX8_init_68 (by decide) ?_
            refine lv_goto (tgt := 77) hx hb dX8_init_71 (by decide) ?_
            exact hj4 _ _ _ _ (by unfold jX8_init_2; rw [if_neg c3]) hP hS (lv_sub hl [0, 1, 2] rfl)
        refine lv_icmp_ge (tgt := 36) hx hb dX8_init_29 (by decide) (fun c1 => ?_) (fun c1 => ?_)
        ·
          refine lv_iconst (v := 0) hx hb dX8_init_36 (by decide) ?_
          exact hj2 _ _ _ _ (by unfold jX8_init_1; rw [if_pos c1]) hP hS (lv_sub hl [0, 1] rfl)
        ·
          refine lv_iconst (v := 1) hx hb dX8_init_32 (by decide) ?_
          refine lv_goto (tgt := 37) hx hb dX8_init_33 (by decide) ?_
          exact hj2 _ _ _ _ (by unfold jX8_init_1; rw [if_neg c1]) hP hS (lv_sub hl [0, 1] rfl)
  exact loop ((32 : Int32).toNatClampNeg + 1) 0 (Nat.zero_le _) (by omega) S _ _ _ (by rw [lpX8_init_20_0]) hP hS (lv_sub hl [0, 1] rfl)
def cSc (a : Nat → Nat) (cA : ClassId) : Cf := fun o r _ => match o with
  | 0 => .inr (4, [.ref (a 1), .ref (a 3), .ref (a 5), .ref (a 7), .int (r 4), .int (r 5)])
  | 1 => .inr (3, [.ref (a 2)])
  | 2 => .inl (cA, 3, .inl r)
  | 3 => .inr (3, [.ref (a 4)])
  | 4 => .inl (cA, 24, .inl r)
  | 5 => .inr (3, [.ref (a 6)])
  | 6 => .inl (cA, 24, .inl r)
  | 7 => .inr (3, [.ref (a 8)])
  | _ => .inl (cA, 24, .inl r)
def SC0 : Mm := (fun S : Mm => fX3_fillq S 3 24 ((-1) : Int32)) (fun o k => if o = 0 then (if k = 4 then 20 else 0) else 0)
theorem iX4_init_X4 : ∀ w ∈ u_ws RX4 TX4 6, w ∈ wsX4_init := by decide +kernel
set_option maxHeartbeats 4000000 in
set_option maxRecDepth 100000 in
theorem c_X4_init (l : Launch) (G : va_G) (cA : ClassId) (zq h0 sz : Nat) : Met l yX4_init wsX4_init ({ frames := 2, cells := 8, slots := 79, locals := 42 } : Room) (va_Pc [.ref h0] (jI G cA zq [(h0, .inr (4, [.null, .null, .null, .null, .int 0, .int 0]))] sz)) (jQ h0 G (fun b => wG 9 b (cSc b cA) SC0 0) [(h0, .inr (4, [.null, .null, .null, .null, .int 0, .int 0]))] sz) 8 79 (va_A [(h0, .inr (4, [.null, .null, .null, .null, .int 0, .int 0]))] sz) := by
  refine j_met (cc := cX4_init) (maxL := 1) (ret := none) (by decide) rfl (Nat.le_of_ble_eq_true rfl) ?_
  intro p e s m below meth c ls hx hb hr hlocks hml hts hown hin hsz hK hP hD hA hS hl
  subst hsz
  have hl : lv_has ls 1 [(0, .ref h0)] := hl
  refine lv_aload_n hx hb dX4_init_0 rfl (lv_at hl 0 rfl) ?_
  refine W.objInit hx hb hown (hts (.methodLink RX4 3 objectInit) (by decide +kernel)) (hts (.instanceMethod objectInit) (by decide +kernel)) (hts (.code objectInit ⟨#[0xb1]⟩ 1 none) (by decide +kernel)) rfl (by rw [hml]; exact hl.1) rfl dX4_init_1 (Nat.le_of_ble_eq_true rfl) (Nat.le_of_ble_eq_true rfl) ?_
  refine W.eq (g2 := F0 m 4 ls []) rfl ?_
  refine lv_aload_n hx hb dX4_init_4 rfl (lv_at hl 0 rfl) ?_
  refine va_new (ci := 3) (fs := [.null]) (C := RX3) (T := TX3) (N := 1) hx hb hts (by decide +kernel) tyX3 tyX3_ok hown (hts (.classLink RX4 9 RX3) (by decide +kernel)) (hts (.instantiable RX3 1) (by decide +kernel)) (hts (.initialized RX3) (by decide +kernel)) hK.1 hP hD hS hA rfl (fun j hj => by rcases (show j = 0 by omega) with rfl <;> rfl) (Nat.le_of_ble_eq_true rfl) (Nat.le_of_ble_eq_true rfl) dX4_init_5 (fun q5 H hP hD hS => ?_)
  have hP : va_P G vwCl [(h0, .inr (4, [.null, .null, .null, .null, .int 0, .int 0])), (q5, .inr (3, [.null]))] H := hP
  have hD : va_D _ [(h0, .inr (4, [.null, .null, .null, .null, .int 0, .int 0])), (q5, .inr (3, [.null]))] := hD
  refine lv_dup hx hb dX4_init_8 rfl ?_
  refine lv_iconst (v := 3) hx hb dX4_init_9 (by decide) ?_
  refine j_next (wr := [(h0, .inr (4, [.null, .null, .null, .null, .int 0, .int 0]))]) (va_runI (As := [.int 3]) (rest := [.ref q5, .ref h0]) ⟨hx, hb, hml, hown, hts⟩ (c_X3_init l G cA zq q5 H.size 3 (by decide)) (cwI 1 hts gX4_init_X3_init rfl rfl rfl (hts (.initialized RX3) (by decide +kernel)) (hts (.methodLink RX4 11 yX3_init) (by decide +kernel)) (hts (.instanceMethod yX3_init) (by decide +kernel)) rfl (by decide +kernel) ⟨Nat.le_of_ble_eq_true rfl, Nat.le_of_ble_eq_true rfl⟩) (j_pre hK hP hD hS hA 1 rfl) rfl rfl hl.1 rfl (lv_room (Nat.le_of_ble_eq_true rfl)) dX4_init_10 ⟨Nat.le_of_ble_eq_true rfl, Nat.le_of_ble_eq_true rfl⟩) hP hD hS hA 1 [0] rfl rfl (by decide) (by decide) (fun b10 H locs hq hP hD hS => ?_)
  have hP : va_P G vwCl [(h0, .inr (4, [.null, .null, .null, .null, .int 0, .int 0])), ((b10 0), .inr (3, [.ref (b10 1)])), ((b10 1), .inl (cA, 3, .inl (fun _ => 0)))] H := hP
  have hD : va_D _ [(h0, .inr (4, [.null, .null, .null, .null, .int 0, .int 0])), ((b10 0), .inr (3, [.ref (b10 1)])), ((b10 1), .inl (cA, 3, .inl (fun _ => 0)))] := hD
  rw [hq] at hP hD
  refine va_putF (D := G) (ci := 4) (v := .ref q5) (ty := (.object "Melodeon$Row")) (C := RX4) (T := TX4) (N := 6) hx hb hts iX4_init_X4 tyX4 tyX4_ok nmX4 hown hK.1 hP hD hS 0 rfl rfl 0 (by decide) (hts (.fieldLink RX4 14 "Melodeon$Score" "instruments" "LMelodeon$Row;") (by decide +kernel)) (fun _ h9 => h9) rfl hin rfl (by decide +kernel) rfl rfl (Nat.le_of_ble_eq_true rfl) dX4_init_13 (fun H locs hP hD hS => ?_)
  have hP : va_P G vwCl [(h0, .inr (4, [.ref q5, .null, .null, .null, .int 0, .int 0])), (q5, .inr (3, [.ref (b10 1)])), ((b10 1), .inl (cA, 3, .inl (fun _ => 0)))] H := hP
  have hD : va_D _ [(h0, .inr (4, [.ref q5, .null, .null, .null, .int 0, .int 0])), (q5, .inr (3, [.ref (b10 1)])), ((b10 1), .inl (cA, 3, .inl (fun _ => 0)))] := hD
  refine lv_aload_n hx hb dX4_init_16 rfl (lv_at hl 0 rfl) ?_
  refine va_new (ci := 3) (fs := [.null]) (C := RX3) (T := TX3) (N := 1) hx hb hts (by decide +kernel) tyX3 tyX3_ok hown (hts (.classLink RX4 9 RX3) (by decide +kernel)) (hts (.instantiable RX3 1) (by decide +kernel)) (hts (.initialized RX3) (by decide +kernel)) hK.1 hP hD hS hA rfl (fun j hj => by rcases (show j = 0 by omega) with rfl <;> rfl) (Nat.le_of_ble_eq_true rfl) (Nat.le_of_ble_eq_true rfl) dX4_init_17 (fun q17 H hP hD hS => ?_)
  have hP : va_P G vwCl [(h0, .inr (4, [.ref q5, .null, .null, .null, .int 0, .int 0])), (q5, .inr (3, [.ref (b10 1)])), ((b10 1), .inl (cA, 3, .inl (fun _ => 0))), (q17, .inr (3, [.null]))] H := hP
  have hD : va_D _ [(h0, .inr (4, [.ref q5, .null, .null, .null, .int 0, .int 0])), (q5, .inr (3, [.ref (b10 1)])), ((b10 1), .inl (cA, 3, .inl (fun _ => 0))), (q17, .inr (3, [.null]))] := hD
  refine lv_dup hx hb dX4_init_20 rfl ?_
  refine lv_bipush (v := 24) hx hb dX4_init_21 (by decide) ?_
  refine j_next (wr := [(h0, .inr (4, [.ref q5, .null, .null, .null, .int 0, .int 0])), (q5, .inr (3, [.ref (b10 1)])), ((b10 1), .inl (cA, 3, .inl (fun _ => 0)))]) (va_runI (As := [.int 24]) (rest := [.ref q17, .ref h0]) ⟨hx, hb, hml, hown, hts⟩ (c_X3_init l G cA zq q17 H.size 24 (by decide)) (cwI 1 hts gX4_init_X3_init rfl rfl rfl (hts (.initialized RX3) (by decide +kernel)) (hts (.methodLink RX4 11 yX3_init) (by decide +kernel)) (hts (.instanceMethod yX3_init) (by decide +kernel)) rfl (by decide +kernel) ⟨Nat.le_of_ble_eq_true rfl, Nat.le_of_ble_eq_true rfl⟩) (j_pre hK hP hD hS hA 3 rfl) rfl rfl hl.1 rfl (lv_room (Nat.le_of_ble_eq_true rfl)) dX4_init_23 ⟨Nat.le_of_ble_eq_true rfl, Nat.le_of_ble_eq_true rfl⟩) hP hD hS hA 3 [0, 1, 2] rfl rfl (by decide) (by decide) (fun b23 H locs hq hP hD hS => ?_)
  have hP : va_P G vwCl [(h0, .inr (4, [.ref q5, .null, .null, .null, .int 0, .int 0])), (q5, .inr (3, [.ref (b10 1)])), ((b10 1), .inl (cA, 3, .inl (fun _ => 0))), ((b23 0), .inr (3, [.ref (b23 1)])), ((b23 1), .inl (cA, 24, .inl (fun _ => 0)))] H := hP
  have hD : va_D _ [(h0, .inr (4, [.ref q5, .null, .null, .null, .int 0, .int 0])), (q5, .inr (3, [.ref (b10 1)])), ((b10 1), .inl (cA, 3, .inl (fun _ => 0))), ((b23 0), .inr (3, [.ref (b23 1)])), ((b23 1), .inl (cA, 24, .inl (fun _ => 0)))] := hD
  rw [hq] at hP hD
  refine va_putF (D := G) (ci := 4) (v := .ref q17) (ty := (.object "Melodeon$Row")) (C := RX4) (T := TX4) (N := 6) hx hb hts iX4_init_X4 tyX4 tyX4_ok nmX4 hown hK.1 hP hD hS 0 rfl rfl 1 (by decide) (hts (.fieldLink RX4 20 "Melodeon$Score" "pitches" "LMelodeon$Row;") (by decide +kernel)) (fun _ h9 => h9) rfl hin rfl (by decide +kernel) rfl rfl (Nat.le_of_ble_eq_true rfl) dX4_init_26 (fun H locs hP hD hS => ?_)
  have hP : va_P G vwCl [(h0, .inr (4, [.ref q5, .ref q17, .null, .null, .int 0, .int 0])), (q5, .inr (3, [.ref (b10 1)])), ((b10 1), .inl (cA, 3, .inl (fun _ => 0))), (q17, .inr (3, [.ref (b23 1)])), ((b23 1), .inl (cA, 24, .inl (fun _ => 0)))] H := hP
  have hD : va_D _ [(h0, .inr (4, [.ref q5, .ref q17, .null, .null, .int 0, .int 0])), (q5, .inr (3, [.ref (b10 1)])), ((b10 1), .inl (cA, 3, .inl (fun _ => 0))), (q17, .inr (3, [.ref (b23 1)])), ((b23 1), .inl (cA, 24, .inl (fun _ => 0)))] := hD
  refine lv_aload_n hx hb dX4_init_29 rfl (lv_at hl 0 rfl) ?_
  refine va_new (ci := 3) (fs := [.null]) (C := RX3) (T := TX3) (N := 1) hx hb hts (by decide +kernel) tyX3 tyX3_ok hown (hts (.classLink RX4 9 RX3) (by decide +kernel)) (hts (.instantiable RX3 1) (by decide +kernel)) (hts (.initialized RX3) (by decide +kernel)) hK.1 hP hD hS hA rfl (fun j hj => by rcases (show j = 0 by omega) with rfl <;> rfl) (Nat.le_of_ble_eq_true rfl) (Nat.le_of_ble_eq_true rfl) dX4_init_30 (fun q30 H hP hD hS => ?_)
  have hP : va_P G vwCl [(h0, .inr (4, [.ref q5, .ref q17, .null, .null, .int 0, .int 0])), (q5, .inr (3, [.ref (b10 1)])), ((b10 1), .inl (cA, 3, .inl (fun _ => 0))), (q17, .inr (3, [.ref (b23 1)])), ((b23 1), .inl (cA, 24, .inl (fun _ => 0))), (q30, .inr (3, [.null]))] H := hP
  have hD : va_D _ [(h0, .inr (4, [.ref q5, .ref q17, .null, .null, .int 0, .int 0])), (q5, .inr (3, [.ref (b10 1)])), ((b10 1), .inl (cA, 3, .inl (fun _ => 0))), (q17, .inr (3, [.ref (b23 1)])), ((b23 1), .inl (cA, 24, .inl (fun _ => 0))), (q30, .inr (3, [.null]))] := hD
  refine lv_dup hx hb dX4_init_33 rfl ?_
  refine lv_bipush (v := 24) hx hb dX4_init_34 (by decide) ?_
  refine j_next (wr := [(h0, .inr (4, [.ref q5, .ref q17, .null, .null, .int 0, .int 0])), (q5, .inr (3, [.ref (b10 1)])), ((b10 1), .inl (cA, 3, .inl (fun _ => 0))), (q17, .inr (3, [.ref (b23 1)])), ((b23 1), .inl (cA, 24, .inl (fun _ => 0)))]) (va_runI (As := [.int 24]) (rest := [.ref q30, .ref h0]) ⟨hx, hb, hml, hown, hts⟩ (c_X3_init l G cA zq q30 H.size 24 (by decide)) (cwI 1 hts gX4_init_X3_init rfl rfl rfl (hts (.initialized RX3) (by decide +kernel)) (hts (.methodLink RX4 11 yX3_init) (by decide +kernel)) (hts (.instanceMethod yX3_init) (by decide +kernel)) rfl (by decide +kernel) ⟨Nat.le_of_ble_eq_true rfl, Nat.le_of_ble_eq_true rfl⟩) (j_pre hK hP hD hS hA 5 rfl) rfl rfl hl.1 rfl (lv_room (Nat.le_of_ble_eq_true rfl)) dX4_init_36 ⟨Nat.le_of_ble_eq_true rfl, Nat.le_of_ble_eq_true rfl⟩) hP hD hS hA 5 [0, 1, 2, 3, 4] rfl rfl (by decide) (by decide) (fun b36 H locs hq hP hD hS => ?_)
  have hP : va_P G vwCl [(h0, .inr (4, [.ref q5, .ref q17, .null, .null, .int 0, .int 0])), (q5, .inr (3, [.ref (b10 1)])), ((b10 1), .inl (cA, 3, .inl (fun _ => 0))), (q17, .inr (3, [.ref (b23 1)])), ((b23 1), .inl (cA, 24, .inl (fun _ => 0))), ((b36 0), .inr (3, [.ref (b36 1)])), ((b36 1), .inl (cA, 24, .inl (fun _ => 0)))] H := hP
  have hD : va_D _ [(h0, .inr (4, [.ref q5, .ref q17, .null, .null, .int 0, .int 0])), (q5, .inr (3, [.ref (b10 1)])), ((b10 1), .inl (cA, 3, .inl (fun _ => 0))), (q17, .inr (3, [.ref (b23 1)])), ((b23 1), .inl (cA, 24, .inl (fun _ => 0))), ((b36 0), .inr (3, [.ref (b36 1)])), ((b36 1), .inl (cA, 24, .inl (fun _ => 0)))] := hD
  rw [hq] at hP hD
  refine va_putF (D := G) (ci := 4) (v := .ref q30) (ty := (.object "Melodeon$Row")) (C := RX4) (T := TX4) (N := 6) hx hb hts iX4_init_X4 tyX4 tyX4_ok nmX4 hown hK.1 hP hD hS 0 rfl rfl 2 (by decide) (hts (.fieldLink RX4 23 "Melodeon$Score" "forces" "LMelodeon$Row;") (by decide +kernel)) (fun _ h9 => h9) rfl hin rfl (by decide +kernel) rfl rfl (Nat.le_of_ble_eq_true rfl) dX4_init_39 (fun H locs hP hD hS => ?_)
  have hP : va_P G vwCl [(h0, .inr (4, [.ref q5, .ref q17, .ref q30, .null, .int 0, .int 0])), (q5, .inr (3, [.ref (b10 1)])), ((b10 1), .inl (cA, 3, .inl (fun _ => 0))), (q17, .inr (3, [.ref (b23 1)])), ((b23 1), .inl (cA, 24, .inl (fun _ => 0))), (q30, .inr (3, [.ref (b36 1)])), ((b36 1), .inl (cA, 24, .inl (fun _ => 0)))] H := hP
  have hD : va_D _ [(h0, .inr (4, [.ref q5, .ref q17, .ref q30, .null, .int 0, .int 0])), (q5, .inr (3, [.ref (b10 1)])), ((b10 1), .inl (cA, 3, .inl (fun _ => 0))), (q17, .inr (3, [.ref (b23 1)])), ((b23 1), .inl (cA, 24, .inl (fun _ => 0))), (q30, .inr (3, [.ref (b36 1)])), ((b36 1), .inl (cA, 24, .inl (fun _ => 0)))] := hD
  refine lv_aload_n hx hb dX4_init_42 rfl (lv_at hl 0 rfl) ?_
  refine va_new (ci := 3) (fs := [.null]) (C := RX3) (T := TX3) (N := 1) hx hb hts (by decide +kernel) tyX3 tyX3_ok hown (hts (.classLink RX4 9 RX3) (by decide +kernel)) (hts (.instantiable RX3 1) (by decide +kernel)) (hts (.initialized RX3) (by decide +kernel)) hK.1 hP hD hS hA rfl (fun j hj => by rcases (show j = 0 by omega) with rfl <;> rfl) (Nat.le_of_ble_eq_true rfl) (Nat.le_of_ble_eq_true rfl) dX4_init_43 (fun q43 H hP hD hS => ?_)
  have hP : va_P G vwCl [(h0, .inr (4, [.ref q5, .ref q17, .ref q30, .null, .int 0, .int 0])), (q5, .inr (3, [.ref (b10 1)])), ((b10 1), .inl (cA, 3, .inl (fun _ => 0))), (q17, .inr (3, [.ref (b23 1)])), ((b23 1), .inl (cA, 24, .inl (fun _ => 0))), (q30, .inr (3, [.ref (b36 1)])), ((b36 1), .inl (cA, 24, .inl (fun _ => 0))), (q43, .inr (3, [.null]))] H := hP
  have hD : va_D _ [(h0, .inr (4, [.ref q5, .ref q17, .ref q30, .null, .int 0, .int 0])), (q5, .inr (3, [.ref (b10 1)])), ((b10 1), .inl (cA, 3, .inl (fun _ => 0))), (q17, .inr (3, [.ref (b23 1)])), ((b23 1), .inl (cA, 24, .inl (fun _ => 0))), (q30, .inr (3, [.ref (b36 1)])), ((b36 1), .inl (cA, 24, .inl (fun _ => 0))), (q43, .inr (3, [.null]))] := hD
  refine lv_dup hx hb dX4_init_46 rfl ?_
  refine lv_bipush (v := 24) hx hb dX4_init_47 (by decide) ?_
  refine j_next (wr := [(h0, .inr (4, [.ref q5, .ref q17, .ref q30, .null, .int 0, .int 0])), (q5, .inr (3, [.ref (b10 1)])), ((b10 1), .inl (cA, 3, .inl (fun _ => 0))), (q17, .inr (3, [.ref (b23 1)])), ((b23 1), .inl (cA, 24, .inl (fun _ => 0))), (q30, .inr (3, [.ref (b36 1)])), ((b36 1), .inl (cA, 24, .inl (fun _ => 0)))]) (va_runI (As := [.int 24]) (rest := [.ref q43, .ref h0]) ⟨hx, hb, hml, hown, hts⟩ (c_X3_init l G cA zq q43 H.size 24 (by decide)) (cwI 1 hts gX4_init_X3_init rfl rfl rfl (hts (.initialized RX3) (by decide +kernel)) (hts (.methodLink RX4 11 yX3_init) (by decide +kernel)) (hts (.instanceMethod yX3_init) (by decide +kernel)) rfl (by decide +kernel) ⟨Nat.le_of_ble_eq_true rfl, Nat.le_of_ble_eq_true rfl⟩) (j_pre hK hP hD hS hA 7 rfl) rfl rfl hl.1 rfl (lv_room (Nat.le_of_ble_eq_true rfl)) dX4_init_49 ⟨Nat.le_of_ble_eq_true rfl, Nat.le_of_ble_eq_true rfl⟩) hP hD hS hA 7 [0, 1, 2, 3, 4, 5, 6] rfl rfl (by decide) (by decide) (fun b49 H locs hq hP hD hS => ?_)
  have hP : va_P G vwCl [(h0, .inr (4, [.ref q5, .ref q17, .ref q30, .null, .int 0, .int 0])), (q5, .inr (3, [.ref (b10 1)])), ((b10 1), .inl (cA, 3, .inl (fun _ => 0))), (q17, .inr (3, [.ref (b23 1)])), ((b23 1), .inl (cA, 24, .inl (fun _ => 0))), (q30, .inr (3, [.ref (b36 1)])), ((b36 1), .inl (cA, 24, .inl (fun _ => 0))), ((b49 0), .inr (3, [.ref (b49 1)])), ((b49 1), .inl (cA, 24, .inl (fun _ => 0)))] H := hP
  have hD : va_D _ [(h0, .inr (4, [.ref q5, .ref q17, .ref q30, .null, .int 0, .int 0])), (q5, .inr (3, [.ref (b10 1)])), ((b10 1), .inl (cA, 3, .inl (fun _ => 0))), (q17, .inr (3, [.ref (b23 1)])), ((b23 1), .inl (cA, 24, .inl (fun _ => 0))), (q30, .inr (3, [.ref (b36 1)])), ((b36 1), .inl (cA, 24, .inl (fun _ => 0))), ((b49 0), .inr (3, [.ref (b49 1)])), ((b49 1), .inl (cA, 24, .inl (fun _ => 0)))] := hD
  rw [hq] at hP hD
  refine va_putF (D := G) (ci := 4) (v := .ref q43) (ty := (.object "Melodeon$Row")) (C := RX4) (T := TX4) (N := 6) hx hb hts iX4_init_X4 tyX4 tyX4_ok nmX4 hown hK.1 hP hD hS 0 rfl rfl 3 (by decide) (hts (.fieldLink RX4 26 "Melodeon$Score" "gates" "LMelodeon$Row;") (by decide +kernel)) (fun _ h9 => h9) rfl hin rfl (by decide +kernel) rfl rfl (Nat.le_of_ble_eq_true rfl) dX4_init_52 (fun H locs hP hD hS => ?_)
  have hP : va_P G vwCl [(h0, .inr (4, [.ref q5, .ref q17, .ref q30, .ref q43, .int 0, .int 0])), (q5, .inr (3, [.ref (b10 1)])), ((b10 1), .inl (cA, 3, .inl (fun _ => 0))), (q17, .inr (3, [.ref (b23 1)])), ((b23 1), .inl (cA, 24, .inl (fun _ => 0))), (q30, .inr (3, [.ref (b36 1)])), ((b36 1), .inl (cA, 24, .inl (fun _ => 0))), (q43, .inr (3, [.ref (b49 1)])), ((b49 1), .inl (cA, 24, .inl (fun _ => 0)))] H := hP
  have hD : va_D _ [(h0, .inr (4, [.ref q5, .ref q17, .ref q30, .ref q43, .int 0, .int 0])), (q5, .inr (3, [.ref (b10 1)])), ((b10 1), .inl (cA, 3, .inl (fun _ => 0))), (q17, .inr (3, [.ref (b23 1)])), ((b23 1), .inl (cA, 24, .inl (fun _ => 0))), (q30, .inr (3, [.ref (b36 1)])), ((b36 1), .inl (cA, 24, .inl (fun _ => 0))), (q43, .inr (3, [.ref (b49 1)])), ((b49 1), .inl (cA, 24, .inl (fun _ => 0)))] := hD
  refine lv_aload_n hx hb dX4_init_55 rfl (lv_at hl 0 rfl) ?_
  refine lv_bipush (v := 20) hx hb dX4_init_56 (by decide) ?_
  refine va_put (D := G) (ci := 4) (v := .int 20) (ty := .int) (C := RX4) (T := TX4) (N := 6) hx hb hts iX4_init_X4 tyX4 tyX4_ok nmX4 hown hK.1 hP hD hS 0 rfl rfl 4 (by decide) (hts (.fieldLink RX4 29 "Melodeon$Score" "tempo" "I") (by decide +kernel)) (fun _ h9 => h9) rfl (by decide +kernel) rfl rfl (Nat.le_of_ble_eq_true rfl) dX4_init_58 (fun H locs hP hD hS => ?_)
  have hP : va_P G vwCl [(h0, .inr (4, [.ref q5, .ref q17, .ref q30, .ref q43, .int 20, .int 0])), (q5, .inr (3, [.ref (b10 1)])), ((b10 1), .inl (cA, 3, .inl (fun _ => 0))), (q17, .inr (3, [.ref (b23 1)])), ((b23 1), .inl (cA, 24, .inl (fun _ => 0))), (q30, .inr (3, [.ref (b36 1)])), ((b36 1), .inl (cA, 24, .inl (fun _ => 0))), (q43, .inr (3, [.ref (b49 1)])), ((b49 1), .inl (cA, 24, .inl (fun _ => 0)))] H := hP
  have hD : va_D _ [(h0, .inr (4, [.ref q5, .ref q17, .ref q30, .ref q43, .int 20, .int 0])), (q5, .inr (3, [.ref (b10 1)])), ((b10 1), .inl (cA, 3, .inl (fun _ => 0))), (q17, .inr (3, [.ref (b23 1)])), ((b23 1), .inl (cA, 24, .inl (fun _ => 0))), (q30, .inr (3, [.ref (b36 1)])), ((b36 1), .inl (cA, 24, .inl (fun _ => 0))), (q43, .inr (3, [.ref (b49 1)])), ((b49 1), .inl (cA, 24, .inl (fun _ => 0)))] := hD
  have hP9 := hP.sub (ws' := [(h0, .inr (4, [.ref q5, .ref q17, .ref q30, .ref q43, .int 20, .int 0])), (q5, .inr (3, [.ref (b10 1)])), ((b10 1), .inl (cA, 3, .inl (fun _ => 0))), (q17, .inr (3, [.ref (b23 1)])), ((b23 1), .inl (cA, 24, .inl (fun _ => 0))), (q30, .inr (3, [.ref (b36 1)])), ((b36 1), .inl (cA, 24, .inl (fun _ => 0))), (q43, .inr (3, [.ref (b49 1)])), ((b49 1), .inl (cA, 24, .inl (fun _ => 0)))]) [0, 1, 2, 3, 4, 5, 6, 7, 8] rfl
  have hD9 := hD.sub (ws' := [(h0, .inr (4, [.ref q5, .ref q17, .ref q30, .ref q43, .int 20, .int 0])), (q5, .inr (3, [.ref (b10 1)])), ((b10 1), .inl (cA, 3, .inl (fun _ => 0))), (q17, .inr (3, [.ref (b23 1)])), ((b23 1), .inl (cA, 24, .inl (fun _ => 0))), (q30, .inr (3, [.ref (b36 1)])), ((b36 1), .inl (cA, 24, .inl (fun _ => 0))), (q43, .inr (3, [.ref (b49 1)])), ((b49 1), .inl (cA, 24, .inl (fun _ => 0)))]) [0, 1, 2, 3, 4, 5, 6, 7, 8] (by decide) rfl
  obtain ⟨S, eS⟩ : ∃ S : Mm, S = (fun o k => if o = 0 then (if k = 4 then 20 else 0) else 0) := ⟨_, rfl⟩
  obtain ⟨a, ea⟩ : ∃ a : Nat → Nat, a = fun k => [h0, q5, (b10 1), q17, (b23 1), q30, (b36 1), q43, (b49 1)].getD k 0 := ⟨_, rfl⟩
  have hP : va_P G vwCl (wG 9 a (cSc a cA) S 0) H := by rw [ea, eS]; exact hP9
  have hD : va_D (va_A [(h0, .inr (4, [.null, .null, .null, .null, .int 0, .int 0]))] s.heap.size) (wG 9 a (cSc a cA) S 0) := by rw [ea, eS]; exact hD9
  have ha : apart 9 a := fun i j hi hj e => hD.1 i j _ _ (wG_get hi) (wG_get hj) e
  have hAk : ∀ k, k < 9 → (va_A [(h0, .inr (4, [.null, .null, .null, .null, .int 0, .int 0]))] s.heap.size) (a k) := fun k hk => hD.2 k _ (wG_get hk)
  have ha0 : a 0 = h0 := by rw [ea]; rfl
  rw [← ha0] at hl
  refine lv_aload_n hx hb dX4_init_61 rfl (lv_at hl 0 rfl) ?_
  refine g_get (ci := 4) (C := RX4) (T := TX4) (N := 6) (v := .ref (a 3)) hx hb hts iX4_init_X4 hown hK hP (by decide) rfl rfl 1 (by decide) rfl (by decide +kernel) rfl dX4_init_62 ?_
  refine lv_iconst (v := (-1)) hx hb dX4_init_65 (by decide) ?_
  refine g_cVv (As := [.int (-1)]) (rest := []) ⟨hx, hb, hml, hown, hts⟩ (c_X3_fillq l G cA zq 9 (cSc a cA) a ha S 0 H.size 3 24 ((-1) : Int32) (by decide) (by decide) (fun _ _ => rfl) (fun _ _ => rfl)) (cwV 1 hts gX4_init_X3_fill rfl rfl rfl (by decide +kernel) ⟨Nat.le_of_ble_eq_true rfl, Nat.le_of_ble_eq_true rfl⟩) (g_recv hK hP (by decide) rfl (C := RX3) (T := TX3) (N := 1) rfl) hK (fun x hx => hx.elim (fun ⟨k, hk, e⟩ => e ▸ hAk k hk) (fun h => Or.inr (Nat.le_trans hS.1 h))) hP hS rfl hl.1 rfl (lv_room (Nat.le_of_ble_eq_true rfl)) dX4_init_66 ⟨Nat.le_of_ble_eq_true rfl, Nat.le_of_ble_eq_true rfl⟩ (fun H locs hP hS _ _ => ?_)
  have hP : va_P G vwCl (wG 9 a (cSc a cA) SC0 0) H := by unfold SC0; dsimp only; rw [← eS]; exact hP
  exact j_vret (b := a) hx hb hr hlocks ha0 hP (wG_D ha hAk) hS dX4_init_69
