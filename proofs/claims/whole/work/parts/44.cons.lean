def fX3_putq (S : Mm) (w : Nat) (N : Nat) (p1 : Int32) (p2 : Int32) : Mm := (if p1 < 0 then S else (if Int32.ofNat N ≤ p1 then S else up2 S (w + 1) p1.toNatClampNeg p2))
theorem iX3_put_X3q : ∀ w ∈ u_ws RX3 TX3 1, w ∈ wsX3_put := by decide +kernel
set_option maxHeartbeats 4000000 in
set_option maxRecDepth 100000 in
theorem c_X3_putq (l : Launch) (G : va_G) (cA : ClassId) (zq n : Nat) (f : Cf) (a : Nat → Nat) (ha : apart n a) (S : Mm) (L : Int64) (sz : Nat) (w : Nat) (N : Nat) (p1 : Int32) (p2 : Int32)  (hN0 : N < 2 ^ 31) (hw : w + 1 < n) (hfR : ∀ r L, f w r L = .inr (3, [.ref (a (w + 1))])) (hfA : ∀ r L, f (w + 1) r L = .inl (cA, N, .inl r)) : Met l yX3_put wsX3_put ({ frames := 0, cells := 0, slots := 0, locals := 0 } : Room) (va_Pc [.ref (a w), .int p1, .int p2] (gI G cA zq n a f S L sz)) (gQv G n a f (fX3_putq S w N p1 p2) L sz) 0 0 (mA n a sz) := by
  refine g_met (cc := cX3_put) (maxL := 3) (ret := none) (by decide) rfl (Nat.le_of_ble_eq_true rfl) ?_
  intro p e s m below meth c ls hx hb hr hlocks hml hts hown hnm hsz hK hP hS hl
  subst hsz
  have hl : lv_has ls 3 [(0, .ref (a w)), (1, .int p1), (2, .int p2)] := hl
  refine lv_iload_n hx hb dX3_put_0 rfl (lv_at hl 1 rfl) ?_
  refine lv_if_lt (tgt := 20) hx hb dX3_put_1 (by decide) (fun c1 => ?_) (fun c1 => ?_)
  ·
    exact g_vret hx hb hr hlocks (by unfold fX3_putq; rw [if_pos c1]) rfl hP hS dX3_put_20
  ·
    refine lv_iload_n hx hb dX3_put_4 rfl (lv_at hl 1 rfl) ?_
    refine lv_aload_n hx hb dX3_put_5 rfl (lv_at hl 0 rfl) ?_
    refine g_get (ci := 3) (C := RX3) (T := TX3) (N := 1) (v := .ref (a (w + 1))) hx hb hts iX3_put_X3q hown hK hP (by omega) (hfR _ _) rfl 0 (by decide) rfl (by decide +kernel) rfl dX3_put_6 ?_
    refine g_alen (N := N) hx hb hK hP hw (hfA _ _) dX3_put_9 ?_
    refine lv_icmp_ge (tgt := 20) hx hb dX3_put_10 (by decide) (fun c2 => ?_) (fun c2 => ?_)
    ·
      exact g_vret hx hb hr hlocks (by unfold fX3_putq; rw [if_neg c1, if_pos c2]) rfl hP hS dX3_put_20
    ·
      refine lv_aload_n hx hb dX3_put_13 rfl (lv_at hl 0 rfl) ?_
      refine g_get (ci := 3) (C := RX3) (T := TX3) (N := 1) (v := .ref (a (w + 1))) hx hb hts iX3_put_X3q hown hK hP (by omega) (hfR _ _) rfl 0 (by decide) rfl (by decide +kernel) rfl dX3_put_14 ?_
      refine lv_iload_n hx hb dX3_put_17 rfl (lv_at hl 1 rfl) ?_
      refine lv_iload_n hx hb dX3_put_18 rfl (lv_at hl 2 rfl) ?_
      refine g_iast (N := N) (g := S (w + 1)) hx hb hK ha mA_in hP hS hw (hfA _ _) (in_ge c1 c2 hN0) (hfA _ _) dX3_put_19 (fun H locs hP hS => ?_)
      exact g_vret hx hb hr hlocks (by unfold fX3_putq; rw [if_neg c1, if_neg c2]) rfl hP hS dX3_put_20

def bX3_fill_2_zSq (S : Mm) (w : Nat) (N : Nat) (p1 : Int32) (zS : Mm) (i : Nat) : Mm := up2 zS (w + 1) (nI i).toNatClampNeg p1
def lpX3_fill_2q (S : Mm) (w : Nat) (N : Nat) (p1 : Int32) : Nat → Mm
  | 0 => S
  | i + 1 => bX3_fill_2_zSq S w N p1 (lpX3_fill_2q S w N p1 i) i
theorem lpX3_fill_2_0q (S : Mm) (w : Nat) (N : Nat) (p1 : Int32) : lpX3_fill_2q S w N p1 0 = S := by rw [lpX3_fill_2q]
theorem lpX3_fill_2_sq (S : Mm) (w : Nat) (N : Nat) (p1 : Int32) (i : Nat) : lpX3_fill_2q S w N p1 (i + 1) = bX3_fill_2_zSq S w N p1 (lpX3_fill_2q S w N p1 i) i := by rw [lpX3_fill_2q]
def fX3_fillq (S : Mm) (w : Nat) (N : Nat) (p1 : Int32) : Mm := (lpX3_fill_2q S w N p1 ((Int32.ofNat N).toNatClampNeg))
theorem iX3_fill_X3q : ∀ w ∈ u_ws RX3 TX3 1, w ∈ wsX3_fill := by decide +kernel
set_option maxHeartbeats 4000000 in
set_option maxRecDepth 100000 in
theorem c_X3_fillq (l : Launch) (G : va_G) (cA : ClassId) (zq n : Nat) (f : Cf) (a : Nat → Nat) (ha : apart n a) (S : Mm) (L : Int64) (sz : Nat) (w : Nat) (N : Nat) (p1 : Int32)  (hN0 : N < 2 ^ 31) (hw : w + 1 < n) (hfR : ∀ r L, f w r L = .inr (3, [.ref (a (w + 1))])) (hfA : ∀ r L, f (w + 1) r L = .inl (cA, N, .inl r)) : Met l yX3_fill wsX3_fill ({ frames := 0, cells := 0, slots := 0, locals := 0 } : Room) (va_Pc [.ref (a w), .int p1] (gI G cA zq n a f S L sz)) (gQv G n a f (fX3_fillq S w N p1) L sz) 0 0 (mA n a sz) := by
  refine g_met (cc := cX3_fill) (maxL := 3) (ret := none) (by decide) rfl (Nat.le_of_ble_eq_true rfl) ?_
  intro p e s m below meth c ls hx hb hr hlocks hml hts hown hnm hsz hK hP hS hl
  subst hsz
  have hl : lv_has ls 3 [(0, .ref (a w)), (1, .int p1)] := hl
  refine lv_iconst (v := 0) hx hb dX3_fill_0 (by decide) ?_
  refine lv_istore_n (lv' := [(2, .int 0), (0, .ref (a w)), (1, .int p1)]) hx hb dX3_fill_1 rfl hl (by decide) rfl (fun ls hl => ?_)
  have loop : ∀ (k i : Nat), i ≤ (Int32.ofNat N).toNatClampNeg → (Int32.ofNat N).toNatClampNeg < i + k → ∀ (zS : Mm) (H : Heap) (locs : List Loc) (ls : Array Slot), zS = (lpX3_fill_2q S w N p1 i) → va_P G vwCl (wG n a f zS L) H → va_S (mA n a s.heap.size) s.heap H locs → lv_has ls 3 [(2, .int (nI i)), (0, .ref (a w)), (1, .int p1)] → W p l e ({ frames := 0, cells := 0, slots := 0, locals := 0 } : Room) s m ([.ref (a w), .int p1] : List Value).toArray below meth c H locs 0 0 (MQ below (gQv G n a f (fX3_fillq S w N p1) L s.heap.size) ([.ref (a w), .int p1] : List Value).toArray s 0 0 (mA n a s.heap.size)) (F0 m 2 ls []) := by
    intro k
    induction k with
    | zero => intro i h1 h2; omega
    | succ k ih =>
      intro i hi hk zS H locs ls ezS hP hS hl
      refine lv_iload_n hx hb dX3_fill_2 rfl (lv_at hl 0 rfl) ?_
      refine lv_aload_n hx hb dX3_fill_3 rfl (lv_at hl 1 rfl) ?_
      refine g_get (ci := 3) (C := RX3) (T := TX3) (N := 1) (v := .ref (a (w + 1))) hx hb hts iX3_fill_X3q hown hK hP (by omega) (hfR _ _) rfl 0 (by decide) rfl (by decide +kernel) rfl dX3_fill_4 ?_
      refine g_alen (N := N) hx hb hK hP hw (hfA _ _) dX3_fill_7 ?_
      refine lv_icmp_ge (tgt := 24) hx hb dX3_fill_8 (by decide) (fun cx => ?_) (fun cx => ?_)
      ·
        have hN := lx_exit hi cx
        subst hN
        rw [ezS] at hP
        exact g_vret hx hb hr hlocks (by unfold fX3_fillq; rfl) rfl hP hS dX3_fill_24
      ·
        have hlt := lx_body cx hi
        refine lv_aload_n hx hb dX3_fill_11 rfl (lv_at hl 1 rfl) ?_
        refine g_get (ci := 3) (C := RX3) (T := TX3) (N := 1) (v := .ref (a (w + 1))) hx hb hts iX3_fill_X3q hown hK hP (by omega) (hfR _ _) rfl 0 (by decide) rfl (by decide +kernel) rfl dX3_fill_12 ?_
        refine lv_iload_n hx hb dX3_fill_15 rfl (lv_at hl 0 rfl) ?_
        refine lv_iload_n hx hb dX3_fill_16 rfl (lv_at hl 2 rfl) ?_
        refine g_iast (N := N) (g := zS (w + 1)) hx hb hK ha mA_in hP hS hw (hfA _ _) (in_loop hlt hN0) (hfA _ _) dX3_fill_17 (fun H locs hP hS => ?_)
        refine lv_iinc (v := nI (i + 1)) (lv' := [(2, .int (nI (i + 1))), (0, .ref (a w)), (1, .int p1)]) hx hb dX3_fill_18 hl (k := 0) rfl (nI_1 i) (by decide) rfl (fun ls hl => ?_)
        refine lv_goto (tgt := 2) hx hb dX3_fill_21 (by decide) ?_
        exact ih (i + 1) (by omega) (by omega) (up2 zS (w + 1) (nI i).toNatClampNeg p1) _ _ _ (by rw [lpX3_fill_2_sq]; (try rw [← ezS]); (try dsimp only); unfold bX3_fill_2_zSq; rfl) hP hS (lv_sub hl [0, 1, 2] rfl)
  exact loop ((Int32.ofNat N).toNatClampNeg + 1) 0 (Nat.zero_le _) (by omega) S _ _ _ (by rw [lpX3_fill_2_0q]) hP hS (lv_sub hl [0, 1, 2] rfl)

def cWv (a : Nat → Nat) (cA : ClassId) : Cf := fun o r _ => match o with
  | 0 => .inr (8, [.ref (a 1)])
  | 1 => .inr (3, [.ref (a 2)])
  | _ => .inl (cA, 128, .inl r)
def jX8_init_1 (S : Mm) (zS : Mm) (i : Nat) : Int32 := (if 16 ≤ nI i then 0 else 1)
def jX8_init_2 (S : Mm) (zS : Mm) (i : Nat) : Int32 := (if (jX8_init_1 S zS i) = 0 then (-1000) else 1000)
def mX8_init_3 (S : Mm) (zS : Mm) (i : Nat) : Mm := fX3_putq (fX3_putq zS 1 128 (0 + (nI i)) ((-992) + (64 * (nI i)))) 1 128 (32 + (nI i)) (jX8_init_2 S zS i)
def jX8_init_4 (S : Mm) (zS : Mm) (i : Nat) : Int32 := (if (jX8_init_1 S zS i) = 0 then 1000 - (125 * ((nI i) - 16)) else (-1000) + (125 * (nI i)))
def bX8_init_20_zS (S : Mm) (zS : Mm) (i : Nat) : Mm := fX3_putq (mX8_init_3 S zS i) 1 128 (64 + (nI i)) (jX8_init_4 S zS i)
def lpX8_init_20 (S : Mm) : Nat → Mm
  | 0 => S
  | i + 1 => bX8_init_20_zS S (lpX8_init_20 S i) i
theorem lpX8_init_20_0 (S : Mm) : lpX8_init_20 S 0 = S := by rw [lpX8_init_20]
theorem lpX8_init_20_s (S : Mm) (i : Nat) : lpX8_init_20 S (i + 1) = bX8_init_20_zS S (lpX8_init_20 S i) i := by rw [lpX8_init_20]
def SW0 : Mm := (fun S : Mm => (lpX8_init_20 S ((32 : Int32).toNatClampNeg))) (fun _ _ => 0)
theorem iX8_init_X8 : ∀ w ∈ u_ws RX8 TX8 1, w ∈ wsX8_init := by decide +kernel
set_option maxHeartbeats 4000000 in
set_option maxRecDepth 100000 in
theorem c_X8_init (l : Launch) (G : va_G) (cA : ClassId) (zq h0 sz : Nat) : Met l yX8_init wsX8_init ({ frames := 2, cells := 2, slots := 129, locals := 42 } : Room) (va_Pc [.ref h0] (jI G cA zq [(h0, .inr (8, [.null]))] sz)) (jQ h0 G (fun b => wG 3 b (cWv b cA) SW0 0) [(h0, .inr (8, [.null]))] sz) 2 129 (va_A [(h0, .inr (8, [.null]))] sz) := by
  refine j_met (cc := cX8_init) (maxL := 3) (ret := none) (by decide) rfl (Nat.le_of_ble_eq_true rfl) ?_
  intro p e s m below meth c ls hx hb hr hlocks hml hts hown hin hsz hK hP hD hA hS hl
  subst hsz
  have hl : lv_has ls 3 [(0, .ref h0)] := hl
  refine lv_aload_n hx hb dX8_init_0 rfl (lv_at hl 0 rfl) ?_
  refine W.objInit hx hb hown (hts (.methodLink RX8 3 objectInit) (by decide +kernel)) (hts (.instanceMethod objectInit) (by decide +kernel)) (hts (.code objectInit ⟨#[0xb1]⟩ 1 none) (by decide +kernel)) rfl (by rw [hml]; exact hl.1) rfl dX8_init_1 (Nat.le_of_ble_eq_true rfl) (Nat.le_of_ble_eq_true rfl) ?_
  refine W.eq (g2 := F0 m 4 ls []) rfl ?_
  refine lv_aload_n hx hb dX8_init_4 rfl (lv_at hl 0 rfl) ?_
  refine va_new (ci := 3) (fs := [.null]) (C := RX3) (T := TX3) (N := 1) hx hb hts (by decide +kernel) tyX3 tyX3_ok hown (hts (.classLink RX8 9 RX3) (by decide +kernel)) (hts (.instantiable RX3 1) (by decide +kernel)) (hts (.initialized RX3) (by decide +kernel)) hK.1 hP hD hS hA rfl (fun j hj => by rcases (show j = 0 by omega) with rfl <;> rfl) (Nat.le_of_ble_eq_true rfl) (Nat.le_of_ble_eq_true rfl) dX8_init_5 (fun q5 H hP hD hS => ?_)
  have hP : va_P G vwCl [(h0, .inr (8, [.null])), (q5, .inr (3, [.null]))] H := hP
  have hD : va_D _ [(h0, .inr (8, [.null])), (q5, .inr (3, [.null]))] := hD
  refine lv_dup hx hb dX8_init_8 rfl ?_
  refine lv_sipush (v := 128) hx hb dX8_init_9 (by decide) ?_
  refine j_next (wr := [(h0, .inr (8, [.null]))]) (va_runI (As := [.int 128]) (rest := [.ref q5, .ref h0]) ⟨hx, hb, hml, hown, hts⟩ (c_X3_init l G cA zq q5 H.size 128 (by decide)) (cwI 1 hts gX8_init_X3_init rfl rfl rfl (hts (.initialized RX3) (by decide +kernel)) (hts (.methodLink RX8 11 yX3_init) (by decide +kernel)) (hts (.instanceMethod yX3_init) (by decide +kernel)) rfl (by decide +kernel) ⟨Nat.le_of_ble_eq_true rfl, Nat.le_of_ble_eq_true rfl⟩) (j_pre hK hP hD hS hA 1 rfl) rfl rfl hl.1 rfl (lv_room (Nat.le_of_ble_eq_true rfl)) dX8_init_12 ⟨Nat.le_of_ble_eq_true rfl, Nat.le_of_ble_eq_true rfl⟩) hP hD hS hA 1 [0] rfl rfl (by decide) (by decide) (fun b12 H locs hq hP hD hS => ?_)
  have hP : va_P G vwCl [(h0, .inr (8, [.null])), ((b12 0), .inr (3, [.ref (b12 1)])), ((b12 1), .inl (cA, 128, .inl (fun _ => 0)))] H := hP
  have hD : va_D _ [(h0, .inr (8, [.null])), ((b12 0), .inr (3, [.ref (b12 1)])), ((b12 1), .inl (cA, 128, .inl (fun _ => 0)))] := hD
  rw [hq] at hP hD
  refine va_putF (D := G) (ci := 8) (v := .ref q5) (ty := (.object "Melodeon$Row")) (C := RX8) (T := TX8) (N := 1) hx hb hts iX8_init_X8 tyX8 tyX8_ok nmX8 hown hK.1 hP hD hS 0 rfl rfl 0 (by decide) (hts (.fieldLink RX8 14 "Melodeon$Waves" "values" "LMelodeon$Row;") (by decide +kernel)) (fun _ h9 => h9) rfl hin rfl (by decide +kernel) rfl rfl (Nat.le_of_ble_eq_true rfl) dX8_init_15 (fun H locs hP hD hS => ?_)
  have hP : va_P G vwCl [(h0, .inr (8, [.ref q5])), (q5, .inr (3, [.ref (b12 1)])), ((b12 1), .inl (cA, 128, .inl (fun _ => 0)))] H := hP
  have hD : va_D _ [(h0, .inr (8, [.ref q5])), (q5, .inr (3, [.ref (b12 1)])), ((b12 1), .inl (cA, 128, .inl (fun _ => 0)))] := hD
  have hP9 := hP.sub (ws' := [(h0, .inr (8, [.ref q5])), (q5, .inr (3, [.ref (b12 1)])), ((b12 1), .inl (cA, 128, .inl (fun _ => 0)))]) [0, 1, 2] rfl
  have hD9 := hD.sub (ws' := [(h0, .inr (8, [.ref q5])), (q5, .inr (3, [.ref (b12 1)])), ((b12 1), .inl (cA, 128, .inl (fun _ => 0)))]) [0, 1, 2] (by decide) rfl
  obtain ⟨S, eS⟩ : ∃ S : Mm, S = (fun _ _ => 0) := ⟨_, rfl⟩
  obtain ⟨a, ea⟩ : ∃ a : Nat → Nat, a = fun k => [h0, q5, (b12 1)].getD k 0 := ⟨_, rfl⟩
  have hP : va_P G vwCl (wG 3 a (cWv a cA) S 0) H := by rw [ea, eS]; exact hP9
  have hD : va_D (va_A [(h0, .inr (8, [.null]))] s.heap.size) (wG 3 a (cWv a cA) S 0) := by rw [ea, eS]; exact hD9
  have ha : apart 3 a := fun i j hi hj e => hD.1 i j _ _ (wG_get hi) (wG_get hj) e
  have hAk : ∀ k, k < 3 → (va_A [(h0, .inr (8, [.null]))] s.heap.size) (a k) := fun k hk => hD.2 k _ (wG_get hk)
  have ha0 : a 0 = h0 := by rw [ea]; rfl
  rw [← ha0] at hl
  refine lv_iconst (v := 0) hx hb dX8_init_18 (by decide) ?_
  refine lv_istore_n (lv' := [(1, .int 0), (0, .ref (a 0))]) hx hb dX8_init_19 rfl hl (by decide) rfl (fun ls hl => ?_)
  have loop : ∀ (k i : Nat), i ≤ (32 : Int32).toNatClampNeg → (32 : Int32).toNatClampNeg < i + k → ∀ (zS : Mm) (H : Heap) (locs : List Loc) (ls : Array Slot), zS = (lpX8_init_20 S i) → va_P G vwCl (wG 3 a (cWv a cA) zS 0) H → va_S (va_A [(h0, .inr (8, [.null]))] s.heap.size) s.heap H locs → lv_has ls 3 [(1, .int (nI i)), (0, .ref (a 0))] → W p l e ({ frames := 2, cells := 2, slots := 129, locals := 42 } : Room) s m ([.ref h0] : List Value).toArray below meth c H locs 2 129 (MQ below (jQ h0 G (fun b => wG 3 b (cWv b cA) SW0 0) [(h0, .inr (8, [.null]))] s.heap.size) ([.ref h0] : List Value).toArray s 2 129 (va_A [(h0, .inr (8, [.null]))] s.heap.size)) (F0 m 20 ls []) := by
    intro k
    induction k with
    | zero => intro i h1 h2; omega
    | succ k ih =>
      intro i hi hk zS H locs ls ezS hP hS hl
      refine lv_iload_n hx hb dX8_init_20 rfl (lv_at hl 0 rfl) ?_
      refine lv_bipush (v := 32) hx hb dX8_init_21 (by decide) ?_
      refine lv_icmp_ge (tgt := 123) hx hb dX8_init_23 (by decide) (fun cx => ?_) (fun cx => ?_)
      ·
        have hN := lx_exit hi cx
        subst hN
        rw [ezS] at hP
        have hP : va_P G vwCl (wG 3 a (cWv a cA) SW0 0) H := by unfold SW0; dsimp only; rw [← eS]; exact hP
        exact j_vret (b := a) hx hb hr hlocks ha0 hP (wG_D ha hAk) hS dX8_init_123
      ·
        have hlt := lx_body cx hi
        refine lv_iload_n hx hb dX8_init_26 rfl (lv_at hl 0 rfl) ?_
        refine lv_bipush (v := 16) hx hb dX8_init_27 (by decide) ?_
        have hj2 : ∀ (zy0_hj2 : Int32) (H : Heap) (locs : List Loc) (ls : Array Slot), zy0_hj2 = (jX8_init_1 S zS i) → va_P G vwCl (wG 3 a (cWv a cA) zS 0) H → va_S (va_A [(h0, .inr (8, [.null]))] s.heap.size) s.heap H locs → lv_has ls 3 [(1, .int (nI i)), (0, .ref (a 0))] → W p l e ({ frames := 2, cells := 2, slots := 129, locals := 42 } : Room) s m ([.ref h0] : List Value).toArray below meth c H locs 2 129 (MQ below (jQ h0 G (fun b => wG 3 b (cWv b cA) SW0 0) [(h0, .inr (8, [.null]))] s.heap.size) ([.ref h0] : List Value).toArray s 2 129 (va_A [(h0, .inr (8, [.null]))] s.heap.size)) (F0 m 37 ls [.int zy0_hj2]) := by
          intro zy0_hj2 H locs ls ezy0_hj2 hP hS hl
          rw [ezy0_hj2]
          refine lv_istore_n (lv' := [(2, .int (jX8_init_1 S zS i)), (1, .int (nI i)), (0, .ref (a 0))]) hx hb dX8_init_37 rfl hl (by decide) rfl (fun ls hl => ?_)
          refine lv_aload_n hx hb dX8_init_38 rfl (lv_at hl 2 rfl) ?_
          refine g_get (ci := 8) (C := RX8) (T := TX8) (N := 1) (v := .ref (a 1)) hx hb hts iX8_init_X8 hown hK hP (by decide) rfl rfl 0 (by decide) rfl (by decide +kernel) rfl dX8_init_39 ?_
          refine lv_iconst (v := 0) hx hb dX8_init_42 (by decide) ?_
          refine lv_iload_n hx hb dX8_init_43 rfl (lv_at hl 1 rfl) ?_
          refine lv_iadd hx hb dX8_init_44 ?_
          refine lv_sipush (v := (-992)) hx hb dX8_init_45 (by decide) ?_
          refine lv_bipush (v := 64) hx hb dX8_init_48 (by decide) ?_
          refine lv_iload_n hx hb dX8_init_50 rfl (lv_at hl 1 rfl) ?_
          refine lv_imul hx hb dX8_init_51 ?_
          refine lv_iadd hx hb dX8_init_52 ?_
          refine g_cVv (As := [.int (0 + (nI i)), .int ((-992) + (64 * (nI i)))]) (rest := []) ⟨hx, hb, hml, hown, hts⟩ (c_X3_putq l G cA zq 3 (cWv a cA) a ha zS 0 H.size 1 128 (0 + (nI i)) ((-992) + (64 * (nI i))) (by decide) (by decide) (fun _ _ => rfl) (fun _ _ => rfl)) (cwV 2 hts gX8_init_X3_put rfl rfl rfl (by decide +kernel) ⟨Nat.le_of_ble_eq_true rfl, Nat.le_of_ble_eq_true rfl⟩) (g_recv hK hP (by decide) rfl (C := RX3) (T := TX3) (N := 1) rfl) hK (fun x hx => hx.elim (fun ⟨k, hk, e⟩ => e ▸ hAk k hk) (fun h => Or.inr (Nat.le_trans hS.1 h))) hP hS rfl hl.1 rfl (lv_room (Nat.le_of_ble_eq_true rfl)) dX8_init_53 ⟨Nat.le_of_ble_eq_true rfl, Nat.le_of_ble_eq_true rfl⟩ (fun H locs hP hS _ _ => ?_)
          refine lv_aload_n hx hb dX8_init_56 rfl (lv_at hl 2 rfl) ?_
          refine g_get (ci := 8) (C := RX8) (T := TX8) (N := 1) (v := .ref (a 1)) hx hb hts iX8_init_X8 hown hK hP (by decide) rfl rfl 0 (by decide) rfl (by decide +kernel) rfl dX8_init_57 ?_
          refine lv_bipush (v := 32) hx hb dX8_init_60 (by decide) ?_
          refine lv_iload_n hx hb dX8_init_62 rfl (lv_at hl 1 rfl) ?_
          refine lv_iadd hx hb dX8_init_63 ?_
          refine lv_iload_n hx hb dX8_init_64 rfl (lv_at hl 0 rfl) ?_
          have hj4 : ∀ (zy0_hj4 : Int32) (H : Heap) (locs : List Loc) (ls : Array Slot), zy0_hj4 = (jX8_init_2 S zS i) → va_P G vwCl (wG 3 a (cWv a cA) (fX3_putq zS 1 128 (0 + (nI i)) ((-992) + (64 * (nI i)))) 0) H → va_S (va_A [(h0, .inr (8, [.null]))] s.heap.size) s.heap H locs → lv_has ls 3 [(2, .int (jX8_init_1 S zS i)), (1, .int (nI i)), (0, .ref (a 0))] → W p l e ({ frames := 2, cells := 2, slots := 129, locals := 42 } : Room) s m ([.ref h0] : List Value).toArray below meth c H locs 2 129 (MQ below (jQ h0 G (fun b => wG 3 b (cWv b cA) SW0 0) [(h0, .inr (8, [.null]))] s.heap.size) ([.ref h0] : List Value).toArray s 2 129 (va_A [(h0, .inr (8, [.null]))] s.heap.size)) (F0 m 77 ls [.int zy0_hj4, .int (32 + (nI i)), .ref (a 1)]) := by
            intro zy0_hj4 H locs ls ezy0_hj4 hP hS hl
            rw [ezy0_hj4]
            refine g_cVv (As := [.int (32 + (nI i)), .int (jX8_init_2 S zS i)]) (rest := []) ⟨hx, hb, hml, hown, hts⟩ (c_X3_putq l G cA zq 3 (cWv a cA) a ha (fX3_putq zS 1 128 (0 + (nI i)) ((-992) + (64 * (nI i)))) 0 H.size 1 128 (32 + (nI i)) (jX8_init_2 S zS i) (by decide) (by decide) (fun _ _ => rfl) (fun _ _ => rfl)) (cwV 2 hts gX8_init_X3_put rfl rfl rfl (by decide +kernel) ⟨Nat.le_of_ble_eq_true rfl, Nat.le_of_ble_eq_true rfl⟩) (g_recv hK hP (by decide) rfl (C := RX3) (T := TX3) (N := 1) rfl) hK (fun x hx => hx.elim (fun ⟨k, hk, e⟩ => e ▸ hAk k hk) (fun h => Or.inr (Nat.le_trans hS.1 h))) hP hS rfl hl.1 rfl (lv_room (Nat.le_of_ble_eq_true rfl)) dX8_init_77 ⟨Nat.le_of_ble_eq_true rfl, Nat.le_of_ble_eq_true rfl⟩ (fun H locs hP hS _ _ => ?_)
            have hP : va_P G vwCl (wG 3 a (cWv a cA) (mX8_init_3 S zS i) 0) H := hP
            refine lv_aload_n hx hb dX8_init_80 rfl (lv_at hl 2 rfl) ?_
            refine g_get (ci := 8) (C := RX8) (T := TX8) (N := 1) (v := .ref (a 1)) hx hb hts iX8_init_X8 hown hK hP (by decide) rfl rfl 0 (by decide) rfl (by decide +kernel) rfl dX8_init_81 ?_
            refine lv_bipush (v := 64) hx hb dX8_init_84 (by decide) ?_
            refine lv_iload_n hx hb dX8_init_86 rfl (lv_at hl 1 rfl) ?_
            refine lv_iadd hx hb dX8_init_87 ?_
            refine lv_iload_n hx hb dX8_init_88 rfl (lv_at hl 0 rfl) ?_
            have hj6 : ∀ (zy0_hj6 : Int32) (H : Heap) (locs : List Loc) (ls : Array Slot), zy0_hj6 = (jX8_init_4 S zS i) → va_P G vwCl (wG 3 a (cWv a cA) (mX8_init_3 S zS i) 0) H → va_S (va_A [(h0, .inr (8, [.null]))] s.heap.size) s.heap H locs → lv_has ls 3 [(2, .int (jX8_init_1 S zS i)), (1, .int (nI i)), (0, .ref (a 0))] → W p l e ({ frames := 2, cells := 2, slots := 129, locals := 42 } : Room) s m ([.ref h0] : List Value).toArray below meth c H locs 2 129 (MQ below (jQ h0 G (fun b => wG 3 b (cWv b cA) SW0 0) [(h0, .inr (8, [.null]))] s.heap.size) ([.ref h0] : List Value).toArray s 2 129 (va_A [(h0, .inr (8, [.null]))] s.heap.size)) (F0 m 114 ls [.int zy0_hj6, .int (64 + (nI i)), .ref (a 1)]) := by
              intro zy0_hj6 H locs ls ezy0_hj6 hP hS hl
              rw [ezy0_hj6]
              refine g_cVv (As := [.int (64 + (nI i)), .int (jX8_init_4 S zS i)]) (rest := []) ⟨hx, hb, hml, hown, hts⟩ (c_X3_putq l G cA zq 3 (cWv a cA) a ha (mX8_init_3 S zS i) 0 H.size 1 128 (64 + (nI i)) (jX8_init_4 S zS i) (by decide) (by decide) (fun _ _ => rfl) (fun _ _ => rfl)) (cwV 2 hts gX8_init_X3_put rfl rfl rfl (by decide +kernel) ⟨Nat.le_of_ble_eq_true rfl, Nat.le_of_ble_eq_true rfl⟩) (g_recv hK hP (by decide) rfl (C := RX3) (T := TX3) (N := 1) rfl) hK (fun x hx => hx.elim (fun ⟨k, hk, e⟩ => e ▸ hAk k hk) (fun h => Or.inr (Nat.le_trans hS.1 h))) hP hS rfl hl.1 rfl (lv_room (Nat.le_of_ble_eq_true rfl)) dX8_init_114 ⟨Nat.le_of_ble_eq_true rfl, Nat.le_of_ble_eq_true rfl⟩ (fun H locs hP hS _ _ => ?_)
              refine lv_iinc (v := nI (i + 1)) (lv' := [(1, .int (nI (i + 1))), (2, .int (jX8_init_1 S zS i)), (0, .ref (a 0))]) hx hb dX8_init_117 hl (k := 1) rfl (nI_1 i) (by decide) rfl (fun ls hl => ?_)
              refine lv_goto (tgt := 20) hx hb dX8_init_120 (by decide) ?_
              exact ih (i + 1) (by omega) (by omega) (fX3_putq (mX8_init_3 S zS i) 1 128 (64 + (nI i)) (jX8_init_4 S zS i)) _ _ _ (by rw [lpX8_init_20_s]; (try rw [← ezS]); (try dsimp only); unfold bX8_init_20_zS; rfl) hP hS (lv_sub hl [0, 2] rfl)
            refine lv_if_eq (tgt := 103) hx hb dX8_init_89 (by decide) (fun c5 => ?_) (fun c5 => ?_)
            ·
              refine lv_sipush (v := 1000) hx hb dX8_init_103 (by decide) ?_
              refine lv_bipush (v := 125) hx hb dX8_init_106 (by decide) ?_
              refine lv_iload_n hx hb dX8_init_108 rfl (lv_at hl 1 rfl) ?_
              refine lv_bipush (v := 16) hx hb dX8_init_109 (by decide) ?_
              refine lv_isub hx hb dX8_init_111 ?_
              refine lv_imul hx hb dX8_init_112 ?_
              refine lv_isub hx hb dX8_init_113 ?_
              exact hj6 _ _ _ _ (by unfold jX8_init_4; rw [if_pos c5]) hP hS (lv_sub hl [0, 1, 2] rfl)
            ·
              refine lv_sipush (v := (-1000)) hx hb dX8_init_92 (by decide) ?_
              refine lv_bipush (v := 125) hx hb dX8_init_95 (by decide) ?_
              refine lv_iload_n hx hb dX8_init_97 rfl (lv_at hl 1 rfl) ?_
              refine lv_imul hx hb dX8_init_98 ?_
              refine lv_iadd hx hb dX8_init_99 ?_
              refine lv_goto (tgt := 114) hx hb dX8_init_100 (by decide) ?_
              exact hj6 _ _ _ _ (by unfold jX8_init_4; rw [if_neg c5]) hP hS (lv_sub hl [0, 1, 2] rfl)
          refine lv_if_eq (tgt := 74) hx hb dX8_init_65 (by decide) (fun c3 => ?_) (fun c3 => ?_)
          ·
            refine lv_sipush (v := (-1000)) hx hb dX8_init_74 (by decide) ?_
            exact hj4 _ _ _ _ (by unfold jX8_init_2; rw [if_pos c3]) hP hS (lv_sub hl [0, 1, 2] rfl)
          ·
            refine lv_sipush (v := 1000) hx hb dX8_init_68 (by decide) ?_
            refine lv_goto (tgt := 77) hx hb dX8_init_71 (by decide) ?_
            exact hj4 _ _ _ _ (by unfold jX8_init_2; rw [if_neg c3]) hP hS (lv_sub hl [0, 1, 2] rfl)
        refine lv_icmp_ge (tgt := 36) hx hb dX8_init_29 (by decide) (fun c1 => ?_) (fun c1 => ?_)
        ·
          refine lv_iconst (v := 0) hx hb dX8_init_36 (by decide) ?_
          exact hj2 _ _ _ _ (by unfold jX8_init_1; rw [if_pos c1]) hP hS (lv_sub hl [0, 1] rfl)
        ·
          refine lv_iconst (v := 1) hx hb dX8_init_32 (by decide) ?_
          refine lv_goto (tgt := 37) hx hb dX8_init_33 (by decide) ?_
          exact hj2 _ _ _ _ (by unfold jX8_init_1; rw [if_neg c1]) hP hS (lv_sub hl [0, 1] rfl)
  exact loop ((32 : Int32).toNatClampNeg + 1) 0 (Nat.zero_le _) (by omega) S _ _ _ (by rw [lpX8_init_20_0]) hP hS (lv_sub hl [0, 1] rfl)
def cSc (a : Nat → Nat) (cA : ClassId) : Cf := fun o r _ => match o with
  | 0 => .inr (4, [.ref (a 1), .ref (a 3), .ref (a 5), .ref (a 7), .int (r 4), .int (r 5)])
  | 1 => .inr (3, [.ref (a 2)])
  | 2 => .inl (cA, 3, .inl r)
  | 3 => .inr (3, [.ref (a 4)])
  | 4 => .inl (cA, 24, .inl r)
  | 5 => .inr (3, [.ref (a 6)])
  | 6 => .inl (cA, 24, .inl r)
  | 7 => .inr (3, [.ref (a 8)])
  | _ => .inl (cA, 24, .inl r)
def SC0 : Mm := (fun S : Mm => fX3_fillq S 3 24 ((-1) : Int32)) (fun o k => if o = 0 then (if k = 4 then 20 else 0) else 0)
theorem iX4_init_X4 : ∀ w ∈ u_ws RX4 TX4 6, w ∈ wsX4_init := by decide +kernel
set_option maxHeartbeats 4000000 in
set_option maxRecDepth 100000 in
theorem c_X4_init (l : Launch) (G : va_G) (cA : ClassId) (zq h0 sz : Nat) : Met l yX4_init wsX4_init ({ frames := 2, cells := 8, slots := 79, locals := 42 } : Room) (va_Pc [.ref h0] (jI G cA zq [(h0, .inr (4, [.null, .null, .null, .null, .int 0, .int 0]))] sz)) (jQ h0 G (fun b => wG 9 b (cSc b cA) SC0 0) [(h0, .inr (4, [.null, .null, .null, .null, .int 0, .int 0]))] sz) 8 79 (va_A [(h0, .inr (4, [.null, .null, .null, .null, .int 0, .int 0]))] sz) := by
  refine j_met (cc := cX4_init) (maxL := 1) (ret := none) (by decide) rfl (Nat.le_of_ble_eq_true rfl) ?_
  intro p e s m below meth c ls hx hb hr hlocks hml hts hown hin hsz hK hP hD hA hS hl
  subst hsz
  have hl : lv_has ls 1 [(0, .ref h0)] := hl
  refine lv_aload_n hx hb dX4_init_0 rfl (lv_at hl 0 rfl) ?_
  refine W.objInit hx hb hown (hts (.methodLink RX4 3 objectInit) (by decide +kernel)) (hts (.instanceMethod objectInit) (by decide +kernel)) (hts (.code objectInit ⟨#[0xb1]⟩ 1 none) (by decide +kernel)) rfl (by rw [hml]; exact hl.1) rfl dX4_init_1 (Nat.le_of_ble_eq_true rfl) (Nat.le_of_ble_eq_true rfl) ?_
  refine W.eq (g2 := F0 m 4 ls []) rfl ?_
  refine lv_aload_n hx hb dX4_init_4 rfl (lv_at hl 0 rfl) ?_
  refine va_new (ci := 3) (fs := [.null]) (C := RX3) (T := TX3) (N := 1) hx hb hts (by decide +kernel) tyX3 tyX3_ok hown (hts (.classLink RX4 9 RX3) (by decide +kernel)) (hts (.instantiable RX3 1) (by decide +kernel)) (hts (.initialized RX3) (by decide +kernel)) hK.1 hP hD hS hA rfl (fun j hj => by rcases (show j = 0 by omega) with rfl <;> rfl) (Nat.le_of_ble_eq_true rfl) (Nat.le_of_ble_eq_true rfl) dX4_init_5 (fun q5 H hP hD hS => ?_)
  have hP : va_P G vwCl [(h0, .inr (4, [.null, .null, .null, .null, .int 0, .int 0])), (q5, .inr (3, [.null]))] H := hP
  have hD : va_D _ [(h0, .inr (4, [.null, .null, .null, .null, .int 0, .int 0])), (q5, .inr (3, [.null]))] := hD
  refine lv_dup hx hb dX4_init_8 rfl ?_
  refine lv_iconst (v := 3) hx hb dX4_init_9 (by decide) ?_
  refine j_next (wr := [(h0, .inr (4, [.null, .null, .null, .null, .int 0, .int 0]))]) (va_runI (As := [.int 3]) (rest := [.ref q5, .ref h0]) ⟨hx, hb, hml, hown, hts⟩ (c_X3_init l G cA zq q5 H.size 3 (by decide)) (cwI 1 hts gX4_init_X3_init rfl rfl rfl (hts (.initialized RX3) (by decide +kernel)) (hts (.methodLink RX4 11 yX3_init) (by decide +kernel)) (hts (.instanceMethod yX3_init) (by decide +kernel)) rfl (by decide +kernel) ⟨Nat.le_of_ble_eq_true rfl, Nat.le_of_ble_eq_true rfl⟩) (j_pre hK hP hD hS hA 1 rfl) rfl rfl hl.1 rfl (lv_room (Nat.le_of_ble_eq_true rfl)) dX4_init_10 ⟨Nat.le_of_ble_eq_true rfl, Nat.le_of_ble_eq_true rfl⟩) hP hD hS hA 1 [0] rfl rfl (by decide) (by decide) (fun b10 H locs hq hP hD hS => ?_)
  have hP : va_P G vwCl [(h0, .inr (4, [.null, .null, .null, .null, .int 0, .int 0])), ((b10 0), .inr (3, [.ref (b10 1)])), ((b10 1), .inl (cA, 3, .inl (fun _ => 0)))] H := hP
  have hD : va_D _ [(h0, .inr (4, [.null, .null, .null, .null, .int 0, .int 0])), ((b10 0), .inr (3, [.ref (b10 1)])), ((b10 1), .inl (cA, 3, .inl (fun _ => 0)))] := hD
  rw [hq] at hP hD
  refine va_putF (D := G) (ci := 4) (v := .ref q5) (ty := (.object "Melodeon$Row")) (C := RX4) (T := TX4) (N := 6) hx hb hts iX4_init_X4 tyX4 tyX4_ok nmX4 hown hK.1 hP hD hS 0 rfl rfl 0 (by decide) (hts (.fieldLink RX4 14 "Melodeon$Score" "instruments" "LMelodeon$Row;") (by decide +kernel)) (fun _ h9 => h9) rfl hin rfl (by decide +kernel) rfl rfl (Nat.le_of_ble_eq_true rfl) dX4_init_13 (fun H locs hP hD hS => ?_)
  have hP : va_P G vwCl [(h0, .inr (4, [.ref q5, .null, .null, .null, .int 0, .int 0])), (q5, .inr (3, [.ref (b10 1)])), ((b10 1), .inl (cA, 3, .inl (fun _ => 0)))] H := hP
  have hD : va_D _ [(h0, .inr (4, [.ref q5, .null, .null, .null, .int 0, .int 0])), (q5, .inr (3, [.ref (b10 1)])), ((b10 1), .inl (cA, 3, .inl (fun _ => 0)))] := hD
  refine lv_aload_n hx hb dX4_init_16 rfl (lv_at hl 0 rfl) ?_
  refine va_new (ci := 3) (fs := [.null]) (C := RX3) (T := TX3) (N := 1) hx hb hts (by decide +kernel) tyX3 tyX3_ok hown (hts (.classLink RX4 9 RX3) (by decide +kernel)) (hts (.instantiable RX3 1) (by decide +kernel)) (hts (.initialized RX3) (by decide +kernel)) hK.1 hP hD hS hA rfl (fun j hj => by rcases (show j = 0 by omega) with rfl <;> rfl) (Nat.le_of_ble_eq_true rfl) (Nat.le_of_ble_eq_true rfl) dX4_init_17 (fun q17 H hP hD hS => ?_)
  have hP : va_P G vwCl [(h0, .inr (4, [.ref q5, .null, .null, .null, .int 0, .int 0])), (q5, .inr (3, [.ref (b10 1)])), ((b10 1), .inl (cA, 3, .inl (fun _ => 0))), (q17, .inr (3, [.null]))] H := hP
  have hD : va_D _ [(h0, .inr (4, [.ref q5, .null, .null, .null, .int 0, .int 0])), (q5, .inr (3, [.ref (b10 1)])), ((b10 1), .inl (cA, 3, .inl (fun _ => 0))), (q17, .inr (3, [.null]))] := hD
  refine lv_dup hx hb dX4_init_20 rfl ?_
  refine lv_bipush (v := 24) hx hb dX4_init_21 (by decide) ?_
  refine j_next (wr := [(h0, .inr (4, [.ref q5, .null, .null, .null, .int 0, .int 0])), (q5, .inr (3, [.ref (b10 1)])), ((b10 1), .inl (cA, 3, .inl (fun _ => 0)))]) (va_runI (As := [.int 24]) (rest := [.ref q17, .ref h0]) ⟨hx, hb, hml, hown, hts⟩ (c_X3_init l G cA zq q17 H.size 24 (by decide)) (cwI 1 hts gX4_init_X3_init rfl rfl rfl (hts (.initialized RX3) (by decide +kernel)) (hts (.methodLink RX4 11 yX3_init) (by decide +kernel)) (hts (.instanceMethod yX3_init) (by decide +kernel)) rfl (by decide +kernel) ⟨Nat.le_of_ble_eq_true rfl, Nat.le_of_ble_eq_true rfl⟩) (j_pre hK hP hD hS hA 3 rfl) rfl rfl hl.1 rfl (lv_room (Nat.le_of_ble_eq_true rfl)) dX4_init_23 ⟨Nat.le_of_ble_eq_true rfl, Nat.le_of_ble_eq_true rfl⟩) hP hD hS hA 3 [0, 1, 2] rfl rfl (by decide) (by decide) (fun b23 H locs hq hP hD hS => ?_)
  have hP : va_P G vwCl [(h0, .inr (4, [.ref q5, .null, .null, .null, .int 0, .int 0])), (q5, .inr (3, [.ref (b10 1)])), ((b10 1), .inl (cA, 3, .inl (fun _ => 0))), ((b23 0), .inr (3, [.ref (b23 1)])), ((b23 1), .inl (cA, 24, .inl (fun _ => 0)))] H := hP
  have hD : va_D _ [(h0, .inr (4, [.ref q5, .null, .null, .null, .int 0, .int 0])), (q5, .inr (3, [.ref (b10 1)])), ((b10 1), .inl (cA, 3, .inl (fun _ => 0))), ((b23 0), .inr (3, [.ref (b23 1)])), ((b23 1), .inl (cA, 24, .inl (fun _ => 0)))] := hD
  rw [hq] at hP hD
  refine va_putF (D := G) (ci := 4) (v := .ref q17) (ty := (.object "Melodeon$Row")) (C := RX4) (T := TX4) (N := 6) hx hb hts iX4_init_X4 tyX4 tyX4_ok nmX4 hown hK.1 hP hD hS 0 rfl rfl 1 (by decide) (hts (.fieldLink RX4 20 "Melodeon$Score" "pitches" "LMelodeon$Row;") (by decide +kernel)) (fun _ h9 => h9) rfl hin rfl (by decide +kernel) rfl rfl (Nat.le_of_ble_eq_true rfl) dX4_init_26 (fun H locs hP hD hS => ?_)
  have hP : va_P G vwCl [(h0, .inr (4, [.ref q5, .ref q17, .null, .null, .int 0, .int 0])), (q5, .inr (3, [.ref (b10 1)])), ((b10 1), .inl (cA, 3, .inl (fun _ => 0))), (q17, .inr (3, [.ref (b23 1)])), ((b23 1), .inl (cA, 24, .inl (fun _ => 0)))] H := hP
  have hD : va_D _ [(h0, .inr (4, [.ref q5, .ref q17, .null, .null, .int 0, .int 0])), (q5, .inr (3, [.ref (b10 1)])), ((b10 1), .inl (cA, 3, .inl (fun _ => 0))), (q17, .inr (3, [.ref (b23 1)])), ((b23 1), .inl (cA, 24, .inl (fun _ => 0)))] := hD
  refine lv_aload_n hx hb dX4_init_29 rfl (lv_at hl 0 rfl) ?_
  refine va_new (ci := 3) (fs := [.null]) (C := RX3) (T := TX3) (N := 1) hx hb hts (by decide +kernel) tyX3 tyX3_ok hown (hts (.classLink RX4 9 RX3) (by decide +kernel)) (hts (.instantiable RX3 1) (by decide +kernel)) (hts (.initialized RX3) (by decide +kernel)) hK.1 hP hD hS hA rfl (fun j hj => by rcases (show j = 0 by omega) with rfl <;> rfl) (Nat.le_of_ble_eq_true rfl) (Nat.le_of_ble_eq_true rfl) dX4_init_30 (fun q30 H hP hD hS => ?_)
  have hP : va_P G vwCl [(h0, .inr (4, [.ref q5, .ref q17, .null, .null, .int 0, .int 0])), (q5, .inr (3, [.ref (b10 1)])), ((b10 1), .inl (cA, 3, .inl (fun _ => 0))), (q17, .inr (3, [.ref (b23 1)])), ((b23 1), .inl (cA, 24, .inl (fun _ => 0))), (q30, .inr (3, [.null]))] H := hP
  have hD : va_D _ [(h0, .inr (4, [.ref q5, .ref q17, .null, .null, .int 0, .int 0])), (q5, .inr (3, [.ref (b10 1)])), ((b10 1), .inl (cA, 3, .inl (fun _ => 0))), (q17, .inr (3, [.ref (b23 1)])), ((b23 1), .inl (cA, 24, .inl (fun _ => 0))), (q30, .inr (3, [.null]))] := hD
  refine lv_dup hx hb dX4_init_33 rfl ?_
  refine lv_bipush (v := 24) hx hb dX4_init_34 (by decide) ?_
  refine j_next (wr := [(h0, .inr (4, [.ref q5, .ref q17, .null, .null, .int 0, .int 0])), (q5, .inr (3, [.ref (b10 1)])), ((b10 1), .inl (cA, 3, .inl (fun _ => 0))), (q17, .inr (3, [.ref (b23 1)])), ((b23 1), .inl (cA, 24, .inl (fun _ => 0)))]) (va_runI (As := [.int 24]) (rest := [.ref q30, .ref h0]) ⟨hx, hb, hml, hown, hts⟩ (c_X3_init l G cA zq q30 H.size 24 (by decide)) (cwI 1 hts gX4_init_X3_init rfl rfl rfl (hts (.initialized RX3) (by decide +kernel)) (hts (.methodLink RX4 11 yX3_init) (by decide +kernel)) (hts (.instanceMethod yX3_init) (by decide +kernel)) rfl (by decide +kernel) ⟨Nat.le_of_ble_eq_true rfl, Nat.le_of_ble_eq_true rfl⟩) (j_pre hK hP hD hS hA 5 rfl) rfl rfl hl.1 rfl (lv_room (Nat.le_of_ble_eq_true rfl)) dX4_init_36 ⟨Nat.le_of_ble_eq_true rfl, Nat.le_of_ble_eq_true rfl⟩) hP hD hS hA 5 [0, 1, 2, 3, 4] rfl rfl (by decide) (by decide) (fun b36 H locs hq hP hD hS => ?_)
  have hP : va_P G vwCl [(h0, .inr (4, [.ref q5, .ref q17, .null, .null, .int 0, .int 0])), (q5, .inr (3, [.ref (b10 1)])), ((b10 1), .inl (cA, 3, .inl (fun _ => 0))), (q17, .inr (3, [.ref (b23 1)])), ((b23 1), .inl (cA, 24, .inl (fun _ => 0))), ((b36 0), .inr (3, [.ref (b36 1)])), ((b36 1), .inl (cA, 24, .inl (fun _ => 0)))] H := hP
  have hD : va_D _ [(h0, .inr (4, [.ref q5, .ref q17, .null, .null, .int 0, .int 0])), (q5, .inr (3, [.ref (b10 1)])), ((b10 1), .inl (cA, 3, .inl (fun _ => 0))), (q17, .inr (3, [.ref (b23 1)])), ((b23 1), .inl (cA, 24, .inl (fun _ => 0))), ((b36 0), .inr (3, [.ref (b36 1)])), ((b36 1), .inl (cA, 24, .inl (fun _ => 0)))] := hD
  rw [hq] at hP hD
  refine va_putF (D := G) (ci := 4) (v := .ref q30) (ty := (.object "Melodeon$Row")) (C := RX4) (T := TX4) (N := 6) hx hb hts iX4_init_X4 tyX4 tyX4_ok nmX4 hown hK.1 hP hD hS 0 rfl rfl 2 (by decide) (hts (.fieldLink RX4 23 "Melodeon$Score" "forces" "LMelodeon$Row;") (by decide +kernel)) (fun _ h9 => h9) rfl hin rfl (by decide +kernel) rfl rfl (Nat.le_of_ble_eq_true rfl) dX4_init_39 (fun H locs hP hD hS => ?_)
  have hP : va_P G vwCl [(h0, .inr (4, [.ref q5, .ref q17, .ref q30, .null, .int 0, .int 0])), (q5, .inr (3, [.ref (b10 1)])), ((b10 1), .inl (cA, 3, .inl (fun _ => 0))), (q17, .inr (3, [.ref (b23 1)])), ((b23 1), .inl (cA, 24, .inl (fun _ => 0))), (q30, .inr (3, [.ref (b36 1)])), ((b36 1), .inl (cA, 24, .inl (fun _ => 0)))] H := hP
  have hD : va_D _ [(h0, .inr (4, [.ref q5, .ref q17, .ref q30, .null, .int 0, .int 0])), (q5, .inr (3, [.ref (b10 1)])), ((b10 1), .inl (cA, 3, .inl (fun _ => 0))), (q17, .inr (3, [.ref (b23 1)])), ((b23 1), .inl (cA, 24, .inl (fun _ => 0))), (q30, .inr (3, [.ref (b36 1)])), ((b36 1), .inl (cA, 24, .inl (fun _ => 0)))] := hD
  refine lv_aload_n hx hb dX4_init_42 rfl (lv_at hl 0 rfl) ?_
  refine va_new (ci := 3) (fs := [.null]) (C := RX3) (T := TX3) (N := 1) hx hb hts (by decide +kernel) tyX3 tyX3_ok hown (hts (.classLink RX4 9 RX3) (by decide +kernel)) (hts (.instantiable RX3 1) (by decide +kernel)) (hts (.initialized RX3) (by decide +kernel)) hK.1 hP hD hS hA rfl (fun j hj => by rcases (show j = 0 by omega) with rfl <;> rfl) (Nat.le_of_ble_eq_true rfl) (Nat.le_of_ble_eq_true rfl) dX4_init_43 (fun q43 H hP hD hS => ?_)
  have hP : va_P G vwCl [(h0, .inr (4, [.ref q5, .ref q17, .ref q30, .null, .int 0, .int 0])), (q5, .inr (3, [.ref (b10 1)])), ((b10 1), .inl (cA, 3, .inl (fun _ => 0))), (q17, .inr (3, [.ref (b23 1)])), ((b23 1), .inl (cA, 24, .inl (fun _ => 0))), (q30, .inr (3, [.ref (b36 1)])), ((b36 1), .inl (cA, 24, .inl (fun _ => 0))), (q43, .inr (3, [.null]))] H := hP
  have hD : va_D _ [(h0, .inr (4, [.ref q5, .ref q17, .ref q30, .null, .int 0, .int 0])), (q5, .inr (3, [.ref (b10 1)])), ((b10 1), .inl (cA, 3, .inl (fun _ => 0))), (q17, .inr (3, [.ref (b23 1)])), ((b23 1), .inl (cA, 24, .inl (fun _ => 0))), (q30, .inr (3, [.ref (b36 1)])), ((b36 1), .inl (cA, 24, .inl (fun _ => 0))), (q43, .inr (3, [.null]))] := hD
  refine lv_dup hx hb dX4_init_46 rfl ?_
  refine lv_bipush (v := 24) hx hb dX4_init_47 (by decide) ?_
  refine j_next (wr := [(h0, .inr (4, [.ref q5, .ref q17, .ref q30, .null, .int 0, .int 0])), (q5, .inr (3, [.ref (b10 1)])), ((b10 1), .inl (cA, 3, .inl (fun _ => 0))), (q17, .inr (3, [.ref (b23 1)])), ((b23 1), .inl (cA, 24, .inl (fun _ => 0))), (q30, .inr (3, [.ref (b36 1)])), ((b36 1), .inl (cA, 24, .inl (fun _ => 0)))]) (va_runI (As := [.int 24]) (rest := [.ref q43, .ref h0]) ⟨hx, hb, hml, hown, hts⟩ (c_X3_init l G cA zq q43 H.size 24 (by decide)) (cwI 1 hts gX4_init_X3_init rfl rfl rfl (hts (.initialized RX3) (by decide +kernel)) (hts (.methodLink RX4 11 yX3_init) (by decide +kernel)) (hts (.instanceMethod yX3_init) (by decide +kernel)) rfl (by decide +kernel) ⟨Nat.le_of_ble_eq_true rfl, Nat.le_of_ble_eq_true rfl⟩) (j_pre hK hP hD hS hA 7 rfl) rfl rfl hl.1 rfl (lv_room (Nat.le_of_ble_eq_true rfl)) dX4_init_49 ⟨Nat.le_of_ble_eq_true rfl, Nat.le_of_ble_eq_true rfl⟩) hP hD hS hA 7 [0, 1, 2, 3, 4, 5, 6] rfl rfl (by decide) (by decide) (fun b49 H locs hq hP hD hS => ?_)
  have hP : va_P G vwCl [(h0, .inr (4, [.ref q5, .ref q17, .ref q30, .null, .int 0, .int 0])), (q5, .inr (3, [.ref (b10 1)])), ((b10 1), .inl (cA, 3, .inl (fun _ => 0))), (q17, .inr (3, [.ref (b23 1)])), ((b23 1), .inl (cA, 24, .inl (fun _ => 0))), (q30, .inr (3, [.ref (b36 1)])), ((b36 1), .inl (cA, 24, .inl (fun _ => 0))), ((b49 0), .inr (3, [.ref (b49 1)])), ((b49 1), .inl (cA, 24, .inl (fun _ => 0)))] H := hP
  have hD : va_D _ [(h0, .inr (4, [.ref q5, .ref q17, .ref q30, .null, .int 0, .int 0])), (q5, .inr (3, [.ref (b10 1)])), ((b10 1), .inl (cA, 3, .inl (fun _ => 0))), (q17, .inr (3, [.ref (b23 1)])), ((b23 1), .inl (cA, 24, .inl (fun _ => 0))), (q30, .inr (3, [.ref (b36 1)])), ((b36 1), .inl (cA, 24, .inl (fun _ => 0))), ((b49 0), .inr (3, [.ref (b49 1)])), ((b49 1), .inl (cA, 24, .inl (fun _ => 0)))] := hD
  rw [hq] at hP hD
  refine va_putF (D := G) (ci := 4) (v := .ref q43) (ty := (.object "Melodeon$Row")) (C := RX4) (T := TX4) (N := 6) hx hb hts iX4_init_X4 tyX4 tyX4_ok nmX4 hown hK.1 hP hD hS 0 rfl rfl 3 (by decide) (hts (.fieldLink RX4 26 "Melodeon$Score" "gates" "LMelodeon$Row;") (by decide +kernel)) (fun _ h9 => h9) rfl hin rfl (by decide +kernel) rfl rfl (Nat.le_of_ble_eq_true rfl) dX4_init_52 (fun H locs hP hD hS => ?_)
  have hP : va_P G vwCl [(h0, .inr (4, [.ref q5, .ref q17, .ref q30, .ref q43, .int 0, .int 0])), (q5, .inr (3, [.ref (b10 1)])), ((b10 1), .inl (cA, 3, .inl (fun _ => 0))), (q17, .inr (3, [.ref (b23 1)])), ((b23 1), .inl (cA, 24, .inl (fun _ => 0))), (q30, .inr (3, [.ref (b36 1)])), ((b36 1), .inl (cA, 24, .inl (fun _ => 0))), (q43, .inr (3, [.ref (b49 1)])), ((b49 1), .inl (cA, 24, .inl (fun _ => 0)))] H := hP
  have hD : va_D _ [(h0, .inr (4, [.ref q5, .ref q17, .ref q30, .ref q43, .int 0, .int 0])), (q5, .inr (3, [.ref (b10 1)])), ((b10 1), .inl (cA, 3, .inl (fun _ => 0))), (q17, .inr (3, [.ref (b23 1)])), ((b23 1), .inl (cA, 24, .inl (fun _ => 0))), (q30, .inr (3, [.ref (b36 1)])), ((b36 1), .inl (cA, 24, .inl (fun _ => 0))), (q43, .inr (3, [.ref (b49 1)])), ((b49 1), .inl (cA, 24, .inl (fun _ => 0)))] := hD
  refine lv_aload_n hx hb dX4_init_55 rfl (lv_at hl 0 rfl) ?_
  refine lv_bipush (v := 20) hx hb dX4_init_56 (by decide) ?_
  refine va_put (D := G) (ci := 4) (v := .int 20) (ty := .int) (C := RX4) (T := TX4) (N := 6) hx hb hts iX4_init_X4 tyX4 tyX4_ok nmX4 hown hK.1 hP hD hS 0 rfl rfl 4 (by decide) (hts (.fieldLink RX4 29 "Melodeon$Score" "tempo" "I") (by decide +kernel)) (fun _ h9 => h9) rfl (by decide +kernel) rfl rfl (Nat.le_of_ble_eq_true rfl) dX4_init_58 (fun H locs hP hD hS => ?_)
  have hP : va_P G vwCl [(h0, .inr (4, [.ref q5, .ref q17, .ref q30, .ref q43, .int 20, .int 0])), (q5, .inr (3, [.ref (b10 1)])), ((b10 1), .inl (cA, 3, .inl (fun _ => 0))), (q17, .inr (3, [.ref (b23 1)])), ((b23 1), .inl (cA, 24, .inl (fun _ => 0))), (q30, .inr (3, [.ref (b36 1)])), ((b36 1), .inl (cA, 24, .inl (fun _ => 0))), (q43, .inr (3, [.ref (b49 1)])), ((b49 1), .inl (cA, 24, .inl (fun _ => 0)))] H := hP
  have hD : va_D _ [(h0, .inr (4, [.ref q5, .ref q17, .ref q30, .ref q43, .int 20, .int 0])), (q5, .inr (3, [.ref (b10 1)])), ((b10 1), .inl (cA, 3, .inl (fun _ => 0))), (q17, .inr (3, [.ref (b23 1)])), ((b23 1), .inl (cA, 24, .inl (fun _ => 0))), (q30, .inr (3, [.ref (b36 1)])), ((b36 1), .inl (cA, 24, .inl (fun _ => 0))), (q43, .inr (3, [.ref (b49 1)])), ((b49 1), .inl (cA, 24, .inl (fun _ => 0)))] := hD
  have hP9 := hP.sub (ws' := [(h0, .inr (4, [.ref q5, .ref q17, .ref q30, .ref q43, .int 20, .int 0])), (q5, .inr (3, [.ref (b10 1)])), ((b10 1), .inl (cA, 3, .inl (fun _ => 0))), (q17, .inr (3, [.ref (b23 1)])), ((b23 1), .inl (cA, 24, .inl (fun _ => 0))), (q30, .inr (3, [.ref (b36 1)])), ((b36 1), .inl (cA, 24, .inl (fun _ => 0))), (q43, .inr (3, [.ref (b49 1)])), ((b49 1), .inl (cA, 24, .inl (fun _ => 0)))]) [0, 1, 2, 3, 4, 5, 6, 7, 8] rfl
  have hD9 := hD.sub (ws' := [(h0, .inr (4, [.ref q5, .ref q17, .ref q30, .ref q43, .int 20, .int 0])), (q5, .inr (3, [.ref (b10 1)])), ((b10 1), .inl (cA, 3, .inl (fun _ => 0))), (q17, .inr (3, [.ref (b23 1)])), ((b23 1), .inl (cA, 24, .inl (fun _ => 0))), (q30, .inr (3, [.ref (b36 1)])), ((b36 1), .inl (cA, 24, .inl (fun _ => 0))), (q43, .inr (3, [.ref (b49 1)])), ((b49 1), .inl (cA, 24, .inl (fun _ => 0)))]) [0, 1, 2, 3, 4, 5, 6, 7, 8] (by decide) rfl
  obtain ⟨S, eS⟩ : ∃ S : Mm, S = (fun o k => if o = 0 then (if k = 4 then 20 else 0) else 0) := ⟨_, rfl⟩
  obtain ⟨a, ea⟩ : ∃ a : Nat → Nat, a = fun k => [h0, q5, (b10 1), q17, (b23 1), q30, (b36 1), q43, (b49 1)].getD k 0 := ⟨_, rfl⟩
  have hP : va_P G vwCl (wG 9 a (cSc a cA) S 0) H := by rw [ea, eS]; exact hP9
  have hD : va_D (va_A [(h0, .inr (4, [.null, .null, .null, .null, .int 0, .int 0]))] s.heap.size) (wG 9 a (cSc a cA) S 0) := by rw [ea, eS]; exact hD9
  have ha : apart 9 a := fun i j hi hj e => hD.1 i j _ _ (wG_get hi) (wG_get hj) e
  have hAk : ∀ k, k < 9 → (va_A [(h0, .inr (4, [.null, .null, .null, .null, .int 0, .int 0]))] s.heap.size) (a k) := fun k hk => hD.2 k _ (wG_get hk)
  have ha0 : a 0 = h0 := by rw [ea]; rfl
  rw [← ha0] at hl
  refine lv_aload_n hx hb dX4_init_61 rfl (lv_at hl 0 rfl) ?_
  refine g_get (ci := 4) (C := RX4) (T := TX4) (N := 6) (v := .ref (a 3)) hx hb hts iX4_init_X4 hown hK hP (by decide) rfl rfl 1 (by decide) rfl (by decide +kernel) rfl dX4_init_62 ?_
  refine lv_iconst (v := (-1)) hx hb dX4_init_65 (by decide) ?_
  refine g_cVv (As := [.int (-1)]) (rest := []) ⟨hx, hb, hml, hown, hts⟩ (c_X3_fillq l G cA zq 9 (cSc a cA) a ha S 0 H.size 3 24 ((-1) : Int32) (by decide) (by decide) (fun _ _ => rfl) (fun _ _ => rfl)) (cwV 1 hts gX4_init_X3_fill rfl rfl rfl (by decide +kernel) ⟨Nat.le_of_ble_eq_true rfl, Nat.le_of_ble_eq_true rfl⟩) (g_recv hK hP (by decide) rfl (C := RX3) (T := TX3) (N := 1) rfl) hK (fun x hx => hx.elim (fun ⟨k, hk, e⟩ => e ▸ hAk k hk) (fun h => Or.inr (Nat.le_trans hS.1 h))) hP hS rfl hl.1 rfl (lv_room (Nat.le_of_ble_eq_true rfl)) dX4_init_66 ⟨Nat.le_of_ble_eq_true rfl, Nat.le_of_ble_eq_true rfl⟩ (fun H locs hP hS _ _ => ?_)
  have hP : va_P G vwCl (wG 9 a (cSc a cA) SC0 0) H := by unfold SC0; dsimp only; rw [← eS]; exact hP
  exact j_vret (b := a) hx hb hr hlocks ha0 hP (wG_D ha hAk) hS dX4_init_69
def mX10_init_1 (S : Mm) : Mm := up2 (up2 S 2 (4 : Int32).toNatClampNeg 10) 2 (5 : Int32).toNatClampNeg 10
def mX10_init_2 (S : Mm) : Mm := up2 (up2 (mX10_init_1 S) 2 (6 : Int32).toNatClampNeg 1000) 2 (7 : Int32).toNatClampNeg 10
def mX10_init_3 (S : Mm) : Mm := up2 (up2 (mX10_init_2 S) 2 (8 : Int32).toNatClampNeg 128) 2 (9 : Int32).toNatClampNeg 256
def mX10_init_4 (S : Mm) : Mm := up2 (up2 (mX10_init_3 S) 2 (11 : Int32).toNatClampNeg 64) 2 (16 : Int32).toNatClampNeg 10
def mX10_init_5 (S : Mm) : Mm := up2 (up2 (mX10_init_4 S) 2 (17 : Int32).toNatClampNeg 10) 2 (18 : Int32).toNatClampNeg 1000
def mX10_init_6 (S : Mm) : Mm := up2 (up2 (mX10_init_5 S) 2 (19 : Int32).toNatClampNeg 10) 2 (20 : Int32).toNatClampNeg 128
def mX10_init_7 (S : Mm) : Mm := up2 (up2 (mX10_init_6 S) 2 (21 : Int32).toNatClampNeg 256) 2 (23 : Int32).toNatClampNeg 64
def mX10_init_8 (S : Mm) : Mm := up2 (up2 (mX10_init_7 S) 2 (28 : Int32).toNatClampNeg 10) 2 (29 : Int32).toNatClampNeg 10
def mX10_init_9 (S : Mm) : Mm := up2 (up2 (mX10_init_8 S) 2 (30 : Int32).toNatClampNeg 1000) 2 (31 : Int32).toNatClampNeg 10
def mX10_init_10 (S : Mm) : Mm := up2 (up2 (mX10_init_9 S) 2 (32 : Int32).toNatClampNeg 128) 2 (33 : Int32).toNatClampNeg 256
def mX10_init_11 (S : Mm) : Mm := up2 (up2 (mX10_init_10 S) 2 (35 : Int32).toNatClampNeg 64) 2 (40 : Int32).toNatClampNeg 10
def mX10_init_12 (S : Mm) : Mm := up2 (up2 (mX10_init_11 S) 2 (41 : Int32).toNatClampNeg 10) 2 (42 : Int32).toNatClampNeg 1000
def mX10_init_13 (S : Mm) : Mm := up2 (up2 (mX10_init_12 S) 2 (43 : Int32).toNatClampNeg 10) 2 (44 : Int32).toNatClampNeg 128
def mX10_init_14 (S : Mm) : Mm := up2 (up2 (mX10_init_13 S) 2 (45 : Int32).toNatClampNeg 256) 2 (47 : Int32).toNatClampNeg 64
def mX10_init_15 (S : Mm) : Mm := up2 (up2 (mX10_init_14 S) 12 (0 : Int32).toNatClampNeg (-1)) 12 (1 : Int32).toNatClampNeg (-1)
def mX10_init_16 (S : Mm) : Mm := up2 (up2 (mX10_init_15 S) 12 (2 : Int32).toNatClampNeg (-1)) 12 (3 : Int32).toNatClampNeg (-1)
def mX10_init_17 (S : Mm) : Mm := up2 (up2 (mX10_init_16 S) 16 (0 : Int32).toNatClampNeg (-1)) 16 (3 : Int32).toNatClampNeg (-1)
def mX10_init_18 (S : Mm) : Mm := up2 (up2 (mX10_init_17 S) 16 (6 : Int32).toNatClampNeg (-1)) 16 (9 : Int32).toNatClampNeg (-1)
def mX10_init_19 (S : Mm) : Mm := up2 (up2 (mX10_init_18 S) 16 (12 : Int32).toNatClampNeg (-1)) 16 (15 : Int32).toNatClampNeg (-1)
def mX10_init_20 (S : Mm) : Mm := up2 (up2 (mX10_init_19 S) 16 (18 : Int32).toNatClampNeg (-1)) 16 (21 : Int32).toNatClampNeg (-1)
def mX10_init_21 (S : Mm) : Mm := up2 (up2 (mX10_init_20 S) 16 (24 : Int32).toNatClampNeg (-1)) 16 (27 : Int32).toNatClampNeg (-1)
def mX10_init_22 (S : Mm) : Mm := up2 (up2 (mX10_init_21 S) 16 (30 : Int32).toNatClampNeg (-1)) 16 (33 : Int32).toNatClampNeg (-1)
def mX10_init_23 (S : Mm) : Mm := up2 (up2 (mX10_init_22 S) 16 (36 : Int32).toNatClampNeg (-1)) 16 (39 : Int32).toNatClampNeg (-1)
def mX10_init_24 (S : Mm) : Mm := up2 (up2 (mX10_init_23 S) 16 (42 : Int32).toNatClampNeg (-1)) 16 (45 : Int32).toNatClampNeg (-1)
def mX10_init_25 (S : Mm) : Mm := up2 (up2 (mX10_init_24 S) 16 (48 : Int32).toNatClampNeg (-1)) 16 (51 : Int32).toNatClampNeg (-1)
def mX10_init_26 (S : Mm) : Mm := up2 (up2 (mX10_init_25 S) 16 (54 : Int32).toNatClampNeg (-1)) 16 (57 : Int32).toNatClampNeg (-1)
def mX10_init_27 (S : Mm) : Mm := up2 (up2 (mX10_init_26 S) 16 (60 : Int32).toNatClampNeg (-1)) 16 (63 : Int32).toNatClampNeg (-1)
def mX10_init_28 (S : Mm) : Mm := up2 (up2 (mX10_init_27 S) 16 (66 : Int32).toNatClampNeg (-1)) 16 (69 : Int32).toNatClampNeg (-1)
def SD0 : Mm := (fun S : Mm => (mX10_init_28 S)) (fun o k => if o = 0 then (if k = 15 then 64 else if k = 22 then 20 else 0) else 0)
theorem iX10_init_X10 : ∀ w ∈ u_ws RX10 TX10 35, w ∈ wsX10_init := by decide +kernel
set_option maxHeartbeats 4000000 in
set_option maxRecDepth 100000 in
theorem c_X10_init (l : Launch) (G : va_G) (cA : ClassId) (zq h0 sz : Nat) : Met l yX10_init wsX10_init ({ frames := 1, cells := 17, slots := 463, locals := 12 } : Room) (va_Pc [.ref h0] (jI G cA zq [(h0, .inr (10, [.null, .null, .null, .null, .null, .null, .null, .null, .null, .null, .null, .null, .null, .int 0, .int 0, .int 0, .int 0, .int 0, .int 0, .null, .null, .null, .int 0, .int 0, .int 0, .int 0, .int 0, .int 0, .int 0, .null, .int 0, .int 0, .int 0, .int 0, .long 0]))] sz)) (jQ h0 G (fun b => wG 18 b (cD b cA) SD0 0) [(h0, .inr (10, [.null, .null, .null, .null, .null, .null, .null, .null, .null, .null, .null, .null, .null, .int 0, .int 0, .int 0, .int 0, .int 0, .int 0, .null, .null, .null, .int 0, .int 0, .int 0, .int 0, .int 0, .int 0, .int 0, .null, .int 0, .int 0, .int 0, .int 0, .long 0]))] sz) 17 463 (va_A [(h0, .inr (10, [.null, .null, .null, .null, .null, .null, .null, .null, .null, .null, .null, .null, .null, .int 0, .int 0, .int 0, .int 0, .int 0, .int 0, .null, .null, .null, .int 0, .int 0, .int 0, .int 0, .int 0, .int 0, .int 0, .null, .int 0, .int 0, .int 0, .int 0, .long 0]))] sz) := by
  refine j_met (cc := cX10_init) (maxL := 2) (ret := none) (by decide) rfl (Nat.le_of_ble_eq_true rfl) ?_
  intro p e s m below meth c ls hx hb hr hlocks hml hts hown hin hsz hK hP hD hA hS hl
  subst hsz
  have hl : lv_has ls 2 [(0, .ref h0)] := hl
  refine lv_aload_n hx hb dX10_init_0 rfl (lv_at hl 0 rfl) ?_
  refine W.objInit hx hb hown (hts (.methodLink RX10 3 objectInit) (by decide +kernel)) (hts (.instanceMethod objectInit) (by decide +kernel)) (hts (.code objectInit ⟨#[0xb1]⟩ 1 none) (by decide +kernel)) rfl (by rw [hml]; exact hl.1) rfl dX10_init_1 (Nat.le_of_ble_eq_true rfl) (Nat.le_of_ble_eq_true rfl) ?_
  refine W.eq (g2 := F0 m 4 ls []) rfl ?_
  refine lv_aload_n hx hb dX10_init_4 rfl (lv_at hl 0 rfl) ?_
  refine lv_bipush (v := 32) hx hb dX10_init_5 (by decide) ?_
  refine va_newa (atype := .int) (ty := .int) (N' := 32) (a0 := (32, .inl (fun _ => 0))) hx hb (hts (.arrayClass .int) (by decide +kernel)) rfl hK.1 hP hD hS hA (fun _ => rfl) (by decide) (by decide) (Nat.le_of_ble_eq_true rfl) (Nat.le_of_ble_eq_true rfl) (Nat.le_of_ble_eq_true rfl) dX10_init_7 (fun q7 cQ H hKx hP hD hS => ?_)
  have hcq := cQ_eq2 hKx
  rw [hcq] at hP hD
  have hP : va_P G vwCl [(h0, .inr (10, [.null, .null, .null, .null, .null, .null, .null, .null, .null, .null, .null, .null, .null, .int 0, .int 0, .int 0, .int 0, .int 0, .int 0, .null, .null, .null, .int 0, .int 0, .int 0, .int 0, .int 0, .int 0, .int 0, .null, .int 0, .int 0, .int 0, .int 0, .long 0])), (q7, .inl (cA, 32, .inl (fun _ => 0)))] H := hP
  have hD : va_D _ [(h0, .inr (10, [.null, .null, .null, .null, .null, .null, .null, .null, .null, .null, .null, .null, .null, .int 0, .int 0, .int 0, .int 0, .int 0, .int 0, .null, .null, .null, .int 0, .int 0, .int 0, .int 0, .int 0, .int 0, .int 0, .null, .int 0, .int 0, .int 0, .int 0, .long 0])), (q7, .inl (cA, 32, .inl (fun _ => 0)))] := hD
  refine va_putF (D := G) (ci := 10) (v := .ref q7) (ty := (.array .int)) (C := RX10) (T := TX10) (N := 35) hx hb hts iX10_init_X10 tyX10 tyX10_ok nmX10 hown hK.1 hP hD hS 0 rfl rfl 0 (by decide) (hts (.fieldLink RX10 9 "MelodeonModel$Desk" "drawn" "[I") (by decide +kernel)) (fun _ h9 => h9) rfl hin rfl (by decide +kernel) rfl rfl (Nat.le_of_ble_eq_true rfl) dX10_init_9 (fun H locs hP hD hS => ?_)
  have hP : va_P G vwCl [(h0, .inr (10, [.ref q7, .null, .null, .null, .null, .null, .null, .null, .null, .null, .null, .null, .null, .int 0, .int 0, .int 0, .int 0, .int 0, .int 0, .null, .null, .null, .int 0, .int 0, .int 0, .int 0, .int 0, .int 0, .int 0, .null, .int 0, .int 0, .int 0, .int 0, .long 0])), (q7, .inl (cA, 32, .inl (fun _ => 0)))] H := hP
  have hD : va_D _ [(h0, .inr (10, [.ref q7, .null, .null, .null, .null, .null, .null, .null, .null, .null, .null, .null, .null, .int 0, .int 0, .int 0, .int 0, .int 0, .int 0, .null, .null, .null, .int 0, .int 0, .int 0, .int 0, .int 0, .int 0, .int 0, .null, .int 0, .int 0, .int 0, .int 0, .long 0])), (q7, .inl (cA, 32, .inl (fun _ => 0)))] := hD
  refine lv_aload_n hx hb dX10_init_12 rfl (lv_at hl 0 rfl) ?_
  refine lv_bipush (v := 48) hx hb dX10_init_13 (by decide) ?_
  refine va_newa (atype := .int) (ty := .int) (N' := 48) (a0 := (48, .inl (fun _ => 0))) hx hb (hts (.arrayClass .int) (by decide +kernel)) rfl hK.1 hP hD hS hA (fun _ => rfl) (by decide) (by decide) (Nat.le_of_ble_eq_true rfl) (Nat.le_of_ble_eq_true rfl) (Nat.le_of_ble_eq_true rfl) dX10_init_15 (fun q15 cQ H hKx hP hD hS => ?_)
  have hcq := cQ_eq2 hKx
  rw [hcq] at hP hD
  have hP : va_P G vwCl [(h0, .inr (10, [.ref q7, .null, .null, .null, .null, .null, .null, .null, .null, .null, .null, .null, .null, .int 0, .int 0, .int 0, .int 0, .int 0, .int 0, .null, .null, .null, .int 0, .int 0, .int 0, .int 0, .int 0, .int 0, .int 0, .null, .int 0, .int 0, .int 0, .int 0, .long 0])), (q7, .inl (cA, 32, .inl (fun _ => 0))), (q15, .inl (cA, 48, .inl (fun _ => 0)))] H := hP
  have hD : va_D _ [(h0, .inr (10, [.ref q7, .null, .null, .null, .null, .null, .null, .null, .null, .null, .null, .null, .null, .int 0, .int 0, .int 0, .int 0, .int 0, .int 0, .null, .null, .null, .int 0, .int 0, .int 0, .int 0, .int 0, .int 0, .int 0, .null, .int 0, .int 0, .int 0, .int 0, .long 0])), (q7, .inl (cA, 32, .inl (fun _ => 0))), (q15, .inl (cA, 48, .inl (fun _ => 0)))] := hD
  refine va_putF (D := G) (ci := 10) (v := .ref q15) (ty := (.array .int)) (C := RX10) (T := TX10) (N := 35) hx hb hts iX10_init_X10 tyX10 tyX10_ok nmX10 hown hK.1 hP hD hS 0 rfl rfl 1 (by decide) (hts (.fieldLink RX10 15 "MelodeonModel$Desk" "instrument" "[I") (by decide +kernel)) (fun _ h9 => h9) rfl hin rfl (by decide +kernel) rfl rfl (Nat.le_of_ble_eq_true rfl) dX10_init_17 (fun H locs hP hD hS => ?_)
  have hP : va_P G vwCl [(h0, .inr (10, [.ref q7, .ref q15, .null, .null, .null, .null, .null, .null, .null, .null, .null, .null, .null, .int 0, .int 0, .int 0, .int 0, .int 0, .int 0, .null, .null, .null, .int 0, .int 0, .int 0, .int 0, .int 0, .int 0, .int 0, .null, .int 0, .int 0, .int 0, .int 0, .long 0])), (q7, .inl (cA, 32, .inl (fun _ => 0))), (q15, .inl (cA, 48, .inl (fun _ => 0)))] H := hP
  have hD : va_D _ [(h0, .inr (10, [.ref q7, .ref q15, .null, .null, .null, .null, .null, .null, .null, .null, .null, .null, .null, .int 0, .int 0, .int 0, .int 0, .int 0, .int 0, .null, .null, .null, .int 0, .int 0, .int 0, .int 0, .int 0, .int 0, .int 0, .null, .int 0, .int 0, .int 0, .int 0, .long 0])), (q7, .inl (cA, 32, .inl (fun _ => 0))), (q15, .inl (cA, 48, .inl (fun _ => 0)))] := hD
  refine lv_aload_n hx hb dX10_init_20 rfl (lv_at hl 0 rfl) ?_
  refine lv_iconst (v := 4) hx hb dX10_init_21 (by decide) ?_
  refine va_newa (atype := .int) (ty := .int) (N' := 4) (a0 := (4, .inl (fun _ => 0))) hx hb (hts (.arrayClass .int) (by decide +kernel)) rfl hK.1 hP hD hS hA (fun _ => rfl) (by decide) (by decide) (Nat.le_of_ble_eq_true rfl) (Nat.le_of_ble_eq_true rfl) (Nat.le_of_ble_eq_true rfl) dX10_init_22 (fun q22 cQ H hKx hP hD hS => ?_)
  have hcq := cQ_eq2 hKx
  rw [hcq] at hP hD
  have hP : va_P G vwCl [(h0, .inr (10, [.ref q7, .ref q15, .null, .null, .null, .null, .null, .null, .null, .null, .null, .null, .null, .int 0, .int 0, .int 0, .int 0, .int 0, .int 0, .null, .null, .null, .int 0, .int 0, .int 0, .int 0, .int 0, .int 0, .int 0, .null, .int 0, .int 0, .int 0, .int 0, .long 0])), (q7, .inl (cA, 32, .inl (fun _ => 0))), (q15, .inl (cA, 48, .inl (fun _ => 0))), (q22, .inl (cA, 4, .inl (fun _ => 0)))] H := hP
  have hD : va_D _ [(h0, .inr (10, [.ref q7, .ref q15, .null, .null, .null, .null, .null, .null, .null, .null, .null, .null, .null, .int 0, .int 0, .int 0, .int 0, .int 0, .int 0, .null, .null, .null, .int 0, .int 0, .int 0, .int 0, .int 0, .int 0, .int 0, .null, .int 0, .int 0, .int 0, .int 0, .long 0])), (q7, .inl (cA, 32, .inl (fun _ => 0))), (q15, .inl (cA, 48, .inl (fun _ => 0))), (q22, .inl (cA, 4, .inl (fun _ => 0)))] := hD
  refine va_putF (D := G) (ci := 10) (v := .ref q22) (ty := (.array .int)) (C := RX10) (T := TX10) (N := 35) hx hb hts iX10_init_X10 tyX10 tyX10_ok nmX10 hown hK.1 hP hD hS 0 rfl rfl 2 (by decide) (hts (.fieldLink RX10 18 "MelodeonModel$Desk" "state" "[I") (by decide +kernel)) (fun _ h9 => h9) rfl hin rfl (by decide +kernel) rfl rfl (Nat.le_of_ble_eq_true rfl) dX10_init_24 (fun H locs hP hD hS => ?_)
  have hP : va_P G vwCl [(h0, .inr (10, [.ref q7, .ref q15, .ref q22, .null, .null, .null, .null, .null, .null, .null, .null, .null, .null, .int 0, .int 0, .int 0, .int 0, .int 0, .int 0, .null, .null, .null, .int 0, .int 0, .int 0, .int 0, .int 0, .int 0, .int 0, .null, .int 0, .int 0, .int 0, .int 0, .long 0])), (q7, .inl (cA, 32, .inl (fun _ => 0))), (q15, .inl (cA, 48, .inl (fun _ => 0))), (q22, .inl (cA, 4, .inl (fun _ => 0)))] H := hP
  have hD : va_D _ [(h0, .inr (10, [.ref q7, .ref q15, .ref q22, .null, .null, .null, .null, .null, .null, .null, .null, .null, .null, .int 0, .int 0, .int 0, .int 0, .int 0, .int 0, .null, .null, .null, .int 0, .int 0, .int 0, .int 0, .int 0, .int 0, .int 0, .null, .int 0, .int 0, .int 0, .int 0, .long 0])), (q7, .inl (cA, 32, .inl (fun _ => 0))), (q15, .inl (cA, 48, .inl (fun _ => 0))), (q22, .inl (cA, 4, .inl (fun _ => 0)))] := hD
  refine lv_aload_n hx hb dX10_init_27 rfl (lv_at hl 0 rfl) ?_
  refine lv_iconst (v := 4) hx hb dX10_init_28 (by decide) ?_
  refine va_newa (atype := .int) (ty := .int) (N' := 4) (a0 := (4, .inl (fun _ => 0))) hx hb (hts (.arrayClass .int) (by decide +kernel)) rfl hK.1 hP hD hS hA (fun _ => rfl) (by decide) (by decide) (Nat.le_of_ble_eq_true rfl) (Nat.le_of_ble_eq_true rfl) (Nat.le_of_ble_eq_true rfl) dX10_init_29 (fun q29 cQ H hKx hP hD hS => ?_)
  have hcq := cQ_eq2 hKx
  rw [hcq] at hP hD
  have hP : va_P G vwCl [(h0, .inr (10, [.ref q7, .ref q15, .ref q22, .null, .null, .null, .null, .null, .null, .null, .null, .null, .null, .int 0, .int 0, .int 0, .int 0, .int 0, .int 0, .null, .null, .null, .int 0, .int 0, .int 0, .int 0, .int 0, .int 0, .int 0, .null, .int 0, .int 0, .int 0, .int 0, .long 0])), (q7, .inl (cA, 32, .inl (fun _ => 0))), (q15, .inl (cA, 48, .inl (fun _ => 0))), (q22, .inl (cA, 4, .inl (fun _ => 0))), (q29, .inl (cA, 4, .inl (fun _ => 0)))] H := hP
  have hD : va_D _ [(h0, .inr (10, [.ref q7, .ref q15, .ref q22, .null, .null, .null, .null, .null, .null, .null, .null, .null, .null, .int 0, .int 0, .int 0, .int 0, .int 0, .int 0, .null, .null, .null, .int 0, .int 0, .int 0, .int 0, .int 0, .int 0, .int 0, .null, .int 0, .int 0, .int 0, .int 0, .long 0])), (q7, .inl (cA, 32, .inl (fun _ => 0))), (q15, .inl (cA, 48, .inl (fun _ => 0))), (q22, .inl (cA, 4, .inl (fun _ => 0))), (q29, .inl (cA, 4, .inl (fun _ => 0)))] := hD
  refine va_putF (D := G) (ci := 10) (v := .ref q29) (ty := (.array .int)) (C := RX10) (T := TX10) (N := 35) hx hb hts iX10_init_X10 tyX10 tyX10_ok nmX10 hown hK.1 hP hD hS 0 rfl rfl 3 (by decide) (hts (.fieldLink RX10 21 "MelodeonModel$Desk" "level" "[I") (by decide +kernel)) (fun _ h9 => h9) rfl hin rfl (by decide +kernel) rfl rfl (Nat.le_of_ble_eq_true rfl) dX10_init_31 (fun H locs hP hD hS => ?_)
  have hP : va_P G vwCl [(h0, .inr (10, [.ref q7, .ref q15, .ref q22, .ref q29, .null, .null, .null, .null, .null, .null, .null, .null, .null, .int 0, .int 0, .int 0, .int 0, .int 0, .int 0, .null, .null, .null, .int 0, .int 0, .int 0, .int 0, .int 0, .int 0, .int 0, .null, .int 0, .int 0, .int 0, .int 0, .long 0])), (q7, .inl (cA, 32, .inl (fun _ => 0))), (q15, .inl (cA, 48, .inl (fun _ => 0))), (q22, .inl (cA, 4, .inl (fun _ => 0))), (q29, .inl (cA, 4, .inl (fun _ => 0)))] H := hP
  have hD : va_D _ [(h0, .inr (10, [.ref q7, .ref q15, .ref q22, .ref q29, .null, .null, .null, .null, .null, .null, .null, .null, .null, .int 0, .int 0, .int 0, .int 0, .int 0, .int 0, .null, .null, .null, .int 0, .int 0, .int 0, .int 0, .int 0, .int 0, .int 0, .null, .int 0, .int 0, .int 0, .int 0, .long 0])), (q7, .inl (cA, 32, .inl (fun _ => 0))), (q15, .inl (cA, 48, .inl (fun _ => 0))), (q22, .inl (cA, 4, .inl (fun _ => 0))), (q29, .inl (cA, 4, .inl (fun _ => 0)))] := hD
  refine lv_aload_n hx hb dX10_init_34 rfl (lv_at hl 0 rfl) ?_
  refine lv_iconst (v := 4) hx hb dX10_init_35 (by decide) ?_
  refine va_newa (atype := .int) (ty := .int) (N' := 4) (a0 := (4, .inl (fun _ => 0))) hx hb (hts (.arrayClass .int) (by decide +kernel)) rfl hK.1 hP hD hS hA (fun _ => rfl) (by decide) (by decide) (Nat.le_of_ble_eq_true rfl) (Nat.le_of_ble_eq_true rfl) (Nat.le_of_ble_eq_true rfl) dX10_init_36 (fun q36 cQ H hKx hP hD hS => ?_)
  have hcq := cQ_eq2 hKx
  rw [hcq] at hP hD
  have hP : va_P G vwCl [(h0, .inr (10, [.ref q7, .ref q15, .ref q22, .ref q29, .null, .null, .null, .null, .null, .null, .null, .null, .null, .int 0, .int 0, .int 0, .int 0, .int 0, .int 0, .null, .null, .null, .int 0, .int 0, .int 0, .int 0, .int 0, .int 0, .int 0, .null, .int 0, .int 0, .int 0, .int 0, .long 0])), (q7, .inl (cA, 32, .inl (fun _ => 0))), (q15, .inl (cA, 48, .inl (fun _ => 0))), (q22, .inl (cA, 4, .inl (fun _ => 0))), (q29, .inl (cA, 4, .inl (fun _ => 0))), (q36, .inl (cA, 4, .inl (fun _ => 0)))] H := hP
  have hD : va_D _ [(h0, .inr (10, [.ref q7, .ref q15, .ref q22, .ref q29, .null, .null, .null, .null, .null, .null, .null, .null, .null, .int 0, .int 0, .int 0, .int 0, .int 0, .int 0, .null, .null, .null, .int 0, .int 0, .int 0, .int 0, .int 0, .int 0, .int 0, .null, .int 0, .int 0, .int 0, .int 0, .long 0])), (q7, .inl (cA, 32, .inl (fun _ => 0))), (q15, .inl (cA, 48, .inl (fun _ => 0))), (q22, .inl (cA, 4, .inl (fun _ => 0))), (q29, .inl (cA, 4, .inl (fun _ => 0))), (q36, .inl (cA, 4, .inl (fun _ => 0)))] := hD
  refine va_putF (D := G) (ci := 10) (v := .ref q36) (ty := (.array .int)) (C := RX10) (T := TX10) (N := 35) hx hb hts iX10_init_X10 tyX10 tyX10_ok nmX10 hown hK.1 hP hD hS 0 rfl rfl 4 (by decide) (hts (.fieldLink RX10 24 "MelodeonModel$Desk" "of" "[I") (by decide +kernel)) (fun _ h9 => h9) rfl hin rfl (by decide +kernel) rfl rfl (Nat.le_of_ble_eq_true rfl) dX10_init_38 (fun H locs hP hD hS => ?_)
  have hP : va_P G vwCl [(h0, .inr (10, [.ref q7, .ref q15, .ref q22, .ref q29, .ref q36, .null, .null, .null, .null, .null, .null, .null, .null, .int 0, .int 0, .int 0, .int 0, .int 0, .int 0, .null, .null, .null, .int 0, .int 0, .int 0, .int 0, .int 0, .int 0, .int 0, .null, .int 0, .int 0, .int 0, .int 0, .long 0])), (q7, .inl (cA, 32, .inl (fun _ => 0))), (q15, .inl (cA, 48, .inl (fun _ => 0))), (q22, .inl (cA, 4, .inl (fun _ => 0))), (q29, .inl (cA, 4, .inl (fun _ => 0))), (q36, .inl (cA, 4, .inl (fun _ => 0)))] H := hP
  have hD : va_D _ [(h0, .inr (10, [.ref q7, .ref q15, .ref q22, .ref q29, .ref q36, .null, .null, .null, .null, .null, .null, .null, .null, .int 0, .int 0, .int 0, .int 0, .int 0, .int 0, .null, .null, .null, .int 0, .int 0, .int 0, .int 0, .int 0, .int 0, .int 0, .null, .int 0, .int 0, .int 0, .int 0, .long 0])), (q7, .inl (cA, 32, .inl (fun _ => 0))), (q15, .inl (cA, 48, .inl (fun _ => 0))), (q22, .inl (cA, 4, .inl (fun _ => 0))), (q29, .inl (cA, 4, .inl (fun _ => 0))), (q36, .inl (cA, 4, .inl (fun _ => 0)))] := hD
  refine lv_aload_n hx hb dX10_init_41 rfl (lv_at hl 0 rfl) ?_
  refine lv_iconst (v := 4) hx hb dX10_init_42 (by decide) ?_
  refine va_newa (atype := .int) (ty := .int) (N' := 4) (a0 := (4, .inl (fun _ => 0))) hx hb (hts (.arrayClass .int) (by decide +kernel)) rfl hK.1 hP hD hS hA (fun _ => rfl) (by decide) (by decide) (Nat.le_of_ble_eq_true rfl) (Nat.le_of_ble_eq_true rfl) (Nat.le_of_ble_eq_true rfl) dX10_init_43 (fun q43 cQ H hKx hP hD hS => ?_)
  have hcq := cQ_eq2 hKx
  rw [hcq] at hP hD
  have hP : va_P G vwCl [(h0, .inr (10, [.ref q7, .ref q15, .ref q22, .ref q29, .ref q36, .null, .null, .null, .null, .null, .null, .null, .null, .int 0, .int 0, .int 0, .int 0, .int 0, .int 0, .null, .null, .null, .int 0, .int 0, .int 0, .int 0, .int 0, .int 0, .int 0, .null, .int 0, .int 0, .int 0, .int 0, .long 0])), (q7, .inl (cA, 32, .inl (fun _ => 0))), (q15, .inl (cA, 48, .inl (fun _ => 0))), (q22, .inl (cA, 4, .inl (fun _ => 0))), (q29, .inl (cA, 4, .inl (fun _ => 0))), (q36, .inl (cA, 4, .inl (fun _ => 0))), (q43, .inl (cA, 4, .inl (fun _ => 0)))] H := hP
  have hD : va_D _ [(h0, .inr (10, [.ref q7, .ref q15, .ref q22, .ref q29, .ref q36, .null, .null, .null, .null, .null, .null, .null, .null, .int 0, .int 0, .int 0, .int 0, .int 0, .int 0, .null, .null, .null, .int 0, .int 0, .int 0, .int 0, .int 0, .int 0, .int 0, .null, .int 0, .int 0, .int 0, .int 0, .long 0])), (q7, .inl (cA, 32, .inl (fun _ => 0))), (q15, .inl (cA, 48, .inl (fun _ => 0))), (q22, .inl (cA, 4, .inl (fun _ => 0))), (q29, .inl (cA, 4, .inl (fun _ => 0))), (q36, .inl (cA, 4, .inl (fun _ => 0))), (q43, .inl (cA, 4, .inl (fun _ => 0)))] := hD
  refine va_putF (D := G) (ci := 10) (v := .ref q43) (ty := (.array .int)) (C := RX10) (T := TX10) (N := 35) hx hb hts iX10_init_X10 tyX10 tyX10_ok nmX10 hown hK.1 hP hD hS 0 rfl rfl 5 (by decide) (hts (.fieldLink RX10 27 "MelodeonModel$Desk" "pitch" "[I") (by decide +kernel)) (fun _ h9 => h9) rfl hin rfl (by decide +kernel) rfl rfl (Nat.le_of_ble_eq_true rfl) dX10_init_45 (fun H locs hP hD hS => ?_)
  have hP : va_P G vwCl [(h0, .inr (10, [.ref q7, .ref q15, .ref q22, .ref q29, .ref q36, .ref q43, .null, .null, .null, .null, .null, .null, .null, .int 0, .int 0, .int 0, .int 0, .int 0, .int 0, .null, .null, .null, .int 0, .int 0, .int 0, .int 0, .int 0, .int 0, .int 0, .null, .int 0, .int 0, .int 0, .int 0, .long 0])), (q7, .inl (cA, 32, .inl (fun _ => 0))), (q15, .inl (cA, 48, .inl (fun _ => 0))), (q22, .inl (cA, 4, .inl (fun _ => 0))), (q29, .inl (cA, 4, .inl (fun _ => 0))), (q36, .inl (cA, 4, .inl (fun _ => 0))), (q43, .inl (cA, 4, .inl (fun _ => 0)))] H := hP
  have hD : va_D _ [(h0, .inr (10, [.ref q7, .ref q15, .ref q22, .ref q29, .ref q36, .ref q43, .null, .null, .null, .null, .null, .null, .null, .int 0, .int 0, .int 0, .int 0, .int 0, .int 0, .null, .null, .null, .int 0, .int 0, .int 0, .int 0, .int 0, .int 0, .int 0, .null, .int 0, .int 0, .int 0, .int 0, .long 0])), (q7, .inl (cA, 32, .inl (fun _ => 0))), (q15, .inl (cA, 48, .inl (fun _ => 0))), (q22, .inl (cA, 4, .inl (fun _ => 0))), (q29, .inl (cA, 4, .inl (fun _ => 0))), (q36, .inl (cA, 4, .inl (fun _ => 0))), (q43, .inl (cA, 4, .inl (fun _ => 0)))] := hD
  refine lv_aload_n hx hb dX10_init_48 rfl (lv_at hl 0 rfl) ?_
  refine lv_iconst (v := 4) hx hb dX10_init_49 (by decide) ?_
  refine va_newa (atype := .int) (ty := .int) (N' := 4) (a0 := (4, .inl (fun _ => 0))) hx hb (hts (.arrayClass .int) (by decide +kernel)) rfl hK.1 hP hD hS hA (fun _ => rfl) (by decide) (by decide) (Nat.le_of_ble_eq_true rfl) (Nat.le_of_ble_eq_true rfl) (Nat.le_of_ble_eq_true rfl) dX10_init_50 (fun q50 cQ H hKx hP hD hS => ?_)
  have hcq := cQ_eq2 hKx
  rw [hcq] at hP hD
  have hP : va_P G vwCl [(h0, .inr (10, [.ref q7, .ref q15, .ref q22, .ref q29, .ref q36, .ref q43, .null, .null, .null, .null, .null, .null, .null, .int 0, .int 0, .int 0, .int 0, .int 0, .int 0, .null, .null, .null, .int 0, .int 0, .int 0, .int 0, .int 0, .int 0, .int 0, .null, .int 0, .int 0, .int 0, .int 0, .long 0])), (q7, .inl (cA, 32, .inl (fun _ => 0))), (q15, .inl (cA, 48, .inl (fun _ => 0))), (q22, .inl (cA, 4, .inl (fun _ => 0))), (q29, .inl (cA, 4, .inl (fun _ => 0))), (q36, .inl (cA, 4, .inl (fun _ => 0))), (q43, .inl (cA, 4, .inl (fun _ => 0))), (q50, .inl (cA, 4, .inl (fun _ => 0)))] H := hP
  have hD : va_D _ [(h0, .inr (10, [.ref q7, .ref q15, .ref q22, .ref q29, .ref q36, .ref q43, .null, .null, .null, .null, .null, .null, .null, .int 0, .int 0, .int 0, .int 0, .int 0, .int 0, .null, .null, .null, .int 0, .int 0, .int 0, .int 0, .int 0, .int 0, .int 0, .null, .int 0, .int 0, .int 0, .int 0, .long 0])), (q7, .inl (cA, 32, .inl (fun _ => 0))), (q15, .inl (cA, 48, .inl (fun _ => 0))), (q22, .inl (cA, 4, .inl (fun _ => 0))), (q29, .inl (cA, 4, .inl (fun _ => 0))), (q36, .inl (cA, 4, .inl (fun _ => 0))), (q43, .inl (cA, 4, .inl (fun _ => 0))), (q50, .inl (cA, 4, .inl (fun _ => 0)))] := hD
  refine va_putF (D := G) (ci := 10) (v := .ref q50) (ty := (.array .int)) (C := RX10) (T := TX10) (N := 35) hx hb hts iX10_init_X10 tyX10 tyX10_ok nmX10 hown hK.1 hP hD hS 0 rfl rfl 6 (by decide) (hts (.fieldLink RX10 30 "MelodeonModel$Desk" "force" "[I") (by decide +kernel)) (fun _ h9 => h9) rfl hin rfl (by decide +kernel) rfl rfl (Nat.le_of_ble_eq_true rfl) dX10_init_52 (fun H locs hP hD hS => ?_)
  have hP : va_P G vwCl [(h0, .inr (10, [.ref q7, .ref q15, .ref q22, .ref q29, .ref q36, .ref q43, .ref q50, .null, .null, .null, .null, .null, .null, .int 0, .int 0, .int 0, .int 0, .int 0, .int 0, .null, .null, .null, .int 0, .int 0, .int 0, .int 0, .int 0, .int 0, .int 0, .null, .int 0, .int 0, .int 0, .int 0, .long 0])), (q7, .inl (cA, 32, .inl (fun _ => 0))), (q15, .inl (cA, 48, .inl (fun _ => 0))), (q22, .inl (cA, 4, .inl (fun _ => 0))), (q29, .inl (cA, 4, .inl (fun _ => 0))), (q36, .inl (cA, 4, .inl (fun _ => 0))), (q43, .inl (cA, 4, .inl (fun _ => 0))), (q50, .inl (cA, 4, .inl (fun _ => 0)))] H := hP
  have hD : va_D _ [(h0, .inr (10, [.ref q7, .ref q15, .ref q22, .ref q29, .ref q36, .ref q43, .ref q50, .null, .null, .null, .null, .null, .null, .int 0, .int 0, .int 0, .int 0, .int 0, .int 0, .null, .null, .null, .int 0, .int 0, .int 0, .int 0, .int 0, .int 0, .int 0, .null, .int 0, .int 0, .int 0, .int 0, .long 0])), (q7, .inl (cA, 32, .inl (fun _ => 0))), (q15, .inl (cA, 48, .inl (fun _ => 0))), (q22, .inl (cA, 4, .inl (fun _ => 0))), (q29, .inl (cA, 4, .inl (fun _ => 0))), (q36, .inl (cA, 4, .inl (fun _ => 0))), (q43, .inl (cA, 4, .inl (fun _ => 0))), (q50, .inl (cA, 4, .inl (fun _ => 0)))] := hD
  refine lv_aload_n hx hb dX10_init_55 rfl (lv_at hl 0 rfl) ?_
  refine lv_iconst (v := 4) hx hb dX10_init_56 (by decide) ?_
  refine va_newa (atype := .int) (ty := .int) (N' := 4) (a0 := (4, .inl (fun _ => 0))) hx hb (hts (.arrayClass .int) (by decide +kernel)) rfl hK.1 hP hD hS hA (fun _ => rfl) (by decide) (by decide) (Nat.le_of_ble_eq_true rfl) (Nat.le_of_ble_eq_true rfl) (Nat.le_of_ble_eq_true rfl) dX10_init_57 (fun q57 cQ H hKx hP hD hS => ?_)
  have hcq := cQ_eq2 hKx
  rw [hcq] at hP hD
  have hP : va_P G vwCl [(h0, .inr (10, [.ref q7, .ref q15, .ref q22, .ref q29, .ref q36, .ref q43, .ref q50, .null, .null, .null, .null, .null, .null, .int 0, .int 0, .int 0, .int 0, .int 0, .int 0, .null, .null, .null, .int 0, .int 0, .int 0, .int 0, .int 0, .int 0, .int 0, .null, .int 0, .int 0, .int 0, .int 0, .long 0])), (q7, .inl (cA, 32, .inl (fun _ => 0))), (q15, .inl (cA, 48, .inl (fun _ => 0))), (q22, .inl (cA, 4, .inl (fun _ => 0))), (q29, .inl (cA, 4, .inl (fun _ => 0))), (q36, .inl (cA, 4, .inl (fun _ => 0))), (q43, .inl (cA, 4, .inl (fun _ => 0))), (q50, .inl (cA, 4, .inl (fun _ => 0))), (q57, .inl (cA, 4, .inl (fun _ => 0)))] H := hP
  have hD : va_D _ [(h0, .inr (10, [.ref q7, .ref q15, .ref q22, .ref q29, .ref q36, .ref q43, .ref q50, .null, .null, .null, .null, .null, .null, .int 0, .int 0, .int 0, .int 0, .int 0, .int 0, .null, .null, .null, .int 0, .int 0, .int 0, .int 0, .int 0, .int 0, .int 0, .null, .int 0, .int 0, .int 0, .int 0, .long 0])), (q7, .inl (cA, 32, .inl (fun _ => 0))), (q15, .inl (cA, 48, .inl (fun _ => 0))), (q22, .inl (cA, 4, .inl (fun _ => 0))), (q29, .inl (cA, 4, .inl (fun _ => 0))), (q36, .inl (cA, 4, .inl (fun _ => 0))), (q43, .inl (cA, 4, .inl (fun _ => 0))), (q50, .inl (cA, 4, .inl (fun _ => 0))), (q57, .inl (cA, 4, .inl (fun _ => 0)))] := hD
  refine va_putF (D := G) (ci := 10) (v := .ref q57) (ty := (.array .int)) (C := RX10) (T := TX10) (N := 35) hx hb hts iX10_init_X10 tyX10 tyX10_ok nmX10 hown hK.1 hP hD hS 0 rfl rfl 7 (by decide) (hts (.fieldLink RX10 33 "MelodeonModel$Desk" "one" "[I") (by decide +kernel)) (fun _ h9 => h9) rfl hin rfl (by decide +kernel) rfl rfl (Nat.le_of_ble_eq_true rfl) dX10_init_59 (fun H locs hP hD hS => ?_)
  have hP : va_P G vwCl [(h0, .inr (10, [.ref q7, .ref q15, .ref q22, .ref q29, .ref q36, .ref q43, .ref q50, .ref q57, .null, .null, .null, .null, .null, .int 0, .int 0, .int 0, .int 0, .int 0, .int 0, .null, .null, .null, .int 0, .int 0, .int 0, .int 0, .int 0, .int 0, .int 0, .null, .int 0, .int 0, .int 0, .int 0, .long 0])), (q7, .inl (cA, 32, .inl (fun _ => 0))), (q15, .inl (cA, 48, .inl (fun _ => 0))), (q22, .inl (cA, 4, .inl (fun _ => 0))), (q29, .inl (cA, 4, .inl (fun _ => 0))), (q36, .inl (cA, 4, .inl (fun _ => 0))), (q43, .inl (cA, 4, .inl (fun _ => 0))), (q50, .inl (cA, 4, .inl (fun _ => 0))), (q57, .inl (cA, 4, .inl (fun _ => 0)))] H := hP
  have hD : va_D _ [(h0, .inr (10, [.ref q7, .ref q15, .ref q22, .ref q29, .ref q36, .ref q43, .ref q50, .ref q57, .null, .null, .null, .null, .null, .int 0, .int 0, .int 0, .int 0, .int 0, .int 0, .null, .null, .null, .int 0, .int 0, .int 0, .int 0, .int 0, .int 0, .int 0, .null, .int 0, .int 0, .int 0, .int 0, .long 0])), (q7, .inl (cA, 32, .inl (fun _ => 0))), (q15, .inl (cA, 48, .inl (fun _ => 0))), (q22, .inl (cA, 4, .inl (fun _ => 0))), (q29, .inl (cA, 4, .inl (fun _ => 0))), (q36, .inl (cA, 4, .inl (fun _ => 0))), (q43, .inl (cA, 4, .inl (fun _ => 0))), (q50, .inl (cA, 4, .inl (fun _ => 0))), (q57, .inl (cA, 4, .inl (fun _ => 0)))] := hD
  refine lv_aload_n hx hb dX10_init_62 rfl (lv_at hl 0 rfl) ?_
  refine lv_iconst (v := 4) hx hb dX10_init_63 (by decide) ?_
  refine va_newa (atype := .int) (ty := .int) (N' := 4) (a0 := (4, .inl (fun _ => 0))) hx hb (hts (.arrayClass .int) (by decide +kernel)) rfl hK.1 hP hD hS hA (fun _ => rfl) (by decide) (by decide) (Nat.le_of_ble_eq_true rfl) (Nat.le_of_ble_eq_true rfl) (Nat.le_of_ble_eq_true rfl) dX10_init_64 (fun q64 cQ H hKx hP hD hS => ?_)
  have hcq := cQ_eq2 hKx
  rw [hcq] at hP hD
  have hP : va_P G vwCl [(h0, .inr (10, [.ref q7, .ref q15, .ref q22, .ref q29, .ref q36, .ref q43, .ref q50, .ref q57, .null, .null, .null, .null, .null, .int 0, .int 0, .int 0, .int 0, .int 0, .int 0, .null, .null, .null, .int 0, .int 0, .int 0, .int 0, .int 0, .int 0, .int 0, .null, .int 0, .int 0, .int 0, .int 0, .long 0])), (q7, .inl (cA, 32, .inl (fun _ => 0))), (q15, .inl (cA, 48, .inl (fun _ => 0))), (q22, .inl (cA, 4, .inl (fun _ => 0))), (q29, .inl (cA, 4, .inl (fun _ => 0))), (q36, .inl (cA, 4, .inl (fun _ => 0))), (q43, .inl (cA, 4, .inl (fun _ => 0))), (q50, .inl (cA, 4, .inl (fun _ => 0))), (q57, .inl (cA, 4, .inl (fun _ => 0))), (q64, .inl (cA, 4, .inl (fun _ => 0)))] H := hP
  have hD : va_D _ [(h0, .inr (10, [.ref q7, .ref q15, .ref q22, .ref q29, .ref q36, .ref q43, .ref q50, .ref q57, .null, .null, .null, .null, .null, .int 0, .int 0, .int 0, .int 0, .int 0, .int 0, .null, .null, .null, .int 0, .int 0, .int 0, .int 0, .int 0, .int 0, .int 0, .null, .int 0, .int 0, .int 0, .int 0, .long 0])), (q7, .inl (cA, 32, .inl (fun _ => 0))), (q15, .inl (cA, 48, .inl (fun _ => 0))), (q22, .inl (cA, 4, .inl (fun _ => 0))), (q29, .inl (cA, 4, .inl (fun _ => 0))), (q36, .inl (cA, 4, .inl (fun _ => 0))), (q43, .inl (cA, 4, .inl (fun _ => 0))), (q50, .inl (cA, 4, .inl (fun _ => 0))), (q57, .inl (cA, 4, .inl (fun _ => 0))), (q64, .inl (cA, 4, .inl (fun _ => 0)))] := hD
  refine va_putF (D := G) (ci := 10) (v := .ref q64) (ty := (.array .int)) (C := RX10) (T := TX10) (N := 35) hx hb hts iX10_init_X10 tyX10 tyX10_ok nmX10 hown hK.1 hP hD hS 0 rfl rfl 8 (by decide) (hts (.fieldLink RX10 36 "MelodeonModel$Desk" "other" "[I") (by decide +kernel)) (fun _ h9 => h9) rfl hin rfl (by decide +kernel) rfl rfl (Nat.le_of_ble_eq_true rfl) dX10_init_66 (fun H locs hP hD hS => ?_)
  have hP : va_P G vwCl [(h0, .inr (10, [.ref q7, .ref q15, .ref q22, .ref q29, .ref q36, .ref q43, .ref q50, .ref q57, .ref q64, .null, .null, .null, .null, .int 0, .int 0, .int 0, .int 0, .int 0, .int 0, .null, .null, .null, .int 0, .int 0, .int 0, .int 0, .int 0, .int 0, .int 0, .null, .int 0, .int 0, .int 0, .int 0, .long 0])), (q7, .inl (cA, 32, .inl (fun _ => 0))), (q15, .inl (cA, 48, .inl (fun _ => 0))), (q22, .inl (cA, 4, .inl (fun _ => 0))), (q29, .inl (cA, 4, .inl (fun _ => 0))), (q36, .inl (cA, 4, .inl (fun _ => 0))), (q43, .inl (cA, 4, .inl (fun _ => 0))), (q50, .inl (cA, 4, .inl (fun _ => 0))), (q57, .inl (cA, 4, .inl (fun _ => 0))), (q64, .inl (cA, 4, .inl (fun _ => 0)))] H := hP
  have hD : va_D _ [(h0, .inr (10, [.ref q7, .ref q15, .ref q22, .ref q29, .ref q36, .ref q43, .ref q50, .ref q57, .ref q64, .null, .null, .null, .null, .int 0, .int 0, .int 0, .int 0, .int 0, .int 0, .null, .null, .null, .int 0, .int 0, .int 0, .int 0, .int 0, .int 0, .int 0, .null, .int 0, .int 0, .int 0, .int 0, .long 0])), (q7, .inl (cA, 32, .inl (fun _ => 0))), (q15, .inl (cA, 48, .inl (fun _ => 0))), (q22, .inl (cA, 4, .inl (fun _ => 0))), (q29, .inl (cA, 4, .inl (fun _ => 0))), (q36, .inl (cA, 4, .inl (fun _ => 0))), (q43, .inl (cA, 4, .inl (fun _ => 0))), (q50, .inl (cA, 4, .inl (fun _ => 0))), (q57, .inl (cA, 4, .inl (fun _ => 0))), (q64, .inl (cA, 4, .inl (fun _ => 0)))] := hD
  refine lv_aload_n hx hb dX10_init_69 rfl (lv_at hl 0 rfl) ?_
  refine lv_iconst (v := 4) hx hb dX10_init_70 (by decide) ?_
  refine va_newa (atype := .int) (ty := .int) (N' := 4) (a0 := (4, .inl (fun _ => 0))) hx hb (hts (.arrayClass .int) (by decide +kernel)) rfl hK.1 hP hD hS hA (fun _ => rfl) (by decide) (by decide) (Nat.le_of_ble_eq_true rfl) (Nat.le_of_ble_eq_true rfl) (Nat.le_of_ble_eq_true rfl) dX10_init_71 (fun q71 cQ H hKx hP hD hS => ?_)
  have hcq := cQ_eq2 hKx
  rw [hcq] at hP hD
  have hP : va_P G vwCl [(h0, .inr (10, [.ref q7, .ref q15, .ref q22, .ref q29, .ref q36, .ref q43, .ref q50, .ref q57, .ref q64, .null, .null, .null, .null, .int 0, .int 0, .int 0, .int 0, .int 0, .int 0, .null, .null, .null, .int 0, .int 0, .int 0, .int 0, .int 0, .int 0, .int 0, .null, .int 0, .int 0, .int 0, .int 0, .long 0])), (q7, .inl (cA, 32, .inl (fun _ => 0))), (q15, .inl (cA, 48, .inl (fun _ => 0))), (q22, .inl (cA, 4, .inl (fun _ => 0))), (q29, .inl (cA, 4, .inl (fun _ => 0))), (q36, .inl (cA, 4, .inl (fun _ => 0))), (q43, .inl (cA, 4, .inl (fun _ => 0))), (q50, .inl (cA, 4, .inl (fun _ => 0))), (q57, .inl (cA, 4, .inl (fun _ => 0))), (q64, .inl (cA, 4, .inl (fun _ => 0))), (q71, .inl (cA, 4, .inl (fun _ => 0)))] H := hP
  have hD : va_D _ [(h0, .inr (10, [.ref q7, .ref q15, .ref q22, .ref q29, .ref q36, .ref q43, .ref q50, .ref q57, .ref q64, .null, .null, .null, .null, .int 0, .int 0, .int 0, .int 0, .int 0, .int 0, .null, .null, .null, .int 0, .int 0, .int 0, .int 0, .int 0, .int 0, .int 0, .null, .int 0, .int 0, .int 0, .int 0, .long 0])), (q7, .inl (cA, 32, .inl (fun _ => 0))), (q15, .inl (cA, 48, .inl (fun _ => 0))), (q22, .inl (cA, 4, .inl (fun _ => 0))), (q29, .inl (cA, 4, .inl (fun _ => 0))), (q36, .inl (cA, 4, .inl (fun _ => 0))), (q43, .inl (cA, 4, .inl (fun _ => 0))), (q50, .inl (cA, 4, .inl (fun _ => 0))), (q57, .inl (cA, 4, .inl (fun _ => 0))), (q64, .inl (cA, 4, .inl (fun _ => 0))), (q71, .inl (cA, 4, .inl (fun _ => 0)))] := hD
  refine va_putF (D := G) (ci := 10) (v := .ref q71) (ty := (.array .int)) (C := RX10) (T := TX10) (N := 35) hx hb hts iX10_init_X10 tyX10 tyX10_ok nmX10 hown hK.1 hP hD hS 0 rfl rfl 9 (by decide) (hts (.fieldLink RX10 39 "MelodeonModel$Desk" "low" "[I") (by decide +kernel)) (fun _ h9 => h9) rfl hin rfl (by decide +kernel) rfl rfl (Nat.le_of_ble_eq_true rfl) dX10_init_73 (fun H locs hP hD hS => ?_)
  have hP : va_P G vwCl [(h0, .inr (10, [.ref q7, .ref q15, .ref q22, .ref q29, .ref q36, .ref q43, .ref q50, .ref q57, .ref q64, .ref q71, .null, .null, .null, .int 0, .int 0, .int 0, .int 0, .int 0, .int 0, .null, .null, .null, .int 0, .int 0, .int 0, .int 0, .int 0, .int 0, .int 0, .null, .int 0, .int 0, .int 0, .int 0, .long 0])), (q7, .inl (cA, 32, .inl (fun _ => 0))), (q15, .inl (cA, 48, .inl (fun _ => 0))), (q22, .inl (cA, 4, .inl (fun _ => 0))), (q29, .inl (cA, 4, .inl (fun _ => 0))), (q36, .inl (cA, 4, .inl (fun _ => 0))), (q43, .inl (cA, 4, .inl (fun _ => 0))), (q50, .inl (cA, 4, .inl (fun _ => 0))), (q57, .inl (cA, 4, .inl (fun _ => 0))), (q64, .inl (cA, 4, .inl (fun _ => 0))), (q71, .inl (cA, 4, .inl (fun _ => 0)))] H := hP
  have hD : va_D _ [(h0, .inr (10, [.ref q7, .ref q15, .ref q22, .ref q29, .ref q36, .ref q43, .ref q50, .ref q57, .ref q64, .ref q71, .null, .null, .null, .int 0, .int 0, .int 0, .int 0, .int 0, .int 0, .null, .null, .null, .int 0, .int 0, .int 0, .int 0, .int 0, .int 0, .int 0, .null, .int 0, .int 0, .int 0, .int 0, .long 0])), (q7, .inl (cA, 32, .inl (fun _ => 0))), (q15, .inl (cA, 48, .inl (fun _ => 0))), (q22, .inl (cA, 4, .inl (fun _ => 0))), (q29, .inl (cA, 4, .inl (fun _ => 0))), (q36, .inl (cA, 4, .inl (fun _ => 0))), (q43, .inl (cA, 4, .inl (fun _ => 0))), (q50, .inl (cA, 4, .inl (fun _ => 0))), (q57, .inl (cA, 4, .inl (fun _ => 0))), (q64, .inl (cA, 4, .inl (fun _ => 0))), (q71, .inl (cA, 4, .inl (fun _ => 0)))] := hD
  refine lv_aload_n hx hb dX10_init_76 rfl (lv_at hl 0 rfl) ?_
  refine lv_iconst (v := 4) hx hb dX10_init_77 (by decide) ?_
  refine va_newa (atype := .int) (ty := .int) (N' := 4) (a0 := (4, .inl (fun _ => 0))) hx hb (hts (.arrayClass .int) (by decide +kernel)) rfl hK.1 hP hD hS hA (fun _ => rfl) (by decide) (by decide) (Nat.le_of_ble_eq_true rfl) (Nat.le_of_ble_eq_true rfl) (Nat.le_of_ble_eq_true rfl) dX10_init_78 (fun q78 cQ H hKx hP hD hS => ?_)
  have hcq := cQ_eq2 hKx
  rw [hcq] at hP hD
  have hP : va_P G vwCl [(h0, .inr (10, [.ref q7, .ref q15, .ref q22, .ref q29, .ref q36, .ref q43, .ref q50, .ref q57, .ref q64, .ref q71, .null, .null, .null, .int 0, .int 0, .int 0, .int 0, .int 0, .int 0, .null, .null, .null, .int 0, .int 0, .int 0, .int 0, .int 0, .int 0, .int 0, .null, .int 0, .int 0, .int 0, .int 0, .long 0])), (q7, .inl (cA, 32, .inl (fun _ => 0))), (q15, .inl (cA, 48, .inl (fun _ => 0))), (q22, .inl (cA, 4, .inl (fun _ => 0))), (q29, .inl (cA, 4, .inl (fun _ => 0))), (q36, .inl (cA, 4, .inl (fun _ => 0))), (q43, .inl (cA, 4, .inl (fun _ => 0))), (q50, .inl (cA, 4, .inl (fun _ => 0))), (q57, .inl (cA, 4, .inl (fun _ => 0))), (q64, .inl (cA, 4, .inl (fun _ => 0))), (q71, .inl (cA, 4, .inl (fun _ => 0))), (q78, .inl (cA, 4, .inl (fun _ => 0)))] H := hP
  have hD : va_D _ [(h0, .inr (10, [.ref q7, .ref q15, .ref q22, .ref q29, .ref q36, .ref q43, .ref q50, .ref q57, .ref q64, .ref q71, .null, .null, .null, .int 0, .int 0, .int 0, .int 0, .int 0, .int 0, .null, .null, .null, .int 0, .int 0, .int 0, .int 0, .int 0, .int 0, .int 0, .null, .int 0, .int 0, .int 0, .int 0, .long 0])), (q7, .inl (cA, 32, .inl (fun _ => 0))), (q15, .inl (cA, 48, .inl (fun _ => 0))), (q22, .inl (cA, 4, .inl (fun _ => 0))), (q29, .inl (cA, 4, .inl (fun _ => 0))), (q36, .inl (cA, 4, .inl (fun _ => 0))), (q43, .inl (cA, 4, .inl (fun _ => 0))), (q50, .inl (cA, 4, .inl (fun _ => 0))), (q57, .inl (cA, 4, .inl (fun _ => 0))), (q64, .inl (cA, 4, .inl (fun _ => 0))), (q71, .inl (cA, 4, .inl (fun _ => 0))), (q78, .inl (cA, 4, .inl (fun _ => 0)))] := hD
  refine va_putF (D := G) (ci := 10) (v := .ref q78) (ty := (.array .int)) (C := RX10) (T := TX10) (N := 35) hx hb hts iX10_init_X10 tyX10 tyX10_ok nmX10 hown hK.1 hP hD hS 0 rfl rfl 10 (by decide) (hts (.fieldLink RX10 42 "MelodeonModel$Desk" "band" "[I") (by decide +kernel)) (fun _ h9 => h9) rfl hin rfl (by decide +kernel) rfl rfl (Nat.le_of_ble_eq_true rfl) dX10_init_80 (fun H locs hP hD hS => ?_)
  have hP : va_P G vwCl [(h0, .inr (10, [.ref q7, .ref q15, .ref q22, .ref q29, .ref q36, .ref q43, .ref q50, .ref q57, .ref q64, .ref q71, .ref q78, .null, .null, .int 0, .int 0, .int 0, .int 0, .int 0, .int 0, .null, .null, .null, .int 0, .int 0, .int 0, .int 0, .int 0, .int 0, .int 0, .null, .int 0, .int 0, .int 0, .int 0, .long 0])), (q7, .inl (cA, 32, .inl (fun _ => 0))), (q15, .inl (cA, 48, .inl (fun _ => 0))), (q22, .inl (cA, 4, .inl (fun _ => 0))), (q29, .inl (cA, 4, .inl (fun _ => 0))), (q36, .inl (cA, 4, .inl (fun _ => 0))), (q43, .inl (cA, 4, .inl (fun _ => 0))), (q50, .inl (cA, 4, .inl (fun _ => 0))), (q57, .inl (cA, 4, .inl (fun _ => 0))), (q64, .inl (cA, 4, .inl (fun _ => 0))), (q71, .inl (cA, 4, .inl (fun _ => 0))), (q78, .inl (cA, 4, .inl (fun _ => 0)))] H := hP
  have hD : va_D _ [(h0, .inr (10, [.ref q7, .ref q15, .ref q22, .ref q29, .ref q36, .ref q43, .ref q50, .ref q57, .ref q64, .ref q71, .ref q78, .null, .null, .int 0, .int 0, .int 0, .int 0, .int 0, .int 0, .null, .null, .null, .int 0, .int 0, .int 0, .int 0, .int 0, .int 0, .int 0, .null, .int 0, .int 0, .int 0, .int 0, .long 0])), (q7, .inl (cA, 32, .inl (fun _ => 0))), (q15, .inl (cA, 48, .inl (fun _ => 0))), (q22, .inl (cA, 4, .inl (fun _ => 0))), (q29, .inl (cA, 4, .inl (fun _ => 0))), (q36, .inl (cA, 4, .inl (fun _ => 0))), (q43, .inl (cA, 4, .inl (fun _ => 0))), (q50, .inl (cA, 4, .inl (fun _ => 0))), (q57, .inl (cA, 4, .inl (fun _ => 0))), (q64, .inl (cA, 4, .inl (fun _ => 0))), (q71, .inl (cA, 4, .inl (fun _ => 0))), (q78, .inl (cA, 4, .inl (fun _ => 0)))] := hD
  refine lv_aload_n hx hb dX10_init_83 rfl (lv_at hl 0 rfl) ?_
  refine lv_iconst (v := 4) hx hb dX10_init_84 (by decide) ?_
  refine va_newa (atype := .int) (ty := .int) (N' := 4) (a0 := (4, .inl (fun _ => 0))) hx hb (hts (.arrayClass .int) (by decide +kernel)) rfl hK.1 hP hD hS hA (fun _ => rfl) (by decide) (by decide) (Nat.le_of_ble_eq_true rfl) (Nat.le_of_ble_eq_true rfl) (Nat.le_of_ble_eq_true rfl) dX10_init_85 (fun q85 cQ H hKx hP hD hS => ?_)
  have hcq := cQ_eq2 hKx
  rw [hcq] at hP hD
  have hP : va_P G vwCl [(h0, .inr (10, [.ref q7, .ref q15, .ref q22, .ref q29, .ref q36, .ref q43, .ref q50, .ref q57, .ref q64, .ref q71, .ref q78, .null, .null, .int 0, .int 0, .int 0, .int 0, .int 0, .int 0, .null, .null, .null, .int 0, .int 0, .int 0, .int 0, .int 0, .int 0, .int 0, .null, .int 0, .int 0, .int 0, .int 0, .long 0])), (q7, .inl (cA, 32, .inl (fun _ => 0))), (q15, .inl (cA, 48, .inl (fun _ => 0))), (q22, .inl (cA, 4, .inl (fun _ => 0))), (q29, .inl (cA, 4, .inl (fun _ => 0))), (q36, .inl (cA, 4, .inl (fun _ => 0))), (q43, .inl (cA, 4, .inl (fun _ => 0))), (q50, .inl (cA, 4, .inl (fun _ => 0))), (q57, .inl (cA, 4, .inl (fun _ => 0))), (q64, .inl (cA, 4, .inl (fun _ => 0))), (q71, .inl (cA, 4, .inl (fun _ => 0))), (q78, .inl (cA, 4, .inl (fun _ => 0))), (q85, .inl (cA, 4, .inl (fun _ => 0)))] H := hP
  have hD : va_D _ [(h0, .inr (10, [.ref q7, .ref q15, .ref q22, .ref q29, .ref q36, .ref q43, .ref q50, .ref q57, .ref q64, .ref q71, .ref q78, .null, .null, .int 0, .int 0, .int 0, .int 0, .int 0, .int 0, .null, .null, .null, .int 0, .int 0, .int 0, .int 0, .int 0, .int 0, .int 0, .null, .int 0, .int 0, .int 0, .int 0, .long 0])), (q7, .inl (cA, 32, .inl (fun _ => 0))), (q15, .inl (cA, 48, .inl (fun _ => 0))), (q22, .inl (cA, 4, .inl (fun _ => 0))), (q29, .inl (cA, 4, .inl (fun _ => 0))), (q36, .inl (cA, 4, .inl (fun _ => 0))), (q43, .inl (cA, 4, .inl (fun _ => 0))), (q50, .inl (cA, 4, .inl (fun _ => 0))), (q57, .inl (cA, 4, .inl (fun _ => 0))), (q64, .inl (cA, 4, .inl (fun _ => 0))), (q71, .inl (cA, 4, .inl (fun _ => 0))), (q78, .inl (cA, 4, .inl (fun _ => 0))), (q85, .inl (cA, 4, .inl (fun _ => 0)))] := hD
  refine va_putF (D := G) (ci := 10) (v := .ref q85) (ty := (.array .int)) (C := RX10) (T := TX10) (N := 35) hx hb hts iX10_init_X10 tyX10 tyX10_ok nmX10 hown hK.1 hP hD hS 0 rfl rfl 11 (by decide) (hts (.fieldLink RX10 45 "MelodeonModel$Desk" "gate" "[I") (by decide +kernel)) (fun _ h9 => h9) rfl hin rfl (by decide +kernel) rfl rfl (Nat.le_of_ble_eq_true rfl) dX10_init_87 (fun H locs hP hD hS => ?_)
  have hP : va_P G vwCl [(h0, .inr (10, [.ref q7, .ref q15, .ref q22, .ref q29, .ref q36, .ref q43, .ref q50, .ref q57, .ref q64, .ref q71, .ref q78, .ref q85, .null, .int 0, .int 0, .int 0, .int 0, .int 0, .int 0, .null, .null, .null, .int 0, .int 0, .int 0, .int 0, .int 0, .int 0, .int 0, .null, .int 0, .int 0, .int 0, .int 0, .long 0])), (q7, .inl (cA, 32, .inl (fun _ => 0))), (q15, .inl (cA, 48, .inl (fun _ => 0))), (q22, .inl (cA, 4, .inl (fun _ => 0))), (q29, .inl (cA, 4, .inl (fun _ => 0))), (q36, .inl (cA, 4, .inl (fun _ => 0))), (q43, .inl (cA, 4, .inl (fun _ => 0))), (q50, .inl (cA, 4, .inl (fun _ => 0))), (q57, .inl (cA, 4, .inl (fun _ => 0))), (q64, .inl (cA, 4, .inl (fun _ => 0))), (q71, .inl (cA, 4, .inl (fun _ => 0))), (q78, .inl (cA, 4, .inl (fun _ => 0))), (q85, .inl (cA, 4, .inl (fun _ => 0)))] H := hP
  have hD : va_D _ [(h0, .inr (10, [.ref q7, .ref q15, .ref q22, .ref q29, .ref q36, .ref q43, .ref q50, .ref q57, .ref q64, .ref q71, .ref q78, .ref q85, .null, .int 0, .int 0, .int 0, .int 0, .int 0, .int 0, .null, .null, .null, .int 0, .int 0, .int 0, .int 0, .int 0, .int 0, .int 0, .null, .int 0, .int 0, .int 0, .int 0, .long 0])), (q7, .inl (cA, 32, .inl (fun _ => 0))), (q15, .inl (cA, 48, .inl (fun _ => 0))), (q22, .inl (cA, 4, .inl (fun _ => 0))), (q29, .inl (cA, 4, .inl (fun _ => 0))), (q36, .inl (cA, 4, .inl (fun _ => 0))), (q43, .inl (cA, 4, .inl (fun _ => 0))), (q50, .inl (cA, 4, .inl (fun _ => 0))), (q57, .inl (cA, 4, .inl (fun _ => 0))), (q64, .inl (cA, 4, .inl (fun _ => 0))), (q71, .inl (cA, 4, .inl (fun _ => 0))), (q78, .inl (cA, 4, .inl (fun _ => 0))), (q85, .inl (cA, 4, .inl (fun _ => 0)))] := hD
  refine lv_aload_n hx hb dX10_init_90 rfl (lv_at hl 0 rfl) ?_
  refine lv_iconst (v := 4) hx hb dX10_init_91 (by decide) ?_
  refine va_newa (atype := .int) (ty := .int) (N' := 4) (a0 := (4, .inl (fun _ => 0))) hx hb (hts (.arrayClass .int) (by decide +kernel)) rfl hK.1 hP hD hS hA (fun _ => rfl) (by decide) (by decide) (Nat.le_of_ble_eq_true rfl) (Nat.le_of_ble_eq_true rfl) (Nat.le_of_ble_eq_true rfl) dX10_init_92 (fun q92 cQ H hKx hP hD hS => ?_)
  have hcq := cQ_eq2 hKx
  rw [hcq] at hP hD
  have hP : va_P G vwCl [(h0, .inr (10, [.ref q7, .ref q15, .ref q22, .ref q29, .ref q36, .ref q43, .ref q50, .ref q57, .ref q64, .ref q71, .ref q78, .ref q85, .null, .int 0, .int 0, .int 0, .int 0, .int 0, .int 0, .null, .null, .null, .int 0, .int 0, .int 0, .int 0, .int 0, .int 0, .int 0, .null, .int 0, .int 0, .int 0, .int 0, .long 0])), (q7, .inl (cA, 32, .inl (fun _ => 0))), (q15, .inl (cA, 48, .inl (fun _ => 0))), (q22, .inl (cA, 4, .inl (fun _ => 0))), (q29, .inl (cA, 4, .inl (fun _ => 0))), (q36, .inl (cA, 4, .inl (fun _ => 0))), (q43, .inl (cA, 4, .inl (fun _ => 0))), (q50, .inl (cA, 4, .inl (fun _ => 0))), (q57, .inl (cA, 4, .inl (fun _ => 0))), (q64, .inl (cA, 4, .inl (fun _ => 0))), (q71, .inl (cA, 4, .inl (fun _ => 0))), (q78, .inl (cA, 4, .inl (fun _ => 0))), (q85, .inl (cA, 4, .inl (fun _ => 0))), (q92, .inl (cA, 4, .inl (fun _ => 0)))] H := hP
  have hD : va_D _ [(h0, .inr (10, [.ref q7, .ref q15, .ref q22, .ref q29, .ref q36, .ref q43, .ref q50, .ref q57, .ref q64, .ref q71, .ref q78, .ref q85, .null, .int 0, .int 0, .int 0, .int 0, .int 0, .int 0, .null, .null, .null, .int 0, .int 0, .int 0, .int 0, .int 0, .int 0, .int 0, .null, .int 0, .int 0, .int 0, .int 0, .long 0])), (q7, .inl (cA, 32, .inl (fun _ => 0))), (q15, .inl (cA, 48, .inl (fun _ => 0))), (q22, .inl (cA, 4, .inl (fun _ => 0))), (q29, .inl (cA, 4, .inl (fun _ => 0))), (q36, .inl (cA, 4, .inl (fun _ => 0))), (q43, .inl (cA, 4, .inl (fun _ => 0))), (q50, .inl (cA, 4, .inl (fun _ => 0))), (q57, .inl (cA, 4, .inl (fun _ => 0))), (q64, .inl (cA, 4, .inl (fun _ => 0))), (q71, .inl (cA, 4, .inl (fun _ => 0))), (q78, .inl (cA, 4, .inl (fun _ => 0))), (q85, .inl (cA, 4, .inl (fun _ => 0))), (q92, .inl (cA, 4, .inl (fun _ => 0)))] := hD
  refine va_putF (D := G) (ci := 10) (v := .ref q92) (ty := (.array .int)) (C := RX10) (T := TX10) (N := 35) hx hb hts iX10_init_X10 tyX10 tyX10_ok nmX10 hown hK.1 hP hD hS 0 rfl rfl 12 (by decide) (hts (.fieldLink RX10 48 "MelodeonModel$Desk" "began" "[I") (by decide +kernel)) (fun _ h9 => h9) rfl hin rfl (by decide +kernel) rfl rfl (Nat.le_of_ble_eq_true rfl) dX10_init_94 (fun H locs hP hD hS => ?_)
  have hP : va_P G vwCl [(h0, .inr (10, [.ref q7, .ref q15, .ref q22, .ref q29, .ref q36, .ref q43, .ref q50, .ref q57, .ref q64, .ref q71, .ref q78, .ref q85, .ref q92, .int 0, .int 0, .int 0, .int 0, .int 0, .int 0, .null, .null, .null, .int 0, .int 0, .int 0, .int 0, .int 0, .int 0, .int 0, .null, .int 0, .int 0, .int 0, .int 0, .long 0])), (q7, .inl (cA, 32, .inl (fun _ => 0))), (q15, .inl (cA, 48, .inl (fun _ => 0))), (q22, .inl (cA, 4, .inl (fun _ => 0))), (q29, .inl (cA, 4, .inl (fun _ => 0))), (q36, .inl (cA, 4, .inl (fun _ => 0))), (q43, .inl (cA, 4, .inl (fun _ => 0))), (q50, .inl (cA, 4, .inl (fun _ => 0))), (q57, .inl (cA, 4, .inl (fun _ => 0))), (q64, .inl (cA, 4, .inl (fun _ => 0))), (q71, .inl (cA, 4, .inl (fun _ => 0))), (q78, .inl (cA, 4, .inl (fun _ => 0))), (q85, .inl (cA, 4, .inl (fun _ => 0))), (q92, .inl (cA, 4, .inl (fun _ => 0)))] H := hP
  have hD : va_D _ [(h0, .inr (10, [.ref q7, .ref q15, .ref q22, .ref q29, .ref q36, .ref q43, .ref q50, .ref q57, .ref q64, .ref q71, .ref q78, .ref q85, .ref q92, .int 0, .int 0, .int 0, .int 0, .int 0, .int 0, .null, .null, .null, .int 0, .int 0, .int 0, .int 0, .int 0, .int 0, .int 0, .null, .int 0, .int 0, .int 0, .int 0, .long 0])), (q7, .inl (cA, 32, .inl (fun _ => 0))), (q15, .inl (cA, 48, .inl (fun _ => 0))), (q22, .inl (cA, 4, .inl (fun _ => 0))), (q29, .inl (cA, 4, .inl (fun _ => 0))), (q36, .inl (cA, 4, .inl (fun _ => 0))), (q43, .inl (cA, 4, .inl (fun _ => 0))), (q50, .inl (cA, 4, .inl (fun _ => 0))), (q57, .inl (cA, 4, .inl (fun _ => 0))), (q64, .inl (cA, 4, .inl (fun _ => 0))), (q71, .inl (cA, 4, .inl (fun _ => 0))), (q78, .inl (cA, 4, .inl (fun _ => 0))), (q85, .inl (cA, 4, .inl (fun _ => 0))), (q92, .inl (cA, 4, .inl (fun _ => 0)))] := hD
  refine lv_aload_n hx hb dX10_init_97 rfl (lv_at hl 0 rfl) ?_
  refine lv_bipush (v := 64) hx hb dX10_init_98 (by decide) ?_
  refine va_put (D := G) (ci := 10) (v := .int 64) (ty := .int) (C := RX10) (T := TX10) (N := 35) hx hb hts iX10_init_X10 tyX10 tyX10_ok nmX10 hown hK.1 hP hD hS 0 rfl rfl 15 (by decide) (hts (.fieldLink RX10 51 "MelodeonModel$Desk" "gain" "I") (by decide +kernel)) (fun _ h9 => h9) rfl (by decide +kernel) rfl rfl (Nat.le_of_ble_eq_true rfl) dX10_init_100 (fun H locs hP hD hS => ?_)
  have hP : va_P G vwCl [(h0, .inr (10, [.ref q7, .ref q15, .ref q22, .ref q29, .ref q36, .ref q43, .ref q50, .ref q57, .ref q64, .ref q71, .ref q78, .ref q85, .ref q92, .int 0, .int 0, .int 64, .int 0, .int 0, .int 0, .null, .null, .null, .int 0, .int 0, .int 0, .int 0, .int 0, .int 0, .int 0, .null, .int 0, .int 0, .int 0, .int 0, .long 0])), (q7, .inl (cA, 32, .inl (fun _ => 0))), (q15, .inl (cA, 48, .inl (fun _ => 0))), (q22, .inl (cA, 4, .inl (fun _ => 0))), (q29, .inl (cA, 4, .inl (fun _ => 0))), (q36, .inl (cA, 4, .inl (fun _ => 0))), (q43, .inl (cA, 4, .inl (fun _ => 0))), (q50, .inl (cA, 4, .inl (fun _ => 0))), (q57, .inl (cA, 4, .inl (fun _ => 0))), (q64, .inl (cA, 4, .inl (fun _ => 0))), (q71, .inl (cA, 4, .inl (fun _ => 0))), (q78, .inl (cA, 4, .inl (fun _ => 0))), (q85, .inl (cA, 4, .inl (fun _ => 0))), (q92, .inl (cA, 4, .inl (fun _ => 0)))] H := hP
  have hD : va_D _ [(h0, .inr (10, [.ref q7, .ref q15, .ref q22, .ref q29, .ref q36, .ref q43, .ref q50, .ref q57, .ref q64, .ref q71, .ref q78, .ref q85, .ref q92, .int 0, .int 0, .int 64, .int 0, .int 0, .int 0, .null, .null, .null, .int 0, .int 0, .int 0, .int 0, .int 0, .int 0, .int 0, .null, .int 0, .int 0, .int 0, .int 0, .long 0])), (q7, .inl (cA, 32, .inl (fun _ => 0))), (q15, .inl (cA, 48, .inl (fun _ => 0))), (q22, .inl (cA, 4, .inl (fun _ => 0))), (q29, .inl (cA, 4, .inl (fun _ => 0))), (q36, .inl (cA, 4, .inl (fun _ => 0))), (q43, .inl (cA, 4, .inl (fun _ => 0))), (q50, .inl (cA, 4, .inl (fun _ => 0))), (q57, .inl (cA, 4, .inl (fun _ => 0))), (q64, .inl (cA, 4, .inl (fun _ => 0))), (q71, .inl (cA, 4, .inl (fun _ => 0))), (q78, .inl (cA, 4, .inl (fun _ => 0))), (q85, .inl (cA, 4, .inl (fun _ => 0))), (q92, .inl (cA, 4, .inl (fun _ => 0)))] := hD
  refine lv_aload_n hx hb dX10_init_103 rfl (lv_at hl 0 rfl) ?_
  refine lv_sipush (v := 200) hx hb dX10_init_104 (by decide) ?_
  refine va_newa (atype := .int) (ty := .int) (N' := 200) (a0 := (200, .inl (fun _ => 0))) hx hb (hts (.arrayClass .int) (by decide +kernel)) rfl hK.1 hP hD hS hA (fun _ => rfl) (by decide) (by decide) (Nat.le_of_ble_eq_true rfl) (Nat.le_of_ble_eq_true rfl) (Nat.le_of_ble_eq_true rfl) dX10_init_107 (fun q107 cQ H hKx hP hD hS => ?_)
  have hcq := cQ_eq2 hKx
  rw [hcq] at hP hD
  have hP : va_P G vwCl [(h0, .inr (10, [.ref q7, .ref q15, .ref q22, .ref q29, .ref q36, .ref q43, .ref q50, .ref q57, .ref q64, .ref q71, .ref q78, .ref q85, .ref q92, .int 0, .int 0, .int 64, .int 0, .int 0, .int 0, .null, .null, .null, .int 0, .int 0, .int 0, .int 0, .int 0, .int 0, .int 0, .null, .int 0, .int 0, .int 0, .int 0, .long 0])), (q7, .inl (cA, 32, .inl (fun _ => 0))), (q15, .inl (cA, 48, .inl (fun _ => 0))), (q22, .inl (cA, 4, .inl (fun _ => 0))), (q29, .inl (cA, 4, .inl (fun _ => 0))), (q36, .inl (cA, 4, .inl (fun _ => 0))), (q43, .inl (cA, 4, .inl (fun _ => 0))), (q50, .inl (cA, 4, .inl (fun _ => 0))), (q57, .inl (cA, 4, .inl (fun _ => 0))), (q64, .inl (cA, 4, .inl (fun _ => 0))), (q71, .inl (cA, 4, .inl (fun _ => 0))), (q78, .inl (cA, 4, .inl (fun _ => 0))), (q85, .inl (cA, 4, .inl (fun _ => 0))), (q92, .inl (cA, 4, .inl (fun _ => 0))), (q107, .inl (cA, 200, .inl (fun _ => 0)))] H := hP
  have hD : va_D _ [(h0, .inr (10, [.ref q7, .ref q15, .ref q22, .ref q29, .ref q36, .ref q43, .ref q50, .ref q57, .ref q64, .ref q71, .ref q78, .ref q85, .ref q92, .int 0, .int 0, .int 64, .int 0, .int 0, .int 0, .null, .null, .null, .int 0, .int 0, .int 0, .int 0, .int 0, .int 0, .int 0, .null, .int 0, .int 0, .int 0, .int 0, .long 0])), (q7, .inl (cA, 32, .inl (fun _ => 0))), (q15, .inl (cA, 48, .inl (fun _ => 0))), (q22, .inl (cA, 4, .inl (fun _ => 0))), (q29, .inl (cA, 4, .inl (fun _ => 0))), (q36, .inl (cA, 4, .inl (fun _ => 0))), (q43, .inl (cA, 4, .inl (fun _ => 0))), (q50, .inl (cA, 4, .inl (fun _ => 0))), (q57, .inl (cA, 4, .inl (fun _ => 0))), (q64, .inl (cA, 4, .inl (fun _ => 0))), (q71, .inl (cA, 4, .inl (fun _ => 0))), (q78, .inl (cA, 4, .inl (fun _ => 0))), (q85, .inl (cA, 4, .inl (fun _ => 0))), (q92, .inl (cA, 4, .inl (fun _ => 0))), (q107, .inl (cA, 200, .inl (fun _ => 0)))] := hD
  refine va_putF (D := G) (ci := 10) (v := .ref q107) (ty := (.array .int)) (C := RX10) (T := TX10) (N := 35) hx hb hts iX10_init_X10 tyX10 tyX10_ok nmX10 hown hK.1 hP hD hS 0 rfl rfl 19 (by decide) (hts (.fieldLink RX10 55 "MelodeonModel$Desk" "delay" "[I") (by decide +kernel)) (fun _ h9 => h9) rfl hin rfl (by decide +kernel) rfl rfl (Nat.le_of_ble_eq_true rfl) dX10_init_109 (fun H locs hP hD hS => ?_)
  have hP : va_P G vwCl [(h0, .inr (10, [.ref q7, .ref q15, .ref q22, .ref q29, .ref q36, .ref q43, .ref q50, .ref q57, .ref q64, .ref q71, .ref q78, .ref q85, .ref q92, .int 0, .int 0, .int 64, .int 0, .int 0, .int 0, .ref q107, .null, .null, .int 0, .int 0, .int 0, .int 0, .int 0, .int 0, .int 0, .null, .int 0, .int 0, .int 0, .int 0, .long 0])), (q7, .inl (cA, 32, .inl (fun _ => 0))), (q15, .inl (cA, 48, .inl (fun _ => 0))), (q22, .inl (cA, 4, .inl (fun _ => 0))), (q29, .inl (cA, 4, .inl (fun _ => 0))), (q36, .inl (cA, 4, .inl (fun _ => 0))), (q43, .inl (cA, 4, .inl (fun _ => 0))), (q50, .inl (cA, 4, .inl (fun _ => 0))), (q57, .inl (cA, 4, .inl (fun _ => 0))), (q64, .inl (cA, 4, .inl (fun _ => 0))), (q71, .inl (cA, 4, .inl (fun _ => 0))), (q78, .inl (cA, 4, .inl (fun _ => 0))), (q85, .inl (cA, 4, .inl (fun _ => 0))), (q92, .inl (cA, 4, .inl (fun _ => 0))), (q107, .inl (cA, 200, .inl (fun _ => 0)))] H := hP
  have hD : va_D _ [(h0, .inr (10, [.ref q7, .ref q15, .ref q22, .ref q29, .ref q36, .ref q43, .ref q50, .ref q57, .ref q64, .ref q71, .ref q78, .ref q85, .ref q92, .int 0, .int 0, .int 64, .int 0, .int 0, .int 0, .ref q107, .null, .null, .int 0, .int 0, .int 0, .int 0, .int 0, .int 0, .int 0, .null, .int 0, .int 0, .int 0, .int 0, .long 0])), (q7, .inl (cA, 32, .inl (fun _ => 0))), (q15, .inl (cA, 48, .inl (fun _ => 0))), (q22, .inl (cA, 4, .inl (fun _ => 0))), (q29, .inl (cA, 4, .inl (fun _ => 0))), (q36, .inl (cA, 4, .inl (fun _ => 0))), (q43, .inl (cA, 4, .inl (fun _ => 0))), (q50, .inl (cA, 4, .inl (fun _ => 0))), (q57, .inl (cA, 4, .inl (fun _ => 0))), (q64, .inl (cA, 4, .inl (fun _ => 0))), (q71, .inl (cA, 4, .inl (fun _ => 0))), (q78, .inl (cA, 4, .inl (fun _ => 0))), (q85, .inl (cA, 4, .inl (fun _ => 0))), (q92, .inl (cA, 4, .inl (fun _ => 0))), (q107, .inl (cA, 200, .inl (fun _ => 0)))] := hD
  refine lv_aload_n hx hb dX10_init_112 rfl (lv_at hl 0 rfl) ?_
  refine lv_iconst (v := 3) hx hb dX10_init_113 (by decide) ?_
  refine va_newa (atype := .int) (ty := .int) (N' := 3) (a0 := (3, .inl (fun _ => 0))) hx hb (hts (.arrayClass .int) (by decide +kernel)) rfl hK.1 hP hD hS hA (fun _ => rfl) (by decide) (by decide) (Nat.le_of_ble_eq_true rfl) (Nat.le_of_ble_eq_true rfl) (Nat.le_of_ble_eq_true rfl) dX10_init_114 (fun q114 cQ H hKx hP hD hS => ?_)
  have hcq := cQ_eq2 hKx
  rw [hcq] at hP hD
  have hP : va_P G vwCl [(h0, .inr (10, [.ref q7, .ref q15, .ref q22, .ref q29, .ref q36, .ref q43, .ref q50, .ref q57, .ref q64, .ref q71, .ref q78, .ref q85, .ref q92, .int 0, .int 0, .int 64, .int 0, .int 0, .int 0, .ref q107, .null, .null, .int 0, .int 0, .int 0, .int 0, .int 0, .int 0, .int 0, .null, .int 0, .int 0, .int 0, .int 0, .long 0])), (q7, .inl (cA, 32, .inl (fun _ => 0))), (q15, .inl (cA, 48, .inl (fun _ => 0))), (q22, .inl (cA, 4, .inl (fun _ => 0))), (q29, .inl (cA, 4, .inl (fun _ => 0))), (q36, .inl (cA, 4, .inl (fun _ => 0))), (q43, .inl (cA, 4, .inl (fun _ => 0))), (q50, .inl (cA, 4, .inl (fun _ => 0))), (q57, .inl (cA, 4, .inl (fun _ => 0))), (q64, .inl (cA, 4, .inl (fun _ => 0))), (q71, .inl (cA, 4, .inl (fun _ => 0))), (q78, .inl (cA, 4, .inl (fun _ => 0))), (q85, .inl (cA, 4, .inl (fun _ => 0))), (q92, .inl (cA, 4, .inl (fun _ => 0))), (q107, .inl (cA, 200, .inl (fun _ => 0))), (q114, .inl (cA, 3, .inl (fun _ => 0)))] H := hP
  have hD : va_D _ [(h0, .inr (10, [.ref q7, .ref q15, .ref q22, .ref q29, .ref q36, .ref q43, .ref q50, .ref q57, .ref q64, .ref q71, .ref q78, .ref q85, .ref q92, .int 0, .int 0, .int 64, .int 0, .int 0, .int 0, .ref q107, .null, .null, .int 0, .int 0, .int 0, .int 0, .int 0, .int 0, .int 0, .null, .int 0, .int 0, .int 0, .int 0, .long 0])), (q7, .inl (cA, 32, .inl (fun _ => 0))), (q15, .inl (cA, 48, .inl (fun _ => 0))), (q22, .inl (cA, 4, .inl (fun _ => 0))), (q29, .inl (cA, 4, .inl (fun _ => 0))), (q36, .inl (cA, 4, .inl (fun _ => 0))), (q43, .inl (cA, 4, .inl (fun _ => 0))), (q50, .inl (cA, 4, .inl (fun _ => 0))), (q57, .inl (cA, 4, .inl (fun _ => 0))), (q64, .inl (cA, 4, .inl (fun _ => 0))), (q71, .inl (cA, 4, .inl (fun _ => 0))), (q78, .inl (cA, 4, .inl (fun _ => 0))), (q85, .inl (cA, 4, .inl (fun _ => 0))), (q92, .inl (cA, 4, .inl (fun _ => 0))), (q107, .inl (cA, 200, .inl (fun _ => 0))), (q114, .inl (cA, 3, .inl (fun _ => 0)))] := hD
  refine va_putF (D := G) (ci := 10) (v := .ref q114) (ty := (.array .int)) (C := RX10) (T := TX10) (N := 35) hx hb hts iX10_init_X10 tyX10 tyX10_ok nmX10 hown hK.1 hP hD hS 0 rfl rfl 20 (by decide) (hts (.fieldLink RX10 58 "MelodeonModel$Desk" "track" "[I") (by decide +kernel)) (fun _ h9 => h9) rfl hin rfl (by decide +kernel) rfl rfl (Nat.le_of_ble_eq_true rfl) dX10_init_116 (fun H locs hP hD hS => ?_)
  have hP : va_P G vwCl [(h0, .inr (10, [.ref q7, .ref q15, .ref q22, .ref q29, .ref q36, .ref q43, .ref q50, .ref q57, .ref q64, .ref q71, .ref q78, .ref q85, .ref q92, .int 0, .int 0, .int 64, .int 0, .int 0, .int 0, .ref q107, .ref q114, .null, .int 0, .int 0, .int 0, .int 0, .int 0, .int 0, .int 0, .null, .int 0, .int 0, .int 0, .int 0, .long 0])), (q7, .inl (cA, 32, .inl (fun _ => 0))), (q15, .inl (cA, 48, .inl (fun _ => 0))), (q22, .inl (cA, 4, .inl (fun _ => 0))), (q29, .inl (cA, 4, .inl (fun _ => 0))), (q36, .inl (cA, 4, .inl (fun _ => 0))), (q43, .inl (cA, 4, .inl (fun _ => 0))), (q50, .inl (cA, 4, .inl (fun _ => 0))), (q57, .inl (cA, 4, .inl (fun _ => 0))), (q64, .inl (cA, 4, .inl (fun _ => 0))), (q71, .inl (cA, 4, .inl (fun _ => 0))), (q78, .inl (cA, 4, .inl (fun _ => 0))), (q85, .inl (cA, 4, .inl (fun _ => 0))), (q92, .inl (cA, 4, .inl (fun _ => 0))), (q107, .inl (cA, 200, .inl (fun _ => 0))), (q114, .inl (cA, 3, .inl (fun _ => 0)))] H := hP
  have hD : va_D _ [(h0, .inr (10, [.ref q7, .ref q15, .ref q22, .ref q29, .ref q36, .ref q43, .ref q50, .ref q57, .ref q64, .ref q71, .ref q78, .ref q85, .ref q92, .int 0, .int 0, .int 64, .int 0, .int 0, .int 0, .ref q107, .ref q114, .null, .int 0, .int 0, .int 0, .int 0, .int 0, .int 0, .int 0, .null, .int 0, .int 0, .int 0, .int 0, .long 0])), (q7, .inl (cA, 32, .inl (fun _ => 0))), (q15, .inl (cA, 48, .inl (fun _ => 0))), (q22, .inl (cA, 4, .inl (fun _ => 0))), (q29, .inl (cA, 4, .inl (fun _ => 0))), (q36, .inl (cA, 4, .inl (fun _ => 0))), (q43, .inl (cA, 4, .inl (fun _ => 0))), (q50, .inl (cA, 4, .inl (fun _ => 0))), (q57, .inl (cA, 4, .inl (fun _ => 0))), (q64, .inl (cA, 4, .inl (fun _ => 0))), (q71, .inl (cA, 4, .inl (fun _ => 0))), (q78, .inl (cA, 4, .inl (fun _ => 0))), (q85, .inl (cA, 4, .inl (fun _ => 0))), (q92, .inl (cA, 4, .inl (fun _ => 0))), (q107, .inl (cA, 200, .inl (fun _ => 0))), (q114, .inl (cA, 3, .inl (fun _ => 0)))] := hD
  refine lv_aload_n hx hb dX10_init_119 rfl (lv_at hl 0 rfl) ?_
  refine lv_bipush (v := 72) hx hb dX10_init_120 (by decide) ?_
  refine va_newa (atype := .int) (ty := .int) (N' := 72) (a0 := (72, .inl (fun _ => 0))) hx hb (hts (.arrayClass .int) (by decide +kernel)) rfl hK.1 hP hD hS hA (fun _ => rfl) (by decide) (by decide) (Nat.le_of_ble_eq_true rfl) (Nat.le_of_ble_eq_true rfl) (Nat.le_of_ble_eq_true rfl) dX10_init_122 (fun q122 cQ H hKx hP hD hS => ?_)
  have hcq := cQ_eq2 hKx
  rw [hcq] at hP hD
  have hP : va_P G vwCl [(h0, .inr (10, [.ref q7, .ref q15, .ref q22, .ref q29, .ref q36, .ref q43, .ref q50, .ref q57, .ref q64, .ref q71, .ref q78, .ref q85, .ref q92, .int 0, .int 0, .int 64, .int 0, .int 0, .int 0, .ref q107, .ref q114, .null, .int 0, .int 0, .int 0, .int 0, .int 0, .int 0, .int 0, .null, .int 0, .int 0, .int 0, .int 0, .long 0])), (q7, .inl (cA, 32, .inl (fun _ => 0))), (q15, .inl (cA, 48, .inl (fun _ => 0))), (q22, .inl (cA, 4, .inl (fun _ => 0))), (q29, .inl (cA, 4, .inl (fun _ => 0))), (q36, .inl (cA, 4, .inl (fun _ => 0))), (q43, .inl (cA, 4, .inl (fun _ => 0))), (q50, .inl (cA, 4, .inl (fun _ => 0))), (q57, .inl (cA, 4, .inl (fun _ => 0))), (q64, .inl (cA, 4, .inl (fun _ => 0))), (q71, .inl (cA, 4, .inl (fun _ => 0))), (q78, .inl (cA, 4, .inl (fun _ => 0))), (q85, .inl (cA, 4, .inl (fun _ => 0))), (q92, .inl (cA, 4, .inl (fun _ => 0))), (q107, .inl (cA, 200, .inl (fun _ => 0))), (q114, .inl (cA, 3, .inl (fun _ => 0))), (q122, .inl (cA, 72, .inl (fun _ => 0)))] H := hP
  have hD : va_D _ [(h0, .inr (10, [.ref q7, .ref q15, .ref q22, .ref q29, .ref q36, .ref q43, .ref q50, .ref q57, .ref q64, .ref q71, .ref q78, .ref q85, .ref q92, .int 0, .int 0, .int 64, .int 0, .int 0, .int 0, .ref q107, .ref q114, .null, .int 0, .int 0, .int 0, .int 0, .int 0, .int 0, .int 0, .null, .int 0, .int 0, .int 0, .int 0, .long 0])), (q7, .inl (cA, 32, .inl (fun _ => 0))), (q15, .inl (cA, 48, .inl (fun _ => 0))), (q22, .inl (cA, 4, .inl (fun _ => 0))), (q29, .inl (cA, 4, .inl (fun _ => 0))), (q36, .inl (cA, 4, .inl (fun _ => 0))), (q43, .inl (cA, 4, .inl (fun _ => 0))), (q50, .inl (cA, 4, .inl (fun _ => 0))), (q57, .inl (cA, 4, .inl (fun _ => 0))), (q64, .inl (cA, 4, .inl (fun _ => 0))), (q71, .inl (cA, 4, .inl (fun _ => 0))), (q78, .inl (cA, 4, .inl (fun _ => 0))), (q85, .inl (cA, 4, .inl (fun _ => 0))), (q92, .inl (cA, 4, .inl (fun _ => 0))), (q107, .inl (cA, 200, .inl (fun _ => 0))), (q114, .inl (cA, 3, .inl (fun _ => 0))), (q122, .inl (cA, 72, .inl (fun _ => 0)))] := hD
  refine va_putF (D := G) (ci := 10) (v := .ref q122) (ty := (.array .int)) (C := RX10) (T := TX10) (N := 35) hx hb hts iX10_init_X10 tyX10 tyX10_ok nmX10 hown hK.1 hP hD hS 0 rfl rfl 21 (by decide) (hts (.fieldLink RX10 61 "MelodeonModel$Desk" "written" "[I") (by decide +kernel)) (fun _ h9 => h9) rfl hin rfl (by decide +kernel) rfl rfl (Nat.le_of_ble_eq_true rfl) dX10_init_124 (fun H locs hP hD hS => ?_)
  have hP : va_P G vwCl [(h0, .inr (10, [.ref q7, .ref q15, .ref q22, .ref q29, .ref q36, .ref q43, .ref q50, .ref q57, .ref q64, .ref q71, .ref q78, .ref q85, .ref q92, .int 0, .int 0, .int 64, .int 0, .int 0, .int 0, .ref q107, .ref q114, .ref q122, .int 0, .int 0, .int 0, .int 0, .int 0, .int 0, .int 0, .null, .int 0, .int 0, .int 0, .int 0, .long 0])), (q7, .inl (cA, 32, .inl (fun _ => 0))), (q15, .inl (cA, 48, .inl (fun _ => 0))), (q22, .inl (cA, 4, .inl (fun _ => 0))), (q29, .inl (cA, 4, .inl (fun _ => 0))), (q36, .inl (cA, 4, .inl (fun _ => 0))), (q43, .inl (cA, 4, .inl (fun _ => 0))), (q50, .inl (cA, 4, .inl (fun _ => 0))), (q57, .inl (cA, 4, .inl (fun _ => 0))), (q64, .inl (cA, 4, .inl (fun _ => 0))), (q71, .inl (cA, 4, .inl (fun _ => 0))), (q78, .inl (cA, 4, .inl (fun _ => 0))), (q85, .inl (cA, 4, .inl (fun _ => 0))), (q92, .inl (cA, 4, .inl (fun _ => 0))), (q107, .inl (cA, 200, .inl (fun _ => 0))), (q114, .inl (cA, 3, .inl (fun _ => 0))), (q122, .inl (cA, 72, .inl (fun _ => 0)))] H := hP
  have hD : va_D _ [(h0, .inr (10, [.ref q7, .ref q15, .ref q22, .ref q29, .ref q36, .ref q43, .ref q50, .ref q57, .ref q64, .ref q71, .ref q78, .ref q85, .ref q92, .int 0, .int 0, .int 64, .int 0, .int 0, .int 0, .ref q107, .ref q114, .ref q122, .int 0, .int 0, .int 0, .int 0, .int 0, .int 0, .int 0, .null, .int 0, .int 0, .int 0, .int 0, .long 0])), (q7, .inl (cA, 32, .inl (fun _ => 0))), (q15, .inl (cA, 48, .inl (fun _ => 0))), (q22, .inl (cA, 4, .inl (fun _ => 0))), (q29, .inl (cA, 4, .inl (fun _ => 0))), (q36, .inl (cA, 4, .inl (fun _ => 0))), (q43, .inl (cA, 4, .inl (fun _ => 0))), (q50, .inl (cA, 4, .inl (fun _ => 0))), (q57, .inl (cA, 4, .inl (fun _ => 0))), (q64, .inl (cA, 4, .inl (fun _ => 0))), (q71, .inl (cA, 4, .inl (fun _ => 0))), (q78, .inl (cA, 4, .inl (fun _ => 0))), (q85, .inl (cA, 4, .inl (fun _ => 0))), (q92, .inl (cA, 4, .inl (fun _ => 0))), (q107, .inl (cA, 200, .inl (fun _ => 0))), (q114, .inl (cA, 3, .inl (fun _ => 0))), (q122, .inl (cA, 72, .inl (fun _ => 0)))] := hD
  refine lv_aload_n hx hb dX10_init_127 rfl (lv_at hl 0 rfl) ?_
  refine lv_bipush (v := 20) hx hb dX10_init_128 (by decide) ?_
  refine va_put (D := G) (ci := 10) (v := .int 20) (ty := .int) (C := RX10) (T := TX10) (N := 35) hx hb hts iX10_init_X10 tyX10 tyX10_ok nmX10 hown hK.1 hP hD hS 0 rfl rfl 22 (by decide) (hts (.fieldLink RX10 64 "MelodeonModel$Desk" "tempo" "I") (by decide +kernel)) (fun _ h9 => h9) rfl (by decide +kernel) rfl rfl (Nat.le_of_ble_eq_true rfl) dX10_init_130 (fun H locs hP hD hS => ?_)
  have hP : va_P G vwCl [(h0, .inr (10, [.ref q7, .ref q15, .ref q22, .ref q29, .ref q36, .ref q43, .ref q50, .ref q57, .ref q64, .ref q71, .ref q78, .ref q85, .ref q92, .int 0, .int 0, .int 64, .int 0, .int 0, .int 0, .ref q107, .ref q114, .ref q122, .int 20, .int 0, .int 0, .int 0, .int 0, .int 0, .int 0, .null, .int 0, .int 0, .int 0, .int 0, .long 0])), (q7, .inl (cA, 32, .inl (fun _ => 0))), (q15, .inl (cA, 48, .inl (fun _ => 0))), (q22, .inl (cA, 4, .inl (fun _ => 0))), (q29, .inl (cA, 4, .inl (fun _ => 0))), (q36, .inl (cA, 4, .inl (fun _ => 0))), (q43, .inl (cA, 4, .inl (fun _ => 0))), (q50, .inl (cA, 4, .inl (fun _ => 0))), (q57, .inl (cA, 4, .inl (fun _ => 0))), (q64, .inl (cA, 4, .inl (fun _ => 0))), (q71, .inl (cA, 4, .inl (fun _ => 0))), (q78, .inl (cA, 4, .inl (fun _ => 0))), (q85, .inl (cA, 4, .inl (fun _ => 0))), (q92, .inl (cA, 4, .inl (fun _ => 0))), (q107, .inl (cA, 200, .inl (fun _ => 0))), (q114, .inl (cA, 3, .inl (fun _ => 0))), (q122, .inl (cA, 72, .inl (fun _ => 0)))] H := hP
  have hD : va_D _ [(h0, .inr (10, [.ref q7, .ref q15, .ref q22, .ref q29, .ref q36, .ref q43, .ref q50, .ref q57, .ref q64, .ref q71, .ref q78, .ref q85, .ref q92, .int 0, .int 0, .int 64, .int 0, .int 0, .int 0, .ref q107, .ref q114, .ref q122, .int 20, .int 0, .int 0, .int 0, .int 0, .int 0, .int 0, .null, .int 0, .int 0, .int 0, .int 0, .long 0])), (q7, .inl (cA, 32, .inl (fun _ => 0))), (q15, .inl (cA, 48, .inl (fun _ => 0))), (q22, .inl (cA, 4, .inl (fun _ => 0))), (q29, .inl (cA, 4, .inl (fun _ => 0))), (q36, .inl (cA, 4, .inl (fun _ => 0))), (q43, .inl (cA, 4, .inl (fun _ => 0))), (q50, .inl (cA, 4, .inl (fun _ => 0))), (q57, .inl (cA, 4, .inl (fun _ => 0))), (q64, .inl (cA, 4, .inl (fun _ => 0))), (q71, .inl (cA, 4, .inl (fun _ => 0))), (q78, .inl (cA, 4, .inl (fun _ => 0))), (q85, .inl (cA, 4, .inl (fun _ => 0))), (q92, .inl (cA, 4, .inl (fun _ => 0))), (q107, .inl (cA, 200, .inl (fun _ => 0))), (q114, .inl (cA, 3, .inl (fun _ => 0))), (q122, .inl (cA, 72, .inl (fun _ => 0)))] := hD
  refine lv_aload_n hx hb dX10_init_133 rfl (lv_at hl 0 rfl) ?_
  refine lv_bipush (v := 64) hx hb dX10_init_134 (by decide) ?_
  refine va_newa (atype := .int) (ty := .int) (N' := 64) (a0 := (64, .inl (fun _ => 0))) hx hb (hts (.arrayClass .int) (by decide +kernel)) rfl hK.1 hP hD hS hA (fun _ => rfl) (by decide) (by decide) (Nat.le_of_ble_eq_true rfl) (Nat.le_of_ble_eq_true rfl) (Nat.le_of_ble_eq_true rfl) dX10_init_136 (fun q136 cQ H hKx hP hD hS => ?_)
  have hcq := cQ_eq2 hKx
  rw [hcq] at hP hD
  have hP : va_P G vwCl [(h0, .inr (10, [.ref q7, .ref q15, .ref q22, .ref q29, .ref q36, .ref q43, .ref q50, .ref q57, .ref q64, .ref q71, .ref q78, .ref q85, .ref q92, .int 0, .int 0, .int 64, .int 0, .int 0, .int 0, .ref q107, .ref q114, .ref q122, .int 20, .int 0, .int 0, .int 0, .int 0, .int 0, .int 0, .null, .int 0, .int 0, .int 0, .int 0, .long 0])), (q7, .inl (cA, 32, .inl (fun _ => 0))), (q15, .inl (cA, 48, .inl (fun _ => 0))), (q22, .inl (cA, 4, .inl (fun _ => 0))), (q29, .inl (cA, 4, .inl (fun _ => 0))), (q36, .inl (cA, 4, .inl (fun _ => 0))), (q43, .inl (cA, 4, .inl (fun _ => 0))), (q50, .inl (cA, 4, .inl (fun _ => 0))), (q57, .inl (cA, 4, .inl (fun _ => 0))), (q64, .inl (cA, 4, .inl (fun _ => 0))), (q71, .inl (cA, 4, .inl (fun _ => 0))), (q78, .inl (cA, 4, .inl (fun _ => 0))), (q85, .inl (cA, 4, .inl (fun _ => 0))), (q92, .inl (cA, 4, .inl (fun _ => 0))), (q107, .inl (cA, 200, .inl (fun _ => 0))), (q114, .inl (cA, 3, .inl (fun _ => 0))), (q122, .inl (cA, 72, .inl (fun _ => 0))), (q136, .inl (cA, 64, .inl (fun _ => 0)))] H := hP
  have hD : va_D _ [(h0, .inr (10, [.ref q7, .ref q15, .ref q22, .ref q29, .ref q36, .ref q43, .ref q50, .ref q57, .ref q64, .ref q71, .ref q78, .ref q85, .ref q92, .int 0, .int 0, .int 64, .int 0, .int 0, .int 0, .ref q107, .ref q114, .ref q122, .int 20, .int 0, .int 0, .int 0, .int 0, .int 0, .int 0, .null, .int 0, .int 0, .int 0, .int 0, .long 0])), (q7, .inl (cA, 32, .inl (fun _ => 0))), (q15, .inl (cA, 48, .inl (fun _ => 0))), (q22, .inl (cA, 4, .inl (fun _ => 0))), (q29, .inl (cA, 4, .inl (fun _ => 0))), (q36, .inl (cA, 4, .inl (fun _ => 0))), (q43, .inl (cA, 4, .inl (fun _ => 0))), (q50, .inl (cA, 4, .inl (fun _ => 0))), (q57, .inl (cA, 4, .inl (fun _ => 0))), (q64, .inl (cA, 4, .inl (fun _ => 0))), (q71, .inl (cA, 4, .inl (fun _ => 0))), (q78, .inl (cA, 4, .inl (fun _ => 0))), (q85, .inl (cA, 4, .inl (fun _ => 0))), (q92, .inl (cA, 4, .inl (fun _ => 0))), (q107, .inl (cA, 200, .inl (fun _ => 0))), (q114, .inl (cA, 3, .inl (fun _ => 0))), (q122, .inl (cA, 72, .inl (fun _ => 0))), (q136, .inl (cA, 64, .inl (fun _ => 0)))] := hD
  refine va_putF (D := G) (ci := 10) (v := .ref q136) (ty := (.array .int)) (C := RX10) (T := TX10) (N := 35) hx hb hts iX10_init_X10 tyX10 tyX10_ok nmX10 hown hK.1 hP hD hS 0 rfl rfl 29 (by decide) (hts (.fieldLink RX10 67 "MelodeonModel$Desk" "heard" "[I") (by decide +kernel)) (fun _ h9 => h9) rfl hin rfl (by decide +kernel) rfl rfl (Nat.le_of_ble_eq_true rfl) dX10_init_138 (fun H locs hP hD hS => ?_)
  have hP : va_P G vwCl [(h0, .inr (10, [.ref q7, .ref q15, .ref q22, .ref q29, .ref q36, .ref q43, .ref q50, .ref q57, .ref q64, .ref q71, .ref q78, .ref q85, .ref q92, .int 0, .int 0, .int 64, .int 0, .int 0, .int 0, .ref q107, .ref q114, .ref q122, .int 20, .int 0, .int 0, .int 0, .int 0, .int 0, .int 0, .ref q136, .int 0, .int 0, .int 0, .int 0, .long 0])), (q7, .inl (cA, 32, .inl (fun _ => 0))), (q15, .inl (cA, 48, .inl (fun _ => 0))), (q22, .inl (cA, 4, .inl (fun _ => 0))), (q29, .inl (cA, 4, .inl (fun _ => 0))), (q36, .inl (cA, 4, .inl (fun _ => 0))), (q43, .inl (cA, 4, .inl (fun _ => 0))), (q50, .inl (cA, 4, .inl (fun _ => 0))), (q57, .inl (cA, 4, .inl (fun _ => 0))), (q64, .inl (cA, 4, .inl (fun _ => 0))), (q71, .inl (cA, 4, .inl (fun _ => 0))), (q78, .inl (cA, 4, .inl (fun _ => 0))), (q85, .inl (cA, 4, .inl (fun _ => 0))), (q92, .inl (cA, 4, .inl (fun _ => 0))), (q107, .inl (cA, 200, .inl (fun _ => 0))), (q114, .inl (cA, 3, .inl (fun _ => 0))), (q122, .inl (cA, 72, .inl (fun _ => 0))), (q136, .inl (cA, 64, .inl (fun _ => 0)))] H := hP
  have hD : va_D _ [(h0, .inr (10, [.ref q7, .ref q15, .ref q22, .ref q29, .ref q36, .ref q43, .ref q50, .ref q57, .ref q64, .ref q71, .ref q78, .ref q85, .ref q92, .int 0, .int 0, .int 64, .int 0, .int 0, .int 0, .ref q107, .ref q114, .ref q122, .int 20, .int 0, .int 0, .int 0, .int 0, .int 0, .int 0, .ref q136, .int 0, .int 0, .int 0, .int 0, .long 0])), (q7, .inl (cA, 32, .inl (fun _ => 0))), (q15, .inl (cA, 48, .inl (fun _ => 0))), (q22, .inl (cA, 4, .inl (fun _ => 0))), (q29, .inl (cA, 4, .inl (fun _ => 0))), (q36, .inl (cA, 4, .inl (fun _ => 0))), (q43, .inl (cA, 4, .inl (fun _ => 0))), (q50, .inl (cA, 4, .inl (fun _ => 0))), (q57, .inl (cA, 4, .inl (fun _ => 0))), (q64, .inl (cA, 4, .inl (fun _ => 0))), (q71, .inl (cA, 4, .inl (fun _ => 0))), (q78, .inl (cA, 4, .inl (fun _ => 0))), (q85, .inl (cA, 4, .inl (fun _ => 0))), (q92, .inl (cA, 4, .inl (fun _ => 0))), (q107, .inl (cA, 200, .inl (fun _ => 0))), (q114, .inl (cA, 3, .inl (fun _ => 0))), (q122, .inl (cA, 72, .inl (fun _ => 0))), (q136, .inl (cA, 64, .inl (fun _ => 0)))] := hD
  have hP9 := hP.sub (ws' := [(h0, .inr (10, [.ref q7, .ref q15, .ref q22, .ref q29, .ref q36, .ref q43, .ref q50, .ref q57, .ref q64, .ref q71, .ref q78, .ref q85, .ref q92, .int 0, .int 0, .int 64, .int 0, .int 0, .int 0, .ref q107, .ref q114, .ref q122, .int 20, .int 0, .int 0, .int 0, .int 0, .int 0, .int 0, .ref q136, .int 0, .int 0, .int 0, .int 0, .long 0])), (q7, .inl (cA, 32, .inl (fun _ => 0))), (q15, .inl (cA, 48, .inl (fun _ => 0))), (q22, .inl (cA, 4, .inl (fun _ => 0))), (q29, .inl (cA, 4, .inl (fun _ => 0))), (q36, .inl (cA, 4, .inl (fun _ => 0))), (q43, .inl (cA, 4, .inl (fun _ => 0))), (q50, .inl (cA, 4, .inl (fun _ => 0))), (q57, .inl (cA, 4, .inl (fun _ => 0))), (q64, .inl (cA, 4, .inl (fun _ => 0))), (q71, .inl (cA, 4, .inl (fun _ => 0))), (q78, .inl (cA, 4, .inl (fun _ => 0))), (q85, .inl (cA, 4, .inl (fun _ => 0))), (q92, .inl (cA, 4, .inl (fun _ => 0))), (q107, .inl (cA, 200, .inl (fun _ => 0))), (q114, .inl (cA, 3, .inl (fun _ => 0))), (q122, .inl (cA, 72, .inl (fun _ => 0))), (q136, .inl (cA, 64, .inl (fun _ => 0)))]) [0, 1, 2, 3, 4, 5, 6, 7, 8, 9, 10, 11, 12, 13, 14, 15, 16, 17] rfl
  have hD9 := hD.sub (ws' := [(h0, .inr (10, [.ref q7, .ref q15, .ref q22, .ref q29, .ref q36, .ref q43, .ref q50, .ref q57, .ref q64, .ref q71, .ref q78, .ref q85, .ref q92, .int 0, .int 0, .int 64, .int 0, .int 0, .int 0, .ref q107, .ref q114, .ref q122, .int 20, .int 0, .int 0, .int 0, .int 0, .int 0, .int 0, .ref q136, .int 0, .int 0, .int 0, .int 0, .long 0])), (q7, .inl (cA, 32, .inl (fun _ => 0))), (q15, .inl (cA, 48, .inl (fun _ => 0))), (q22, .inl (cA, 4, .inl (fun _ => 0))), (q29, .inl (cA, 4, .inl (fun _ => 0))), (q36, .inl (cA, 4, .inl (fun _ => 0))), (q43, .inl (cA, 4, .inl (fun _ => 0))), (q50, .inl (cA, 4, .inl (fun _ => 0))), (q57, .inl (cA, 4, .inl (fun _ => 0))), (q64, .inl (cA, 4, .inl (fun _ => 0))), (q71, .inl (cA, 4, .inl (fun _ => 0))), (q78, .inl (cA, 4, .inl (fun _ => 0))), (q85, .inl (cA, 4, .inl (fun _ => 0))), (q92, .inl (cA, 4, .inl (fun _ => 0))), (q107, .inl (cA, 200, .inl (fun _ => 0))), (q114, .inl (cA, 3, .inl (fun _ => 0))), (q122, .inl (cA, 72, .inl (fun _ => 0))), (q136, .inl (cA, 64, .inl (fun _ => 0)))]) [0, 1, 2, 3, 4, 5, 6, 7, 8, 9, 10, 11, 12, 13, 14, 15, 16, 17] (by decide) rfl
  obtain ⟨S, eS⟩ : ∃ S : Mm, S = (fun o k => if o = 0 then (if k = 15 then 64 else if k = 22 then 20 else 0) else 0) := ⟨_, rfl⟩
  obtain ⟨a, ea⟩ : ∃ a : Nat → Nat, a = fun k => [h0, q7, q15, q22, q29, q36, q43, q50, q57, q64, q71, q78, q85, q92, q107, q114, q122, q136].getD k 0 := ⟨_, rfl⟩
  have hP : va_P G vwCl (wG 18 a (cD a cA) S 0) H := by rw [ea, eS]; exact hP9
  have hD : va_D (va_A [(h0, .inr (10, [.null, .null, .null, .null, .null, .null, .null, .null, .null, .null, .null, .null, .null, .int 0, .int 0, .int 0, .int 0, .int 0, .int 0, .null, .null, .null, .int 0, .int 0, .int 0, .int 0, .int 0, .int 0, .int 0, .null, .int 0, .int 0, .int 0, .int 0, .long 0]))] s.heap.size) (wG 18 a (cD a cA) S 0) := by rw [ea, eS]; exact hD9
  have ha : apart 18 a := fun i j hi hj e => hD.1 i j _ _ (wG_get hi) (wG_get hj) e
  have hAk : ∀ k, k < 18 → (va_A [(h0, .inr (10, [.null, .null, .null, .null, .null, .null, .null, .null, .null, .null, .null, .null, .null, .int 0, .int 0, .int 0, .int 0, .int 0, .int 0, .null, .null, .null, .int 0, .int 0, .int 0, .int 0, .int 0, .int 0, .int 0, .null, .int 0, .int 0, .int 0, .int 0, .long 0]))] s.heap.size) (a k) := fun k hk => hD.2 k _ (wG_get hk)
  have ha0 : a 0 = h0 := by rw [ea]; rfl
  rw [← ha0] at hl
  refine lv_iconst (v := 0) hx hb dX10_init_141 (by decide) ?_
  refine lv_istore_n (lv' := [(1, .int 0), (0, .ref (a 0))]) hx hb dX10_init_142 rfl hl (by decide) rfl (fun ls hl => ?_)
  refine lv_iload_n hx hb dX10_init_143 rfl (lv_at hl 0 rfl) ?_
  refine lv_iconst (v := 4) hx hb dX10_init_144 (by decide) ?_
  refine lv_icmp_ge (tgt := 253) hx hb dX10_init_145 (by decide) (fun c => absurd c (by decide)) (fun _ => ?_)
  refine lv_aload_n hx hb dX10_init_148 rfl (lv_at hl 1 rfl) ?_
  refine g_get (ci := 10) (C := RX10) (T := TX10) (N := 35) (v := .ref (a 2)) hx hb hts iX10_init_X10 hown hK hP (lt_hn (by decide) (by decide)) cD_D rfl 1 (by decide) rfl (by decide +kernel) rfl dX10_init_149 ?_
  refine lv_iload_n hx hb dX10_init_152 rfl (lv_at hl 0 rfl) ?_
  refine lv_bipush (v := 12) hx hb dX10_init_153 (by decide) ?_
  refine lv_imul hx hb dX10_init_155 ?_
  rw [show (0 : Int32) * 12 = 0 from by decide]
  refine lv_iconst (v := 4) hx hb dX10_init_156 (by decide) ?_
  refine lv_iadd hx hb dX10_init_157 ?_
  rw [show (0 : Int32) + 4 = 4 from by decide]
  refine lv_bipush (v := 10) hx hb dX10_init_158 (by decide) ?_
  refine g_iast (N := 48) (g := S 2) hx hb hK ha hAk hP hS (lt_hn (by decide) (by decide)) rfl (vp_in_lit (by decide)) rfl dX10_init_160 (fun H locs hP hS => ?_)
  refine lv_aload_n hx hb dX10_init_161 rfl (lv_at hl 1 rfl) ?_
  refine g_get (ci := 10) (C := RX10) (T := TX10) (N := 35) (v := .ref (a 2)) hx hb hts iX10_init_X10 hown hK hP (lt_hn (by decide) (by decide)) cD_D rfl 1 (by decide) rfl (by decide +kernel) rfl dX10_init_162 ?_
  refine lv_iload_n hx hb dX10_init_165 rfl (lv_at hl 0 rfl) ?_
  refine lv_bipush (v := 12) hx hb dX10_init_166 (by decide) ?_
  refine lv_imul hx hb dX10_init_168 ?_
  rw [show (0 : Int32) * 12 = 0 from by decide]
  refine lv_iconst (v := 5) hx hb dX10_init_169 (by decide) ?_
  refine lv_iadd hx hb dX10_init_170 ?_
  rw [show (0 : Int32) + 5 = 5 from by decide]
  refine lv_bipush (v := 10) hx hb dX10_init_171 (by decide) ?_
  refine g_iast (N := 48) (g := (up2 S 2 (4 : Int32).toNatClampNeg 10) 2) hx hb hK ha hAk hP hS (lt_hn (by decide) (by decide)) rfl (vp_in_lit (by decide)) rfl dX10_init_173 (fun H locs hP hS => ?_)
  have hP : va_P G vwCl (wG 18 a (cD a cA) (mX10_init_1 S) 0) H := hP
  refine lv_aload_n hx hb dX10_init_174 rfl (lv_at hl 1 rfl) ?_
  refine g_get (ci := 10) (C := RX10) (T := TX10) (N := 35) (v := .ref (a 2)) hx hb hts iX10_init_X10 hown hK hP (lt_hn (by decide) (by decide)) cD_D rfl 1 (by decide) rfl (by decide +kernel) rfl dX10_init_175 ?_
  refine lv_iload_n hx hb dX10_init_178 rfl (lv_at hl 0 rfl) ?_
  refine lv_bipush (v := 12) hx hb dX10_init_179 (by decide) ?_
  refine lv_imul hx hb dX10_init_181 ?_
  rw [show (0 : Int32) * 12 = 0 from by decide]
  refine lv_bipush (v := 6) hx hb dX10_init_182 (by decide) ?_
  refine lv_iadd hx hb dX10_init_184 ?_
  rw [show (0 : Int32) + 6 = 6 from by decide]
  refine lv_sipush (v := 1000) hx hb dX10_init_185 (by decide) ?_
  refine g_iast (N := 48) (g := (mX10_init_1 S) 2) hx hb hK ha hAk hP hS (lt_hn (by decide) (by decide)) rfl (vp_in_lit (by decide)) rfl dX10_init_188 (fun H locs hP hS => ?_)
  refine lv_aload_n hx hb dX10_init_189 rfl (lv_at hl 1 rfl) ?_
  refine g_get (ci := 10) (C := RX10) (T := TX10) (N := 35) (v := .ref (a 2)) hx hb hts iX10_init_X10 hown hK hP (lt_hn (by decide) (by decide)) cD_D rfl 1 (by decide) rfl (by decide +kernel) rfl dX10_init_190 ?_
  refine lv_iload_n hx hb dX10_init_193 rfl (lv_at hl 0 rfl) ?_
  refine lv_bipush (v := 12) hx hb dX10_init_194 (by decide) ?_
  refine lv_imul hx hb dX10_init_196 ?_
  rw [show (0 : Int32) * 12 = 0 from by decide]
  refine lv_bipush (v := 7) hx hb dX10_init_197 (by decide) ?_
  refine lv_iadd hx hb dX10_init_199 ?_
  rw [show (0 : Int32) + 7 = 7 from by decide]
  refine lv_bipush (v := 10) hx hb dX10_init_200 (by decide) ?_
  refine g_iast (N := 48) (g := (up2 (mX10_init_1 S) 2 (6 : Int32).toNatClampNeg 1000) 2) hx hb hK ha hAk hP hS (lt_hn (by decide) (by decide)) rfl (vp_in_lit (by decide)) rfl dX10_init_202 (fun H locs hP hS => ?_)
  have hP : va_P G vwCl (wG 18 a (cD a cA) (mX10_init_2 S) 0) H := hP
  refine lv_aload_n hx hb dX10_init_203 rfl (lv_at hl 1 rfl) ?_
  refine g_get (ci := 10) (C := RX10) (T := TX10) (N := 35) (v := .ref (a 2)) hx hb hts iX10_init_X10 hown hK hP (lt_hn (by decide) (by decide)) cD_D rfl 1 (by decide) rfl (by decide +kernel) rfl dX10_init_204 ?_
  refine lv_iload_n hx hb dX10_init_207 rfl (lv_at hl 0 rfl) ?_
  refine lv_bipush (v := 12) hx hb dX10_init_208 (by decide) ?_
  refine lv_imul hx hb dX10_init_210 ?_
  rw [show (0 : Int32) * 12 = 0 from by decide]
  refine lv_bipush (v := 8) hx hb dX10_init_211 (by decide) ?_
  refine lv_iadd hx hb dX10_init_213 ?_
  rw [show (0 : Int32) + 8 = 8 from by decide]
  refine lv_sipush (v := 128) hx hb dX10_init_214 (by decide) ?_
  refine g_iast (N := 48) (g := (mX10_init_2 S) 2) hx hb hK ha hAk hP hS (lt_hn (by decide) (by decide)) rfl (vp_in_lit (by decide)) rfl dX10_init_217 (fun H locs hP hS => ?_)
  refine lv_aload_n hx hb dX10_init_218 rfl (lv_at hl 1 rfl) ?_
  refine g_get (ci := 10) (C := RX10) (T := TX10) (N := 35) (v := .ref (a 2)) hx hb hts iX10_init_X10 hown hK hP (lt_hn (by decide) (by decide)) cD_D rfl 1 (by decide) rfl (by decide +kernel) rfl dX10_init_219 ?_
  refine lv_iload_n hx hb dX10_init_222 rfl (lv_at hl 0 rfl) ?_
  refine lv_bipush (v := 12) hx hb dX10_init_223 (by decide) ?_
  refine lv_imul hx hb dX10_init_225 ?_
  rw [show (0 : Int32) * 12 = 0 from by decide]
  refine lv_bipush (v := 9) hx hb dX10_init_226 (by decide) ?_
  refine lv_iadd hx hb dX10_init_228 ?_
  rw [show (0 : Int32) + 9 = 9 from by decide]
  refine lv_sipush (v := 256) hx hb dX10_init_229 (by decide) ?_
  refine g_iast (N := 48) (g := (up2 (mX10_init_2 S) 2 (8 : Int32).toNatClampNeg 128) 2) hx hb hK ha hAk hP hS (lt_hn (by decide) (by decide)) rfl (vp_in_lit (by decide)) rfl dX10_init_232 (fun H locs hP hS => ?_)
  have hP : va_P G vwCl (wG 18 a (cD a cA) (mX10_init_3 S) 0) H := hP
  refine lv_aload_n hx hb dX10_init_233 rfl (lv_at hl 1 rfl) ?_
  refine g_get (ci := 10) (C := RX10) (T := TX10) (N := 35) (v := .ref (a 2)) hx hb hts iX10_init_X10 hown hK hP (lt_hn (by decide) (by decide)) cD_D rfl 1 (by decide) rfl (by decide +kernel) rfl dX10_init_234 ?_
  refine lv_iload_n hx hb dX10_init_237 rfl (lv_at hl 0 rfl) ?_
  refine lv_bipush (v := 12) hx hb dX10_init_238 (by decide) ?_
  refine lv_imul hx hb dX10_init_240 ?_
  rw [show (0 : Int32) * 12 = 0 from by decide]
  refine lv_bipush (v := 11) hx hb dX10_init_241 (by decide) ?_
  refine lv_iadd hx hb dX10_init_243 ?_
  rw [show (0 : Int32) + 11 = 11 from by decide]
  refine lv_bipush (v := 64) hx hb dX10_init_244 (by decide) ?_
  refine g_iast (N := 48) (g := (mX10_init_3 S) 2) hx hb hK ha hAk hP hS (lt_hn (by decide) (by decide)) rfl (vp_in_lit (by decide)) rfl dX10_init_246 (fun H locs hP hS => ?_)
  refine lv_iinc (v := 1) (lv' := [(1, .int 1), (0, .ref (a 0))]) hx hb dX10_init_247 hl (k := 0) rfl (by decide) (by decide) rfl (fun ls hl => ?_)
  refine lv_goto (tgt := 143) hx hb dX10_init_250 (by decide) ?_
  refine lv_iload_n hx hb dX10_init_143 rfl (lv_at hl 0 rfl) ?_
  refine lv_iconst (v := 4) hx hb dX10_init_144 (by decide) ?_
  refine lv_icmp_ge (tgt := 253) hx hb dX10_init_145 (by decide) (fun c => absurd c (by decide)) (fun _ => ?_)
  refine lv_aload_n hx hb dX10_init_148 rfl (lv_at hl 1 rfl) ?_
  refine g_get (ci := 10) (C := RX10) (T := TX10) (N := 35) (v := .ref (a 2)) hx hb hts iX10_init_X10 hown hK hP (lt_hn (by decide) (by decide)) cD_D rfl 1 (by decide) rfl (by decide +kernel) rfl dX10_init_149 ?_
  refine lv_iload_n hx hb dX10_init_152 rfl (lv_at hl 0 rfl) ?_
  refine lv_bipush (v := 12) hx hb dX10_init_153 (by decide) ?_
  refine lv_imul hx hb dX10_init_155 ?_
  rw [show (1 : Int32) * 12 = 12 from by decide]
  refine lv_iconst (v := 4) hx hb dX10_init_156 (by decide) ?_
  refine lv_iadd hx hb dX10_init_157 ?_
  rw [show (12 : Int32) + 4 = 16 from by decide]
  refine lv_bipush (v := 10) hx hb dX10_init_158 (by decide) ?_
  refine g_iast (N := 48) (g := (up2 (mX10_init_3 S) 2 (11 : Int32).toNatClampNeg 64) 2) hx hb hK ha hAk hP hS (lt_hn (by decide) (by decide)) rfl (vp_in_lit (by decide)) rfl dX10_init_160 (fun H locs hP hS => ?_)
  have hP : va_P G vwCl (wG 18 a (cD a cA) (mX10_init_4 S) 0) H := hP
  refine lv_aload_n hx hb dX10_init_161 rfl (lv_at hl 1 rfl) ?_
  refine g_get (ci := 10) (C := RX10) (T := TX10) (N := 35) (v := .ref (a 2)) hx hb hts iX10_init_X10 hown hK hP (lt_hn (by decide) (by decide)) cD_D rfl 1 (by decide) rfl (by decide +kernel) rfl dX10_init_162 ?_
  refine lv_iload_n hx hb dX10_init_165 rfl (lv_at hl 0 rfl) ?_
  refine lv_bipush (v := 12) hx hb dX10_init_166 (by decide) ?_
  refine lv_imul hx hb dX10_init_168 ?_
  rw [show (1 : Int32) * 12 = 12 from by decide]
  refine lv_iconst (v := 5) hx hb dX10_init_169 (by decide) ?_
  refine lv_iadd hx hb dX10_init_170 ?_
  rw [show (12 : Int32) + 5 = 17 from by decide]
  refine lv_bipush (v := 10) hx hb dX10_init_171 (by decide) ?_
  refine g_iast (N := 48) (g := (mX10_init_4 S) 2) hx hb hK ha hAk hP hS (lt_hn (by decide) (by decide)) rfl (vp_in_lit (by decide)) rfl dX10_init_173 (fun H locs hP hS => ?_)
  refine lv_aload_n hx hb dX10_init_174 rfl (lv_at hl 1 rfl) ?_
  refine g_get (ci := 10) (C := RX10) (T := TX10) (N := 35) (v := .ref (a 2)) hx hb hts iX10_init_X10 hown hK hP (lt_hn (by decide) (by decide)) cD_D rfl 1 (by decide) rfl (by decide +kernel) rfl dX10_init_175 ?_
  refine lv_iload_n hx hb dX10_init_178 rfl (lv_at hl 0 rfl) ?_
  refine lv_bipush (v := 12) hx hb dX10_init_179 (by decide) ?_
  refine lv_imul hx hb dX10_init_181 ?_
  rw [show (1 : Int32) * 12 = 12 from by decide]
  refine lv_bipush (v := 6) hx hb dX10_init_182 (by decide) ?_
  refine lv_iadd hx hb dX10_init_184 ?_
  rw [show (12 : Int32) + 6 = 18 from by decide]
  refine lv_sipush (v := 1000) hx hb dX10_init_185 (by decide) ?_
  refine g_iast (N := 48) (g := (up2 (mX10_init_4 S) 2 (17 : Int32).toNatClampNeg 10) 2) hx hb hK ha hAk hP hS (lt_hn (by decide) (by decide)) rfl (vp_in_lit (by decide)) rfl dX10_init_188 (fun H locs hP hS => ?_)
  have hP : va_P G vwCl (wG 18 a (cD a cA) (mX10_init_5 S) 0) H := hP
  refine lv_aload_n hx hb dX10_init_189 rfl (lv_at hl 1 rfl) ?_
  refine g_get (ci := 10) (C := RX10) (T := TX10) (N := 35) (v := .ref (a 2)) hx hb hts iX10_init_X10 hown hK hP (lt_hn (by decide) (by decide)) cD_D rfl 1 (by decide) rfl (by decide +kernel) rfl dX10_init_190 ?_
  refine lv_iload_n hx hb dX10_init_193 rfl (lv_at hl 0 rfl) ?_
  refine lv_bipush (v := 12) hx hb dX10_init_194 (by decide) ?_
  refine lv_imul hx hb dX10_init_196 ?_
  rw [show (1 : Int32) * 12 = 12 from by decide]
  refine lv_bipush (v := 7) hx hb dX10_init_197 (by decide) ?_
  refine lv_iadd hx hb dX10_init_199 ?_
  rw [show (12 : Int32) + 7 = 19 from by decide]
  refine lv_bipush (v := 10) hx hb dX10_init_200 (by decide) ?_
  refine g_iast (N := 48) (g := (mX10_init_5 S) 2) hx hb hK ha hAk hP hS (lt_hn (by decide) (by decide)) rfl (vp_in_lit (by decide)) rfl dX10_init_202 (fun H locs hP hS => ?_)
  refine lv_aload_n hx hb dX10_init_203 rfl (lv_at hl 1 rfl) ?_
  refine g_get (ci := 10) (C := RX10) (T := TX10) (N := 35) (v := .ref (a 2)) hx hb hts iX10_init_X10 hown hK hP (lt_hn (by decide) (by decide)) cD_D rfl 1 (by decide) rfl (by decide +kernel) rfl dX10_init_204 ?_
  refine lv_iload_n hx hb dX10_init_207 rfl (lv_at hl 0 rfl) ?_
  refine lv_bipush (v := 12) hx hb dX10_init_208 (by decide) ?_
  refine lv_imul hx hb dX10_init_210 ?_
  rw [show (1 : Int32) * 12 = 12 from by decide]
  refine lv_bipush (v := 8) hx hb dX10_init_211 (by decide) ?_
  refine lv_iadd hx hb dX10_init_213 ?_
  rw [show (12 : Int32) + 8 = 20 from by decide]
  refine lv_sipush (v := 128) hx hb dX10_init_214 (by decide) ?_
  refine g_iast (N := 48) (g := (up2 (mX10_init_5 S) 2 (19 : Int32).toNatClampNeg 10) 2) hx hb hK ha hAk hP hS (lt_hn (by decide) (by decide)) rfl (vp_in_lit (by decide)) rfl dX10_init_217 (fun H locs hP hS => ?_)
  have hP : va_P G vwCl (wG 18 a (cD a cA) (mX10_init_6 S) 0) H := hP
  refine lv_aload_n hx hb dX10_init_218 rfl (lv_at hl 1 rfl) ?_
  refine g_get (ci := 10) (C := RX10) (T := TX10) (N := 35) (v := .ref (a 2)) hx hb hts iX10_init_X10 hown hK hP (lt_hn (by decide) (by decide)) cD_D rfl 1 (by decide) rfl (by decide +kernel) rfl dX10_init_219 ?_
  refine lv_iload_n hx hb dX10_init_222 rfl (lv_at hl 0 rfl) ?_
  refine lv_bipush (v := 12) hx hb dX10_init_223 (by decide) ?_
  refine lv_imul hx hb dX10_init_225 ?_
  rw [show (1 : Int32) * 12 = 12 from by decide]
  refine lv_bipush (v := 9) hx hb dX10_init_226 (by decide) ?_
  refine lv_iadd hx hb dX10_init_228 ?_
  rw [show (12 : Int32) + 9 = 21 from by decide]
  refine lv_sipush (v := 256) hx hb dX10_init_229 (by decide) ?_
  refine g_iast (N := 48) (g := (mX10_init_6 S) 2) hx hb hK ha hAk hP hS (lt_hn (by decide) (by decide)) rfl (vp_in_lit (by decide)) rfl dX10_init_232 (fun H locs hP hS => ?_)
  refine lv_aload_n hx hb dX10_init_233 rfl (lv_at hl 1 rfl) ?_
  refine g_get (ci := 10) (C := RX10) (T := TX10) (N := 35) (v := .ref (a 2)) hx hb hts iX10_init_X10 hown hK hP (lt_hn (by decide) (by decide)) cD_D rfl 1 (by decide) rfl (by decide +kernel) rfl dX10_init_234 ?_
  refine lv_iload_n hx hb dX10_init_237 rfl (lv_at hl 0 rfl) ?_
  refine lv_bipush (v := 12) hx hb dX10_init_238 (by decide) ?_
  refine lv_imul hx hb dX10_init_240 ?_
  rw [show (1 : Int32) * 12 = 12 from by decide]
  refine lv_bipush (v := 11) hx hb dX10_init_241 (by decide) ?_
  refine lv_iadd hx hb dX10_init_243 ?_
  rw [show (12 : Int32) + 11 = 23 from by decide]
  refine lv_bipush (v := 64) hx hb dX10_init_244 (by decide) ?_
  refine g_iast (N := 48) (g := (up2 (mX10_init_6 S) 2 (21 : Int32).toNatClampNeg 256) 2) hx hb hK ha hAk hP hS (lt_hn (by decide) (by decide)) rfl (vp_in_lit (by decide)) rfl dX10_init_246 (fun H locs hP hS => ?_)
  have hP : va_P G vwCl (wG 18 a (cD a cA) (mX10_init_7 S) 0) H := hP
  refine lv_iinc (v := 2) (lv' := [(1, .int 2), (0, .ref (a 0))]) hx hb dX10_init_247 hl (k := 0) rfl (by decide) (by decide) rfl (fun ls hl => ?_)
  refine lv_goto (tgt := 143) hx hb dX10_init_250 (by decide) ?_
  refine lv_iload_n hx hb dX10_init_143 rfl (lv_at hl 0 rfl) ?_
  refine lv_iconst (v := 4) hx hb dX10_init_144 (by decide) ?_
  refine lv_icmp_ge (tgt := 253) hx hb dX10_init_145 (by decide) (fun c => absurd c (by decide)) (fun _ => ?_)
  refine lv_aload_n hx hb dX10_init_148 rfl (lv_at hl 1 rfl) ?_
  refine g_get (ci := 10) (C := RX10) (T := TX10) (N := 35) (v := .ref (a 2)) hx hb hts iX10_init_X10 hown hK hP (lt_hn (by decide) (by decide)) cD_D rfl 1 (by decide) rfl (by decide +kernel) rfl dX10_init_149 ?_
  refine lv_iload_n hx hb dX10_init_152 rfl (lv_at hl 0 rfl) ?_
  refine lv_bipush (v := 12) hx hb dX10_init_153 (by decide) ?_
  refine lv_imul hx hb dX10_init_155 ?_
  rw [show (2 : Int32) * 12 = 24 from by decide]
  refine lv_iconst (v := 4) hx hb dX10_init_156 (by decide) ?_
  refine lv_iadd hx hb dX10_init_157 ?_
  rw [show (24 : Int32) + 4 = 28 from by decide]
  refine lv_bipush (v := 10) hx hb dX10_init_158 (by decide) ?_
  refine g_iast (N := 48) (g := (mX10_init_7 S) 2) hx hb hK ha hAk hP hS (lt_hn (by decide) (by decide)) rfl (vp_in_lit (by decide)) rfl dX10_init_160 (fun H locs hP hS => ?_)
  refine lv_aload_n hx hb dX10_init_161 rfl (lv_at hl 1 rfl) ?_
  refine g_get (ci := 10) (C := RX10) (T := TX10) (N := 35) (v := .ref (a 2)) hx hb hts iX10_init_X10 hown hK hP (lt_hn (by decide) (by decide)) cD_D rfl 1 (by decide) rfl (by decide +kernel) rfl dX10_init_162 ?_
  refine lv_iload_n hx hb dX10_init_165 rfl (lv_at hl 0 rfl) ?_
  refine lv_bipush (v := 12) hx hb dX10_init_166 (by decide) ?_
  refine lv_imul hx hb dX10_init_168 ?_
  rw [show (2 : Int32) * 12 = 24 from by decide]
  refine lv_iconst (v := 5) hx hb dX10_init_169 (by decide) ?_
  refine lv_iadd hx hb dX10_init_170 ?_
  rw [show (24 : Int32) + 5 = 29 from by decide]
  refine lv_bipush (v := 10) hx hb dX10_init_171 (by decide) ?_
  refine g_iast (N := 48) (g := (up2 (mX10_init_7 S) 2 (28 : Int32).toNatClampNeg 10) 2) hx hb hK ha hAk hP hS (lt_hn (by decide) (by decide)) rfl (vp_in_lit (by decide)) rfl dX10_init_173 (fun H locs hP hS => ?_)
  have hP : va_P G vwCl (wG 18 a (cD a cA) (mX10_init_8 S) 0) H := hP
  refine lv_aload_n hx hb dX10_init_174 rfl (lv_at hl 1 rfl) ?_
  refine g_get (ci := 10) (C := RX10) (T := TX10) (N := 35) (v := .ref (a 2)) hx hb hts iX10_init_X10 hown hK hP (lt_hn (by decide) (by decide)) cD_D rfl 1 (by decide) rfl (by decide +kernel) rfl dX10_init_175 ?_
  refine lv_iload_n hx hb dX10_init_178 rfl (lv_at hl 0 rfl) ?_
  refine lv_bipush (v := 12) hx hb dX10_init_179 (by decide) ?_
  refine lv_imul hx hb dX10_init_181 ?_
  rw [show (2 : Int32) * 12 = 24 from by decide]
  refine lv_bipush (v := 6) hx hb dX10_init_182 (by decide) ?_
  refine lv_iadd hx hb dX10_init_184 ?_
  rw [show (24 : Int32) + 6 = 30 from by decide]
  refine lv_sipush (v := 1000) hx hb dX10_init_185 (by decide) ?_
  refine g_iast (N := 48) (g := (mX10_init_8 S) 2) hx hb hK ha hAk hP hS (lt_hn (by decide) (by decide)) rfl (vp_in_lit (by decide)) rfl dX10_init_188 (fun H locs hP hS => ?_)
  refine lv_aload_n hx hb dX10_init_189 rfl (lv_at hl 1 rfl) ?_
  refine g_get (ci := 10) (C := RX10) (T := TX10) (N := 35) (v := .ref (a 2)) hx hb hts iX10_init_X10 hown hK hP (lt_hn (by decide) (by decide)) cD_D rfl 1 (by decide) rfl (by decide +kernel) rfl dX10_init_190 ?_
  refine lv_iload_n hx hb dX10_init_193 rfl (lv_at hl 0 rfl) ?_
  refine lv_bipush (v := 12) hx hb dX10_init_194 (by decide) ?_
  refine lv_imul hx hb dX10_init_196 ?_
  rw [show (2 : Int32) * 12 = 24 from by decide]
  refine lv_bipush (v := 7) hx hb dX10_init_197 (by decide) ?_
  refine lv_iadd hx hb dX10_init_199 ?_
  rw [show (24 : Int32) + 7 = 31 from by decide]
  refine lv_bipush (v := 10) hx hb dX10_init_200 (by decide) ?_
  refine g_iast (N := 48) (g := (up2 (mX10_init_8 S) 2 (30 : Int32).toNatClampNeg 1000) 2) hx hb hK ha hAk hP hS (lt_hn (by decide) (by decide)) rfl (vp_in_lit (by decide)) rfl dX10_init_202 (fun H locs hP hS => ?_)
  have hP : va_P G vwCl (wG 18 a (cD a cA) (mX10_init_9 S) 0) H := hP
  refine lv_aload_n hx hb dX10_init_203 rfl (lv_at hl 1 rfl) ?_
  refine g_get (ci := 10) (C := RX10) (T := TX10) (N := 35) (v := .ref (a 2)) hx hb hts iX10_init_X10 hown hK hP (lt_hn (by decide) (by decide)) cD_D rfl 1 (by decide) rfl (by decide +kernel) rfl dX10_init_204 ?_
  refine lv_iload_n hx hb dX10_init_207 rfl (lv_at hl 0 rfl) ?_
  refine lv_bipush (v := 12) hx hb dX10_init_208 (by decide) ?_
  refine lv_imul hx hb dX10_init_210 ?_
  rw [show (2 : Int32) * 12 = 24 from by decide]
  refine lv_bipush (v := 8) hx hb dX10_init_211 (by decide) ?_
  refine lv_iadd hx hb dX10_init_213 ?_
  rw [show (24 : Int32) + 8 = 32 from by decide]
  refine lv_sipush (v := 128) hx hb dX10_init_214 (by decide) ?_
  refine g_iast (N := 48) (g := (mX10_init_9 S) 2) hx hb hK ha hAk hP hS (lt_hn (by decide) (by decide)) rfl (vp_in_lit (by decide)) rfl dX10_init_217 (fun H locs hP hS => ?_)
  refine lv_aload_n hx hb dX10_init_218 rfl (lv_at hl 1 rfl) ?_
  refine g_get (ci := 10) (C := RX10) (T := TX10) (N := 35) (v := .ref (a 2)) hx hb hts iX10_init_X10 hown hK hP (lt_hn (by decide) (by decide)) cD_D rfl 1 (by decide) rfl (by decide +kernel) rfl dX10_init_219 ?_
  refine lv_iload_n hx hb dX10_init_222 rfl (lv_at hl 0 rfl) ?_
  refine lv_bipush (v := 12) hx hb dX10_init_223 (by decide) ?_
  refine lv_imul hx hb dX10_init_225 ?_
  rw [show (2 : Int32) * 12 = 24 from by decide]
  refine lv_bipush (v := 9) hx hb dX10_init_226 (by decide) ?_
  refine lv_iadd hx hb dX10_init_228 ?_
  rw [show (24 : Int32) + 9 = 33 from by decide]
  refine lv_sipush (v := 256) hx hb dX10_init_229 (by decide) ?_
  refine g_iast (N := 48) (g := (up2 (mX10_init_9 S) 2 (32 : Int32).toNatClampNeg 128) 2) hx hb hK ha hAk hP hS (lt_hn (by decide) (by decide)) rfl (vp_in_lit (by decide)) rfl dX10_init_232 (fun H locs hP hS => ?_)
  have hP : va_P G vwCl (wG 18 a (cD a cA) (mX10_init_10 S) 0) H := hP
  refine lv_aload_n hx hb dX10_init_233 rfl (lv_at hl 1 rfl) ?_
  refine g_get (ci := 10) (C := RX10) (T := TX10) (N := 35) (v := .ref (a 2)) hx hb hts iX10_init_X10 hown hK hP (lt_hn (by decide) (by decide)) cD_D rfl 1 (by decide) rfl (by decide +kernel) rfl dX10_init_234 ?_
  refine lv_iload_n hx hb dX10_init_237 rfl (lv_at hl 0 rfl) ?_
  refine lv_bipush (v := 12) hx hb dX10_init_238 (by decide) ?_
  refine lv_imul hx hb dX10_init_240 ?_
  rw [show (2 : Int32) * 12 = 24 from by decide]
  refine lv_bipush (v := 11) hx hb dX10_init_241 (by decide) ?_
  refine lv_iadd hx hb dX10_init_243 ?_
  rw [show (24 : Int32) + 11 = 35 from by decide]
  refine lv_bipush (v := 64) hx hb dX10_init_244 (by decide) ?_
  refine g_iast (N := 48) (g := (mX10_init_10 S) 2) hx hb hK ha hAk hP hS (lt_hn (by decide) (by decide)) rfl (vp_in_lit (by decide)) rfl dX10_init_246 (fun H locs hP hS => ?_)
  refine lv_iinc (v := 3) (lv' := [(1, .int 3), (0, .ref (a 0))]) hx hb dX10_init_247 hl (k := 0) rfl (by decide) (by decide) rfl (fun ls hl => ?_)
  refine lv_goto (tgt := 143) hx hb dX10_init_250 (by decide) ?_
  refine lv_iload_n hx hb dX10_init_143 rfl (lv_at hl 0 rfl) ?_
  refine lv_iconst (v := 4) hx hb dX10_init_144 (by decide) ?_
  refine lv_icmp_ge (tgt := 253) hx hb dX10_init_145 (by decide) (fun c => absurd c (by decide)) (fun _ => ?_)
  refine lv_aload_n hx hb dX10_init_148 rfl (lv_at hl 1 rfl) ?_
  refine g_get (ci := 10) (C := RX10) (T := TX10) (N := 35) (v := .ref (a 2)) hx hb hts iX10_init_X10 hown hK hP (lt_hn (by decide) (by decide)) cD_D rfl 1 (by decide) rfl (by decide +kernel) rfl dX10_init_149 ?_
  refine lv_iload_n hx hb dX10_init_152 rfl (lv_at hl 0 rfl) ?_
  refine lv_bipush (v := 12) hx hb dX10_init_153 (by decide) ?_
  refine lv_imul hx hb dX10_init_155 ?_
  rw [show (3 : Int32) * 12 = 36 from by decide]
  refine lv_iconst (v := 4) hx hb dX10_init_156 (by decide) ?_
  refine lv_iadd hx hb dX10_init_157 ?_
  rw [show (36 : Int32) + 4 = 40 from by decide]
  refine lv_bipush (v := 10) hx hb dX10_init_158 (by decide) ?_
  refine g_iast (N := 48) (g := (up2 (mX10_init_10 S) 2 (35 : Int32).toNatClampNeg 64) 2) hx hb hK ha hAk hP hS (lt_hn (by decide) (by decide)) rfl (vp_in_lit (by decide)) rfl dX10_init_160 (fun H locs hP hS => ?_)
  have hP : va_P G vwCl (wG 18 a (cD a cA) (mX10_init_11 S) 0) H := hP
  refine lv_aload_n hx hb dX10_init_161 rfl (lv_at hl 1 rfl) ?_
  refine g_get (ci := 10) (C := RX10) (T := TX10) (N := 35) (v := .ref (a 2)) hx hb hts iX10_init_X10 hown hK hP (lt_hn (by decide) (by decide)) cD_D rfl 1 (by decide) rfl (by decide +kernel) rfl dX10_init_162 ?_
  refine lv_iload_n hx hb dX10_init_165 rfl (lv_at hl 0 rfl) ?_
  refine lv_bipush (v := 12) hx hb dX10_init_166 (by decide) ?_
  refine lv_imul hx hb dX10_init_168 ?_
  rw [show (3 : Int32) * 12 = 36 from by decide]
  refine lv_iconst (v := 5) hx hb dX10_init_169 (by decide) ?_
  refine lv_iadd hx hb dX10_init_170 ?_
  rw [show (36 : Int32) + 5 = 41 from by decide]
  refine lv_bipush (v := 10) hx hb dX10_init_171 (by decide) ?_
  refine g_iast (N := 48) (g := (mX10_init_11 S) 2) hx hb hK ha hAk hP hS (lt_hn (by decide) (by decide)) rfl (vp_in_lit (by decide)) rfl dX10_init_173 (fun H locs hP hS => ?_)
  refine lv_aload_n hx hb dX10_init_174 rfl (lv_at hl 1 rfl) ?_
  refine g_get (ci := 10) (C := RX10) (T := TX10) (N := 35) (v := .ref (a 2)) hx hb hts iX10_init_X10 hown hK hP (lt_hn (by decide) (by decide)) cD_D rfl 1 (by decide) rfl (by decide +kernel) rfl dX10_init_175 ?_
  refine lv_iload_n hx hb dX10_init_178 rfl (lv_at hl 0 rfl) ?_
  refine lv_bipush (v := 12) hx hb dX10_init_179 (by decide) ?_
  refine lv_imul hx hb dX10_init_181 ?_
  rw [show (3 : Int32) * 12 = 36 from by decide]
  refine lv_bipush (v := 6) hx hb dX10_init_182 (by decide) ?_
  refine lv_iadd hx hb dX10_init_184 ?_
  rw [show (36 : Int32) + 6 = 42 from by decide]
  refine lv_sipush (v := 1000) hx hb dX10_init_185 (by decide) ?_
  refine g_iast (N := 48) (g := (up2 (mX10_init_11 S) 2 (41 : Int32).toNatClampNeg 10) 2) hx hb hK ha hAk hP hS (lt_hn (by decide) (by decide)) rfl (vp_in_lit (by decide)) rfl dX10_init_188 (fun H locs hP hS => ?_)
  have hP : va_P G vwCl (wG 18 a (cD a cA) (mX10_init_12 S) 0) H := hP
  refine lv_aload_n hx hb dX10_init_189 rfl (lv_at hl 1 rfl) ?_
  refine g_get (ci := 10) (C := RX10) (T := TX10) (N := 35) (v := .ref (a 2)) hx hb hts iX10_init_X10 hown hK hP (lt_hn (by decide) (by decide)) cD_D rfl 1 (by decide) rfl (by decide +kernel) rfl dX10_init_190 ?_
  refine lv_iload_n hx hb dX10_init_193 rfl (lv_at hl 0 rfl) ?_
  refine lv_bipush (v := 12) hx hb dX10_init_194 (by decide) ?_
  refine lv_imul hx hb dX10_init_196 ?_
  rw [show (3 : Int32) * 12 = 36 from by decide]
  refine lv_bipush (v := 7) hx hb dX10_init_197 (by decide) ?_
  refine lv_iadd hx hb dX10_init_199 ?_
  rw [show (36 : Int32) + 7 = 43 from by decide]
  refine lv_bipush (v := 10) hx hb dX10_init_200 (by decide) ?_
  refine g_iast (N := 48) (g := (mX10_init_12 S) 2) hx hb hK ha hAk hP hS (lt_hn (by decide) (by decide)) rfl (vp_in_lit (by decide)) rfl dX10_init_202 (fun H locs hP hS => ?_)
  refine lv_aload_n hx hb dX10_init_203 rfl (lv_at hl 1 rfl) ?_
  refine g_get (ci := 10) (C := RX10) (T := TX10) (N := 35) (v := .ref (a 2)) hx hb hts iX10_init_X10 hown hK hP (lt_hn (by decide) (by decide)) cD_D rfl 1 (by decide) rfl (by decide +kernel) rfl dX10_init_204 ?_
  refine lv_iload_n hx hb dX10_init_207 rfl (lv_at hl 0 rfl) ?_
  refine lv_bipush (v := 12) hx hb dX10_init_208 (by decide) ?_
  refine lv_imul hx hb dX10_init_210 ?_
  rw [show (3 : Int32) * 12 = 36 from by decide]
  refine lv_bipush (v := 8) hx hb dX10_init_211 (by decide) ?_
  refine lv_iadd hx hb dX10_init_213 ?_
  rw [show (36 : Int32) + 8 = 44 from by decide]
  refine lv_sipush (v := 128) hx hb dX10_init_214 (by decide) ?_
  refine g_iast (N := 48) (g := (up2 (mX10_init_12 S) 2 (43 : Int32).toNatClampNeg 10) 2) hx hb hK ha hAk hP hS (lt_hn (by decide) (by decide)) rfl (vp_in_lit (by decide)) rfl dX10_init_217 (fun H locs hP hS => ?_)
  have hP : va_P G vwCl (wG 18 a (cD a cA) (mX10_init_13 S) 0) H := hP
  refine lv_aload_n hx hb dX10_init_218 rfl (lv_at hl 1 rfl) ?_
  refine g_get (ci := 10) (C := RX10) (T := TX10) (N := 35) (v := .ref (a 2)) hx hb hts iX10_init_X10 hown hK hP (lt_hn (by decide) (by decide)) cD_D rfl 1 (by decide) rfl (by decide +kernel) rfl dX10_init_219 ?_
  refine lv_iload_n hx hb dX10_init_222 rfl (lv_at hl 0 rfl) ?_
  refine lv_bipush (v := 12) hx hb dX10_init_223 (by decide) ?_
  refine lv_imul hx hb dX10_init_225 ?_
  rw [show (3 : Int32) * 12 = 36 from by decide]
  refine lv_bipush (v := 9) hx hb dX10_init_226 (by decide) ?_
  refine lv_iadd hx hb dX10_init_228 ?_
  rw [show (36 : Int32) + 9 = 45 from by decide]
  refine lv_sipush (v := 256) hx hb dX10_init_229 (by decide) ?_
  refine g_iast (N := 48) (g := (mX10_init_13 S) 2) hx hb hK ha hAk hP hS (lt_hn (by decide) (by decide)) rfl (vp_in_lit (by decide)) rfl dX10_init_232 (fun H locs hP hS => ?_)
  refine lv_aload_n hx hb dX10_init_233 rfl (lv_at hl 1 rfl) ?_
  refine g_get (ci := 10) (C := RX10) (T := TX10) (N := 35) (v := .ref (a 2)) hx hb hts iX10_init_X10 hown hK hP (lt_hn (by decide) (by decide)) cD_D rfl 1 (by decide) rfl (by decide +kernel) rfl dX10_init_234 ?_
  refine lv_iload_n hx hb dX10_init_237 rfl (lv_at hl 0 rfl) ?_
  refine lv_bipush (v := 12) hx hb dX10_init_238 (by decide) ?_
  refine lv_imul hx hb dX10_init_240 ?_
  rw [show (3 : Int32) * 12 = 36 from by decide]
  refine lv_bipush (v := 11) hx hb dX10_init_241 (by decide) ?_
  refine lv_iadd hx hb dX10_init_243 ?_
  rw [show (36 : Int32) + 11 = 47 from by decide]
  refine lv_bipush (v := 64) hx hb dX10_init_244 (by decide) ?_
  refine g_iast (N := 48) (g := (up2 (mX10_init_13 S) 2 (45 : Int32).toNatClampNeg 256) 2) hx hb hK ha hAk hP hS (lt_hn (by decide) (by decide)) rfl (vp_in_lit (by decide)) rfl dX10_init_246 (fun H locs hP hS => ?_)
  have hP : va_P G vwCl (wG 18 a (cD a cA) (mX10_init_14 S) 0) H := hP
  refine lv_iinc (v := 4) (lv' := [(1, .int 4), (0, .ref (a 0))]) hx hb dX10_init_247 hl (k := 0) rfl (by decide) (by decide) rfl (fun ls hl => ?_)
  refine lv_goto (tgt := 143) hx hb dX10_init_250 (by decide) ?_
  refine lv_iload_n hx hb dX10_init_143 rfl (lv_at hl 0 rfl) ?_
  refine lv_iconst (v := 4) hx hb dX10_init_144 (by decide) ?_
  refine lv_icmp_ge (tgt := 253) hx hb dX10_init_145 (by decide) (fun _ => ?_) (fun c => absurd c (by decide))
  refine lv_iconst (v := 0) hx hb dX10_init_253 (by decide) ?_
  refine lv_istore_n (lv' := [(1, .int 0), (0, .ref (a 0))]) hx hb dX10_init_254 rfl hl (by decide) rfl (fun ls hl => ?_)
  refine lv_iload_n hx hb dX10_init_255 rfl (lv_at hl 0 rfl) ?_
  refine lv_iconst (v := 4) hx hb dX10_init_256 (by decide) ?_
  refine lv_icmp_ge (tgt := 273) hx hb dX10_init_257 (by decide) (fun c => absurd c (by decide)) (fun _ => ?_)
  refine lv_aload_n hx hb dX10_init_260 rfl (lv_at hl 1 rfl) ?_
  refine g_get (ci := 10) (C := RX10) (T := TX10) (N := 35) (v := .ref (a 12)) hx hb hts iX10_init_X10 hown hK hP (lt_hn (by decide) (by decide)) cD_D rfl 11 (by decide) rfl (by decide +kernel) rfl dX10_init_261 ?_
  refine lv_iload_n hx hb dX10_init_264 rfl (lv_at hl 0 rfl) ?_
  refine lv_iconst (v := (-1)) hx hb dX10_init_265 (by decide) ?_
  refine g_iast (N := 4) (g := (mX10_init_14 S) 12) hx hb hK ha hAk hP hS (lt_hn (by decide) (by decide)) rfl (vp_in_lit (by decide)) rfl dX10_init_266 (fun H locs hP hS => ?_)
  refine lv_iinc (v := 1) (lv' := [(1, .int 1), (0, .ref (a 0))]) hx hb dX10_init_267 hl (k := 0) rfl (by decide) (by decide) rfl (fun ls hl => ?_)
  refine lv_goto (tgt := 255) hx hb dX10_init_270 (by decide) ?_
  refine lv_iload_n hx hb dX10_init_255 rfl (lv_at hl 0 rfl) ?_
  refine lv_iconst (v := 4) hx hb dX10_init_256 (by decide) ?_
  refine lv_icmp_ge (tgt := 273) hx hb dX10_init_257 (by decide) (fun c => absurd c (by decide)) (fun _ => ?_)
  refine lv_aload_n hx hb dX10_init_260 rfl (lv_at hl 1 rfl) ?_
  refine g_get (ci := 10) (C := RX10) (T := TX10) (N := 35) (v := .ref (a 12)) hx hb hts iX10_init_X10 hown hK hP (lt_hn (by decide) (by decide)) cD_D rfl 11 (by decide) rfl (by decide +kernel) rfl dX10_init_261 ?_
  refine lv_iload_n hx hb dX10_init_264 rfl (lv_at hl 0 rfl) ?_
  refine lv_iconst (v := (-1)) hx hb dX10_init_265 (by decide) ?_
  refine g_iast (N := 4) (g := (up2 (mX10_init_14 S) 12 (0 : Int32).toNatClampNeg (-1)) 12) hx hb hK ha hAk hP hS (lt_hn (by decide) (by decide)) rfl (vp_in_lit (by decide)) rfl dX10_init_266 (fun H locs hP hS => ?_)
  have hP : va_P G vwCl (wG 18 a (cD a cA) (mX10_init_15 S) 0) H := hP
  refine lv_iinc (v := 2) (lv' := [(1, .int 2), (0, .ref (a 0))]) hx hb dX10_init_267 hl (k := 0) rfl (by decide) (by decide) rfl (fun ls hl => ?_)
  refine lv_goto (tgt := 255) hx hb dX10_init_270 (by decide) ?_
  refine lv_iload_n hx hb dX10_init_255 rfl (lv_at hl 0 rfl) ?_
  refine lv_iconst (v := 4) hx hb dX10_init_256 (by decide) ?_
  refine lv_icmp_ge (tgt := 273) hx hb dX10_init_257 (by decide) (fun c => absurd c (by decide)) (fun _ => ?_)
  refine lv_aload_n hx hb dX10_init_260 rfl (lv_at hl 1 rfl) ?_
  refine g_get (ci := 10) (C := RX10) (T := TX10) (N := 35) (v := .ref (a 12)) hx hb hts iX10_init_X10 hown hK hP (lt_hn (by decide) (by decide)) cD_D rfl 11 (by decide) rfl (by decide +kernel) rfl dX10_init_261 ?_
  refine lv_iload_n hx hb dX10_init_264 rfl (lv_at hl 0 rfl) ?_
  refine lv_iconst (v := (-1)) hx hb dX10_init_265 (by decide) ?_
  refine g_iast (N := 4) (g := (mX10_init_15 S) 12) hx hb hK ha hAk hP hS (lt_hn (by decide) (by decide)) rfl (vp_in_lit (by decide)) rfl dX10_init_266 (fun H locs hP hS => ?_)
  refine lv_iinc (v := 3) (lv' := [(1, .int 3), (0, .ref (a 0))]) hx hb dX10_init_267 hl (k := 0) rfl (by decide) (by decide) rfl (fun ls hl => ?_)
  refine lv_goto (tgt := 255) hx hb dX10_init_270 (by decide) ?_
  refine lv_iload_n hx hb dX10_init_255 rfl (lv_at hl 0 rfl) ?_
  refine lv_iconst (v := 4) hx hb dX10_init_256 (by decide) ?_
  refine lv_icmp_ge (tgt := 273) hx hb dX10_init_257 (by decide) (fun c => absurd c (by decide)) (fun _ => ?_)
  refine lv_aload_n hx hb dX10_init_260 rfl (lv_at hl 1 rfl) ?_
  refine g_get (ci := 10) (C := RX10) (T := TX10) (N := 35) (v := .ref (a 12)) hx hb hts iX10_init_X10 hown hK hP (lt_hn (by decide) (by decide)) cD_D rfl 11 (by decide) rfl (by decide +kernel) rfl dX10_init_261 ?_
  refine lv_iload_n hx hb dX10_init_264 rfl (lv_at hl 0 rfl) ?_
  refine lv_iconst (v := (-1)) hx hb dX10_init_265 (by decide) ?_
  refine g_iast (N := 4) (g := (up2 (mX10_init_15 S) 12 (2 : Int32).toNatClampNeg (-1)) 12) hx hb hK ha hAk hP hS (lt_hn (by decide) (by decide)) rfl (vp_in_lit (by decide)) rfl dX10_init_266 (fun H locs hP hS => ?_)
  have hP : va_P G vwCl (wG 18 a (cD a cA) (mX10_init_16 S) 0) H := hP
  refine lv_iinc (v := 4) (lv' := [(1, .int 4), (0, .ref (a 0))]) hx hb dX10_init_267 hl (k := 0) rfl (by decide) (by decide) rfl (fun ls hl => ?_)
  refine lv_goto (tgt := 255) hx hb dX10_init_270 (by decide) ?_
  refine lv_iload_n hx hb dX10_init_255 rfl (lv_at hl 0 rfl) ?_
  refine lv_iconst (v := 4) hx hb dX10_init_256 (by decide) ?_
  refine lv_icmp_ge (tgt := 273) hx hb dX10_init_257 (by decide) (fun _ => ?_) (fun c => absurd c (by decide))
  refine lv_iconst (v := 0) hx hb dX10_init_273 (by decide) ?_
  refine lv_istore_n (lv' := [(1, .int 0), (0, .ref (a 0))]) hx hb dX10_init_274 rfl hl (by decide) rfl (fun ls hl => ?_)
  refine lv_iload_n hx hb dX10_init_275 rfl (lv_at hl 0 rfl) ?_
  refine lv_aload_n hx hb dX10_init_276 rfl (lv_at hl 1 rfl) ?_
  refine g_get (ci := 10) (C := RX10) (T := TX10) (N := 35) (v := .ref (a 16)) hx hb hts iX10_init_X10 hown hK hP (lt_hn (by decide) (by decide)) cD_D rfl 21 (by decide) rfl (by decide +kernel) rfl dX10_init_277 ?_
  refine g_alen (N := 72) hx hb hK hP (lt_hn (by decide) (by decide)) rfl dX10_init_280 ?_
  rw [show Int32.ofNat 72 = (72 : Int32) from rfl]
  refine lv_icmp_ge (tgt := 297) hx hb dX10_init_281 (by decide) (fun c => absurd c (by decide)) (fun _ => ?_)
  refine lv_aload_n hx hb dX10_init_284 rfl (lv_at hl 1 rfl) ?_
  refine g_get (ci := 10) (C := RX10) (T := TX10) (N := 35) (v := .ref (a 16)) hx hb hts iX10_init_X10 hown hK hP (lt_hn (by decide) (by decide)) cD_D rfl 21 (by decide) rfl (by decide +kernel) rfl dX10_init_285 ?_
  refine lv_iload_n hx hb dX10_init_288 rfl (lv_at hl 0 rfl) ?_
  refine lv_iconst (v := (-1)) hx hb dX10_init_289 (by decide) ?_
  refine g_iast (N := 72) (g := (mX10_init_16 S) 16) hx hb hK ha hAk hP hS (lt_hn (by decide) (by decide)) rfl (vp_in_lit (by decide)) rfl dX10_init_290 (fun H locs hP hS => ?_)
  refine lv_iinc (v := 3) (lv' := [(1, .int 3), (0, .ref (a 0))]) hx hb dX10_init_291 hl (k := 0) rfl (by decide) (by decide) rfl (fun ls hl => ?_)
  refine lv_goto (tgt := 275) hx hb dX10_init_294 (by decide) ?_
  refine lv_iload_n hx hb dX10_init_275 rfl (lv_at hl 0 rfl) ?_
  refine lv_aload_n hx hb dX10_init_276 rfl (lv_at hl 1 rfl) ?_
  refine g_get (ci := 10) (C := RX10) (T := TX10) (N := 35) (v := .ref (a 16)) hx hb hts iX10_init_X10 hown hK hP (lt_hn (by decide) (by decide)) cD_D rfl 21 (by decide) rfl (by decide +kernel) rfl dX10_init_277 ?_
  refine g_alen (N := 72) hx hb hK hP (lt_hn (by decide) (by decide)) rfl dX10_init_280 ?_
  rw [show Int32.ofNat 72 = (72 : Int32) from rfl]
  refine lv_icmp_ge (tgt := 297) hx hb dX10_init_281 (by decide) (fun c => absurd c (by decide)) (fun _ => ?_)
  refine lv_aload_n hx hb dX10_init_284 rfl (lv_at hl 1 rfl) ?_
  refine g_get (ci := 10) (C := RX10) (T := TX10) (N := 35) (v := .ref (a 16)) hx hb hts iX10_init_X10 hown hK hP (lt_hn (by decide) (by decide)) cD_D rfl 21 (by decide) rfl (by decide +kernel) rfl dX10_init_285 ?_
  refine lv_iload_n hx hb dX10_init_288 rfl (lv_at hl 0 rfl) ?_
  refine lv_iconst (v := (-1)) hx hb dX10_init_289 (by decide) ?_
  refine g_iast (N := 72) (g := (up2 (mX10_init_16 S) 16 (0 : Int32).toNatClampNeg (-1)) 16) hx hb hK ha hAk hP hS (lt_hn (by decide) (by decide)) rfl (vp_in_lit (by decide)) rfl dX10_init_290 (fun H locs hP hS => ?_)
  have hP : va_P G vwCl (wG 18 a (cD a cA) (mX10_init_17 S) 0) H := hP
  refine lv_iinc (v := 6) (lv' := [(1, .int 6), (0, .ref (a 0))]) hx hb dX10_init_291 hl (k := 0) rfl (by decide) (by decide) rfl (fun ls hl => ?_)
  refine lv_goto (tgt := 275) hx hb dX10_init_294 (by decide) ?_
  refine lv_iload_n hx hb dX10_init_275 rfl (lv_at hl 0 rfl) ?_
  refine lv_aload_n hx hb dX10_init_276 rfl (lv_at hl 1 rfl) ?_
  refine g_get (ci := 10) (C := RX10) (T := TX10) (N := 35) (v := .ref (a 16)) hx hb hts iX10_init_X10 hown hK hP (lt_hn (by decide) (by decide)) cD_D rfl 21 (by decide) rfl (by decide +kernel) rfl dX10_init_277 ?_
  refine g_alen (N := 72) hx hb hK hP (lt_hn (by decide) (by decide)) rfl dX10_init_280 ?_
  rw [show Int32.ofNat 72 = (72 : Int32) from rfl]
  refine lv_icmp_ge (tgt := 297) hx hb dX10_init_281 (by decide) (fun c => absurd c (by decide)) (fun _ => ?_)
  refine lv_aload_n hx hb dX10_init_284 rfl (lv_at hl 1 rfl) ?_
  refine g_get (ci := 10) (C := RX10) (T := TX10) (N := 35) (v := .ref (a 16)) hx hb hts iX10_init_X10 hown hK hP (lt_hn (by decide) (by decide)) cD_D rfl 21 (by decide) rfl (by decide +kernel) rfl dX10_init_285 ?_
  refine lv_iload_n hx hb dX10_init_288 rfl (lv_at hl 0 rfl) ?_
  refine lv_iconst (v := (-1)) hx hb dX10_init_289 (by decide) ?_
  refine g_iast (N := 72) (g := (mX10_init_17 S) 16) hx hb hK ha hAk hP hS (lt_hn (by decide) (by decide)) rfl (vp_in_lit (by decide)) rfl dX10_init_290 (fun H locs hP hS => ?_)
  refine lv_iinc (v := 9) (lv' := [(1, .int 9), (0, .ref (a 0))]) hx hb dX10_init_291 hl (k := 0) rfl (by decide) (by decide) rfl (fun ls hl => ?_)
  refine lv_goto (tgt := 275) hx hb dX10_init_294 (by decide) ?_
  refine lv_iload_n hx hb dX10_init_275 rfl (lv_at hl 0 rfl) ?_
  refine lv_aload_n hx hb dX10_init_276 rfl (lv_at hl 1 rfl) ?_
  refine g_get (ci := 10) (C := RX10) (T := TX10) (N := 35) (v := .ref (a 16)) hx hb hts iX10_init_X10 hown hK hP (lt_hn (by decide) (by decide)) cD_D rfl 21 (by decide) rfl (by decide +kernel) rfl dX10_init_277 ?_
  refine g_alen (N := 72) hx hb hK hP (lt_hn (by decide) (by decide)) rfl dX10_init_280 ?_
  rw [show Int32.ofNat 72 = (72 : Int32) from rfl]
  refine lv_icmp_ge (tgt := 297) hx hb dX10_init_281 (by decide) (fun c => absurd c (by decide)) (fun _ => ?_)
  refine lv_aload_n hx hb dX10_init_284 rfl (lv_at hl 1 rfl) ?_
  refine g_get (ci := 10) (C := RX10) (T := TX10) (N := 35) (v := .ref (a 16)) hx hb hts iX10_init_X10 hown hK hP (lt_hn (by decide) (by decide)) cD_D rfl 21 (by decide) rfl (by decide +kernel) rfl dX10_init_285 ?_
  refine lv_iload_n hx hb dX10_init_288 rfl (lv_at hl 0 rfl) ?_
  refine lv_iconst (v := (-1)) hx hb dX10_init_289 (by decide) ?_
  refine g_iast (N := 72) (g := (up2 (mX10_init_17 S) 16 (6 : Int32).toNatClampNeg (-1)) 16) hx hb hK ha hAk hP hS (lt_hn (by decide) (by decide)) rfl (vp_in_lit (by decide)) rfl dX10_init_290 (fun H locs hP hS => ?_)
  have hP : va_P G vwCl (wG 18 a (cD a cA) (mX10_init_18 S) 0) H := hP
  refine lv_iinc (v := 12) (lv' := [(1, .int 12), (0, .ref (a 0))]) hx hb dX10_init_291 hl (k := 0) rfl (by decide) (by decide) rfl (fun ls hl => ?_)
  refine lv_goto (tgt := 275) hx hb dX10_init_294 (by decide) ?_
  refine lv_iload_n hx hb dX10_init_275 rfl (lv_at hl 0 rfl) ?_
  refine lv_aload_n hx hb dX10_init_276 rfl (lv_at hl 1 rfl) ?_
  refine g_get (ci := 10) (C := RX10) (T := TX10) (N := 35) (v := .ref (a 16)) hx hb hts iX10_init_X10 hown hK hP (lt_hn (by decide) (by decide)) cD_D rfl 21 (by decide) rfl (by decide +kernel) rfl dX10_init_277 ?_
  refine g_alen (N := 72) hx hb hK hP (lt_hn (by decide) (by decide)) rfl dX10_init_280 ?_
  rw [show Int32.ofNat 72 = (72 : Int32) from rfl]
  refine lv_icmp_ge (tgt := 297) hx hb dX10_init_281 (by decide) (fun c => absurd c (by decide)) (fun _ => ?_)
  refine lv_aload_n hx hb dX10_init_284 rfl (lv_at hl 1 rfl) ?_
  refine g_get (ci := 10) (C := RX10) (T := TX10) (N := 35) (v := .ref (a 16)) hx hb hts iX10_init_X10 hown hK hP (lt_hn (by decide) (by decide)) cD_D rfl 21 (by decide) rfl (by decide +kernel) rfl dX10_init_285 ?_
  refine lv_iload_n hx hb dX10_init_288 rfl (lv_at hl 0 rfl) ?_
  refine lv_iconst (v := (-1)) hx hb dX10_init_289 (by decide) ?_
  refine g_iast (N := 72) (g := (mX10_init_18 S) 16) hx hb hK ha hAk hP hS (lt_hn (by decide) (by decide)) rfl (vp_in_lit (by decide)) rfl dX10_init_290 (fun H locs hP hS => ?_)
  refine lv_iinc (v := 15) (lv' := [(1, .int 15), (0, .ref (a 0))]) hx hb dX10_init_291 hl (k := 0) rfl (by decide) (by decide) rfl (fun ls hl => ?_)
  refine lv_goto (tgt := 275) hx hb dX10_init_294 (by decide) ?_
  refine lv_iload_n hx hb dX10_init_275 rfl (lv_at hl 0 rfl) ?_
  refine lv_aload_n hx hb dX10_init_276 rfl (lv_at hl 1 rfl) ?_
  refine g_get (ci := 10) (C := RX10) (T := TX10) (N := 35) (v := .ref (a 16)) hx hb hts iX10_init_X10 hown hK hP (lt_hn (by decide) (by decide)) cD_D rfl 21 (by decide) rfl (by decide +kernel) rfl dX10_init_277 ?_
  refine g_alen (N := 72) hx hb hK hP (lt_hn (by decide) (by decide)) rfl dX10_init_280 ?_
  rw [show Int32.ofNat 72 = (72 : Int32) from rfl]
  refine lv_icmp_ge (tgt := 297) hx hb dX10_init_281 (by decide) (fun c => absurd c (by decide)) (fun _ => ?_)
  refine lv_aload_n hx hb dX10_init_284 rfl (lv_at hl 1 rfl) ?_
  refine g_get (ci := 10) (C := RX10) (T := TX10) (N := 35) (v := .ref (a 16)) hx hb hts iX10_init_X10 hown hK hP (lt_hn (by decide) (by decide)) cD_D rfl 21 (by decide) rfl (by decide +kernel) rfl dX10_init_285 ?_
  refine lv_iload_n hx hb dX10_init_288 rfl (lv_at hl 0 rfl) ?_
  refine lv_iconst (v := (-1)) hx hb dX10_init_289 (by decide) ?_
  refine g_iast (N := 72) (g := (up2 (mX10_init_18 S) 16 (12 : Int32).toNatClampNeg (-1)) 16) hx hb hK ha hAk hP hS (lt_hn (by decide) (by decide)) rfl (vp_in_lit (by decide)) rfl dX10_init_290 (fun H locs hP hS => ?_)
  have hP : va_P G vwCl (wG 18 a (cD a cA) (mX10_init_19 S) 0) H := hP
  refine lv_iinc (v := 18) (lv' := [(1, .int 18), (0, .ref (a 0))]) hx hb dX10_init_291 hl (k := 0) rfl (by decide) (by decide) rfl (fun ls hl => ?_)
  refine lv_goto (tgt := 275) hx hb dX10_init_294 (by decide) ?_
  refine lv_iload_n hx hb dX10_init_275 rfl (lv_at hl 0 rfl) ?_
  refine lv_aload_n hx hb dX10_init_276 rfl (lv_at hl 1 rfl) ?_
  refine g_get (ci := 10) (C := RX10) (T := TX10) (N := 35) (v := .ref (a 16)) hx hb hts iX10_init_X10 hown hK hP (lt_hn (by decide) (by decide)) cD_D rfl 21 (by decide) rfl (by decide +kernel) rfl dX10_init_277 ?_
  refine g_alen (N := 72) hx hb hK hP (lt_hn (by decide) (by decide)) rfl dX10_init_280 ?_
  rw [show Int32.ofNat 72 = (72 : Int32) from rfl]
  refine lv_icmp_ge (tgt := 297) hx hb dX10_init_281 (by decide) (fun c => absurd c (by decide)) (fun _ => ?_)
  refine lv_aload_n hx hb dX10_init_284 rfl (lv_at hl 1 rfl) ?_
  refine g_get (ci := 10) (C := RX10) (T := TX10) (N := 35) (v := .ref (a 16)) hx hb hts iX10_init_X10 hown hK hP (lt_hn (by decide) (by decide)) cD_D rfl 21 (by decide) rfl (by decide +kernel) rfl dX10_init_285 ?_
  refine lv_iload_n hx hb dX10_init_288 rfl (lv_at hl 0 rfl) ?_
  refine lv_iconst (v := (-1)) hx hb dX10_init_289 (by decide) ?_
  refine g_iast (N := 72) (g := (mX10_init_19 S) 16) hx hb hK ha hAk hP hS (lt_hn (by decide) (by decide)) rfl (vp_in_lit (by decide)) rfl dX10_init_290 (fun H locs hP hS => ?_)
  refine lv_iinc (v := 21) (lv' := [(1, .int 21), (0, .ref (a 0))]) hx hb dX10_init_291 hl (k := 0) rfl (by decide) (by decide) rfl (fun ls hl => ?_)
  refine lv_goto (tgt := 275) hx hb dX10_init_294 (by decide) ?_
  refine lv_iload_n hx hb dX10_init_275 rfl (lv_at hl 0 rfl) ?_
  refine lv_aload_n hx hb dX10_init_276 rfl (lv_at hl 1 rfl) ?_
  refine g_get (ci := 10) (C := RX10) (T := TX10) (N := 35) (v := .ref (a 16)) hx hb hts iX10_init_X10 hown hK hP (lt_hn (by decide) (by decide)) cD_D rfl 21 (by decide) rfl (by decide +kernel) rfl dX10_init_277 ?_
  refine g_alen (N := 72) hx hb hK hP (lt_hn (by decide) (by decide)) rfl dX10_init_280 ?_
  rw [show Int32.ofNat 72 = (72 : Int32) from rfl]
  refine lv_icmp_ge (tgt := 297) hx hb dX10_init_281 (by decide) (fun c => absurd c (by decide)) (fun _ => ?_)
  refine lv_aload_n hx hb dX10_init_284 rfl (lv_at hl 1 rfl) ?_
  refine g_get (ci := 10) (C := RX10) (T := TX10) (N := 35) (v := .ref (a 16)) hx hb hts iX10_init_X10 hown hK hP (lt_hn (by decide) (by decide)) cD_D rfl 21 (by decide) rfl (by decide +kernel) rfl dX10_init_285 ?_
  refine lv_iload_n hx hb dX10_init_288 rfl (lv_at hl 0 rfl) ?_
  refine lv_iconst (v := (-1)) hx hb dX10_init_289 (by decide) ?_
  refine g_iast (N := 72) (g := (up2 (mX10_init_19 S) 16 (18 : Int32).toNatClampNeg (-1)) 16) hx hb hK ha hAk hP hS (lt_hn (by decide) (by decide)) rfl (vp_in_lit (by decide)) rfl dX10_init_290 (fun H locs hP hS => ?_)
  have hP : va_P G vwCl (wG 18 a (cD a cA) (mX10_init_20 S) 0) H := hP
  refine lv_iinc (v := 24) (lv' := [(1, .int 24), (0, .ref (a 0))]) hx hb dX10_init_291 hl (k := 0) rfl (by decide) (by decide) rfl (fun ls hl => ?_)
  refine lv_goto (tgt := 275) hx hb dX10_init_294 (by decide) ?_
  refine lv_iload_n hx hb dX10_init_275 rfl (lv_at hl 0 rfl) ?_
  refine lv_aload_n hx hb dX10_init_276 rfl (lv_at hl 1 rfl) ?_
  refine g_get (ci := 10) (C := RX10) (T := TX10) (N := 35) (v := .ref (a 16)) hx hb hts iX10_init_X10 hown hK hP (lt_hn (by decide) (by decide)) cD_D rfl 21 (by decide) rfl (by decide +kernel) rfl dX10_init_277 ?_
  refine g_alen (N := 72) hx hb hK hP (lt_hn (by decide) (by decide)) rfl dX10_init_280 ?_
  rw [show Int32.ofNat 72 = (72 : Int32) from rfl]
  refine lv_icmp_ge (tgt := 297) hx hb dX10_init_281 (by decide) (fun c => absurd c (by decide)) (fun _ => ?_)
  refine lv_aload_n hx hb dX10_init_284 rfl (lv_at hl 1 rfl) ?_
  refine g_get (ci := 10) (C := RX10) (T := TX10) (N := 35) (v := .ref (a 16)) hx hb hts iX10_init_X10 hown hK hP (lt_hn (by decide) (by decide)) cD_D rfl 21 (by decide) rfl (by decide +kernel) rfl dX10_init_285 ?_
  refine lv_iload_n hx hb dX10_init_288 rfl (lv_at hl 0 rfl) ?_
  refine lv_iconst (v := (-1)) hx hb dX10_init_289 (by decide) ?_
  refine g_iast (N := 72) (g := (mX10_init_20 S) 16) hx hb hK ha hAk hP hS (lt_hn (by decide) (by decide)) rfl (vp_in_lit (by decide)) rfl dX10_init_290 (fun H locs hP hS => ?_)
  refine lv_iinc (v := 27) (lv' := [(1, .int 27), (0, .ref (a 0))]) hx hb dX10_init_291 hl (k := 0) rfl (by decide) (by decide) rfl (fun ls hl => ?_)
  refine lv_goto (tgt := 275) hx hb dX10_init_294 (by decide) ?_
  refine lv_iload_n hx hb dX10_init_275 rfl (lv_at hl 0 rfl) ?_
  refine lv_aload_n hx hb dX10_init_276 rfl (lv_at hl 1 rfl) ?_
  refine g_get (ci := 10) (C := RX10) (T := TX10) (N := 35) (v := .ref (a 16)) hx hb hts iX10_init_X10 hown hK hP (lt_hn (by decide) (by decide)) cD_D rfl 21 (by decide) rfl (by decide +kernel) rfl dX10_init_277 ?_
  refine g_alen (N := 72) hx hb hK hP (lt_hn (by decide) (by decide)) rfl dX10_init_280 ?_
  rw [show Int32.ofNat 72 = (72 : Int32) from rfl]
  refine lv_icmp_ge (tgt := 297) hx hb dX10_init_281 (by decide) (fun c => absurd c (by decide)) (fun _ => ?_)
  refine lv_aload_n hx hb dX10_init_284 rfl (lv_at hl 1 rfl) ?_
  refine g_get (ci := 10) (C := RX10) (T := TX10) (N := 35) (v := .ref (a 16)) hx hb hts iX10_init_X10 hown hK hP (lt_hn (by decide) (by decide)) cD_D rfl 21 (by decide) rfl (by decide +kernel) rfl dX10_init_285 ?_
  refine lv_iload_n hx hb dX10_init_288 rfl (lv_at hl 0 rfl) ?_
  refine lv_iconst (v := (-1)) hx hb dX10_init_289 (by decide) ?_
  refine g_iast (N := 72) (g := (up2 (mX10_init_20 S) 16 (24 : Int32).toNatClampNeg (-1)) 16) hx hb hK ha hAk hP hS (lt_hn (by decide) (by decide)) rfl (vp_in_lit (by decide)) rfl dX10_init_290 (fun H locs hP hS => ?_)
  have hP : va_P G vwCl (wG 18 a (cD a cA) (mX10_init_21 S) 0) H := hP
  refine lv_iinc (v := 30) (lv' := [(1, .int 30), (0, .ref (a 0))]) hx hb dX10_init_291 hl (k := 0) rfl (by decide) (by decide) rfl (fun ls hl => ?_)
  refine lv_goto (tgt := 275) hx hb dX10_init_294 (by decide) ?_
  refine lv_iload_n hx hb dX10_init_275 rfl (lv_at hl 0 rfl) ?_
  refine lv_aload_n hx hb dX10_init_276 rfl (lv_at hl 1 rfl) ?_
  refine g_get (ci := 10) (C := RX10) (T := TX10) (N := 35) (v := .ref (a 16)) hx hb hts iX10_init_X10 hown hK hP (lt_hn (by decide) (by decide)) cD_D rfl 21 (by decide) rfl (by decide +kernel) rfl dX10_init_277 ?_
  refine g_alen (N := 72) hx hb hK hP (lt_hn (by decide) (by decide)) rfl dX10_init_280 ?_
  rw [show Int32.ofNat 72 = (72 : Int32) from rfl]
  refine lv_icmp_ge (tgt := 297) hx hb dX10_init_281 (by decide) (fun c => absurd c (by decide)) (fun _ => ?_)
  refine lv_aload_n hx hb dX10_init_284 rfl (lv_at hl 1 rfl) ?_
  refine g_get (ci := 10) (C := RX10) (T := TX10) (N := 35) (v := .ref (a 16)) hx hb hts iX10_init_X10 hown hK hP (lt_hn (by decide) (by decide)) cD_D rfl 21 (by decide) rfl (by decide +kernel) rfl dX10_init_285 ?_
  refine lv_iload_n hx hb dX10_init_288 rfl (lv_at hl 0 rfl) ?_
  refine lv_iconst (v := (-1)) hx hb dX10_init_289 (by decide) ?_
  refine g_iast (N := 72) (g := (mX10_init_21 S) 16) hx hb hK ha hAk hP hS (lt_hn (by decide) (by decide)) rfl (vp_in_lit (by decide)) rfl dX10_init_290 (fun H locs hP hS => ?_)
  refine lv_iinc (v := 33) (lv' := [(1, .int 33), (0, .ref (a 0))]) hx hb dX10_init_291 hl (k := 0) rfl (by decide) (by decide) rfl (fun ls hl => ?_)
  refine lv_goto (tgt := 275) hx hb dX10_init_294 (by decide) ?_
  refine lv_iload_n hx hb dX10_init_275 rfl (lv_at hl 0 rfl) ?_
  refine lv_aload_n hx hb dX10_init_276 rfl (lv_at hl 1 rfl) ?_
  refine g_get (ci := 10) (C := RX10) (T := TX10) (N := 35) (v := .ref (a 16)) hx hb hts iX10_init_X10 hown hK hP (lt_hn (by decide) (by decide)) cD_D rfl 21 (by decide) rfl (by decide +kernel) rfl dX10_init_277 ?_
  refine g_alen (N := 72) hx hb hK hP (lt_hn (by decide) (by decide)) rfl dX10_init_280 ?_
  rw [show Int32.ofNat 72 = (72 : Int32) from rfl]
  refine lv_icmp_ge (tgt := 297) hx hb dX10_init_281 (by decide) (fun c => absurd c (by decide)) (fun _ => ?_)
  refine lv_aload_n hx hb dX10_init_284 rfl (lv_at hl 1 rfl) ?_
  refine g_get (ci := 10) (C := RX10) (T := TX10) (N := 35) (v := .ref (a 16)) hx hb hts iX10_init_X10 hown hK hP (lt_hn (by decide) (by decide)) cD_D rfl 21 (by decide) rfl (by decide +kernel) rfl dX10_init_285 ?_
  refine lv_iload_n hx hb dX10_init_288 rfl (lv_at hl 0 rfl) ?_
  refine lv_iconst (v := (-1)) hx hb dX10_init_289 (by decide) ?_
  refine g_iast (N := 72) (g := (up2 (mX10_init_21 S) 16 (30 : Int32).toNatClampNeg (-1)) 16) hx hb hK ha hAk hP hS (lt_hn (by decide) (by decide)) rfl (vp_in_lit (by decide)) rfl dX10_init_290 (fun H locs hP hS => ?_)
  have hP : va_P G vwCl (wG 18 a (cD a cA) (mX10_init_22 S) 0) H := hP
  refine lv_iinc (v := 36) (lv' := [(1, .int 36), (0, .ref (a 0))]) hx hb dX10_init_291 hl (k := 0) rfl (by decide) (by decide) rfl (fun ls hl => ?_)
  refine lv_goto (tgt := 275) hx hb dX10_init_294 (by decide) ?_
  refine lv_iload_n hx hb dX10_init_275 rfl (lv_at hl 0 rfl) ?_
  refine lv_aload_n hx hb dX10_init_276 rfl (lv_at hl 1 rfl) ?_
  refine g_get (ci := 10) (C := RX10) (T := TX10) (N := 35) (v := .ref (a 16)) hx hb hts iX10_init_X10 hown hK hP (lt_hn (by decide) (by decide)) cD_D rfl 21 (by decide) rfl (by decide +kernel) rfl dX10_init_277 ?_
  refine g_alen (N := 72) hx hb hK hP (lt_hn (by decide) (by decide)) rfl dX10_init_280 ?_
  rw [show Int32.ofNat 72 = (72 : Int32) from rfl]
  refine lv_icmp_ge (tgt := 297) hx hb dX10_init_281 (by decide) (fun c => absurd c (by decide)) (fun _ => ?_)
  refine lv_aload_n hx hb dX10_init_284 rfl (lv_at hl 1 rfl) ?_
  refine g_get (ci := 10) (C := RX10) (T := TX10) (N := 35) (v := .ref (a 16)) hx hb hts iX10_init_X10 hown hK hP (lt_hn (by decide) (by decide)) cD_D rfl 21 (by decide) rfl (by decide +kernel) rfl dX10_init_285 ?_
  refine lv_iload_n hx hb dX10_init_288 rfl (lv_at hl 0 rfl) ?_
  refine lv_iconst (v := (-1)) hx hb dX10_init_289 (by decide) ?_
  refine g_iast (N := 72) (g := (mX10_init_22 S) 16) hx hb hK ha hAk hP hS (lt_hn (by decide) (by decide)) rfl (vp_in_lit (by decide)) rfl dX10_init_290 (fun H locs hP hS => ?_)
  refine lv_iinc (v := 39) (lv' := [(1, .int 39), (0, .ref (a 0))]) hx hb dX10_init_291 hl (k := 0) rfl (by decide) (by decide) rfl (fun ls hl => ?_)
  refine lv_goto (tgt := 275) hx hb dX10_init_294 (by decide) ?_
  refine lv_iload_n hx hb dX10_init_275 rfl (lv_at hl 0 rfl) ?_
  refine lv_aload_n hx hb dX10_init_276 rfl (lv_at hl 1 rfl) ?_
  refine g_get (ci := 10) (C := RX10) (T := TX10) (N := 35) (v := .ref (a 16)) hx hb hts iX10_init_X10 hown hK hP (lt_hn (by decide) (by decide)) cD_D rfl 21 (by decide) rfl (by decide +kernel) rfl dX10_init_277 ?_
  refine g_alen (N := 72) hx hb hK hP (lt_hn (by decide) (by decide)) rfl dX10_init_280 ?_
  rw [show Int32.ofNat 72 = (72 : Int32) from rfl]
  refine lv_icmp_ge (tgt := 297) hx hb dX10_init_281 (by decide) (fun c => absurd c (by decide)) (fun _ => ?_)
  refine lv_aload_n hx hb dX10_init_284 rfl (lv_at hl 1 rfl) ?_
  refine g_get (ci := 10) (C := RX10) (T := TX10) (N := 35) (v := .ref (a 16)) hx hb hts iX10_init_X10 hown hK hP (lt_hn (by decide) (by decide)) cD_D rfl 21 (by decide) rfl (by decide +kernel) rfl dX10_init_285 ?_
  refine lv_iload_n hx hb dX10_init_288 rfl (lv_at hl 0 rfl) ?_
  refine lv_iconst (v := (-1)) hx hb dX10_init_289 (by decide) ?_
  refine g_iast (N := 72) (g := (up2 (mX10_init_22 S) 16 (36 : Int32).toNatClampNeg (-1)) 16) hx hb hK ha hAk hP hS (lt_hn (by decide) (by decide)) rfl (vp_in_lit (by decide)) rfl dX10_init_290 (fun H locs hP hS => ?_)
  have hP : va_P G vwCl (wG 18 a (cD a cA) (mX10_init_23 S) 0) H := hP
  refine lv_iinc (v := 42) (lv' := [(1, .int 42), (0, .ref (a 0))]) hx hb dX10_init_291 hl (k := 0) rfl (by decide) (by decide) rfl (fun ls hl => ?_)
  refine lv_goto (tgt := 275) hx hb dX10_init_294 (by decide) ?_
  refine lv_iload_n hx hb dX10_init_275 rfl (lv_at hl 0 rfl) ?_
  refine lv_aload_n hx hb dX10_init_276 rfl (lv_at hl 1 rfl) ?_
  refine g_get (ci := 10) (C := RX10) (T := TX10) (N := 35) (v := .ref (a 16)) hx hb hts iX10_init_X10 hown hK hP (lt_hn (by decide) (by decide)) cD_D rfl 21 (by decide) rfl (by decide +kernel) rfl dX10_init_277 ?_
  refine g_alen (N := 72) hx hb hK hP (lt_hn (by decide) (by decide)) rfl dX10_init_280 ?_
  rw [show Int32.ofNat 72 = (72 : Int32) from rfl]
  refine lv_icmp_ge (tgt := 297) hx hb dX10_init_281 (by decide) (fun c => absurd c (by decide)) (fun _ => ?_)
  refine lv_aload_n hx hb dX10_init_284 rfl (lv_at hl 1 rfl) ?_
  refine g_get (ci := 10) (C := RX10) (T := TX10) (N := 35) (v := .ref (a 16)) hx hb hts iX10_init_X10 hown hK hP (lt_hn (by decide) (by decide)) cD_D rfl 21 (by decide) rfl (by decide +kernel) rfl dX10_init_285 ?_
  refine lv_iload_n hx hb dX10_init_288 rfl (lv_at hl 0 rfl) ?_
  refine lv_iconst (v := (-1)) hx hb dX10_init_289 (by decide) ?_
  refine g_iast (N := 72) (g := (mX10_init_23 S) 16) hx hb hK ha hAk hP hS (lt_hn (by decide) (by decide)) rfl (vp_in_lit (by decide)) rfl dX10_init_290 (fun H locs hP hS => ?_)
  refine lv_iinc (v := 45) (lv' := [(1, .int 45), (0, .ref (a 0))]) hx hb dX10_init_291 hl (k := 0) rfl (by decide) (by decide) rfl (fun ls hl => ?_)
  refine lv_goto (tgt := 275) hx hb dX10_init_294 (by decide) ?_
  refine lv_iload_n hx hb dX10_init_275 rfl (lv_at hl 0 rfl) ?_
  refine lv_aload_n hx hb dX10_init_276 rfl (lv_at hl 1 rfl) ?_
  refine g_get (ci := 10) (C := RX10) (T := TX10) (N := 35) (v := .ref (a 16)) hx hb hts iX10_init_X10 hown hK hP (lt_hn (by decide) (by decide)) cD_D rfl 21 (by decide) rfl (by decide +kernel) rfl dX10_init_277 ?_
  refine g_alen (N := 72) hx hb hK hP (lt_hn (by decide) (by decide)) rfl dX10_init_280 ?_
  rw [show Int32.ofNat 72 = (72 : Int32) from rfl]
  refine lv_icmp_ge (tgt := 297) hx hb dX10_init_281 (by decide) (fun c => absurd c (by decide)) (fun _ => ?_)
  refine lv_aload_n hx hb dX10_init_284 rfl (lv_at hl 1 rfl) ?_
  refine g_get (ci := 10) (C := RX10) (T := TX10) (N := 35) (v := .ref (a 16)) hx hb hts iX10_init_X10 hown hK hP (lt_hn (by decide) (by decide)) cD_D rfl 21 (by decide) rfl (by decide +kernel) rfl dX10_init_285 ?_
  refine lv_iload_n hx hb dX10_init_288 rfl (lv_at hl 0 rfl) ?_
  refine lv_iconst (v := (-1)) hx hb dX10_init_289 (by decide) ?_
  refine g_iast (N := 72) (g := (up2 (mX10_init_23 S) 16 (42 : Int32).toNatClampNeg (-1)) 16) hx hb hK ha hAk hP hS (lt_hn (by decide) (by decide)) rfl (vp_in_lit (by decide)) rfl dX10_init_290 (fun H locs hP hS => ?_)
  have hP : va_P G vwCl (wG 18 a (cD a cA) (mX10_init_24 S) 0) H := hP
  refine lv_iinc (v := 48) (lv' := [(1, .int 48), (0, .ref (a 0))]) hx hb dX10_init_291 hl (k := 0) rfl (by decide) (by decide) rfl (fun ls hl => ?_)
  refine lv_goto (tgt := 275) hx hb dX10_init_294 (by decide) ?_
  refine lv_iload_n hx hb dX10_init_275 rfl (lv_at hl 0 rfl) ?_
  refine lv_aload_n hx hb dX10_init_276 rfl (lv_at hl 1 rfl) ?_
  refine g_get (ci := 10) (C := RX10) (T := TX10) (N := 35) (v := .ref (a 16)) hx hb hts iX10_init_X10 hown hK hP (lt_hn (by decide) (by decide)) cD_D rfl 21 (by decide) rfl (by decide +kernel) rfl dX10_init_277 ?_
  refine g_alen (N := 72) hx hb hK hP (lt_hn (by decide) (by decide)) rfl dX10_init_280 ?_
  rw [show Int32.ofNat 72 = (72 : Int32) from rfl]
  refine lv_icmp_ge (tgt := 297) hx hb dX10_init_281 (by decide) (fun c => absurd c (by decide)) (fun _ => ?_)
  refine lv_aload_n hx hb dX10_init_284 rfl (lv_at hl 1 rfl) ?_
  refine g_get (ci := 10) (C := RX10) (T := TX10) (N := 35) (v := .ref (a 16)) hx hb hts iX10_init_X10 hown hK hP (lt_hn (by decide) (by decide)) cD_D rfl 21 (by decide) rfl (by decide +kernel) rfl dX10_init_285 ?_
  refine lv_iload_n hx hb dX10_init_288 rfl (lv_at hl 0 rfl) ?_
  refine lv_iconst (v := (-1)) hx hb dX10_init_289 (by decide) ?_
  refine g_iast (N := 72) (g := (mX10_init_24 S) 16) hx hb hK ha hAk hP hS (lt_hn (by decide) (by decide)) rfl (vp_in_lit (by decide)) rfl dX10_init_290 (fun H locs hP hS => ?_)
  refine lv_iinc (v := 51) (lv' := [(1, .int 51), (0, .ref (a 0))]) hx hb dX10_init_291 hl (k := 0) rfl (by decide) (by decide) rfl (fun ls hl => ?_)
  refine lv_goto (tgt := 275) hx hb dX10_init_294 (by decide) ?_
  refine lv_iload_n hx hb dX10_init_275 rfl (lv_at hl 0 rfl) ?_
  refine lv_aload_n hx hb dX10_init_276 rfl (lv_at hl 1 rfl) ?_
  refine g_get (ci := 10) (C := RX10) (T := TX10) (N := 35) (v := .ref (a 16)) hx hb hts iX10_init_X10 hown hK hP (lt_hn (by decide) (by decide)) cD_D rfl 21 (by decide) rfl (by decide +kernel) rfl dX10_init_277 ?_
  refine g_alen (N := 72) hx hb hK hP (lt_hn (by decide) (by decide)) rfl dX10_init_280 ?_
  rw [show Int32.ofNat 72 = (72 : Int32) from rfl]
  refine lv_icmp_ge (tgt := 297) hx hb dX10_init_281 (by decide) (fun c => absurd c (by decide)) (fun _ => ?_)
  refine lv_aload_n hx hb dX10_init_284 rfl (lv_at hl 1 rfl) ?_
  refine g_get (ci := 10) (C := RX10) (T := TX10) (N := 35) (v := .ref (a 16)) hx hb hts iX10_init_X10 hown hK hP (lt_hn (by decide) (by decide)) cD_D rfl 21 (by decide) rfl (by decide +kernel) rfl dX10_init_285 ?_
  refine lv_iload_n hx hb dX10_init_288 rfl (lv_at hl 0 rfl) ?_
  refine lv_iconst (v := (-1)) hx hb dX10_init_289 (by decide) ?_
  refine g_iast (N := 72) (g := (up2 (mX10_init_24 S) 16 (48 : Int32).toNatClampNeg (-1)) 16) hx hb hK ha hAk hP hS (lt_hn (by decide) (by decide)) rfl (vp_in_lit (by decide)) rfl dX10_init_290 (fun H locs hP hS => ?_)
  have hP : va_P G vwCl (wG 18 a (cD a cA) (mX10_init_25 S) 0) H := hP
  refine lv_iinc (v := 54) (lv' := [(1, .int 54), (0, .ref (a 0))]) hx hb dX10_init_291 hl (k := 0) rfl (by decide) (by decide) rfl (fun ls hl => ?_)
  refine lv_goto (tgt := 275) hx hb dX10_init_294 (by decide) ?_
  refine lv_iload_n hx hb dX10_init_275 rfl (lv_at hl 0 rfl) ?_
  refine lv_aload_n hx hb dX10_init_276 rfl (lv_at hl 1 rfl) ?_
  refine g_get (ci := 10) (C := RX10) (T := TX10) (N := 35) (v := .ref (a 16)) hx hb hts iX10_init_X10 hown hK hP (lt_hn (by decide) (by decide)) cD_D rfl 21 (by decide) rfl (by decide +kernel) rfl dX10_init_277 ?_
  refine g_alen (N := 72) hx hb hK hP (lt_hn (by decide) (by decide)) rfl dX10_init_280 ?_
  rw [show Int32.ofNat 72 = (72 : Int32) from rfl]
  refine lv_icmp_ge (tgt := 297) hx hb dX10_init_281 (by decide) (fun c => absurd c (by decide)) (fun _ => ?_)
  refine lv_aload_n hx hb dX10_init_284 rfl (lv_at hl 1 rfl) ?_
  refine g_get (ci := 10) (C := RX10) (T := TX10) (N := 35) (v := .ref (a 16)) hx hb hts iX10_init_X10 hown hK hP (lt_hn (by decide) (by decide)) cD_D rfl 21 (by decide) rfl (by decide +kernel) rfl dX10_init_285 ?_
  refine lv_iload_n hx hb dX10_init_288 rfl (lv_at hl 0 rfl) ?_
  refine lv_iconst (v := (-1)) hx hb dX10_init_289 (by decide) ?_
  refine g_iast (N := 72) (g := (mX10_init_25 S) 16) hx hb hK ha hAk hP hS (lt_hn (by decide) (by decide)) rfl (vp_in_lit (by decide)) rfl dX10_init_290 (fun H locs hP hS => ?_)
  refine lv_iinc (v := 57) (lv' := [(1, .int 57), (0, .ref (a 0))]) hx hb dX10_init_291 hl (k := 0) rfl (by decide) (by decide) rfl (fun ls hl => ?_)
  refine lv_goto (tgt := 275) hx hb dX10_init_294 (by decide) ?_
  refine lv_iload_n hx hb dX10_init_275 rfl (lv_at hl 0 rfl) ?_
  refine lv_aload_n hx hb dX10_init_276 rfl (lv_at hl 1 rfl) ?_
  refine g_get (ci := 10) (C := RX10) (T := TX10) (N := 35) (v := .ref (a 16)) hx hb hts iX10_init_X10 hown hK hP (lt_hn (by decide) (by decide)) cD_D rfl 21 (by decide) rfl (by decide +kernel) rfl dX10_init_277 ?_
  refine g_alen (N := 72) hx hb hK hP (lt_hn (by decide) (by decide)) rfl dX10_init_280 ?_
  rw [show Int32.ofNat 72 = (72 : Int32) from rfl]
  refine lv_icmp_ge (tgt := 297) hx hb dX10_init_281 (by decide) (fun c => absurd c (by decide)) (fun _ => ?_)
  refine lv_aload_n hx hb dX10_init_284 rfl (lv_at hl 1 rfl) ?_
  refine g_get (ci := 10) (C := RX10) (T := TX10) (N := 35) (v := .ref (a 16)) hx hb hts iX10_init_X10 hown hK hP (lt_hn (by decide) (by decide)) cD_D rfl 21 (by decide) rfl (by decide +kernel) rfl dX10_init_285 ?_
  refine lv_iload_n hx hb dX10_init_288 rfl (lv_at hl 0 rfl) ?_
  refine lv_iconst (v := (-1)) hx hb dX10_init_289 (by decide) ?_
  refine g_iast (N := 72) (g := (up2 (mX10_init_25 S) 16 (54 : Int32).toNatClampNeg (-1)) 16) hx hb hK ha hAk hP hS (lt_hn (by decide) (by decide)) rfl (vp_in_lit (by decide)) rfl dX10_init_290 (fun H locs hP hS => ?_)
  have hP : va_P G vwCl (wG 18 a (cD a cA) (mX10_init_26 S) 0) H := hP
  refine lv_iinc (v := 60) (lv' := [(1, .int 60), (0, .ref (a 0))]) hx hb dX10_init_291 hl (k := 0) rfl (by decide) (by decide) rfl (fun ls hl => ?_)
  refine lv_goto (tgt := 275) hx hb dX10_init_294 (by decide) ?_
  refine lv_iload_n hx hb dX10_init_275 rfl (lv_at hl 0 rfl) ?_
  refine lv_aload_n hx hb dX10_init_276 rfl (lv_at hl 1 rfl) ?_
  refine g_get (ci := 10) (C := RX10) (T := TX10) (N := 35) (v := .ref (a 16)) hx hb hts iX10_init_X10 hown hK hP (lt_hn (by decide) (by decide)) cD_D rfl 21 (by decide) rfl (by decide +kernel) rfl dX10_init_277 ?_
  refine g_alen (N := 72) hx hb hK hP (lt_hn (by decide) (by decide)) rfl dX10_init_280 ?_
  rw [show Int32.ofNat 72 = (72 : Int32) from rfl]
  refine lv_icmp_ge (tgt := 297) hx hb dX10_init_281 (by decide) (fun c => absurd c (by decide)) (fun _ => ?_)
  refine lv_aload_n hx hb dX10_init_284 rfl (lv_at hl 1 rfl) ?_
  refine g_get (ci := 10) (C := RX10) (T := TX10) (N := 35) (v := .ref (a 16)) hx hb hts iX10_init_X10 hown hK hP (lt_hn (by decide) (by decide)) cD_D rfl 21 (by decide) rfl (by decide +kernel) rfl dX10_init_285 ?_
  refine lv_iload_n hx hb dX10_init_288 rfl (lv_at hl 0 rfl) ?_
  refine lv_iconst (v := (-1)) hx hb dX10_init_289 (by decide) ?_
  refine g_iast (N := 72) (g := (mX10_init_26 S) 16) hx hb hK ha hAk hP hS (lt_hn (by decide) (by decide)) rfl (vp_in_lit (by decide)) rfl dX10_init_290 (fun H locs hP hS => ?_)
  refine lv_iinc (v := 63) (lv' := [(1, .int 63), (0, .ref (a 0))]) hx hb dX10_init_291 hl (k := 0) rfl (by decide) (by decide) rfl (fun ls hl => ?_)
  refine lv_goto (tgt := 275) hx hb dX10_init_294 (by decide) ?_
  refine lv_iload_n hx hb dX10_init_275 rfl (lv_at hl 0 rfl) ?_
  refine lv_aload_n hx hb dX10_init_276 rfl (lv_at hl 1 rfl) ?_
  refine g_get (ci := 10) (C := RX10) (T := TX10) (N := 35) (v := .ref (a 16)) hx hb hts iX10_init_X10 hown hK hP (lt_hn (by decide) (by decide)) cD_D rfl 21 (by decide) rfl (by decide +kernel) rfl dX10_init_277 ?_
  refine g_alen (N := 72) hx hb hK hP (lt_hn (by decide) (by decide)) rfl dX10_init_280 ?_
  rw [show Int32.ofNat 72 = (72 : Int32) from rfl]
  refine lv_icmp_ge (tgt := 297) hx hb dX10_init_281 (by decide) (fun c => absurd c (by decide)) (fun _ => ?_)
  refine lv_aload_n hx hb dX10_init_284 rfl (lv_at hl 1 rfl) ?_
  refine g_get (ci := 10) (C := RX10) (T := TX10) (N := 35) (v := .ref (a 16)) hx hb hts iX10_init_X10 hown hK hP (lt_hn (by decide) (by decide)) cD_D rfl 21 (by decide) rfl (by decide +kernel) rfl dX10_init_285 ?_
  refine lv_iload_n hx hb dX10_init_288 rfl (lv_at hl 0 rfl) ?_
  refine lv_iconst (v := (-1)) hx hb dX10_init_289 (by decide) ?_
  refine g_iast (N := 72) (g := (up2 (mX10_init_26 S) 16 (60 : Int32).toNatClampNeg (-1)) 16) hx hb hK ha hAk hP hS (lt_hn (by decide) (by decide)) rfl (vp_in_lit (by decide)) rfl dX10_init_290 (fun H locs hP hS => ?_)
  have hP : va_P G vwCl (wG 18 a (cD a cA) (mX10_init_27 S) 0) H := hP
  refine lv_iinc (v := 66) (lv' := [(1, .int 66), (0, .ref (a 0))]) hx hb dX10_init_291 hl (k := 0) rfl (by decide) (by decide) rfl (fun ls hl => ?_)
  refine lv_goto (tgt := 275) hx hb dX10_init_294 (by decide) ?_
  refine lv_iload_n hx hb dX10_init_275 rfl (lv_at hl 0 rfl) ?_
  refine lv_aload_n hx hb dX10_init_276 rfl (lv_at hl 1 rfl) ?_
  refine g_get (ci := 10) (C := RX10) (T := TX10) (N := 35) (v := .ref (a 16)) hx hb hts iX10_init_X10 hown hK hP (lt_hn (by decide) (by decide)) cD_D rfl 21 (by decide) rfl (by decide +kernel) rfl dX10_init_277 ?_
  refine g_alen (N := 72) hx hb hK hP (lt_hn (by decide) (by decide)) rfl dX10_init_280 ?_
  rw [show Int32.ofNat 72 = (72 : Int32) from rfl]
  refine lv_icmp_ge (tgt := 297) hx hb dX10_init_281 (by decide) (fun c => absurd c (by decide)) (fun _ => ?_)
  refine lv_aload_n hx hb dX10_init_284 rfl (lv_at hl 1 rfl) ?_
  refine g_get (ci := 10) (C := RX10) (T := TX10) (N := 35) (v := .ref (a 16)) hx hb hts iX10_init_X10 hown hK hP (lt_hn (by decide) (by decide)) cD_D rfl 21 (by decide) rfl (by decide +kernel) rfl dX10_init_285 ?_
  refine lv_iload_n hx hb dX10_init_288 rfl (lv_at hl 0 rfl) ?_
  refine lv_iconst (v := (-1)) hx hb dX10_init_289 (by decide) ?_
  refine g_iast (N := 72) (g := (mX10_init_27 S) 16) hx hb hK ha hAk hP hS (lt_hn (by decide) (by decide)) rfl (vp_in_lit (by decide)) rfl dX10_init_290 (fun H locs hP hS => ?_)
  refine lv_iinc (v := 69) (lv' := [(1, .int 69), (0, .ref (a 0))]) hx hb dX10_init_291 hl (k := 0) rfl (by decide) (by decide) rfl (fun ls hl => ?_)
  refine lv_goto (tgt := 275) hx hb dX10_init_294 (by decide) ?_
  refine lv_iload_n hx hb dX10_init_275 rfl (lv_at hl 0 rfl) ?_
  refine lv_aload_n hx hb dX10_init_276 rfl (lv_at hl 1 rfl) ?_
  refine g_get (ci := 10) (C := RX10) (T := TX10) (N := 35) (v := .ref (a 16)) hx hb hts iX10_init_X10 hown hK hP (lt_hn (by decide) (by decide)) cD_D rfl 21 (by decide) rfl (by decide +kernel) rfl dX10_init_277 ?_
  refine g_alen (N := 72) hx hb hK hP (lt_hn (by decide) (by decide)) rfl dX10_init_280 ?_
  rw [show Int32.ofNat 72 = (72 : Int32) from rfl]
  refine lv_icmp_ge (tgt := 297) hx hb dX10_init_281 (by decide) (fun c => absurd c (by decide)) (fun _ => ?_)
  refine lv_aload_n hx hb dX10_init_284 rfl (lv_at hl 1 rfl) ?_
  refine g_get (ci := 10) (C := RX10) (T := TX10) (N := 35) (v := .ref (a 16)) hx hb hts iX10_init_X10 hown hK hP (lt_hn (by decide) (by decide)) cD_D rfl 21 (by decide) rfl (by decide +kernel) rfl dX10_init_285 ?_
  refine lv_iload_n hx hb dX10_init_288 rfl (lv_at hl 0 rfl) ?_
  refine lv_iconst (v := (-1)) hx hb dX10_init_289 (by decide) ?_
  refine g_iast (N := 72) (g := (up2 (mX10_init_27 S) 16 (66 : Int32).toNatClampNeg (-1)) 16) hx hb hK ha hAk hP hS (lt_hn (by decide) (by decide)) rfl (vp_in_lit (by decide)) rfl dX10_init_290 (fun H locs hP hS => ?_)
  have hP : va_P G vwCl (wG 18 a (cD a cA) (mX10_init_28 S) 0) H := hP
  refine lv_iinc (v := 72) (lv' := [(1, .int 72), (0, .ref (a 0))]) hx hb dX10_init_291 hl (k := 0) rfl (by decide) (by decide) rfl (fun ls hl => ?_)
  refine lv_goto (tgt := 275) hx hb dX10_init_294 (by decide) ?_
  refine lv_iload_n hx hb dX10_init_275 rfl (lv_at hl 0 rfl) ?_
  refine lv_aload_n hx hb dX10_init_276 rfl (lv_at hl 1 rfl) ?_
  refine g_get (ci := 10) (C := RX10) (T := TX10) (N := 35) (v := .ref (a 16)) hx hb hts iX10_init_X10 hown hK hP (lt_hn (by decide) (by decide)) cD_D rfl 21 (by decide) rfl (by decide +kernel) rfl dX10_init_277 ?_
  refine g_alen (N := 72) hx hb hK hP (lt_hn (by decide) (by decide)) rfl dX10_init_280 ?_
  rw [show Int32.ofNat 72 = (72 : Int32) from rfl]
  refine lv_icmp_ge (tgt := 297) hx hb dX10_init_281 (by decide) (fun _ => ?_) (fun c => absurd c (by decide))
  have hP : va_P G vwCl (wG 18 a (cD a cA) SD0 0) H := by unfold SD0; dsimp only; rw [← eS]; exact hP
  exact j_vret (b := a) hx hb hr hlocks ha0 hP (wG_D ha hAk) hS dX10_init_297
