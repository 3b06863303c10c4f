section GW6
variable {p : Program} {l : Launch} {e : Env} {R : Room} {s : State} {m : MethodId} {args : Array Value} {below : List Frame} {meth : Method} {c : Code} {H : Heap} {locs : List Loc} {cells slots : Nat} {Q : State → Prop}
variable {cc : ByteArray} {pc : Nat} {ls : Array Slot} {rest : List Value} {G : va_G} {A0 : Nat → Prop} {cA : ClassId} {zq : Nat} {a : Nat → Nat} {S T : Mm} {L : Int64}
variable {y : MethodName} {bytes : ByteArray} {maxL nL mc ms nn index : Nat} {ret : Option FieldType} {ws : List Cond} {rm : Room} {Ts : List Cond} {own C : String} {b0 : Addr} {As st0 : List Value}
theorem g_cpD (S0 : CallFix p m c cc nL s args Ts own) (hM : Met l y ws rm (va_Pc (.ref b0 :: As) (gI G cA zq 19 a (cD a cA) S L H.size)) (va_Qr (fun (b : Nat → Nat) => apart 18 b ∧ ∀ k, k < 18 → H.size ≤ b k) (fun b q t => q = b 0 ∧ va_P G vwCl (wG 19 a (cD a cA) S L) t.heap ∧ va_P G vwCl (wG 18 b (cD b cA) T 0) t.heap) (mA 19 a H.size)) mc ms (mA 19 a H.size)) (cw : CallW R s args own C index y bytes maxL ret ws rm mc ms nn) (hrc : ∃ cell : Cell, H[b0]? = some cell ∧ cell.vm.isStatics = false ∧ s.vm.findClass C = some cell.cls) (hK : KP G cA zq A0 s) (hA : ∀ q, mA 19 a H.size q → A0 q) (hP : va_P G vwCl (wG 19 a (cD a cA) S L) H) (hS : va_S A0 s.heap H locs) (hlen : As.length = nn) (hls : ls.size = nL) (hst : st0 = As.reverse ++ .ref b0 :: rest) (hW : 2 * (F0 m pc ls st0).monitorRoom + (rest.map fun v => v.category).sum ≤ 8) (hdg : decode cc pc = .ok (.invokevirtual index, 3)) (hroom : cells + mc ≤ R.cells ∧ slots + ms ≤ R.slots)
    (kk : ∀ (b : Nat → Nat) (H1 : Heap) (locs1 : List Loc), apart 18 b → (∀ k, k < 18 → s.heap.size ≤ b k) → va_P G vwCl (wG 19 a (cD a cA) S L) H1 → va_P G vwCl (wG 18 b (cD b cA) T 0) H1 → va_S A0 s.heap H1 locs1 → W p l e R s m args below meth c H1 locs1 (cells + mc) (slots + ms) Q (F0 m (pc + 3) ls (.ref (b 0) :: rest))) : W p l e R s m args below meth c H locs cells slots Q (F0 m pc ls st0) := by
  refine va_callr (va_runV S0 hM cw ⟨gI_blind, hrc, fun U hU hW => ⟨rfl, by rw [hU], by rw [hU]; exact hP, KP_go hK hA hS hU hW⟩⟩ rfl hlen hls hst hW hdg hroom) hS (fun q _ h => hA q h) hA (fun u r' t H1 locs1 ht hvm hw hB hz1 hk1 hS1 => ?_)
  obtain ⟨hq, h1, h2⟩ := hB
  subst hq
  rw [ht] at h1 h2
  exact kk u H1 locs1 hw.1 (fun k hk => Nat.le_trans hS.1 (hw.2 k hk)) h1 h2 hS1
end GW6
theorem mT {a b : Nat → Nat} {z h : Nat} (hbD : ∀ k, k < 18 → z ≤ b k) (hz : z ≤ h) : ∀ q, mA 18 b h q → mA 19 a z q := fun q hq => by
  rcases hq with ⟨k, hk, e⟩ | hq
  · exact Or.inr (e ▸ hbD k hk)
  · exact Or.inr (Nat.le_trans hz hq)
theorem kO {G : va_G} {a b : Nat → Nat} {cA : ClassId} {S : Mm} {L : Int64} {H H1 : Heap} {z : Nat} (hO : va_P G vwCl (wG 19 a (cD a cA) S L) H) (hlt : ∀ k, k < 19 → a k < z) (hbD : ∀ k, k < 18 → z ≤ b k) (hk1 : ∀ q : Nat, q < H.size → ¬ mA 18 b H.size q → H1[q]? = H[q]?) : va_P G vwCl (wG 19 a (cD a cA) S L) H1 := by
  refine hO.kept (fun k q hq => ?_)
  have hk := wG_lt hq
  have h1 := (hO k q hq).lt
  refine hk1 q.1 h1 (fun h => ?_)
  rw [wG_get hk] at hq
  cases hq
  rcases h with ⟨j, hj, e⟩ | h
  · have h2 := hbD j hj
    have h3 := hlt k hk
    have e : b j = a k := e
    omega
  · have h : H.size ≤ a k := h
    have h1 : a k < H.size := h1
    omega
theorem hlt_of {G : va_G} {n : Nat} {a : Nat → Nat} {f : Cf} {S : Mm} {L : Int64} {H : Heap} (h : va_P G vwCl (wG n a f S L) H) : ∀ k, k < n → a k < H.size := fun k hk => (h k _ (wG_get hk)).lt
theorem sx_exit {x : Int32} {i : Nat} (h : i + 0 = x.toNatClampNeg + 1) (hx : ¬ rX11_isIn x 1 200 = 0) : x < nI i := by
  obtain ⟨h1, h2⟩ := isIn_ne hx
  rw [Int32.lt_iff_toInt_lt] at h1 h2
  have h3 : (200 : Int32).toInt = 200 := by decide
  have h4 : (1 : Int32).toInt = 1 := by decide
  have hx0 : x.toNatClampNeg = x.toInt.toNat := rfl
  rw [Int32.lt_iff_toInt_lt, nI_toInt (by omega)]
  omega
theorem sx_body {x : Int32} {i k : Nat} (h : i + (k + 1) = x.toNatClampNeg + 1) (hx : ¬ rX11_isIn x 1 200 = 0) : ¬ x < nI i := by
  obtain ⟨h1, h2⟩ := isIn_ne hx
  rw [Int32.lt_iff_toInt_lt] at h1 h2
  have h3 : (200 : Int32).toInt = 200 := by decide
  have h4 : (1 : Int32).toInt = 1 := by decide
  have hx0 : x.toNatClampNeg = x.toInt.toNat := rfl
  rw [Int32.lt_iff_toInt_lt, nI_toInt (by omega)]
  omega
theorem iD_K {S : Mm} {K K' : Int} (h : iD S K) (hk : K ≤ K') : iD S K' := ⟨h.1, h.2.1, h.2.2.1, h.2.2.2.1, rg_w h.2.2.2.2.1 (Int.le_refl _) hk, h.2.2.2.2.2.1, h.2.2.2.2.2.2⟩
def vX11_wouldPeak_1 (S : Mm) (p1 : Int32) (zS : Mm) (z3 : Int32) (zL : Int64) (i : Nat) : Int32 := (if z3 < (if 0 ≤ rX10_sample zS zL then rX10_sample zS zL else 0 - (rX10_sample zS zL)) then (if 0 ≤ rX10_sample zS zL then rX10_sample zS zL else 0 - (rX10_sample zS zL)) else z3)
def bX11_wouldPeak_35_zS (S : Mm) (p1 : Int32) (zS : Mm) (z3 : Int32) (zL : Int64) (i : Nat) : Mm := fX10_sample zS zL
def bX11_wouldPeak_35_z3 (S : Mm) (p1 : Int32) (zS : Mm) (z3 : Int32) (zL : Int64) (i : Nat) : Int32 := (vX11_wouldPeak_1 S p1 zS z3 zL i)
def bX11_wouldPeak_35_zL (S : Mm) (p1 : Int32) (zS : Mm) (z3 : Int32) (zL : Int64) (i : Nat) : Int64 := lX10_sample zS zL
def lpX11_wouldPeak_35 (S : Mm) (p1 : Int32) : Nat → Mm × Int32 × Int64
  | 0 => (cpD (up2 S 18 0 0), 0, 0)
  | i + 1 => (bX11_wouldPeak_35_zS S p1 (lpX11_wouldPeak_35 S p1 i).1 (lpX11_wouldPeak_35 S p1 i).2.1 (lpX11_wouldPeak_35 S p1 i).2.2 i, bX11_wouldPeak_35_z3 S p1 (lpX11_wouldPeak_35 S p1 i).1 (lpX11_wouldPeak_35 S p1 i).2.1 (lpX11_wouldPeak_35 S p1 i).2.2 i, bX11_wouldPeak_35_zL S p1 (lpX11_wouldPeak_35 S p1 i).1 (lpX11_wouldPeak_35 S p1 i).2.1 (lpX11_wouldPeak_35 S p1 i).2.2 i)
theorem lpX11_wouldPeak_35_0 (S : Mm) (p1 : Int32) : lpX11_wouldPeak_35 S p1 0 = (cpD (up2 S 18 0 0), 0, 0) := by rw [lpX11_wouldPeak_35]
theorem lpX11_wouldPeak_35_s (S : Mm) (p1 : Int32) (i : Nat) : lpX11_wouldPeak_35 S p1 (i + 1) = (bX11_wouldPeak_35_zS S p1 (lpX11_wouldPeak_35 S p1 i).1 (lpX11_wouldPeak_35 S p1 i).2.1 (lpX11_wouldPeak_35 S p1 i).2.2 i, bX11_wouldPeak_35_z3 S p1 (lpX11_wouldPeak_35 S p1 i).1 (lpX11_wouldPeak_35 S p1 i).2.1 (lpX11_wouldPeak_35 S p1 i).2.2 i, bX11_wouldPeak_35_zL S p1 (lpX11_wouldPeak_35 S p1 i).1 (lpX11_wouldPeak_35 S p1 i).2.1 (lpX11_wouldPeak_35 S p1 i).2.2 i) := by rw [lpX11_wouldPeak_35]
def rX11_wouldPeak (S : Mm) (p1 : Int32) : Int32 := (if rX11_isIn p1 (1 : Int32) (200 : Int32) = 0 then rX11_no (up2 S 18 0 0) (1 : Int32) else (lpX11_wouldPeak_35 S p1 (p1.toNatClampNeg)).2.1)
def fX11_wouldPeak (S : Mm) (p1 : Int32) : Mm := (if rX11_isIn p1 (1 : Int32) (200 : Int32) = 0 then fX11_no (up2 S 18 0 0) (1 : Int32) else up2 S 18 0 0)
theorem lpX11_wouldPeak_iD {S : Mm} {p1 : Int32} {K : Int} (hD : iD S K) (hK : K < 1000000000) : ∀ i : Nat, i ≤ 201 → iD (lpX11_wouldPeak_35 S p1 i).1 (K + i) := by
  intro i
  induction i with
  | zero =>
    intro _
    rw [lpX11_wouldPeak_35_0]
    have q : iD (cpD (up2 S 18 0 0)) K := cpD_iD (iD_18 hD)
    rw [show K + ((0 : Nat) : Int) = K by omega]
    dsimp only
    exact q
  | succ i ih =>
    intro hi
    rw [lpX11_wouldPeak_35_s]
    have q := sm_iD (L := (lpX11_wouldPeak_35 S p1 i).2.2) (ih (by omega)) (by omega)
    rw [show K + ((i + 1 : Nat) : Int) = K + i + 1 by omega]
    dsimp only
    unfold bX11_wouldPeak_35_zS
    exact q
theorem iX11_wouldPeak_X11 : ∀ w ∈ u_ws RX11 TX11 2, w ∈ wsX11_wouldPeak := by decide +kernel
set_option maxHeartbeats 4000000 in
set_option maxRecDepth 100000 in
theorem c_X11_wouldPeak (l : Launch) (G : va_G) (cA : ClassId) (zq : Nat) (a : Nat → Nat) (ha : apart 19 a) (S : Mm) (L : Int64) (sz : Nat) (p1 : Int32)  (K : Int) (hD : iD S K) (hKb : K < 1000000000) (hB : S 0 24 = 0 ∨ S 0 24 = 1) : Met l yX11_wouldPeak wsX11_wouldPeak ({ frames := 4, cells := 818, slots := 10098, locals := 97 } : Room) (va_Pc [.ref (a 18), .int p1] (gI G cA zq 19 a (cD a cA) S L sz)) (gQi (rX11_wouldPeak S p1) G 19 a (cD a cA) (fX11_wouldPeak S p1) L sz) 818 10098 (mA 19 a sz) := by
  refine g_met (cc := cX11_wouldPeak) (maxL := 5) (ret := (some .int)) (by decide) rfl (Nat.le_of_ble_eq_true rfl) ?_
  intro p e s m below meth c ls hx hb hr hlocks hml hts hown hnm hsz hK hP hS hl
  subst hsz
  have hltA := hlt_of hP
  have hl : lv_has ls 5 [(0, .ref (a 18)), (1, .int p1)] := hl
  refine lv_aload_n hx hb dX11_wouldPeak_0 rfl (lv_at hl 0 rfl) ?_
  refine lv_iconst (v := 0) hx hb dX11_wouldPeak_1 (by decide) ?_
  refine g_put (ci := 11) (C := RX11) (T := TX11) (N := 2) (ty := .int) hx hb hts iX11_wouldPeak_X11 tyX11 tyX11_ok nmX11 hown hK ha mA_in hP hS (by decide) cD_Mo rfl 0 (by decide) rfl (by decide +kernel) rfl (by decide +kernel) rfl rfl (Nat.le_of_ble_eq_true rfl) (cD_Mo_set (by decide)) dX11_wouldPeak_2 (fun H locs hP hS => ?_)
  refine lv_iload_n hx hb dX11_wouldPeak_5 rfl (lv_at hl 1 rfl) ?_
  refine lv_iconst (v := 1) hx hb dX11_wouldPeak_6 (by decide) ?_
  refine lv_sipush (v := 200) hx hb dX11_wouldPeak_7 (by decide) ?_
  refine g_cSi (As := [.int p1, .int 1, .int 200]) (rest := []) ⟨hx, hb, hml, hown, hts⟩ (c_X11_isIn l G cA zq 19 (by decide) a ha (up2 S 18 0 0) L H.size p1 (1 : Int32) (200 : Int32)  ) (va_cwS 3 hts gX11_wouldPeak_X11_isIn rfl rfl rfl (by decide +kernel) ⟨Nat.le_of_ble_eq_true rfl, Nat.le_of_ble_eq_true rfl⟩) hK (mA_mono hS.1) hP hS rfl hl.1 rfl (lv_room (Nat.le_of_ble_eq_true rfl)) dX11_wouldPeak_10 ⟨Nat.le_of_ble_eq_true rfl, Nat.le_of_ble_eq_true rfl⟩ (fun H locs hP hS _ _ => ?_)
  refine lv_if_ne (tgt := 22) hx hb dX11_wouldPeak_13 (by decide) (fun c1 => ?_) (fun c1 => ?_)
  ·
    refine lv_aload_n hx hb dX11_wouldPeak_22 rfl (lv_at hl 0 rfl) ?_
    refine g_get (ci := 11) (C := RX11) (T := TX11) (N := 2) (v := .ref (a 0)) hx hb hts iX11_wouldPeak_X11 hown hK hP (by decide) cD_Mo rfl 1 (by decide) rfl (by decide +kernel) rfl dX11_wouldPeak_23 ?_
    have hcb : narrow .boolean (.int (eX10_copy (jn (up2 S 18 0 0) SD0))) = .int (eX10_copy (jn (up2 S 18 0 0) SD0)) ∧ fits .boolean (.int (eX10_copy (jn (up2 S 18 0 0) SD0))) = true := by rw [ecp_eq, up2_n (by decide)]; rcases hB with q | q <;> rw [q] <;> exact ⟨rfl, rfl⟩
    refine g_cpD (As := []) (rest := []) ⟨hx, hb, hml, hown, hts⟩ (c_X10_copy l G cA zq a ha (up2 S 18 0 0) L H.size hcb.1 hcb.2) (cwV 0 hts gX11_wouldPeak_X10_copy rfl rfl rfl (by decide +kernel) ⟨Nat.le_of_ble_eq_true rfl, Nat.le_of_ble_eq_true rfl⟩) (g_recv hK hP (lt_hn (by decide) (by decide)) cD_D (C := RX10) (T := TX10) (N := 35) rfl) hK (mA_mono hS.1) hP hS rfl hl.1 rfl (lv_room (Nat.le_of_ble_eq_true rfl)) dX11_wouldPeak_26 ⟨Nat.le_of_ble_eq_true rfl, Nat.le_of_ble_eq_true rfl⟩ (fun b H locs hbA hbD hO hP hS => ?_)
    refine lv_astore_n (lv' := [(2, .ref (b 0)), (0, .ref (a 18)), (1, .int p1)]) hx hb dX11_wouldPeak_29 rfl hl (by decide) rfl (fun ls hl => ?_)
    refine lv_iconst (v := 0) hx hb dX11_wouldPeak_30 (by decide) ?_
    refine lv_istore_n (lv' := [(3, .int 0), (2, .ref (b 0)), (0, .ref (a 18)), (1, .int p1)]) hx hb dX11_wouldPeak_31 rfl hl (by decide) rfl (fun ls hl => ?_)
    refine lv_iconst (v := 0) hx hb dX11_wouldPeak_32 (by decide) ?_
    refine lv_istore (lv' := [(4, .int 0), (3, .int 0), (2, .ref (b 0)), (0, .ref (a 18)), (1, .int p1)]) hx hb dX11_wouldPeak_33 hl (by decide) rfl (fun ls hl => ?_)
    have h200 := isIn_le c1
    have loop : ∀ (k i : Nat), i ≤ p1.toNatClampNeg → p1.toNatClampNeg < i + k → ∀ (zS : Mm) (z3 : Int32) (zL : Int64) (H : Heap) (locs : List Loc) (ls : Array Slot), zS = (lpX11_wouldPeak_35 S p1 i).1 → z3 = (lpX11_wouldPeak_35 S p1 i).2.1 → zL = (lpX11_wouldPeak_35 S p1 i).2.2 → va_P G vwCl (wG 18 b (cD b cA) zS zL) H → va_P G vwCl (wG 19 a (cD a cA) (up2 S 18 0 0) L) H → va_S (mA 19 a s.heap.size) s.heap H locs → lv_has ls 5 [(4, .int (nI i)), (3, .int z3), (2, .ref (b 0)), (0, .ref (a 18)), (1, .int p1)] → W p l e ({ frames := 4, cells := 818, slots := 10098, locals := 97 } : Room) s m ([.ref (a 18), .int p1] : List Value).toArray below meth c H locs (18 + 4 * i) (498 + 48 * i) (MQ below (gQi (rX11_wouldPeak S p1) G 19 a (cD a cA) (fX11_wouldPeak S p1) L s.heap.size) ([.ref (a 18), .int p1] : List Value).toArray s 818 10098 (mA 19 a s.heap.size)) (F0 m 35 ls []) := by
      intro k
      induction k with
      | zero => intro i h1 h2; omega
      | succ k ih =>
        intro i hi hk zS z3 zL H locs ls ezS ez3 ezL hP hO hS hl
        refine lv_iload hx hb dX11_wouldPeak_35 (lv_at hl 0 rfl) ?_
        refine lv_iload_n hx hb dX11_wouldPeak_37 rfl (lv_at hl 4 rfl) ?_
        refine lv_icmp_ge (tgt := 59) hx hb dX11_wouldPeak_38 (by decide) (fun cx => ?_) (fun cx => ?_)
        ·
          have hN := lx_exit hi cx
          subst hN
          rw [ezS] at hP
          rw [ez3] at hl
          rw [ezL] at hP
          refine W.widen (k := 818) (n := 10098) (by omega) (by omega) ?_
          refine lv_iload_n hx hb dX11_wouldPeak_59 rfl (lv_at hl 1 rfl) ?_
          have hP := hO
          exact g_iret hx hb hr hlocks (by unfold rX11_wouldPeak; rw [if_neg c1]) (by unfold fX11_wouldPeak; rw [if_neg c1]) rfl hP hS dX11_wouldPeak_60
        ·
          have hlt := lx_body cx hi
          refine lv_iload_n hx hb dX11_wouldPeak_41 rfl (lv_at hl 1 rfl) ?_
          refine lv_aload_n hx hb dX11_wouldPeak_42 rfl (lv_at hl 2 rfl) ?_
          refine g_cVi (As := []) (rest := [.int z3]) ⟨hx, hb, hml, hown, hts⟩ (c1_X10_sample l G cA zq 18 (Nat.le_refl 18) b hbA zS zL H.size   (K + i) (ezS ▸ lpX11_wouldPeak_iD hD hKb i (by omega))) (cwV 0 hts gX11_wouldPeak_X10_sample rfl rfl rfl (by decide +kernel) ⟨Nat.le_of_ble_eq_true rfl, Nat.le_of_ble_eq_true rfl⟩) (g_recv hK hP (lt_hn (Nat.le_refl 18) (by decide)) cD_D (C := RX10) (T := TX10) (N := 35) rfl) hK (mT hbD hS.1) hP hS rfl hl.1 rfl (lv_room (Nat.le_of_ble_eq_true rfl)) dX11_wouldPeak_43 ⟨by show 18 + 4 * i + 0 + 4 ≤ 818; omega, by show 498 + 48 * i + 0 + 48 ≤ 10098; omega⟩ (fun H locs hP hS hz1 hk1 => ?_)
          have hO := kO hO hltA hbD hk1
          refine va_mabs hx hb (hml.trans hl.1.symm) hown (hts (.methodLink RX11 194 Lib.Math.abs.name) (by decide +kernel)) (hts (.static Lib.Math.abs.name) (by decide +kernel)) (hts (.initialized "java/lang/Math") (by decide +kernel)) (hts (.code Lib.Math.abs.name Lib.Math.abs.code 1 (some .int)) (by decide +kernel)) (Nat.le_of_ble_eq_true rfl) (Nat.le_of_ble_eq_true rfl) (by show 18 + 4 * i + 4 ≤ 818; omega) (by show 498 + 48 * i + 48 ≤ 10098; omega) dX11_wouldPeak_46 ?_
          refine va_mmax hx hb (hml.trans hl.1.symm) hown (hts (.methodLink RX11 7 Lib.Math.max.name) (by decide +kernel)) (hts (.static Lib.Math.max.name) (by decide +kernel)) (hts (.initialized "java/lang/Math") (by decide +kernel)) (hts (.code Lib.Math.max.name Lib.Math.max.code 2 (some .int)) (by decide +kernel)) (Nat.le_of_ble_eq_true rfl) (Nat.le_of_ble_eq_true rfl) (by show 18 + 4 * i + 4 ≤ 818; omega) (by show 498 + 48 * i + 48 ≤ 10098; omega) dX11_wouldPeak_49 ?_
          refine W.eq (g2 := F0 m 52 ls [.int (vX11_wouldPeak_1 S p1 zS z3 zL i)]) rfl ?_
          refine lv_istore_n (lv' := [(3, .int (vX11_wouldPeak_1 S p1 zS z3 zL i)), (4, .int (nI i)), (2, .ref (b 0)), (0, .ref (a 18)), (1, .int p1)]) hx hb dX11_wouldPeak_52 rfl hl (by decide) rfl (fun ls hl => ?_)
          refine lv_iinc (v := nI (i + 1)) (lv' := [(4, .int (nI (i + 1))), (3, .int (vX11_wouldPeak_1 S p1 zS z3 zL i)), (2, .ref (b 0)), (0, .ref (a 18)), (1, .int p1)]) hx hb dX11_wouldPeak_53 hl (k := 1) rfl (nI_1 i) (by decide) rfl (fun ls hl => ?_)
          refine lv_goto (tgt := 35) hx hb dX11_wouldPeak_56 (by decide) ?_
          refine W.widen (k := 18 + 4 * (i + 1)) (n := 498 + 48 * (i + 1)) (by show 18 + 4 * i + 4 ≤ _; omega) (by show 498 + 48 * i + 48 ≤ _; omega) ?_
          exact ih (i + 1) (by omega) (by omega) (fX10_sample zS zL) (vX11_wouldPeak_1 S p1 zS z3 zL i) (lX10_sample zS zL) _ _ _ (by rw [lpX11_wouldPeak_35_s]; (try rw [← ezS]); (try rw [← ez3]); (try rw [← ezL]); (try dsimp only); unfold bX11_wouldPeak_35_zS; rfl) (by rw [lpX11_wouldPeak_35_s]; (try rw [← ezS]); (try rw [← ez3]); (try rw [← ezL]); (try dsimp only); unfold bX11_wouldPeak_35_z3; rfl) (by rw [lpX11_wouldPeak_35_s]; (try rw [← ezS]); (try rw [← ez3]); (try rw [← ezL]); (try dsimp only); unfold bX11_wouldPeak_35_zL; rfl) hP hO hS (lv_sub hl [0, 1, 2, 3, 4] rfl)
    exact loop (p1.toNatClampNeg + 1) 0 (Nat.zero_le _) (by omega) (cpD (up2 S 18 0 0)) 0 0 _ _ _ (by rw [lpX11_wouldPeak_35_0]) (by rw [lpX11_wouldPeak_35_0]) (by rw [lpX11_wouldPeak_35_0]) hP hO hS (lv_sub hl [0, 1, 2, 3, 4] rfl)
  ·
    refine lv_aload_n hx hb dX11_wouldPeak_16 rfl (lv_at hl 0 rfl) ?_
    refine lv_iconst (v := 1) hx hb dX11_wouldPeak_17 (by decide) ?_
    refine g_cVi (As := [.int 1]) (rest := []) ⟨hx, hb, hml, hown, hts⟩ (c_X11_no l G cA zq a ha (up2 S 18 0 0) L H.size (1 : Int32)  ) (cwV 1 hts gX11_wouldPeak_X11_no rfl rfl rfl (by decide +kernel) ⟨Nat.le_of_ble_eq_true rfl, Nat.le_of_ble_eq_true rfl⟩) (g_recv hK hP (by decide) cD_Mo (C := RX11) (T := TX11) (N := 2) rfl) hK (mA_mono hS.1) hP hS rfl hl.1 rfl (lv_room (Nat.le_of_ble_eq_true rfl)) dX11_wouldPeak_18 ⟨Nat.le_of_ble_eq_true rfl, Nat.le_of_ble_eq_true rfl⟩ (fun H locs hP hS _ _ => ?_)
    refine W.widen (k := 818) (n := 10098) (by omega) (by omega) ?_
    exact g_iret hx hb hr hlocks (by unfold rX11_wouldPeak; rw [if_pos c1]) (by unfold fX11_wouldPeak; rw [if_pos c1]) rfl hP hS dX11_wouldPeak_21
def blpX11_silentIn_32_zS (S : Mm) (p1 : Int32) (zS : Mm) (zL : Int64) (i : Nat) : Mm := (if rX10_sounding zS = 0 then zS else (if p1 ≤ nI i then zS else fX10_sample zS zL))
def blpX11_silentIn_32_zL (S : Mm) (p1 : Int32) (zS : Mm) (zL : Int64) (i : Nat) : Int64 := (if rX10_sounding zS = 0 then zL else (if p1 ≤ nI i then zL else lX10_sample zS zL))
def lpX11_silentIn_32 (S : Mm) (p1 : Int32) : Nat → Mm × Int64
  | 0 => (cpD (up2 S 18 0 0), 0)
  | i + 1 => (blpX11_silentIn_32_zS S p1 (lpX11_silentIn_32 S p1 i).1 (lpX11_silentIn_32 S p1 i).2 i, blpX11_silentIn_32_zL S p1 (lpX11_silentIn_32 S p1 i).1 (lpX11_silentIn_32 S p1 i).2 i)
theorem lpX11_silentIn_32_0 (S : Mm) (p1 : Int32) : lpX11_silentIn_32 S p1 0 = (cpD (up2 S 18 0 0), 0) := by rw [lpX11_silentIn_32]
theorem lpX11_silentIn_32_s (S : Mm) (p1 : Int32) (i : Nat) : lpX11_silentIn_32 S p1 (i + 1) = (blpX11_silentIn_32_zS S p1 (lpX11_silentIn_32 S p1 i).1 (lpX11_silentIn_32 S p1 i).2 i, blpX11_silentIn_32_zL S p1 (lpX11_silentIn_32 S p1 i).1 (lpX11_silentIn_32 S p1 i).2 i) := by rw [lpX11_silentIn_32]
def eseX11_silentIn_32 (S : Mm) (p1 : Int32) (zS : Mm) (zL : Int64) (i : Nat) (zr : Int32 × Mm) : Int32 × Mm := (if rX10_sounding zS = 0 then (nI i, up2 S 18 0 0) else zr)
def seX11_silentIn_32 (S : Mm) (p1 : Int32) : Nat → Nat → Int32 × Mm
  | 0, i => (((-1) : Int32), up2 S 18 0 0)
  | k + 1, i => eseX11_silentIn_32 S p1 (lpX11_silentIn_32 S p1 i).1 (lpX11_silentIn_32 S p1 i).2 i (seX11_silentIn_32 S p1 k (i + 1))
theorem seX11_silentIn_32_0 (S : Mm) (p1 : Int32) (i : Nat) : seX11_silentIn_32 S p1 0 i = (((-1) : Int32), up2 S 18 0 0) := by rw [seX11_silentIn_32]
theorem seX11_silentIn_32_s (S : Mm) (p1 : Int32) (k i : Nat) : seX11_silentIn_32 S p1 (k + 1) i = eseX11_silentIn_32 S p1 (lpX11_silentIn_32 S p1 i).1 (lpX11_silentIn_32 S p1 i).2 i (seX11_silentIn_32 S p1 k (i + 1)) := by rw [seX11_silentIn_32]
def rX11_silentIn (S : Mm) (p1 : Int32) : Int32 := (if rX11_isIn p1 (1 : Int32) (200 : Int32) = 0 then rX11_no (up2 S 18 0 0) (1 : Int32) else (seX11_silentIn_32 S p1 (p1.toNatClampNeg + 1) 0).1)
def fX11_silentIn (S : Mm) (p1 : Int32) : Mm := (if rX11_isIn p1 (1 : Int32) (200 : Int32) = 0 then fX11_no (up2 S 18 0 0) (1 : Int32) else (seX11_silentIn_32 S p1 (p1.toNatClampNeg + 1) 0).2)
theorem lpX11_silentIn_iD {S : Mm} {p1 : Int32} {K : Int} (hD : iD S K) (hK : K < 1000000000) : ∀ i : Nat, i ≤ 201 → iD (lpX11_silentIn_32 S p1 i).1 (K + i) := by
  intro i
  induction i with
  | zero =>
    intro _
    rw [lpX11_silentIn_32_0]
    have q : iD (cpD (up2 S 18 0 0)) K := cpD_iD (iD_18 hD)
    rw [show K + ((0 : Nat) : Int) = K by omega]
    dsimp only
    exact q
  | succ i ih =>
    intro hi
    rw [lpX11_silentIn_32_s]
    have q := sm_iD (L := (lpX11_silentIn_32 S p1 i).2) (ih (by omega)) (by omega)
    rw [show K + ((i + 1 : Nat) : Int) = K + i + 1 by omega]
    dsimp only
    unfold blpX11_silentIn_32_zS
    (repeat' split)
    · exact iD_K (ih (by omega)) (by omega)
    · exact iD_K (ih (by omega)) (by omega)
    · exact q
theorem iX11_silentIn_X11 : ∀ w ∈ u_ws RX11 TX11 2, w ∈ wsX11_silentIn := by decide +kernel
set_option maxHeartbeats 4000000 in
set_option maxRecDepth 100000 in
theorem c_X11_silentIn (l : Launch) (G : va_G) (cA : ClassId) (zq : Nat) (a : Nat → Nat) (ha : apart 19 a) (S : Mm) (L : Int64) (sz : Nat) (p1 : Int32)  (K : Int) (hD : iD S K) (hKb : K < 1000000000) (hB : S 0 24 = 0 ∨ S 0 24 = 1) : Met l yX11_silentIn wsX11_silentIn ({ frames := 4, cells := 822, slots := 10146, locals := 97 } : Room) (va_Pc [.ref (a 18), .int p1] (gI G cA zq 19 a (cD a cA) S L sz)) (gQi (rX11_silentIn S p1) G 19 a (cD a cA) (fX11_silentIn S p1) L sz) 822 10146 (mA 19 a sz) := by
  refine g_met (cc := cX11_silentIn) (maxL := 4) (ret := (some .int)) (by decide) rfl (Nat.le_of_ble_eq_true rfl) ?_
  intro p e s m below meth c ls hx hb hr hlocks hml hts hown hnm hsz hK hP hS hl
  subst hsz
  have hltA := hlt_of hP
  have hl : lv_has ls 4 [(0, .ref (a 18)), (1, .int p1)] := hl
  refine lv_aload_n hx hb dX11_silentIn_0 rfl (lv_at hl 0 rfl) ?_
  refine lv_iconst (v := 0) hx hb dX11_silentIn_1 (by decide) ?_
  refine g_put (ci := 11) (C := RX11) (T := TX11) (N := 2) (ty := .int) hx hb hts iX11_silentIn_X11 tyX11 tyX11_ok nmX11 hown hK ha mA_in hP hS (by decide) cD_Mo rfl 0 (by decide) rfl (by decide +kernel) rfl (by decide +kernel) rfl rfl (Nat.le_of_ble_eq_true rfl) (cD_Mo_set (by decide)) dX11_silentIn_2 (fun H locs hP hS => ?_)
  refine lv_iload_n hx hb dX11_silentIn_5 rfl (lv_at hl 1 rfl) ?_
  refine lv_iconst (v := 1) hx hb dX11_silentIn_6 (by decide) ?_
  refine lv_sipush (v := 200) hx hb dX11_silentIn_7 (by decide) ?_
  refine g_cSi (As := [.int p1, .int 1, .int 200]) (rest := []) ⟨hx, hb, hml, hown, hts⟩ (c_X11_isIn l G cA zq 19 (by decide) a ha (up2 S 18 0 0) L H.size p1 (1 : Int32) (200 : Int32)  ) (va_cwS 3 hts gX11_silentIn_X11_isIn rfl rfl rfl (by decide +kernel) ⟨Nat.le_of_ble_eq_true rfl, Nat.le_of_ble_eq_true rfl⟩) hK (mA_mono hS.1) hP hS rfl hl.1 rfl (lv_room (Nat.le_of_ble_eq_true rfl)) dX11_silentIn_10 ⟨Nat.le_of_ble_eq_true rfl, Nat.le_of_ble_eq_true rfl⟩ (fun H locs hP hS _ _ => ?_)
  refine lv_if_ne (tgt := 22) hx hb dX11_silentIn_13 (by decide) (fun c1 => ?_) (fun c1 => ?_)
  ·
    refine lv_aload_n hx hb dX11_silentIn_22 rfl (lv_at hl 0 rfl) ?_
    refine g_get (ci := 11) (C := RX11) (T := TX11) (N := 2) (v := .ref (a 0)) hx hb hts iX11_silentIn_X11 hown hK hP (by decide) cD_Mo rfl 1 (by decide) rfl (by decide +kernel) rfl dX11_silentIn_23 ?_
    have hcb : narrow .boolean (.int (eX10_copy (jn (up2 S 18 0 0) SD0))) = .int (eX10_copy (jn (up2 S 18 0 0) SD0)) ∧ fits .boolean (.int (eX10_copy (jn (up2 S 18 0 0) SD0))) = true := by rw [ecp_eq, up2_n (by decide)]; rcases hB with q | q <;> rw [q] <;> exact ⟨rfl, rfl⟩
    refine g_cpD (As := []) (rest := []) ⟨hx, hb, hml, hown, hts⟩ (c_X10_copy l G cA zq a ha (up2 S 18 0 0) L H.size hcb.1 hcb.2) (cwV 0 hts gX11_silentIn_X10_copy rfl rfl rfl (by decide +kernel) ⟨Nat.le_of_ble_eq_true rfl, Nat.le_of_ble_eq_true rfl⟩) (g_recv hK hP (lt_hn (by decide) (by decide)) cD_D (C := RX10) (T := TX10) (N := 35) rfl) hK (mA_mono hS.1) hP hS rfl hl.1 rfl (lv_room (Nat.le_of_ble_eq_true rfl)) dX11_silentIn_26 ⟨Nat.le_of_ble_eq_true rfl, Nat.le_of_ble_eq_true rfl⟩ (fun b H locs hbA hbD hO hP hS => ?_)
    refine lv_astore_n (lv' := [(2, .ref (b 0)), (0, .ref (a 18)), (1, .int p1)]) hx hb dX11_silentIn_29 rfl hl (by decide) rfl (fun ls hl => ?_)
    refine lv_iconst (v := 0) hx hb dX11_silentIn_30 (by decide) ?_
    refine lv_istore_n (lv' := [(3, .int 0), (2, .ref (b 0)), (0, .ref (a 18)), (1, .int p1)]) hx hb dX11_silentIn_31 rfl hl (by decide) rfl (fun ls hl => ?_)
    have h200 := isIn_le c1
    have loop : ∀ (k i : Nat), i + k = p1.toNatClampNeg + 1 → seX11_silentIn_32 S p1 k i = ((rX11_silentIn S p1), (fX11_silentIn S p1)) → ∀ (zS : Mm) (zL : Int64) (H : Heap) (locs : List Loc) (ls : Array Slot), zS = (lpX11_silentIn_32 S p1 i).1 → zL = (lpX11_silentIn_32 S p1 i).2 → va_P G vwCl (wG 18 b (cD b cA) zS zL) H → va_P G vwCl (wG 19 a (cD a cA) (up2 S 18 0 0) L) H → va_S (mA 19 a s.heap.size) s.heap H locs → lv_has ls 4 [(3, .int (nI i)), (2, .ref (b 0)), (0, .ref (a 18)), (1, .int p1)] → W p l e ({ frames := 4, cells := 822, slots := 10146, locals := 97 } : Room) s m ([.ref (a 18), .int p1] : List Value).toArray below meth c H locs (18 + 4 * i) (498 + 48 * i) (MQ below (gQi (rX11_silentIn S p1) G 19 a (cD a cA) (fX11_silentIn S p1) L s.heap.size) ([.ref (a 18), .int p1] : List Value).toArray s 822 10146 (mA 19 a s.heap.size)) (F0 m 32 ls []) := by
      intro k
      induction k with
      | zero =>
        intro i hi hse zS zL H locs ls ezS ezL hP hO hS hl
        refine lv_iload_n hx hb dX11_silentIn_32 rfl (lv_at hl 0 rfl) ?_
        refine lv_iload_n hx hb dX11_silentIn_33 rfl (lv_at hl 3 rfl) ?_
        refine lv_icmp_gt (tgt := 62) hx hb dX11_silentIn_34 (by decide) (fun cx => ?_) (fun cx => absurd cx (by have q : p1 < nI i := (sx_exit hi c1); exact fun z => z q))
        refine W.widen (k := 822) (n := 10146) (by omega) (by omega) ?_
        refine lv_iconst (v := (-1)) hx hb dX11_silentIn_62 (by decide) ?_
        have hP := hO
        have q9 := hse
        rw [seX11_silentIn_32_0] at q9
        have q8 := Prod.mk.inj q9
        exact g_iret hx hb hr hlocks q8.1.symm q8.2.symm rfl hP hS dX11_silentIn_63
      | succ k ih =>
        intro i hi hse zS zL H locs ls ezS ezL hP hO hS hl
        refine lv_iload_n hx hb dX11_silentIn_32 rfl (lv_at hl 0 rfl) ?_
        refine lv_iload_n hx hb dX11_silentIn_33 rfl (lv_at hl 3 rfl) ?_
        refine lv_icmp_gt (tgt := 62) hx hb dX11_silentIn_34 (by decide) (fun cx => absurd cx ((sx_body hi c1))) (fun cx => ?_)
        refine lv_aload_n hx hb dX11_silentIn_37 rfl (lv_at hl 1 rfl) ?_
        refine g_cVi (As := []) (rest := []) ⟨hx, hb, hml, hown, hts⟩ (c_X10_sounding l G cA zq 18 (Nat.le_refl 18) b hbA zS zL H.size   ) (cwV 0 hts gX11_silentIn_X10_sounding rfl rfl rfl (by decide +kernel) ⟨Nat.le_of_ble_eq_true rfl, Nat.le_of_ble_eq_true rfl⟩) (g_recv hK hP (lt_hn (Nat.le_refl 18) (by decide)) cD_D (C := RX10) (T := TX10) (N := 35) rfl) hK (mT hbD hS.1) hP hS rfl hl.1 rfl (lv_room (Nat.le_of_ble_eq_true rfl)) dX11_silentIn_38 ⟨by show 18 + 4 * i + 0 + 0 ≤ 822; omega, by show 498 + 48 * i + 0 + 0 ≤ 10146; omega⟩ (fun H locs hP hS hz1 hk1 => ?_)
        have hO := kO hO hltA hbD hk1
        refine lv_if_ne (tgt := 46) hx hb dX11_silentIn_41 (by decide) (fun c2 => ?_) (fun c2 => ?_)
        ·
          refine lv_iload_n hx hb dX11_silentIn_46 rfl (lv_at hl 0 rfl) ?_
          refine lv_iload_n hx hb dX11_silentIn_47 rfl (lv_at hl 3 rfl) ?_
          refine lv_icmp_ge (tgt := 56) hx hb dX11_silentIn_48 (by decide) (fun c3 => ?_) (fun c3 => ?_)
          ·
            refine lv_iinc (v := nI (i + 1)) (lv' := [(3, .int (nI (i + 1))), (2, .ref (b 0)), (0, .ref (a 18)), (1, .int p1)]) hx hb dX11_silentIn_56 hl (k := 0) rfl (nI_1 i) (by decide) rfl (fun ls hl => ?_)
            refine lv_goto (tgt := 32) hx hb dX11_silentIn_59 (by decide) ?_
            have q9 := hse
            rw [seX11_silentIn_32_s, ← ezS, ← ezL] at q9
            unfold eseX11_silentIn_32 at q9
            rw [if_neg c2] at q9
            refine W.widen (k := 18 + 4 * (i + 1)) (n := 498 + 48 * (i + 1)) (by show 18 + 4 * i + 0 ≤ _; omega) (by show 498 + 48 * i + 0 ≤ _; omega) ?_
            exact ih (i + 1) (by omega) q9 zS zL _ _ _ (by rw [lpX11_silentIn_32_s]; dsimp only; (try rw [← ezS, ← ezL]); unfold blpX11_silentIn_32_zS; rw [if_neg c2, if_pos c3]) (by rw [lpX11_silentIn_32_s]; dsimp only; (try rw [← ezS, ← ezL]); unfold blpX11_silentIn_32_zL; rw [if_neg c2, if_pos c3]) hP hO hS (lv_sub hl [0, 1, 2, 3] rfl)
          ·
            refine lv_aload_n hx hb dX11_silentIn_51 rfl (lv_at hl 1 rfl) ?_
            refine g_cVi (As := []) (rest := []) ⟨hx, hb, hml, hown, hts⟩ (c1_X10_sample l G cA zq 18 (Nat.le_refl 18) b hbA zS zL H.size   (K + i) (ezS ▸ lpX11_silentIn_iD hD hKb i (by omega))) (cwV 0 hts gX11_silentIn_X10_sample rfl rfl rfl (by decide +kernel) ⟨Nat.le_of_ble_eq_true rfl, Nat.le_of_ble_eq_true rfl⟩) (g_recv hK hP (lt_hn (Nat.le_refl 18) (by decide)) cD_D (C := RX10) (T := TX10) (N := 35) rfl) hK (mT hbD hS.1) hP hS rfl hl.1 rfl (lv_room (Nat.le_of_ble_eq_true rfl)) dX11_silentIn_52 ⟨by show 18 + 4 * i + 0 + 4 ≤ 822; omega, by show 498 + 48 * i + 0 + 48 ≤ 10146; omega⟩ (fun H locs hP hS hz1 hk1 => ?_)
            have hO := kO hO hltA hbD hk1
            refine lv_pop hx hb dX11_silentIn_55 rfl ?_
            refine lv_iinc (v := nI (i + 1)) (lv' := [(3, .int (nI (i + 1))), (2, .ref (b 0)), (0, .ref (a 18)), (1, .int p1)]) hx hb dX11_silentIn_56 hl (k := 0) rfl (nI_1 i) (by decide) rfl (fun ls hl => ?_)
            refine lv_goto (tgt := 32) hx hb dX11_silentIn_59 (by decide) ?_
            have q9 := hse
            rw [seX11_silentIn_32_s, ← ezS, ← ezL] at q9
            unfold eseX11_silentIn_32 at q9
            rw [if_neg c2] at q9
            refine W.widen (k := 18 + 4 * (i + 1)) (n := 498 + 48 * (i + 1)) (by show 18 + 4 * i + 4 ≤ _; omega) (by show 498 + 48 * i + 48 ≤ _; omega) ?_
            exact ih (i + 1) (by omega) q9 (fX10_sample zS zL) (lX10_sample zS zL) _ _ _ (by rw [lpX11_silentIn_32_s]; dsimp only; (try rw [← ezS, ← ezL]); unfold blpX11_silentIn_32_zS; rw [if_neg c2, if_neg c3]) (by rw [lpX11_silentIn_32_s]; dsimp only; (try rw [← ezS, ← ezL]); unfold blpX11_silentIn_32_zL; rw [if_neg c2, if_neg c3]) hP hO hS (lv_sub hl [0, 1, 2, 3] rfl)
        ·
          refine lv_iload_n hx hb dX11_silentIn_44 rfl (lv_at hl 0 rfl) ?_
          have hP := hO
          refine W.widen (k := 822) (n := 10146) (by omega) (by omega) ?_
          have q9 := hse
          rw [seX11_silentIn_32_s, ← ezS, ← ezL] at q9
          unfold eseX11_silentIn_32 at q9
          rw [if_pos c2] at q9
          have q8 := Prod.mk.inj q9
          exact g_iret hx hb hr hlocks q8.1.symm q8.2.symm rfl hP hS dX11_silentIn_45
    have h7 : (rX11_silentIn S p1) = (seX11_silentIn_32 S p1 (p1.toNatClampNeg + 1) 0).1 := by unfold rX11_silentIn; rw [if_neg c1]
    have h6 : (fX11_silentIn S p1) = (seX11_silentIn_32 S p1 (p1.toNatClampNeg + 1) 0).2 := by unfold fX11_silentIn; rw [if_neg c1]
    have h9 : (seX11_silentIn_32 S p1 (p1.toNatClampNeg + 1) 0) = ((rX11_silentIn S p1), (fX11_silentIn S p1)) := by rw [h7, h6]
    exact loop (p1.toNatClampNeg + 1) 0 (Nat.zero_add _) h9 (cpD (up2 S 18 0 0)) 0 _ _ _ (by rw [lpX11_silentIn_32_0]) (by rw [lpX11_silentIn_32_0]) hP hO hS (lv_sub hl [0, 1, 2, 3] rfl)
  ·
    refine lv_aload_n hx hb dX11_silentIn_16 rfl (lv_at hl 0 rfl) ?_
    refine lv_iconst (v := 1) hx hb dX11_silentIn_17 (by decide) ?_
    refine g_cVi (As := [.int 1]) (rest := []) ⟨hx, hb, hml, hown, hts⟩ (c_X11_no l G cA zq a ha (up2 S 18 0 0) L H.size (1 : Int32)  ) (cwV 1 hts gX11_silentIn_X11_no rfl rfl rfl (by decide +kernel) ⟨Nat.le_of_ble_eq_true rfl, Nat.le_of_ble_eq_true rfl⟩) (g_recv hK hP (by decide) cD_Mo (C := RX11) (T := TX11) (N := 2) rfl) hK (mA_mono hS.1) hP hS rfl hl.1 rfl (lv_room (Nat.le_of_ble_eq_true rfl)) dX11_silentIn_18 ⟨Nat.le_of_ble_eq_true rfl, Nat.le_of_ble_eq_true rfl⟩ (fun H locs hP hS _ _ => ?_)
    refine W.widen (k := 822) (n := 10146) (by omega) (by omega) ?_
    exact g_iret hx hb hr hlocks (by unfold rX11_silentIn; rw [if_pos c1]) (by unfold fX11_silentIn; rw [if_pos c1]) rfl hP hS dX11_silentIn_21
