def mX11_put__1 (S : Mm) (N : Nat) (p1 : Int32) (p2 : Int32) (p3 : Int32) : Mm := upR S 2 (va_cpy (S 19) (S 2) (0 : Int32).toNatClampNeg ((p1 * 12) + p2).toNatClampNeg (Int32.ofNat N).toNatClampNeg)
def rX11_put_ (S : Mm) (N : Nat) (p1 : Int32) (p2 : Int32) (p3 : Int32) : Int32 := S 2 ((p1 * 12) + p3).toNatClampNeg
def fX11_put_ (S : Mm) (N : Nat) (p1 : Int32) (p2 : Int32) (p3 : Int32) : Mm := (mX11_put__1 S N p1 p2 p3)
theorem iX11_put__X10 : ∀ w ∈ u_ws RX10 TX10 35, w ∈ wsX11_put_ := by decide +kernel
theorem iX11_put__X11 : ∀ w ∈ u_ws RX11 TX11 2, w ∈ wsX11_put_ := by decide +kernel
set_option maxHeartbeats 4000000 in
set_option maxRecDepth 100000 in
theorem c_X11_put_ (l : Launch) (G : va_G) (cA : ClassId) (zq : Nat) (a : Nat → Nat) (ha : apart 20 a) (S : Mm) (L : Int64) (sz : Nat) (N : Nat) (p1 : Int32) (p2 : Int32) (p3 : Int32)  (hN : N < 2 ^ 31) (hh1 : vp_in ((p1 * 12) + p3) 48) (hh2 : ¬ (p1 * 12) + p2 < 0) (hh3 : ¬ Int32.ofNat N < 0) (hh4 : (0 : Int32).toNatClampNeg + (Int32.ofNat N).toNatClampNeg ≤ N) (hh5 : ((p1 * 12) + p2).toNatClampNeg + (Int32.ofNat N).toNatClampNeg ≤ 48) : Met l yX11_put_ wsX11_put_ ({ frames := 1, cells := 0, slots := 0, locals := 26 } : Room) (va_Pc [.ref (a 18), .int p1, .int p2, .int p3, .ref (a 19)] (gI G cA zq 20 a (cX a cA N) S L sz)) (gQi (rX11_put_ S N p1 p2 p3) G 20 a (cX a cA N) (fX11_put_ S N p1 p2 p3) L sz) 0 0 (mA 20 a sz) := by
  refine g_met (cc := cX11_put_) (maxL := 6) (ret := (some .int)) (by decide) rfl (Nat.le_of_ble_eq_true rfl) ?_
  intro p e s m below meth c ls hx hb hr hlocks hml hts hown hnm hsz hK hP hS hl
  subst hsz
  have hl : lv_has ls 6 [(0, .ref (a 18)), (1, .int p1), (2, .int p2), (3, .int p3), (4, .ref (a 19))] := hl
  refine lv_aload_n hx hb dX11_put__0 rfl (lv_at hl 0 rfl) ?_
  refine g_get (ci := 11) (C := RX11) (T := TX11) (N := 2) (v := .ref (a 0)) hx hb hts iX11_put__X11 hown hK hP (by decide) cX_Mo rfl 1 (by decide) rfl (by decide +kernel) rfl dX11_put__1 ?_
  refine g_get (ci := 10) (C := RX10) (T := TX10) (N := 35) (v := .ref (a 2)) hx hb hts iX11_put__X10 hown hK hP (by decide) cX_D rfl 1 (by decide) rfl (by decide +kernel) rfl dX11_put__4 ?_
  refine lv_iload_n hx hb dX11_put__7 rfl (lv_at hl 1 rfl) ?_
  refine lv_bipush (v := 12) hx hb dX11_put__8 (by decide) ?_
  refine lv_imul hx hb dX11_put__10 ?_
  refine lv_iload_n hx hb dX11_put__11 rfl (lv_at hl 3 rfl) ?_
  refine lv_iadd hx hb dX11_put__12 ?_
  refine g_iald (N := 48) (g := S 2) hx hb hK hP (by decide) cX_2 hh1 dX11_put__13 ?_
  refine lv_istore (lv' := [(5, .int (S 2 ((p1 * 12) + p3).toNatClampNeg)), (0, .ref (a 18)), (1, .int p1), (2, .int p2), (3, .int p3), (4, .ref (a 19))]) hx hb dX11_put__14 hl (by decide) rfl (fun ls hl => ?_)
  refine lv_aload hx hb dX11_put__16 (lv_at hl 5 rfl) ?_
  refine lv_iconst (v := 0) hx hb dX11_put__18 (by decide) ?_
  refine lv_aload_n hx hb dX11_put__19 rfl (lv_at hl 1 rfl) ?_
  refine g_get (ci := 11) (C := RX11) (T := TX11) (N := 2) (v := .ref (a 0)) hx hb hts iX11_put__X11 hown hK hP (by decide) cX_Mo rfl 1 (by decide) rfl (by decide +kernel) rfl dX11_put__20 ?_
  refine g_get (ci := 10) (C := RX10) (T := TX10) (N := 35) (v := .ref (a 2)) hx hb hts iX11_put__X10 hown hK hP (by decide) cX_D rfl 1 (by decide) rfl (by decide +kernel) rfl dX11_put__23 ?_
  refine lv_iload_n hx hb dX11_put__26 rfl (lv_at hl 2 rfl) ?_
  refine lv_bipush (v := 12) hx hb dX11_put__27 (by decide) ?_
  refine lv_imul hx hb dX11_put__29 ?_
  refine lv_iload_n hx hb dX11_put__30 rfl (lv_at hl 3 rfl) ?_
  refine lv_iadd hx hb dX11_put__31 ?_
  refine lv_aload hx hb dX11_put__32 (lv_at hl 5 rfl) ?_
  refine g_alen (N := N) hx hb hK hP (by decide) cX_19 dX11_put__34 ?_
  refine g_copyi (n0 := N) (n1 := 48) hx hb (hml.trans hl.1.symm) hown (hts (.methodLink RX11 10 arraycopyName) (by decide +kernel)) (hts (.native arraycopyName) (by decide +kernel)) (hts (.static arraycopyName) (by decide +kernel)) (hts (.initialized "java/lang/System") (by decide +kernel)) hK ha mA_in hP hS (by decide) cX_19 (by decide) (fun _ => cX_2) (by decide) hh2 hh3 hh4 hh5 (Nat.le_of_ble_eq_true rfl) (Nat.le_of_ble_eq_true rfl) dX11_put__35 (fun H locs hP hS => ?_)
  have hP : va_P G vwCl (wG 20 a (cX a cA N) (mX11_put__1 S N p1 p2 p3) L) H := hP
  refine lv_iload hx hb dX11_put__38 (lv_at hl 0 rfl) ?_
  exact g_iret hx hb hr hlocks (by unfold rX11_put_; rfl) (by unfold fX11_put_; rfl) rfl hP hS dX11_put__40
