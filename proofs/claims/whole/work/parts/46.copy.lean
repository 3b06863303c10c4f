section GW5
variable {p : Program} {l : Launch} {e : Env} {R : Room} {s : State} {m : MethodId} {args : Array Value} {below : List Frame} {meth : Method} {c : Code} {H : Heap} {locs : List Loc} {cells slots : Nat} {Q : State → Prop}
variable {cc : ByteArray} {pc : Nat} {ls : Array Slot} {rest : List Value} {G : va_G} {A0 : Nat → Prop} {cA : ClassId} {zq n : Nat} {a : Nat → Nat} {f : Cf} {S S1 : Mm} {L L1 : Int64} {H0 : Heap}
variable {y : MethodName} {bytes : ByteArray} {maxL nL mc ms nn index : Nat} {ret : Option FieldType} {ws : List Cond} {rm : Room} {Ts : List Cond} {own C host : String} {b : Addr} {As st0 : List Value}
theorem g_cNv (S0 : CallFix p m c cc nL s args Ts own) (hM : Met l y ws rm (va_Pc As (gI G cA zq n a f S L H.size)) (gQv G n a f S1 L1 H.size) mc ms (mA n a H.size)) (cw : va_CN R s args own index y host bytes maxL ret ws rm mc ms nn) (hstt : (Cond.static y).before args s = true) (hK : KP G cA zq A0 s) (hA : ∀ q, mA n a H.size q → A0 q) (hP : va_P G vwCl (wG n a f S L) H) (hS : va_S A0 s.heap H locs) (hlen : As.length = nn) (hls : ls.size = nL) (hst : st0 = As.reverse ++ rest) (hW : 2 * (F0 m pc ls st0).monitorRoom + (rest.map fun v => v.category).sum ≤ 8) (hdg : decode cc pc = .ok (.invokestatic index, 3)) (hroom : cells + mc ≤ R.cells ∧ slots + ms ≤ R.slots)
    (kk : gK p l e R s m args below meth c H (cells + mc) (slots + ms) Q G A0 n a f S1 L1 (F0 m (pc + 3) ls rest)) : W p l e R s m args below meth c H locs cells slots Q (F0 m pc ls st0) := by
  refine va_callv (va_runSN S0 hM ⟨cw, hstt, trivial⟩ ⟨gI_blind, fun U hU hW => ⟨rfl, by rw [hU], by rw [hU]; exact hP, KP_go hK hA hS hU hW⟩⟩ rfl hlen hls hst hW hdg hroom) hS (fun q _ h => hA q h) hA (fun u t H1 locs1 ht hvm hw hB hz1 hk1 hS1 => ?_)
  rw [ht] at hB
  exact kk H1 locs1 hB hS1 hz1 hk1
end GW5
set_option maxHeartbeats 4000000 in
set_option maxRecDepth 100000 in
theorem c_X11_put (l : Launch) (G : va_G) (cA : ClassId) (zq n : Nat) (f : Cf) (a : Nat → Nat) (ha : apart n a) (S : Mm) (L : Int64) (sz u v N : Nat) (hN : N < 2 ^ 31) (hu : u < n) (hv : v < n) (hfu : ∀ r L, f u r L = .inl (cA, N, .inl r)) (hfv : ∀ r L, f v r L = .inl (cA, N, .inl r)) : Met l yX11_put wsX11_put ({ frames := 1, cells := 0, slots := 0, locals := 26 } : Room) (va_Pc [.ref (a u), .ref (a v)] (gI G cA zq n a f S L sz)) (gQv G n a f (upR S v (va_cpy (S u) (S v) 0 0 N)) L sz) 0 0 (mA n a sz) := by
  refine g_met (cc := cX11_put) (maxL := 2) (ret := none) (by decide) rfl (Nat.le_of_ble_eq_true rfl) ?_
  intro p e s m below meth c ls hx hb hr hlocks hml hts hown hnm hsz hK hP hS hl
  subst hsz
  have hl : lv_has ls 2 [(0, .ref (a u)), (1, .ref (a v))] := hl
  refine lv_aload_n hx hb dX11_put_0 rfl (lv_at hl 0 rfl) ?_
  refine lv_iconst (v := 0) hx hb dX11_put_1 (by decide) ?_
  refine lv_aload_n hx hb dX11_put_2 rfl (lv_at hl 1 rfl) ?_
  refine lv_iconst (v := 0) hx hb dX11_put_3 (by decide) ?_
  refine lv_aload_n hx hb dX11_put_4 rfl (lv_at hl 0 rfl) ?_
  refine g_alen (N := N) hx hb hK hP hu (hfu _ _) dX11_put_5 ?_
  have h0 : (0 : Int32).toNatClampNeg = 0 := by decide
  have hn : (Int32.ofNat N).toNatClampNeg = N := nI_clamp hN
  refine g_copyi (n0 := N) (n1 := N) hx hb (hml.trans hl.1.symm) hown (hts (.methodLink RX11 10 arraycopyName) (by decide +kernel)) (hts (.native arraycopyName) (by decide +kernel)) (hts (.static arraycopyName) (by decide +kernel)) (hts (.initialized "java/lang/System") (by decide +kernel)) hK ha mA_in hP hS hu (hfu _ _) hv (fun g => hfv g _) (by decide) (by decide) (nI_pos (n := N) hN) (by rw [h0, hn]; omega) (by rw [h0, hn]; omega) (Nat.le_of_ble_eq_true rfl) (Nat.le_of_ble_eq_true rfl) dX11_put_6 (fun H locs hP hS => ?_)
  rw [h0, hn] at hP
  exact g_vret hx hb hr hlocks rfl rfl hP hS dX11_put_9
/-! two desks side by side: 0 to 18 one with its Model, 19 to 36 a copy (its long is 0) -/
def jn (S T : Mm) : Mm := fun o => if o < 19 then S o else T (o - 19)
def aJ (a b : Nat → Nat) : Nat → Nat := fun k => if k < 19 then a k else b (k - 19)
def cJ (a : Nat → Nat) (cA : ClassId) : Cf := fun o r L => if o < 19 then cD a cA o r L else cD (fun k => a (k + 19)) cA (o - 19) r 0
theorem aJ_l {a b : Nat → Nat} {k : Nat} (h : k < 19) : aJ a b k = a k := if_pos h
theorem aJ_r {a b : Nat → Nat} {k : Nat} : aJ a b (k + 19) = b k := by
  unfold aJ
  rw [if_neg (by omega), Nat.add_sub_cancel]
theorem aJ_rf {a b : Nat → Nat} : (fun k => aJ a b (k + 19)) = b := funext fun _ => aJ_r
theorem jn_l {S T : Mm} {o : Nat} (h : o < 19) : jn S T o = S o := if_pos h
theorem jn_r {S T : Mm} {o : Nat} : jn S T (o + 19) = T o := by
  unfold jn
  rw [if_neg (by omega), Nat.add_sub_cancel]
theorem wJ_eq {a b : Nat → Nat} {cA : ClassId} {S T : Mm} {L : Int64} : wG 19 a (cD a cA) S L ++ wG 18 b (cD b cA) T 0 = wG 37 (aJ a b) (cJ (aJ a b) cA) (jn S T) L := by
  apply List.ext_getElem?
  intro k
  rcases Nat.lt_or_ge k 19 with hk | hk
  · rw [List.getElem?_append_left (by rw [wG_len]; exact hk), wG_get hk, wG_get (by omega), aJ_l hk, jn_l hk]
    unfold cJ
    rw [if_pos hk, cD_ext (fun k h => aJ_l h) k hk]
  · obtain ⟨j, rfl⟩ : ∃ j, k = j + 19 := ⟨k - 19, by omega⟩
    rw [List.getElem?_append_right (by rw [wG_len]; exact hk), wG_len, Nat.add_sub_cancel]
    rcases Nat.lt_or_ge j 18 with h2 | h2
    · rw [wG_get h2, wG_get (by omega), aJ_r, jn_r]
      unfold cJ
      rw [if_neg (by omega), aJ_rf, Nat.add_sub_cancel]
    · rw [List.getElem?_eq_none (by rw [wG_len]; exact h2), List.getElem?_eq_none (by rw [wG_len]; omega)]
theorem wJ_l {G : va_G} {a b : Nat → Nat} {cA : ClassId} {U : Mm} {L : Int64} {H : Heap} (h : va_P G vwCl (wG 37 (aJ a b) (cJ (aJ a b) cA) U L) H) : va_P G vwCl (wG 19 a (cD a cA) U L) H := by
  intro k x hx
  have hk := wG_lt hx
  refine h k x ?_
  rw [wG_get hk] at hx
  cases hx
  rw [wG_get (by omega), aJ_l hk]
  unfold cJ
  rw [if_pos hk, cD_ext (fun k h => aJ_l h) k hk]
theorem wJ_r {G : va_G} {a b : Nat → Nat} {cA : ClassId} {U : Mm} {L : Int64} {H : Heap} (h : va_P G vwCl (wG 37 (aJ a b) (cJ (aJ a b) cA) U L) H) : va_P G vwCl (wG 18 b (cD b cA) (fun o => U (o + 19)) 0) H := by
  intro k x hx
  have hk := wG_lt hx
  refine h (k + 19) x ?_
  rw [wG_get hk] at hx
  cases hx
  rw [wG_get (by omega), aJ_r]
  unfold cJ
  rw [if_neg (by omega), aJ_rf, Nat.add_sub_cancel]
theorem wG_to {G : va_G} {n : Nat} {a : Nat → Nat} {f : Cf} {S S' : Mm} {L : Int64} {H : Heap} (h : va_P G vwCl (wG n a f S L) H) (e : ∀ o, o < n → S' o = S o) : va_P G vwCl (wG n a f S' L) H := by
  intro k x hx
  have hk := wG_lt hx
  refine h k x ?_
  rw [wG_get hk] at hx ⊢
  rw [← e k hk]
  exact hx
theorem cJ_D {a : Nat → Nat} {cA : ClassId} {r : Nat → Int32} {L : Int64} : cJ a cA 0 r L = .inr (10, kcl a r L) := rfl
theorem cJ_E {a : Nat → Nat} {cA : ClassId} {r : Nat → Int32} {L : Int64} : cJ a cA 19 r L = .inr (10, kcl (fun k => a (k + 19)) r 0) := rfl
theorem cJ_E_set {a : Nat → Nat} {cA : ClassId} {r : Nat → Int32} {L : Int64} {k : Nat} {x : Int32} (hk : (13 ≤ k ∧ k < 19) ∨ (22 ≤ k ∧ k < 29) ∨ (30 ≤ k ∧ k < 34)) : cJ a cA 19 (upd r k x) L = .inr (10, (kcl (fun k => a (k + 19)) r 0).set k (.int x)) :=
  cD_D_set (cA := cA) (a := fun k => a (k + 19)) (L := 0) hk
