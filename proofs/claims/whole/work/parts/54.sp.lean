/-! the law's body: both worlds side by side -/
abbrev lwK (a bb : Nat → Nat) (o : Nat) (A0 : Nat → Prop) (s : State) : Prop := apart 37 a ∧ apart 19 bb ∧ (∀ k, k < 37 → a k ≠ o) ∧ (∀ k j, k < 37 → j < 19 → a k ≠ bb j) ∧ (∀ j, j < 19 → bb j ≠ o) ∧ (∀ k, k < 37 → A0 (a k)) ∧ A0 o ∧ (∀ j, j < 19 → A0 (bb j)) ∧ ∀ q, s.heap.size ≤ q → A0 q
abbrev lwP (G : va_G) (cA cJ : ClassId) (a bb : Nat → Nat) (S : Mm) (L : Int64) (o : Nat) (fo : Nat → Int64) (T : Mm) (L' : Int64) (H : Heap) : Prop := va_P G vwCl (wO a cA cJ S L o fo) H ∧ va_P G vwCl (wG 19 bb (cD bb cA) T L') H
theorem k_lt {G : va_G} {n : Nat} {a : Nat → Nat} {f : Cf} {S : Mm} {L : Int64} {H : Heap} (hP : va_P G vwCl (wG n a f S L) H) : ∀ j, j < n → a j < H.size := fun j hj => (hP j _ (wG_get hj)).lt
theorem k_T {G : va_G} {cA cJ : ClassId} {a bb : Nat → Nat} {o : Nat} {A0 : Nat → Prop} {s : State} {T : Mm} {L' : Int64} {H H1 : Heap} (F : lwK a bb o A0 s) (hP : va_P G vwCl (wG 19 bb (cD bb cA) T L') H) (hk : ∀ q : Nat, q < H.size → ¬ mO a o H.size q → H1[q]? = H[q]?) : va_P G vwCl (wG 19 bb (cD bb cA) T L') H1 := by
  refine hP.kept (fun k q hq => ?_)
  have h := wG_lt hq
  rw [wG_get h] at hq
  cases hq
  refine hk (bb k) (k_lt hP k h) (fun hm => ?_)
  rcases hm with (⟨j, hj, e⟩ | hm) | hm
  · exact F.2.2.2.1 j k hj h e
  · exact absurd (k_lt hP k h) (Nat.not_lt.mpr hm)
  · exact F.2.2.2.2.1 k h hm
theorem k_S {G : va_G} {cA cJ : ClassId} {a bb : Nat → Nat} {o : Nat} {A0 : Nat → Prop} {s : State} {S : Mm} {L : Int64} {fo : Nat → Int64} {H H1 : Heap} (F : lwK a bb o A0 s) (hP : va_P G vwCl (wO a cA cJ S L o fo) H) (hk : ∀ q : Nat, q < H.size → ¬ mA 19 bb H.size q → H1[q]? = H[q]?) : va_P G vwCl (wO a cA cJ S L o fo) H1 := by
  have h1 : va_P G vwCl (wG 37 a (cM a cA) S L) H := wx_of hP
  have ho := hP 37 _ wx_last
  have hlt : o < H.size := ho.lt
  refine wx_mk (h1.kept (fun k q hq => ?_)) (ho.kept (hk o hlt (fun hm => ?_)))
  · have h := wG_lt hq
    rw [wG_get h] at hq
    cases hq
    refine hk (a k) (k_lt h1 k h) (fun hm => ?_)
    rcases hm with ⟨j, hj, e⟩ | hm
    · exact F.2.2.2.1 k j h hj e.symm
    · exact absurd (k_lt h1 k h) (Nat.not_lt.mpr hm)
  · rcases hm with ⟨j, hj, e⟩ | hm
    · exact F.2.2.2.2.1 j hj e
    · exact absurd hlt (Nat.not_lt.mpr hm)
theorem k_C {G : va_G} {cA cJ : ClassId} {a bb : Nat → Nat} {o : Nat} {A0 : Nat → Prop} {s : State} {S S1 T : Mm} {L L1 L' : Int64} {fo : Nat → Int64} {H H1 : Heap} (F : lwK a bb o A0 s) (hP : lwP G cA cJ a bb S L o fo T L' H) (hk : ∀ q : Nat, q < H.size → ¬ mA 37 a H.size q → H1[q]? = H[q]?) (hP1 : va_P G vwCl (wG 37 a (cM a cA) S1 L1) H1) : lwP G cA cJ a bb S1 L1 o fo T L' H1 :=
  ⟨o_keep F.2.2.1 hP.1 hk hP1, k_T (cJ := cJ) F hP.2 (fun q h1 h2 => hk q h1 (fun h3 => h2 (Or.inl h3)))⟩
theorem kA_O {a bb : Nat → Nat} {o : Nat} {A0 : Nat → Prop} {s : State} {H : Heap} {locs : List Loc} (F : lwK a bb o A0 s) (hS : va_S A0 s.heap H locs) : ∀ q, mO a o H.size q → A0 q := by
  intro q hq
  rcases hq with (⟨k, hk, e⟩ | h) | h
  · rw [← e]; exact F.2.2.2.2.2.1 k hk
  · exact F.2.2.2.2.2.2.2.2 q (Nat.le_trans hS.1 h)
  · rw [h]; exact F.2.2.2.2.2.2.1
theorem kA_M {a bb : Nat → Nat} {o : Nat} {A0 : Nat → Prop} {s : State} {H : Heap} {locs : List Loc} (F : lwK a bb o A0 s) (hS : va_S A0 s.heap H locs) : ∀ q, mA 37 a H.size q → A0 q := fun q hq => kA_O F hS q (Or.inl hq)
theorem kA_D {a bb : Nat → Nat} {o : Nat} {A0 : Nat → Prop} {s : State} {H : Heap} {locs : List Loc} (F : lwK a bb o A0 s) (hS : va_S A0 s.heap H locs) : ∀ q, mA 19 bb H.size q → A0 q := by
  intro q hq
  rcases hq with ⟨k, hk, e⟩ | h
  · rw [← e]; exact F.2.2.2.2.2.2.2.1 k hk
  · exact F.2.2.2.2.2.2.2.2 q (Nat.le_trans hS.1 h)
section LWK
variable {p : Program} {l : Launch} {e : Env} {R : Room} {s : State} {m : MethodId} {args : Array Value} {below : List Frame} {meth : Method} {c : Code} {H : Heap} {locs : List Loc} {cells slots : Nat} {Q : State → Prop}
variable {cc : ByteArray} {pc : Nat} {ls : Array Slot} {rest : List Value} {G : va_G} {A0 : Nat → Prop} {cA cJ : ClassId} {a bb : Nat → Nat} {S S1 T T1 : Mm} {L L1 L' L1' : Int64} {o : Nat} {fo : Nat → Int64}
variable {y : MethodName} {bytes : ByteArray} {maxL nL mc ms nn index : Nat} {ret : Option FieldType} {hh : List (Nat × Nat × Nat × Nat)} {ws : List Cond} {rm : Room} {Ts : List Cond} {own : String} {As st0 : List Value}
/-- the law's helper -/
theorem x_help {post : Int32 → (Nat → Int64) → Prop} (S0 : CallFix p m c cc nL s args Ts own) (F : lwK a bb o A0 s) (hM : Met l y ws rm (va_Pc As (gL G cA cJ a S L o fo H.size)) (va_Qi post (fun f9 t => va_P G vwCl (wO a cA cJ S1 L1 o f9) t.heap) (mO a o H.size)) mc ms (mO a o H.size)) (cw : vx_CSW R s args own index y bytes maxL ret hh ws rm mc ms nn) (hK : LPP G cA cJ (a 37) A0 s) (hP : lwP G cA cJ a bb S L o fo T L' H) (hS : va_S A0 s.heap H locs) (hlen : As.length = nn) (hls : ls.size = nL) (hst : st0 = As.reverse ++ rest) (hW : 2 * (F0 m pc ls st0).monitorRoom + (rest.map fun v => v.category).sum ≤ 8) (hdg : decode cc pc = .ok (.invokestatic index, 3)) (hroom : cells + mc ≤ R.cells ∧ slots + ms ≤ R.slots)
    (kk : ∀ (r : Int32) (f9 : Nat → Int64) (H1 : Heap) (locs1 : List Loc), post r f9 → lwP G cA cJ a bb S1 L1 o f9 T L' H1 → va_S A0 s.heap H1 locs1 → W p l e R s m args below meth c H1 locs1 (cells + mc) (slots + ms) Q (F0 m (pc + 3) ls (.int r :: rest))) : W p l e R s m args below meth c H locs cells slots Q (F0 m pc ls st0) := by
  have hA := kA_O F hS
  refine va_calli (vx_runSW S0 hM cw ⟨gL_blind, fun U hU hW => ⟨rfl, by rw [hU], by rw [hU]; exact hP.1, LPP_go hK hA hS hU hW⟩⟩ rfl hlen hls hst hW hdg hroom) hS (fun q _ h => hA q h) hA (fun r f9 t H1 locs1 ht hvm hw hB hz1 hk1 hS1 => ?_)
  rw [ht] at hB
  exact kk r f9 H1 locs1 hw ⟨hB, k_T (cJ := cJ) F hP.2 hk1⟩ hS1
/-- the class itself -/
theorem x_cls {r : Int32} (S0 : CallFix p m c cc nL s args Ts own) (F : lwK a bb o A0 s) (hM : Met l y ws rm (va_Pc (.ref (a 0) :: As) (gI G cA (a 37) 37 a (cM a cA) S L H.size)) (gQi r G 37 a (cM a cA) S1 L1 H.size) mc ms (mA 37 a H.size)) (cw : CallW R s args own RX9 index y bytes maxL ret ws rm mc ms nn) (hK : LPP G cA cJ (a 37) A0 s) (hP : lwP G cA cJ a bb S L o fo T L' H) (hS : va_S A0 s.heap H locs) (hlen : As.length = nn) (hls : ls.size = nL) (hst : st0 = As.reverse ++ .ref (a 0) :: rest) (hW : 2 * (F0 m pc ls st0).monitorRoom + (rest.map fun v => v.category).sum ≤ 8) (hdg : decode cc pc = .ok (.invokevirtual index, 3)) (hroom : cells + mc ≤ R.cells ∧ slots + ms ≤ R.slots)
    (kk : ∀ (H1 : Heap) (locs1 : List Loc), lwP G cA cJ a bb S1 L1 o fo T L' H1 → va_S A0 s.heap H1 locs1 → W p l e R s m args below meth c H1 locs1 (cells + mc) (slots + ms) Q (F0 m (pc + 3) ls (.int r :: rest))) : W p l e R s m args below meth c H locs cells slots Q (F0 m pc ls st0) := by
  have hA := kA_M F hS
  have hP0 := wx_of hP.1
  refine va_calli (va_runV S0 hM cw ⟨gI_blind, g_recv hK.1 hP0 (o := 0) (by decide) rfl (C := RX9) (T := TX9) (N := 4) rfl, fun U hU hW => ⟨rfl, by rw [hU], by rw [hU]; exact hP0, KP_go hK.1 hA hS hU hW⟩⟩ rfl hlen hls hst hW hdg hroom) hS (fun q _ h => hA q h) hA (fun r' u t H1 locs1 ht hvm hw hB hz1 hk1 hS1 => ?_)
  have hw : r' = r := hw
  subst hw
  rw [ht] at hB
  exact kk H1 locs1 (k_C F hP hk1 hB) hS1
theorem x_clsl {r : Int64} (S0 : CallFix p m c cc nL s args Ts own) (F : lwK a bb o A0 s) (hM : Met l y ws rm (va_Pc (.ref (a 0) :: As) (gI G cA (a 37) 37 a (cM a cA) S L H.size)) (gQl r G 37 a (cM a cA) S1 L1 H.size) mc ms (mA 37 a H.size)) (cw : CallW R s args own RX9 index y bytes maxL ret ws rm mc ms nn) (hK : LPP G cA cJ (a 37) A0 s) (hP : lwP G cA cJ a bb S L o fo T L' H) (hS : va_S A0 s.heap H locs) (hlen : As.length = nn) (hls : ls.size = nL) (hst : st0 = As.reverse ++ .ref (a 0) :: rest) (hW : 2 * (F0 m pc ls st0).monitorRoom + (rest.map fun v => v.category).sum ≤ 8) (hdg : decode cc pc = .ok (.invokevirtual index, 3)) (hroom : cells + mc ≤ R.cells ∧ slots + ms ≤ R.slots)
    (kk : ∀ (H1 : Heap) (locs1 : List Loc), lwP G cA cJ a bb S1 L1 o fo T L' H1 → va_S A0 s.heap H1 locs1 → W p l e R s m args below meth c H1 locs1 (cells + mc) (slots + ms) Q (F0 m (pc + 3) ls (.long r :: rest))) : W p l e R s m args below meth c H locs cells slots Q (F0 m pc ls st0) := by
  have hA := kA_M F hS
  have hP0 := wx_of hP.1
  refine va_calll (va_runV S0 hM cw ⟨gI_blind, g_recv hK.1 hP0 (o := 0) (by decide) rfl (C := RX9) (T := TX9) (N := 4) rfl, fun U hU hW => ⟨rfl, by rw [hU], by rw [hU]; exact hP0, KP_go hK.1 hA hS hU hW⟩⟩ rfl hlen hls hst hW hdg hroom) hS (fun q _ h => hA q h) hA (fun r' u t H1 locs1 ht hvm hw hB hz1 hk1 hS1 => ?_)
  have hw : r' = r := hw
  subst hw
  rw [ht] at hB
  exact kk H1 locs1 (k_C F hP hk1 hB) hS1
/-- the reference -/
theorem x_ref {r : Int32} (S0 : CallFix p m c cc nL s args Ts own) (F : lwK a bb o A0 s) (hM : Met l y ws rm (va_Pc (.ref (bb 18) :: As) (gI G cA (a 37) 19 bb (cD bb cA) T L' H.size)) (gQi r G 19 bb (cD bb cA) T1 L1' H.size) mc ms (mA 19 bb H.size)) (cw : CallW R s args own RX11 index y bytes maxL ret ws rm mc ms nn) (hK : LPP G cA cJ (a 37) A0 s) (hP : lwP G cA cJ a bb S L o fo T L' H) (hS : va_S A0 s.heap H locs) (hlen : As.length = nn) (hls : ls.size = nL) (hst : st0 = As.reverse ++ .ref (bb 18) :: rest) (hW : 2 * (F0 m pc ls st0).monitorRoom + (rest.map fun v => v.category).sum ≤ 8) (hdg : decode cc pc = .ok (.invokevirtual index, 3)) (hroom : cells + mc ≤ R.cells ∧ slots + ms ≤ R.slots)
    (kk : ∀ (H1 : Heap) (locs1 : List Loc), lwP G cA cJ a bb S L o fo T1 L1' H1 → va_S A0 s.heap H1 locs1 → W p l e R s m args below meth c H1 locs1 (cells + mc) (slots + ms) Q (F0 m (pc + 3) ls (.int r :: rest))) : W p l e R s m args below meth c H locs cells slots Q (F0 m pc ls st0) := by
  have hA := kA_D F hS
  refine va_calli (va_runV S0 hM cw ⟨gI_blind, g_recv hK.1 hP.2 (o := 18) (by decide) cD_Mo (C := RX11) (T := TX11) (N := 2) rfl, fun U hU hW => ⟨rfl, by rw [hU], by rw [hU]; exact hP.2, KP_go hK.1 hA hS hU hW⟩⟩ rfl hlen hls hst hW hdg hroom) hS (fun q _ h => hA q h) hA (fun r' u t H1 locs1 ht hvm hw hB hz1 hk1 hS1 => ?_)
  have hw : r' = r := hw
  subst hw
  rw [ht] at hB
  exact kk H1 locs1 ⟨k_S F hP.1 hk1, hB⟩ hS1
theorem x_refl {r : Int64} (S0 : CallFix p m c cc nL s args Ts own) (F : lwK a bb o A0 s) (hM : Met l y ws rm (va_Pc (.ref (bb 18) :: As) (gI G cA (a 37) 19 bb (cD bb cA) T L' H.size)) (gQl r G 19 bb (cD bb cA) T1 L1' H.size) mc ms (mA 19 bb H.size)) (cw : CallW R s args own RX11 index y bytes maxL ret ws rm mc ms nn) (hK : LPP G cA cJ (a 37) A0 s) (hP : lwP G cA cJ a bb S L o fo T L' H) (hS : va_S A0 s.heap H locs) (hlen : As.length = nn) (hls : ls.size = nL) (hst : st0 = As.reverse ++ .ref (bb 18) :: rest) (hW : 2 * (F0 m pc ls st0).monitorRoom + (rest.map fun v => v.category).sum ≤ 8) (hdg : decode cc pc = .ok (.invokevirtual index, 3)) (hroom : cells + mc ≤ R.cells ∧ slots + ms ≤ R.slots)
    (kk : ∀ (H1 : Heap) (locs1 : List Loc), lwP G cA cJ a bb S L o fo T1 L1' H1 → va_S A0 s.heap H1 locs1 → W p l e R s m args below meth c H1 locs1 (cells + mc) (slots + ms) Q (F0 m (pc + 3) ls (.long r :: rest))) : W p l e R s m args below meth c H locs cells slots Q (F0 m pc ls st0) := by
  have hA := kA_D F hS
  refine va_calll (va_runV S0 hM cw ⟨gI_blind, g_recv hK.1 hP.2 (o := 18) (by decide) cD_Mo (C := RX11) (T := TX11) (N := 2) rfl, fun U hU hW => ⟨rfl, by rw [hU], by rw [hU]; exact hP.2, KP_go hK.1 hA hS hU hW⟩⟩ rfl hlen hls hst hW hdg hroom) hS (fun q _ h => hA q h) hA (fun r' u t H1 locs1 ht hvm hw hB hz1 hk1 hS1 => ?_)
  have hw : r' = r := hw
  subst hw
  rw [ht] at hB
  exact kk H1 locs1 ⟨k_S F hP.1 hk1, hB⟩ hS1
/-- the script's number -/
theorem x_sld {b N : Nat} {xs : Nat → Int32} (hx : p.tables.exec = Jvm.exec) (hb : c.code = cc) (hX : va_X b N xs s H) {i : Int32} (hin : vp_in i N) (hdg : decode cc pc = .ok (.iaload, 1))
    (kk : W p l e R s m args below meth c H locs cells slots Q (F0 m (pc + 1) ls (.int (xs i.toNatClampNeg) :: rest))) : W p l e R s m args below meth c H locs cells slots Q (F0 m pc ls (.int i :: .ref b :: rest)) := by
  obtain ⟨scr, h1, h2, h3, h4, h5⟩ := hX
  have hlt : i.toNatClampNeg < N := Nat.not_le.mp fun q => hin (Or.inr q)
  exact W.iald (v := .int (xs i.toNatClampNeg)) hx hb h1 h2 h3 (by rw [h4]; exact hin) (h5 _ hlt) rfl rfl hdg kk
theorem x_slen {b N : Nat} {xs : Nat → Int32} (hx : p.tables.exec = Jvm.exec) (hb : c.code = cc) (hX : va_X b N xs s H) (hdg : decode cc pc = .ok (.arraylength, 1))
    (kk : W p l e R s m args below meth c H locs cells slots Q (F0 m (pc + 1) ls (.int (Int32.ofNat N) :: rest))) : W p l e R s m args below meth c H locs cells slots Q (F0 m pc ls (.ref b :: rest)) := by
  obtain ⟨scr, h1, h2, h3, h4, h5⟩ := hX
  exact W.alen (n := Int32.ofNat N) hx hb h1 h2 (by rw [h4] <;> rfl) rfl rfl hdg kk
/-- what was written in cells that hold again what they held is forgotten -/
theorem x_forget {g : JFrame} (hold : ∀ q : Nat, q < s.heap.size → H[q]? = s.heap[q]?) (kk : W p l e R s m args below meth c H [] cells slots Q g) : W p l e R s m args below meth c H locs cells slots Q g := fun T hT X => kk T hT { X with same := ⟨X.same.1, X.same.2.1, X.same.2.2.1, X.same.2.2.2.1, X.same.2.2.2.2.1, fun a c h => ⟨c, by
  have h1 : a < s.heap.size := (Array.getElem?_eq_some_iff.mp h).1
  show T.heap[a]? = some c
  rw [hT, hold a h1]
  exact h, rfl, rfl, fun _ _ => rfl⟩⟩ }
end LWK
