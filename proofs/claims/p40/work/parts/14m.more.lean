theorem lx_nn {x : Int32} {i : Nat} (h : i < x.toNatClampNeg) : ¬ nI i < 0 := by
  have hx : x.toNatClampNeg = x.toInt.toNat := rfl
  have hb : x.toInt < 2 ^ 31 := Int32.toInt_lt x
  exact nI_pos (by omega)
theorem lx_lt {x : Int32} {i : Nat} (h : i < x.toNatClampNeg) : nI i < x := by
  have hx : x.toNatClampNeg = x.toInt.toNat := rfl
  have hb : x.toInt < 2 ^ 31 := Int32.toInt_lt x
  rw [Int32.lt_iff_toInt_lt, nI_toInt (by omega)]
  omega
section GW2
variable {p : Program} {l : Launch} {e : Env} {R : Room} {s : State} {m : MethodId} {args : Array Value} {below : List Frame} {meth : Method} {c : Code} {H : Heap} {locs : List Loc} {cells slots : Nat} {Q : State → Prop}
variable {cc : ByteArray} {pc : Nat} {ls : Array Slot} {rest : List Value} {G : va_G} {A0 : Nat → Prop} {cA : ClassId} {zq n : Nat} {a : Nat → Nat} {f : Cf} {S S1 : Mm} {L L1 : Int64} {H0 : Heap}
variable {y : MethodName} {bytes : ByteArray} {maxL nL mc ms nn index : Nat} {ret : Option FieldType} {ws : List Cond} {rm : Room} {Ts : List Cond} {own C host : String} {b : Addr} {As st0 : List Value}
theorem g_cSv (S0 : CallFix p m c cc nL s args Ts own) (hM : Met l y ws rm (va_Pc As (gI G cA zq n a f S L H.size)) (gQv G n a f S1 L1 H.size) mc ms (mA n a H.size)) (cw : CallB R s args own index y bytes maxL ret ws rm mc ms nn ∧ (Cond.static y).before args s = true) (hK : KP G cA zq A0 s) (hA : ∀ q, mA n a H.size q → A0 q) (hP : va_P G vwCl (wG n a f S L) H) (hS : va_S A0 s.heap H locs) (hlen : As.length = nn) (hls : ls.size = nL) (hst : st0 = As.reverse ++ rest) (hW : 2 * (F0 m pc ls st0).monitorRoom + (rest.map fun v => v.category).sum ≤ 8) (hdg : decode cc pc = .ok (.invokestatic index, 3)) (hroom : cells + mc ≤ R.cells ∧ slots + ms ≤ R.slots)
    (kk : gK p l e R s m args below meth c H (cells + mc) (slots + ms) Q G A0 n a f S1 L1 (F0 m (pc + 3) ls rest)) : W p l e R s m args below meth c H locs cells slots Q (F0 m pc ls st0) := by
  refine va_callv (va_runS S0 hM cw ⟨gI_blind, fun U hU hW => ⟨rfl, by rw [hU], by rw [hU]; exact hP, KP_go hK hA hS hU hW⟩⟩ rfl hlen hls hst hW hdg hroom) hS (fun q _ h => hA q h) hA (fun u t H1 locs1 ht hvm hw hB hz1 hk1 hS1 => ?_)
  rw [ht] at hB
  exact kk H1 locs1 hB hS1 hz1 hk1
end GW2

