/-! a fresh row of numbers beside a world -/
theorem wx_last {n : Nat} {a : Nat → Nat} {f : Cf} {S : Mm} {L : Int64} {x : Nat × va_E} : (wG n a f S L ++ [x])[n]? = some x := by
  rw [List.getElem?_append_right (by rw [wG_len]; exact Nat.le_refl n), wG_len, Nat.sub_self]
  rfl
theorem wx_set {n : Nat} {a : Nat → Nat} {f : Cf} {S : Mm} {L : Int64} {x y : Nat × va_E} : (wG n a f S L ++ [x]).set n y = wG n a f S L ++ [y] := by
  rw [List.set_append_right _ _ (by rw [wG_len]; exact Nat.le_refl n), wG_len, Nat.sub_self]
  rfl
theorem wx_of {G : va_G} {n : Nat} {a : Nat → Nat} {f : Cf} {S : Mm} {L : Int64} {x : Nat × va_E} {H : Heap} (h : va_P G vwCl (wG n a f S L ++ [x]) H) : va_P G vwCl (wG n a f S L) H := by
  intro k q hq
  have hk := wG_lt hq
  refine h k q ?_
  rw [List.getElem?_append_left (by rw [wG_len]; exact hk)]
  exact hq
section GW4
variable {p : Program} {l : Launch} {e : Env} {R : Room} {s : State} {m : MethodId} {args : Array Value} {below : List Frame} {meth : Method} {c : Code} {H : Heap} {locs : List Loc} {cells slots : Nat} {Q : State → Prop}
variable {cc : ByteArray} {pc : Nat} {ls : Array Slot} {rest : List Value} {G : va_G} {A0 : Nat → Prop} {cA : ClassId} {zq n : Nat} {a : Nat → Nat} {f : Cf} {S S1 : Mm} {L L1 : Int64} {H0 : Heap}
theorem x_new (hx : p.tables.exec = Jvm.exec) (hb : c.code = cc) (harr : (Cond.arrayClass .int).before args s = true) (hK : KP G cA zq A0 s) (ha : apart n a) (hAk : ∀ k, k < n → A0 (a k)) (hA : ∀ q, H0.size ≤ q → A0 q) (hP : va_P G vwCl (wG n a f S L) H) (hS : va_S A0 H0 H locs) {k : Int32} {N : Nat} (hn : ¬ k < 0) (hN : k.toNatClampNeg = N) (hbytes : N * componentBytes .int ≤ 536870912) (hcells : cells + 1 ≤ R.cells) (hslots : slots + N ≤ R.slots) (hdg : decode cc pc = .ok (.newarray .int, 2))
    (kk : ∀ (q : Nat) (cQ : ClassId) (H1 : Heap), va_K G vwCl [(cA, .int), (cQ, .int)] s → va_P G vwCl (wG n a f S L ++ [(q, .inl (cQ, N, .inl (fun _ => 0)))]) H1 → va_D A0 (wG n a f S L ++ [(q, .inl (cQ, N, .inl (fun _ => 0)))]) → va_S A0 H0 H1 locs →
      W p l e R s m args below meth c H1 locs (cells + 1) (slots + N) Q (F0 m (pc + 2) ls (.ref q :: rest))) : W p l e R s m args below meth c H locs cells slots Q (F0 m pc ls (.int k :: rest)) :=
  va_newa (atype := .int) hx hb harr rfl hK.1 hP (wG_D ha hAk) hS hA (a0 := (N, .inl (fun _ => 0))) (fun _ => rfl) hn hN hbytes hcells hslots hdg kk
theorem x_iast (hx : p.tables.exec = Jvm.exec) (hb : c.code = cc) {q N : Nat} {cQ : ClassId} {g : Nat → Int32} (hKx : va_K G vwCl [(cA, .int), (cQ, .int)] s) (hP : va_P G vwCl (wG n a f S L ++ [(q, .inl (cQ, N, .inl g))]) H) (hD : va_D A0 (wG n a f S L ++ [(q, .inl (cQ, N, .inl g))])) (hS : va_S A0 H0 H locs) {i x : Int32} (hin : vp_in i N) (hdg : decode cc pc = .ok (.iastore, 1))
    (kk : ∀ (H1 : Heap) (locs1 : List Loc), va_P G vwCl (wG n a f S L ++ [(q, .inl (cQ, N, .inl (upd g i.toNatClampNeg x)))]) H1 → va_D A0 (wG n a f S L ++ [(q, .inl (cQ, N, .inl (upd g i.toNatClampNeg x)))]) → va_S A0 H0 H1 locs1 → W p l e R s m args below meth c H1 locs1 cells slots Q (F0 m (pc + 1) ls rest)) : W p l e R s m args below meth c H locs cells slots Q (F0 m pc ls (.int x :: .int i :: .ref q :: rest)) :=
  va_iast hx hb hKx hP hD hS n 1 wx_last rfl hin hdg (fun H1 locs1 hP1 hD1 hS1 => kk H1 locs1 (by rw [wx_set] at hP1; exact hP1) (by rw [wx_set] at hD1; exact hD1) hS1)
theorem x_iald (hx : p.tables.exec = Jvm.exec) (hb : c.code = cc) {q N : Nat} {cQ : ClassId} {g : Nat → Int32} (hKx : va_K G vwCl [(cA, .int), (cQ, .int)] s) (hP : va_P G vwCl (wG n a f S L ++ [(q, .inl (cQ, N, .inl g))]) H) {i : Int32} (hin : vp_in i N) (hdg : decode cc pc = .ok (.iaload, 1))
    (kk : W p l e R s m args below meth c H locs cells slots Q (F0 m (pc + 1) ls (.int (g i.toNatClampNeg) :: rest))) : W p l e R s m args below meth c H locs cells slots Q (F0 m pc ls (.int i :: .ref q :: rest)) :=
  va_iald hx hb hKx hP n 1 wx_last rfl hin hdg kk
end GW4
