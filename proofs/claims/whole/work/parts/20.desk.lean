/-! The reference's world: 0 its Desk, 1 drawn, 2 instrument, 3 state, 4 level, 5 of, 6 pitch, 7 force, 8 one, 9 other, 10 low, 11 band, 12 gate, 13 began, 14 delay, 15 track, 16 written, 17 heard; 18 the MelodeonModel (a desk that is a copy has none). -/
def kcl (a : Nat → Nat) (r : Nat → Int32) (L : Int64) : List Value := [.ref (a 1), .ref (a 2), .ref (a 3), .ref (a 4), .ref (a 5), .ref (a 6), .ref (a 7), .ref (a 8), .ref (a 9), .ref (a 10), .ref (a 11), .ref (a 12), .ref (a 13), .int (r 13), .int (r 14), .int (r 15), .int (r 16), .int (r 17), .int (r 18), .ref (a 14), .ref (a 15), .ref (a 16), .int (r 22), .int (r 23), .int (r 24), .int (r 25), .int (r 26), .int (r 27), .int (r 28), .ref (a 17), .int (r 30), .int (r 31), .int (r 32), .int (r 33), .long L]
def cD (a : Nat → Nat) (cA : ClassId) : Cf := fun o r L => match o with
  | 0 => .inr (10, kcl a r L)
  | 1 => .inl (cA, 32, .inl r)
  | 2 => .inl (cA, 48, .inl r)
  | 3 => .inl (cA, 4, .inl r)
  | 4 => .inl (cA, 4, .inl r)
  | 5 => .inl (cA, 4, .inl r)
  | 6 => .inl (cA, 4, .inl r)
  | 7 => .inl (cA, 4, .inl r)
  | 8 => .inl (cA, 4, .inl r)
  | 9 => .inl (cA, 4, .inl r)
  | 10 => .inl (cA, 4, .inl r)
  | 11 => .inl (cA, 4, .inl r)
  | 12 => .inl (cA, 4, .inl r)
  | 13 => .inl (cA, 4, .inl r)
  | 14 => .inl (cA, 200, .inl r)
  | 15 => .inl (cA, 3, .inl r)
  | 16 => .inl (cA, 72, .inl r)
  | 17 => .inl (cA, 64, .inl r)
  | _ => .inr (11, [.int (r 0), .ref (a 0)])
theorem cD_D {a : Nat → Nat} {cA : ClassId} {r : Nat → Int32} {L : Int64} : cD a cA 0 r L = .inr (10, kcl a r L) := rfl
theorem cD_Mo {a : Nat → Nat} {cA : ClassId} {r : Nat → Int32} {L : Int64} : cD a cA 18 r L = .inr (11, [.int (r 0), .ref (a 0)]) := rfl
theorem cD_Mo_set {a : Nat → Nat} {cA : ClassId} {r : Nat → Int32} {L : Int64} {k : Nat} {x : Int32} (hk : k = 0) : cD a cA 18 (upd r k x) L = .inr (11, ([.int (r 0), .ref (a 0)] : List Value).set k (.int x)) := by
  subst hk
  rfl
theorem cD_D_set {a : Nat → Nat} {cA : ClassId} {r : Nat → Int32} {L : Int64} {k : Nat} {x : Int32} (hk : (13 ≤ k ∧ k < 19) ∨ (22 ≤ k ∧ k < 29) ∨ (30 ≤ k ∧ k < 34)) : cD a cA 0 (upd r k x) L = .inr (10, (kcl a r L).set k (.int x)) := by
  rw [cD_D]
  have hz : k = 13 ∨ k = 14 ∨ k = 15 ∨ k = 16 ∨ k = 17 ∨ k = 18 ∨ k = 22 ∨ k = 23 ∨ k = 24 ∨ k = 25 ∨ k = 26 ∨ k = 27 ∨ k = 28 ∨ k = 30 ∨ k = 31 ∨ k = 32 ∨ k = 33 := by omega
  rcases hz with rfl | rfl | rfl | rfl | rfl | rfl | rfl | rfl | rfl | rfl | rfl | rfl | rfl | rfl | rfl | rfl | rfl <;> rfl
theorem cD_D_L {a : Nat → Nat} {cA : ClassId} {r : Nat → Int32} {L x : Int64} : cD a cA 0 r x = .inr (10, (kcl a r L).set 34 (.long x)) := rfl
theorem cD_oth {a : Nat → Nat} {cA : ClassId} {S : Mm} {L x : Int64} {n : Nat} : ∀ o', o' < n → o' ≠ 0 → cD a cA o' (S o') x = cD a cA o' (S o') L := by
  intro o' _ hne
  match o', hne with
  | 0, hne => exact absurd rfl hne
  | 1, _ => rfl
  | 2, _ => rfl
  | 3, _ => rfl
  | 4, _ => rfl
  | 5, _ => rfl
  | 6, _ => rfl
  | 7, _ => rfl
  | 8, _ => rfl
  | 9, _ => rfl
  | 10, _ => rfl
  | 11, _ => rfl
  | 12, _ => rfl
  | 13, _ => rfl
  | 14, _ => rfl
  | 15, _ => rfl
  | 16, _ => rfl
  | 17, _ => rfl
  | n + 18, _ => rfl
theorem lt_hn {o n : Nat} (hn : 18 ≤ n) (h : o < 18) : o < n := by omega
def upR (S : Mm) (o : Nat) (g : Nat → Int32) : Mm := fun o' => if o' = o then g else S o'
theorem wG_upR {n : Nat} {a : Nat → Nat} {f : Cf} {S : Mm} {L : Int64} {o : Nat} {g : Nat → Int32} {e : va_E} (h : o < n) (he : f o g L = e) : (wG n a f S L).set o (a o, e) = wG n a f (upR S o g) L :=
  wG_set h (by simp only [upR, if_pos]; exact he) (fun o' _ hn => by simp only [upR, if_neg hn])
section GW3
variable {p : Program} {l : Launch} {e : Env} {R : Room} {s : State} {m : MethodId} {args : Array Value} {below : List Frame} {meth : Method} {c : Code} {H : Heap} {locs : List Loc} {cells slots : Nat} {Q : State → Prop}
variable {cc : ByteArray} {pc : Nat} {ls : Array Slot} {rest : List Value} {G : va_G} {A0 : Nat → Prop} {cA : ClassId} {zq n : Nat} {a : Nat → Nat} {f : Cf} {S S1 : Mm} {L L1 : Int64} {H0 : Heap}
theorem g_copyi (hx : p.tables.exec = Jvm.exec) (hb : c.code = cc) (hml : c.maxLocals = ls.size) {own : String} {index : Nat} (hown : s.vm.findClass own = some m.cls) (hlink : (Cond.methodLink own index arraycopyName).before args s = true) (hnat : (Cond.native arraycopyName).before args s = true) (hstat : (Cond.static arraycopyName).before args s = true) (hini : (Cond.initialized "java/lang/System").before args s = true)
    (hK : KP G cA zq A0 s) (ha : apart n a) (hAk : ∀ k, k < n → A0 (a k)) (hP : va_P G vwCl (wG n a f S L) H) (hS : va_S A0 H0 H locs) {o0 o1 n0 n1 : Nat} (ho0 : o0 < n) (hf0 : f o0 (S o0) L = .inl (cA, n0, .inl (S o0))) (ho1 : o1 < n) (hf1 : ∀ g, f o1 g L = .inl (cA, n1, .inl g))
    {sp dp k : Int32} (h1 : ¬ sp < 0) (h2 : ¬ dp < 0) (h3 : ¬ k < 0) (h4 : sp.toNatClampNeg + k.toNatClampNeg ≤ n0) (h5 : dp.toNatClampNeg + k.toNatClampNeg ≤ n1) (hframes : 1 ≤ R.frames) (hlocals : (rest.map fun v => v.category).sum + (nativeFrameWords "java/lang/System" "arraycopy" 5 + 11) ≤ R.locals) (hdg : decode cc pc = .ok (.invokestatic index, 3))
    (kk : ∀ (H1 : Heap) (locs1 : List Loc), va_P G vwCl (wG n a f (upR S o1 (va_cpy (S o0) (S o1) sp.toNatClampNeg dp.toNatClampNeg k.toNatClampNeg)) L) H1 → va_S A0 H0 H1 locs1 → W p l e R s m args below meth c H1 locs1 cells slots Q (F0 m (pc + 3) ls rest)) : W p l e R s m args below meth c H locs cells slots Q (F0 m pc ls (.int k :: .int dp :: .ref (a o1) :: .int sp :: .ref (a o0) :: rest)) :=
  va_copyi hx hb hml hown hlink hnat hstat hini hK.1 hP (wG_D ha hAk) hS o0 o1 0 0 (ty := .int) (by rw [wG_get ho0, hf0]) (by rw [wG_get ho1, hf1]) rfl rfl rfl h1 h2 h3 h4 h5 (fun _ _ => rfl) hframes hlocals hdg (fun H1 locs1 hP1 _ hS1 => kk H1 locs1 (by rw [← wG_upR ho1 (hf1 _)]; exact hP1) hS1)
end GW3
