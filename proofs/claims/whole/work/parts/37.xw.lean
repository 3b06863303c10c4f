/-! the reference's world with one more row of numbers, at the place 19 -/
def cX (a : Nat → Nat) (cA : ClassId) (N : Nat) : Cf := fun o r L => if o = 19 then .inl (cA, N, .inl r) else cD a cA o r L
theorem cX_19 {a : Nat → Nat} {cA : ClassId} {N : Nat} {r : Nat → Int32} {L : Int64} : cX a cA N 19 r L = .inl (cA, N, .inl r) := rfl
theorem cX_D {a : Nat → Nat} {cA : ClassId} {N : Nat} {r : Nat → Int32} {L : Int64} : cX a cA N 0 r L = .inr (10, kcl a r L) := rfl
theorem cX_2 {a : Nat → Nat} {cA : ClassId} {N : Nat} {r : Nat → Int32} {L : Int64} : cX a cA N 2 r L = .inl (cA, 48, .inl r) := rfl
theorem cX_Mo {a : Nat → Nat} {cA : ClassId} {N : Nat} {r : Nat → Int32} {L : Int64} : cX a cA N 18 r L = .inr (11, [.int (r 0), .ref (a 0)]) := rfl
def aX (a : Nat → Nat) (q : Nat) : Nat → Nat := fun k => if k = 19 then q else a k
theorem aX_n {a : Nat → Nat} {q k : Nat} (h : k < 19) : aX a q k = a k := if_neg (by omega)
theorem cD_ext {a a' : Nat → Nat} {cA : ClassId} {r : Nat → Int32} {L : Int64} (h : ∀ k, k < 19 → a' k = a k) : ∀ o, o < 19 → cD a' cA o r L = cD a cA o r L := by
  intro o ho
  match o, ho with
  | 0, _ =>
    rw [cD_D, cD_D]
    unfold kcl
    rw [h 1 (by decide), h 2 (by decide), h 3 (by decide), h 4 (by decide), h 5 (by decide), h 6 (by decide), h 7 (by decide), h 8 (by decide), h 9 (by decide), h 10 (by decide), h 11 (by decide), h 12 (by decide), h 13 (by decide), h 14 (by decide), h 15 (by decide), h 16 (by decide), h 17 (by decide)]
  | 1, _ => rfl
  | 2, _ => rfl
  | 3, _ => rfl
  | 4, _ => rfl
  | 5, _ => rfl
  | 6, _ => rfl
  | 7, _ => rfl
  | 8, _ => rfl
  | 9, _ => rfl
  | 10, _ => rfl
  | 11, _ => rfl
  | 12, _ => rfl
  | 13, _ => rfl
  | 14, _ => rfl
  | 15, _ => rfl
  | 16, _ => rfl
  | 17, _ => rfl
  | 18, _ =>
    rw [cD_Mo, cD_Mo, h 0 (by decide)]
  | n + 19, h9 => exact absurd h9 (by omega)
theorem wX_eq {a : Nat → Nat} {q : Nat} {cA : ClassId} {N : Nat} {S : Mm} {L : Int64} {g : Nat → Int32} : wG 19 a (cD a cA) S L ++ [(q, .inl (cA, N, .inl g))] = wG 20 (aX a q) (cX (aX a q) cA N) (upR S 19 g) L := by
  apply List.ext_getElem?
  intro k
  rcases Nat.lt_or_ge k 19 with hk | hk
  · rw [List.getElem?_append_left (by rw [wG_len]; exact hk), wG_get hk, wG_get (by omega), aX_n hk, upR_n (by omega)]
    unfold cX
    rw [if_neg (by omega), cD_ext (fun k h => aX_n h) k hk]
  · rcases Nat.lt_or_ge k 20 with h2 | h2
    · have e : k = 19 := by omega
      subst e
      rw [wx_last, wG_get (by omega), upR_s]
      rfl
    · rw [List.getElem?_eq_none (by rw [List.length_append, wG_len]; exact h2), List.getElem?_eq_none (by rw [wG_len]; exact h2)]
theorem wX_back {G : va_G} {a : Nat → Nat} {q : Nat} {cA : ClassId} {N : Nat} {S : Mm} {L : Int64} {H : Heap} (h : va_P G vwCl (wG 20 (aX a q) (cX (aX a q) cA N) S L) H) : va_P G vwCl (wG 19 a (cD a cA) S L) H := by
  intro k x hx
  have hk := wG_lt hx
  refine h k x ?_
  rw [wG_get hk] at hx
  cases hx
  rw [wG_get (by omega), aX_n hk]
  unfold cX
  rw [if_neg (by omega), cD_ext (fun k h => aX_n h) k hk]
theorem cQ_eq {G : va_G} {cA cQ : ClassId} {s : State} (h : va_K G vwCl [(cA, .int), (cQ, .int)] s) : cQ = cA := by
  have h0 : va_RA s cA .int := (h.2 0 _ rfl).2
  have h1 : va_RA s cQ .int := (h.2 1 _ rfl).2
  have e0 : s.vm.findClass ("[" ++ FieldType.int.toString) = some cA := h0
  have e1 : s.vm.findClass ("[" ++ FieldType.int.toString) = some cQ := h1
  exact Option.some.inj (e1.symm.trans e0)
theorem apX {a : Nat → Nat} {q : Nat} {cA : ClassId} {N : Nat} {S : Mm} {L : Int64} {g : Nat → Int32} {A : Nat → Prop} (h : va_D A (wG 19 a (cD a cA) S L ++ [(q, .inl (cA, N, .inl g))])) : apart 20 (aX a q) := by
  rw [wX_eq] at h
  intro i j hi hj e
  exact h.1 i j _ _ (wG_get hi) (wG_get hj) e
theorem inX {a : Nat → Nat} {q : Nat} {cA : ClassId} {N : Nat} {S : Mm} {L : Int64} {g : Nat → Int32} {A : Nat → Prop} (h : va_D A (wG 19 a (cD a cA) S L ++ [(q, .inl (cA, N, .inl g))])) : ∀ k, k < 20 → A (aX a q k) := by
  rw [wX_eq] at h
  intro k hk
  exact h.2 k _ (wG_get hk)
