/-! the law's own walk: what stands all along it -/
abbrev LC (p : Program) (s : State) (m : MethodId) (c : Code) (args : Array Value) (G : va_G) (A0 : Nat → Prop) (cA c2 c3 : ClassId) (z b N : Nat) (xs : Nat → Int32) : Prop := p.tables.exec = Jvm.exec ∧ c.code = cL_law ∧ c.maxLocals = 24 ∧ s.vm.findClass RL = some m.cls ∧ (∀ w ∈ wsL_law, w.before args s = true) ∧ KB G cA c2 c3 z b N xs A0 s ∧ (∀ q, s.heap.size ≤ q → A0 q) ∧ N ≤ 260
theorem ov0 {S : Mm} {v : Nat} (hv : v < 4) : rX9_ofVoice S (nI v) 0 = S (22 + v) 0 := by
  rcases v4 hv with rfl | rfl | rfl | rfl <;> rfl
theorem ov1 {S : Mm} {v : Nat} (hv : v < 4) : rX9_ofVoice S (nI v) 1 = S (22 + v) 1 := by
  rcases v4 hv with rfl | rfl | rfl | rfl <;> rfl
theorem ov5 {S : Mm} {v : Nat} (hv : v < 4) : rX9_ofVoice S (nI v) 5 = S (22 + v) 5 := by
  rcases v4 hv with rfl | rfl | rfl | rfl <;> rfl
theorem ov6 {S : Mm} {v : Nat} (hv : v < 4) : rX9_ofVoice S (nI v) 6 = S (22 + v) 6 := by
  rcases v4 hv with rfl | rfl | rfl | rfl <;> rfl
theorem ov7 {S : Mm} {v : Nat} (hv : v < 4) : rX9_ofVoice S (nI v) 7 = S (22 + v) 7 := by
  rcases v4 hv with rfl | rfl | rfl | rfl <;> rfl
theorem ov8 {S : Mm} {v : Nat} (hv : v < 4) : rX9_ofVoice S (nI v) 8 = S (22 + v) 8 := by
  rcases v4 hv with rfl | rfl | rfl | rfl <;> rfl
theorem ov9 {S : Mm} {v : Nat} (hv : v < 4) : rX9_ofVoice S (nI v) 9 = S (22 + v) 9 := by
  rcases v4 hv with rfl | rfl | rfl | rfl <;> rfl
theorem nI4 {v : Nat} (hv : v < 4) : ¬ nI v < 0 ∧ nI v < 4 ∧ ¬ (4 : Int32) ≤ nI v := by
  rcases v4 hv with rfl | rfl | rfl | rfl <;> decide
theorem abv_le {x c : Int32} {C : Int} (h : rg x (-C) C) (hC : C < 2147483648) (hc : c.toInt = C) : ¬ c < abv x := by
  have h1 := abv_rg h hC
  rw [Int32.lt_iff_toInt_lt, hc]
  omega
theorem x_l2 {X : va_W} {x y : Nat × va_E} : (X ++ [x] ++ [y])[X.length]? = some x := by simp
theorem x_l3 {X : va_W} {x y z : Nat × va_E} : (X ++ [x] ++ [y] ++ [z])[X.length]? = some x := by simp
theorem x_s2 {X : va_W} {x y w : Nat × va_E} : (X ++ [x] ++ [y]).set X.length w = X ++ [w] ++ [y] := by
  rw [List.append_assoc, List.set_append_right _ _ (Nat.le_refl _), Nat.sub_self]
  simp
theorem x_s3 {X : va_W} {x y z w : Nat × va_E} : (X ++ [x] ++ [y] ++ [z]).set X.length w = X ++ [w] ++ [y] ++ [z] := by
  rw [List.append_assoc, List.append_assoc, List.set_append_right _ _ (Nat.le_refl _), Nat.sub_self]
  simp
theorem wB_Xk {a : Nat → Nat} {cA c2 c3 : ClassId} {β ρ : Nat → Nat} {b : Nat} {wr : Nat → Nat → Option Nat} {S : Mm} {L : Int64} {B : Mm} {X X' : va_W} {n : Nat} {y : Nat × va_E} (h : X.set n y = X') : (wB a cA c2 c3 β ρ b wr S L B X).set (48 + n) y = wB a cA c2 c3 β ρ b wr S L B X' := by
  show (wG 37 a (cM a cA) S L ++ _).set (48 + n) y = _
  rw [List.set_append_right _ _ (by rw [wG_len]; omega), wG_len, List.set_append_right _ _ (by rw [wG_len]; omega), wG_len, show 48 + n - 37 - 11 = n by omega, h]
/-- what lies behind the class and the law's object is left -/
theorem P_dropL {G : va_G} {H : Heap} {a : Nat → Nat} {cA c2 c3 : ClassId} {β ρ : Nat → Nat} {b : Nat} {wr : Nat → Nat → Option Nat} {S : Mm} {L : Int64} {B : Mm} {X Z : va_W} (h : va_P G vwCl (wB a cA c2 c3 β ρ b wr S L B (X ++ Z)) H) : va_P G vwCl (wB a cA c2 c3 β ρ b wr S L B X) H := by
  rw [← wB_app] at h
  exact P_fst h
theorem D_dropL {A : Nat → Prop} {a : Nat → Nat} {cA c2 c3 : ClassId} {β ρ : Nat → Nat} {b : Nat} {wr : Nat → Nat → Option Nat} {S : Mm} {L : Int64} {B : Mm} {X Z : va_W} (h : va_D A (wB a cA c2 c3 β ρ b wr S L B (X ++ Z))) : va_D A (wB a cA c2 c3 β ρ b wr S L B X) := by
  rw [← wB_app] at h
  exact D_fst h
