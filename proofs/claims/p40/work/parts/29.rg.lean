def rg (x : Int32) (a b : Int) : Prop := a ≤ x.toInt ∧ x.toInt ≤ b
/-! ranges of numbers -/
theorem rg_w {x : Int32} {a b a' b' : Int} (h : rg x a b) (h1 : a' ≤ a) (h2 : b ≤ b') : rg x a' b' := ⟨Int.le_trans h1 h.1, Int.le_trans h.2 h2⟩
theorem bm {x : Int} (h1 : -2147483648 ≤ x) (h2 : x < 2147483648) : x.bmod (2 ^ 32) = x := by
  have e : ((2 ^ 32 : Nat) : Int) = 4294967296 := by decide
  exact Int.bmod_eq_of_le_mul_two (by rw [e]; omega) (by rw [e]; omega)
theorem rg_add {x y : Int32} {a b c d : Int} (hx : rg x a b) (hy : rg y c d) (h1 : -2147483648 ≤ a + c) (h2 : b + d < 2147483648) : rg (x + y) (a + c) (b + d) ∧ (x + y).toInt = x.toInt + y.toInt := by
  unfold rg at hx hy ⊢
  have e : (x + y).toInt = x.toInt + y.toInt := by
    rw [Int32.toInt_add]
    exact bm (by omega) (by omega)
  rw [e]
  omega
theorem rg_sub {x y : Int32} {a b c d : Int} (hx : rg x a b) (hy : rg y c d) (h1 : -2147483648 ≤ a - d) (h2 : b - c < 2147483648) : rg (x - y) (a - d) (b - c) ∧ (x - y).toInt = x.toInt - y.toInt := by
  unfold rg at hx hy ⊢
  have e : (x - y).toInt = x.toInt - y.toInt := by
    rw [Int32.toInt_sub]
    exact bm (by omega) (by omega)
  rw [e]
  omega
theorem rg_mul {x y : Int32} {A B : Nat} (hx : rg x (-A) A) (hy : rg y (-B) B) (h : A * B < 2147483648) : rg (x * y) (-(A * B : Nat)) (A * B : Nat) := by
  unfold rg at hx hy ⊢
  have h1 : x.toInt.natAbs ≤ A := by omega
  have h2 : y.toInt.natAbs ≤ B := by omega
  have h3 : (x.toInt * y.toInt).natAbs ≤ A * B := by
    rw [Int.natAbs_mul]
    exact Nat.mul_le_mul h1 h2
  have e : (x * y).toInt = x.toInt * y.toInt := by
    rw [Int32.toInt_mul]
    exact bm (by omega) (by omega)
  rw [e]
  omega
theorem rg_div {x y : Int32} {A c : Nat} (hx : rg x (-A) A) (hy : y.toInt = c) (hc : 0 < c) : rg (x / y) (-(A / c : Nat)) (A / c : Nat) := by
  unfold rg at hx ⊢
  have hne : y ≠ -1 := by
    intro q
    rw [q] at hy
    have : (-1 : Int32).toInt = -1 := by decide
    omega
  rw [Int32.toInt_div_of_ne_right _ _ hne, hy]
  have h1 : x.toInt.natAbs ≤ A := by omega
  have h2 : (x.toInt.tdiv (c : Int)).natAbs ≤ A / c := by
    rw [Int.natAbs_tdiv, Int.natAbs_natCast]
    exact Nat.div_le_div_right h1
  omega
theorem rg_n {n : Nat} (h : n < 2147483648) : rg (nI n) n n := by
  have e : (nI n).toInt = (n : Int) := nI_toInt h
  exact ⟨by rw [e]; exact Int.le_refl _, by rw [e]; exact Int.le_refl _⟩
theorem rg_vp {x : Int32} {n : Nat} (h : vp_in x n) (hn : n < 2147483648) : rg x 0 (n - 1 : Int) := by
  have h1 := vp_in_iff.mp h
  exact ⟨h1.1, by omega⟩
theorem rg_nI {x : Int32} {b : Int} (h : rg x 0 b) : ∃ j : Nat, (j : Int) ≤ b ∧ j < 2147483648 ∧ x = nI j := by
  have h3 : ¬ x < 0 := by
    rw [Int32.lt_iff_toInt_lt]
    have : (0 : Int32).toInt = 0 := by decide
    have := h.1
    omega
  obtain ⟨j, hj, e⟩ := nI_of h3
  have e2 : x.toInt = (j : Int) := by rw [e]; exact nI_toInt hj
  exact ⟨j, by have := h.2; omega, hj, e⟩
theorem rem_in {x : Int32} {b : Int} (h : rg x 0 b) : vp_in (x - x / 65536 * 65536) 65536 := by
  obtain ⟨j, -, hj, e⟩ := rg_nI h
  rw [e, show (65536 : Int32) = nI 65536 from rfl, pk_rem hj (by decide) (by decide)]
  exact vp_in_nI (Nat.mod_lt _ (by decide)) (by decide)
theorem cQ_eq {G : va_G} {cA cQ : ClassId} {s : State} (h : va_K G vwCl [(cA, .int), (cQ, .int)] s) : cQ = cA := by
  have h0 : va_RA s cA .int := (h.2 0 _ rfl).2
  have h1 : va_RA s cQ .int := (h.2 1 _ rfl).2
  have e0 : s.vm.findClass ("[" ++ FieldType.int.toString) = some cA := h0
  have e1 : s.vm.findClass ("[" ++ FieldType.int.toString) = some cQ := h1
  exact Option.some.inj (e1.symm.trans e0)
theorem se_exit {x : Int32} {i : Nat} (h : i + 0 = x.toNatClampNeg) (hx : x ≤ 200) : x < nI (i + 1) := by
  have hx0 : x.toNatClampNeg = x.toInt.toNat := rfl
  have h2 : (200 : Int32).toInt = 200 := by decide
  rw [Int32.le_iff_toInt_le, h2] at hx
  rw [Int32.lt_iff_toInt_lt, nI_toInt (by omega)]
  omega
theorem se_body {x : Int32} {i k : Nat} (h : i + (k + 1) = x.toNatClampNeg) : ¬ x < nI (i + 1) := by
  have hx0 : x.toNatClampNeg = x.toInt.toNat := rfl
  have hb : x.toInt < 2 ^ 31 := Int32.toInt_lt x
  rw [Int32.lt_iff_toInt_lt, nI_toInt (by omega)]
  omega
