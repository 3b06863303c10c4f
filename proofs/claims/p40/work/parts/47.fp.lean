/-! the mean is no more than the greatest one -/
theorem fp_mag {i : Int} {s : Bool} {c : Nat} {q : Int} (h : FP.Core.Whole i (.fin s c q)) (T : Nat) (hT : 0 ≤ q + T) : c * 2 ^ (q + T).toNat = i.natAbs * 2 ^ T := by
  have h1 := FP.Core.whole_natAbs h
  rcases Int.le_total 0 q with hq | hq
  · have e1 : (-q).toNat = 0 := by omega
    have e2 : (q + T).toNat = q.toNat + T := by omega
    rw [e1, Nat.pow_zero, Nat.mul_one] at h1
    rw [e2, Nat.pow_add, ← Nat.mul_assoc, h1]
  · have e1 : q.toNat = 0 := by omega
    have e3 : 2 ^ T = 2 ^ (q + T).toNat * 2 ^ (-q).toNat := by
      rw [← Nat.pow_add]
      congr 1
      omega
    rw [e1, Nat.pow_zero, Nat.mul_one] at h1
    rw [e3, h1]
    ac_rfl
theorem fp_b1 : FP.Core.b64.qmin = -1074 := by decide
theorem fp_b2 : FP.Core.b64.qmax = 971 := by decide
theorem cmp_ngt {a b : Int} (h : a ≤ b) : (some (compare a b) : Option Ordering) ≠ some .gt := by
  intro h2
  have h3 : compare a b = .gt := Option.some.inj h2
  have h4 : b < a := by
    rw [Int.compare_eq_gt] at h3
    exact h3
  omega
theorem fp_ord {c p : Int32} {L : Int64} (hc : 0 < c.toInt) (hp : 0 ≤ p.toInt) (hL0 : 0 ≤ L.toInt) (hL : L.toInt ≤ c.toInt * p.toInt) (hb : L.toInt ≤ 2 ^ 53) : FP.dcmp (FP.ddiv (FP.l2d L) (FP.i2d c)) (FP.i2d p) ≠ some .gt := by
  have hC : FP.Core.Whole c.toInt (FP.Core.val64 (FP.i2d c)) := FP.Core.i2d_int c
  have hW : FP.Core.Whole L.toInt (FP.Core.val64 (FP.l2d L)) := FP.Core.l2d_int (by omega)
  have hP : FP.Core.Whole p.toInt (FP.Core.val64 (FP.i2d p)) := FP.Core.i2d_int p
  have hq : FP.Core.val64 (FP.ddiv (FP.l2d L) (FP.i2d c)) = FP.Core.quotient FP.Core.b64 (FP.Core.val64 (FP.l2d L)) (FP.Core.val64 (FP.i2d c)) := FP.Core.val64_ddiv _ _
  have fL := FP.Core.val64_fits (FP.l2d L)
  have fC := FP.Core.val64_fits (FP.i2d c)
  have fP := FP.Core.val64_fits (FP.i2d p)
  show FP.Core.order (FP.Core.val64 (FP.ddiv (FP.l2d L) (FP.i2d c))) (FP.Core.val64 (FP.i2d p)) ≠ some .gt
  rw [hq]
  clear hq
  generalize FP.Core.val64 (FP.l2d L) = x at hW fL ⊢
  generalize FP.Core.val64 (FP.i2d c) = y at hC fC ⊢
  generalize FP.Core.val64 (FP.i2d p) = z at hP fP ⊢
  cases x with
  | nan => exact hW.elim
  | inf s => exact hW.elim
  | fin s1 c1 q1 =>
  cases y with
  | nan => exact hC.elim
  | inf s => exact hC.elim
  | fin s2 c2 q2 =>
  cases z with
  | nan => exact hP.elim
  | inf s => exact hP.elim
  | fin s3 c3 q3 =>
  have hc2 : ¬ c2 = 0 := fun h => by
    have := (FP.Core.whole_zero hC).mp h
    omega
  have hq2 : FP.Core.quotient FP.Core.b64 (.fin s1 c1 q1) (.fin s2 c2 q2) = FP.Core.roundRatio FP.Core.b64 (s1 != s2) c1 c2 (q1 - q2) := by
    show (if c2 = 0 then _ else _) = _
    rw [if_neg hc2]
  rw [hq2]
  by_cases h0 : L.toInt = 0
  · have hc1 : c1 = 0 := (FP.Core.whole_zero hW).mpr h0
    have e1 : FP.Core.roundRatio FP.Core.b64 (s1 != s2) c1 c2 (q1 - q2) = .fin (s1 != s2) 0 FP.Core.b64.qmin := by
      unfold FP.Core.roundRatio
      rw [if_pos hc1]
    have e2 : FP.Core.Whole 0 (.fin (s1 != s2) 0 FP.Core.b64.qmin) := by
      show FP.Core.signed (s1 != s2) (0 * _) = 0 * _
      rw [Nat.zero_mul, Int.zero_mul]
      unfold FP.Core.signed
      split <;> rfl
    rw [e1, FP.Core.order_whole e2 hP]
    exact cmp_ngt hp
  · have hpp : 0 < p.toInt := by
      rcases Int.lt_or_le 0 p.toInt with h | h
      · exact h
      · have e : p.toInt = 0 := by omega
        rw [e, Int.mul_zero] at hL
        omega
    have k1 : s1 = false := by
      rw [FP.Core.whole_sign hW h0]
      exact decide_eq_false (by omega)
    have k2 : s2 = false := by
      rw [FP.Core.whole_sign hC (by omega)]
      exact decide_eq_false (by omega)
    have k3 : s3 = false := by
      rw [FP.Core.whole_sign hP (by omega)]
      exact decide_eq_false (by omega)
    subst k1; subst k2; subst k3
    obtain ⟨T, hT⟩ : ∃ T : Nat, T = 4000 := ⟨_, rfl⟩
    obtain ⟨U, hU⟩ : ∃ U : Nat, U = 2000 := ⟨_, rfl⟩
    have b1 := fL.2.1
    have b2 := fL.2.2.1
    have b3 := fC.2.1
    have b4 := fC.2.2.1
    have b5 := fP.2.1
    rw [fp_b1] at b1 b3 b5
    rw [fp_b2] at b2 b4
    have h0q : (-(T : Int)) ≤ FP.Core.b64.qmin := by rw [fp_b1]; omega
    have h0e : (-(T : Int)) ≤ q1 - q2 := by omega
    have hin : FP.Core.inUnits c1 (q1 - q2) (-(T : Int)) ≤ FP.Core.zmag FP.Core.b64 (.fin false c3 q3) * 2 ^ (FP.Core.b64.qmin - (-(T : Int))).toNat * c2 := by
      rw [← FP.Core.units_fin fP h0q]
      have m1 := fp_mag hW (T + U) (by omega)
      have m2 := fp_mag hC U (by omega)
      have m3 := fp_mag hP T (by omega)
      unfold FP.Core.inUnits
      refine Nat.le_of_mul_le_mul_right (c := 2 ^ (q2 + U).toNat) ?_ (Nat.two_pow_pos _)
      have e1 : c1 * 2 ^ (q1 - q2 - (-(T : Int))).toNat * 2 ^ (q2 + U).toNat = L.toInt.natAbs * 2 ^ (T + U) := by
        rw [← m1, Nat.mul_assoc, ← Nat.pow_add]
        congr 2
        omega
      have e2 : c3 * 2 ^ (q3 - (-(T : Int))).toNat * c2 * 2 ^ (q2 + U).toNat = (c.toInt.natAbs * p.toInt.natAbs) * 2 ^ (T + U) := by
        rw [Nat.mul_assoc (c3 * _) c2, m2, show q3 - (-(T : Int)) = q3 + T by omega, m3, Nat.pow_add]
        ac_rfl
      rw [e1, e2]
      refine Nat.mul_le_mul_right _ ?_
      rw [← Int.natAbs_mul]
      have : 0 ≤ c.toInt * p.toInt := Int.le_trans hL0 hL
      omega
    have hz := FP.Core.zmag_roundRatio_le FP.Core.good_b64 (s := (false != false)) (A := c1) (B := c2) (e := q1 - q2) (Nat.pos_of_ne_zero hc2) fP (fun h => by cases h) h0q h0e hin
    rw [FP.Core.order_zval FP.Core.good_b64 (FP.Core.roundRatio_fits FP.Core.good_b64 _ _ (Nat.pos_of_ne_zero hc2) _) fP (FP.Core.roundRatio_ne_nan _ _ _ _ _) (fun h => by cases h)]
    refine cmp_ngt ?_
    unfold FP.Core.zval
    rw [FP.Core.sgn_roundRatio]
    show ((FP.Core.zmag FP.Core.b64 (FP.Core.roundRatio FP.Core.b64 (false != false) c1 c2 (q1 - q2)) : Nat) : Int) ≤ ((FP.Core.zmag FP.Core.b64 (.fin false c3 q3) : Nat) : Int)
    exact Int.ofNat_le.mpr hz
