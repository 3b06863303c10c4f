/-! The class beside the reference: a voice's sample -/
theorem k10 {P : Nat → Prop} (h0 : P 0) (h1 : P 1) (h2 : P 2) (h3 : P 3) (h4 : P 4) (h5 : P 5) (h6 : P 6) (h7 : P 7) (h8 : P 8) (h9 : P 9) : ∀ k, k < 10 → P k := by
  intro k hk
  have : k = 0 ∨ k = 1 ∨ k = 2 ∨ k = 3 ∨ k = 4 ∨ k = 5 ∨ k = 6 ∨ k = 7 ∨ k = 8 ∨ k = 9 := by omega
  rcases this with e | e | e | e | e | e | e | e | e | e <;> subst e <;> assumption
def RI (S : Mm) (o1 : Nat) (T : Mm) (p : Int32) : Prop := ∀ k, k < 12 → S o1 k = rX10_told T p (nI k)
theorem val_fr {T T' : Mm} (h : T' 1 = T 1) (x y : Int32) : rX10_value T' x y = rX10_value T x y := by
  unfold rX10_value
  rw [h]
theorem RW_fr {S S' T T' : Mm} (hS : S' 4 = S 4) (hT : T' 1 = T 1) (h : RW S T) : RW S' T' := fun w hw k hk => by rw [hS, val_fr hT]; exact h w hw k hk
theorem told_w {T : Mm} {p : Int32} (hV : vp_in (T 5 p.toNatClampNeg) 4) (hI : ∀ i, i < 4 → iJ T i) : vp_in (rX10_told T p 0) 4 ∧ vp_in (rX10_told T p 1) 4 := by
  obtain ⟨i, hi, -, ht⟩ := told_at hV
  have hJ := hI i hi
  unfold iJ at hJ
  refine ⟨?_, ?_⟩
  · rw [show (0 : Int32) = nI 0 from rfl, ht 0 (by decide)]; exact hJ.1
  · rw [show (1 : Int32) = nI 1 from rfl, ht 1 (by decide)]; exact hJ.2.1
theorem vib_eq {S T : Mm} {o1 : Nat} {p c : Int32} {K : Int} (hW : RW S (fX10_goOnLevel T p)) (hI : RI S o1 T p) (hV : iV T p.toNatClampNeg) (hJ : ∀ i, i < 4 → iJ T i) (hk : rg (T 0 28) 0 K) (hc : c = T 0 28) : rX1_vibratoAt S o1 c = (rX10_told T p 10 * vX10_gives_2 T p) / 1000 := by
  have i10 : S o1 10 = rX10_told T p 10 := hI 10 (by decide)
  have i11 : S o1 11 = rX10_told T p 11 := hI 11 (by decide)
  have hn := (tn0 hV hJ).2.2.2
  have h11 := (told_rg hV hJ).2.2
  unfold rX1_vibratoAt vX1_vibratoAt_2 jX1_vibratoAt_1 vX10_gives_2 vX10_gives_1 rX9_quotient
  rw [i10, i11, if_neg hn, if_neg hn, gl_told, gl_0, hc, at_eq hW (vp_in_lit (by decide)) (clk_ph hk h11)]
theorem give_eq {S T : Mm} {o o1 v : Nat} {B K : Int} {c : Int32} (hv : v < 4) (hne : o1 ≠ o) (ho4 : 4 ≠ o) (ho37 : 37 ≠ o) (R : RVv B S o T v) (hW : RW S T) (hZ : RZ S) (hI : RI S o1 T (nI v)) (hD : iD T K) (hc : c = T 0 28) : rX7_give S o o1 c = rX10_gives T (nI v) ∧ RVv B (fX7_give S o o1 c) o (fX10_gives T (nI v)) v := by
  obtain ⟨R1, R2, R3, R4⟩ := R
  have hcl : (nI v).toNatClampNeg = v := nI_clamp (by omega)
  have hV : iV T (nI v).toNatClampNeg := by rw [hcl]; exact hD.1 v hv
  have hV' : iV T v := hD.1 v hv
  have hJ := hD.2.1
  have hk : rg (T 0 28) 0 K := hD.2.2.2.2.1
  have tn := tn0 hV hJ
  have r0 : S o 0 = T 3 v := R1 0 (by decide)
  have r1 : S o 1 = T 4 v := R1 1 (by decide)
  have i2 : S o1 2 = rX10_told T (nI v) 2 := hI 2 (by decide)
  have i3 : S o1 3 = rX10_told T (nI v) 3 := hI 3 (by decide)
  have i4 : S o1 4 = rX10_told T (nI v) 4 := hI 4 (by decide)
  have i5 : S o1 5 = rX10_told T (nI v) 5 := hI 5 (by decide)
  have i6 : S o1 6 = rX10_told T (nI v) 6 := hI 6 (by decide)
  have i7 : S o1 7 = rX10_told T (nI v) 7 := hI 7 (by decide)
  have i8 : S o1 8 = rX10_told T (nI v) 8 := hI 8 (by decide)
  have i9 : S o1 9 = rX10_told T (nI v) 9 := hI 9 (by decide)
  have i0 : S o1 0 = rX10_told T (nI v) 0 := hI 0 (by decide)
  have i1 : S o1 1 = rX10_told T (nI v) 1 := hI 1 (by decide)
  rcases Decidable.em (T 3 v = 0) with h0 | h0
  · have hs0 : S o 0 = 0 := r0.trans h0
    have e1 : fX7_moveLevel S o o1 = S := ml_0 hs0
    have e2 : fX7_give S o o1 c = S := by unfold fX7_give; rw [e1, if_pos hs0]
    have e3 : fX10_gives T (nI v) = T := by unfold fX10_gives; rw [hcl, if_pos h0]
    refine ⟨?_, ?_⟩
    · unfold rX7_give rX10_gives
      rw [e1, if_pos hs0, hcl, if_pos h0]
    · rw [e2, e3]
      exact ⟨R1, R2, R3, R4⟩
  · have hst : T 3 v = 1 ∨ T 3 v = 2 ∨ T 3 v = 3 ∨ T 3 v = 4 := (st_cases R3).resolve_left h0
    have ml := ml_LV (S := S) (o := o) (o1 := o1) (by rw [i4]; exact tn.1) (by rw [i5]; exact tn.2.1) (by rw [i7]; exact tn.2.2.1) (by rw [r0]; exact hst)
    have gl := gl_LV (T := T) (p := nI v) (by rw [hcl]; exact hst)
    rw [hcl] at gl
    have eq : (fX7_moveLevel S o o1 o 0, fX7_moveLevel S o o1 o 1) = (fX10_goOnLevel T (nI v) 3 v, fX10_goOnLevel T (nI v) 4 v) := by rw [ml, gl, r0, r1, i4, i5, i6, i7]
    have m0 : fX7_moveLevel S o o1 o 0 = fX10_goOnLevel T (nI v) 3 v := (Prod.mk.inj eq).1
    have m1 : fX7_moveLevel S o o1 o 1 = fX10_goOnLevel T (nI v) 4 v := (Prod.mk.inj eq).2
    have st1 : vp_in (fX10_goOnLevel T (nI v) 3 v) 5 := by
      have h := LV_st (l := T 4 v) (a := rX10_told T (nI v) 4) (b := rX10_told T (nI v) 5) (c := rX10_told T (nI v) 6) (d := rX10_told T (nI v) 7) hst
      rw [← gl] at h
      exact h
    rcases Decidable.em (fX10_goOnLevel T (nI v) 3 v = 0) with h1 | h1
    · have e2 : fX7_give S o o1 c = fX7_moveLevel S o o1 := by unfold fX7_give; rw [if_pos (m0.trans h1)]
      have e3 : fX10_gives T (nI v) = fX10_goOnLevel T (nI v) := by unfold fX10_gives; rw [hcl, if_neg h0, if_pos h1]
      refine ⟨?_, ?_⟩
      · unfold rX7_give rX10_gives
        rw [if_pos (m0.trans h1), hcl, if_neg h0, if_pos h1]
      · rw [e2, e3]
        have go : ∀ k, 2 ≤ k → k < 10 → fX7_moveLevel S o o1 o k = fX10_goOnLevel T (nI v) (3 + k) v := fun k h2 h3 => by
          rw [mlv_k (by omega) (by omega), gl_fr (by omega) (by omega)]
          exact R1 k h3
        exact ⟨k10 m0 m1 (go 2 (by decide) (by decide)) (go 3 (by decide) (by decide)) (go 4 (by decide) (by decide)) (go 5 (by decide) (by decide)) (go 6 (by decide) (by decide)) (go 7 (by decide) (by decide)) (go 8 (by decide) (by decide)) (go 9 (by decide) (by decide)), Or.inl h1, st1, by rw [gl_fr (by decide) (by decide)]; exact R4⟩
    · have e2 : fX7_give S o o1 c = mX7_give_1 S o o1 c := by unfold fX7_give; rw [if_neg (fun q => h1 (m0.symm.trans q))]
      have e3 : fX10_gives T (nI v) = mX10_gives_16 T (nI v) := by unfold fX10_gives; rw [hcl, if_neg h0, if_neg h1]
      have hW1 : RW (fX7_moveLevel S o o1) (fX10_goOnLevel T (nI v)) := RW_fr (mlv_n ho4) (gl_fr (by decide) (by decide)) hW
      have hZ1 : RZ (fX7_moveLevel S o o1) := fun k hk => by rw [mlv_n ho37]; exact hZ k hk
      have hI1 : RI (fX7_moveLevel S o o1) o1 T (nI v) := fun k hk => by rw [mlv_n hne]; exact hI k hk
      have vb := vib_eq hW1 hI1 hV hJ hk hc
      have br := bend_rg hV hJ hk
      rw [gl_told] at br
      have r3 : fX7_moveLevel S o o1 o 3 = T 6 v := by rw [mlv_k (by decide) (by decide)]; exact R1 3 (by decide)
      have r4 : fX7_moveLevel S o o1 o 4 = T 7 v := by rw [mlv_k (by decide) (by decide)]; exact R1 4 (by decide)
      have r5 : fX7_moveLevel S o o1 o 5 = T 8 v := by rw [mlv_k (by decide) (by decide)]; exact R1 5 (by decide)
      have r6 : fX7_moveLevel S o o1 o 6 = T 9 v := by rw [mlv_k (by decide) (by decide)]; exact R1 6 (by decide)
      have r7 : fX7_moveLevel S o o1 o 7 = T 10 v := by rw [mlv_k (by decide) (by decide)]; exact R1 7 (by decide)
      have r8 : fX7_moveLevel S o o1 o 8 = T 11 v := by rw [mlv_k (by decide) (by decide)]; exact R1 8 (by decide)
      have sr := str_lo' hV'.2.1
      have sb := (rg_add sr br (by decide) (by decide)).1
      have tw := told_w hV.1 hJ
      have st : rX9_strideOf (fX7_moveLevel S o o1) (T 6 v) = rX10_stride (T 6 v) := str_eq hZ1 hV'.2.1
      have os : rX7_oscillate (fX7_moveLevel S o o1) o o1 c = vX10_gives_5 T (nI v) / 100 := by
        rw [cg_os hne, rf_os, mlv_n hne, i0, i1, i3, r5, r6, hcl, at_eq hW1 tw.1 hV'.2.2.1, at_eq hW1 tw.2 hV'.2.2.2]
      have p5 : mX7_give_1 S o o1 c o 5 = mX10_gives_16 T (nI v) 8 v := by
        have hr := (rg_add (rg_vp hV'.2.2.1 (by decide)) sb (by decide) (by decide)).1
        unfold mX7_give_1
        rw [fl_k (by decide) (by decide), cg_p1, r5, r3, st, vb, fm65 (rg_w hr (by decide) (Int.le_refl _)) (by decide), g16_8, hcl, pk_us]
        unfold vX10_gives_7 vX10_gives_6
        rw [gl_told, gl_8, gl_6, hcl, Int32.add_assoc (T 8 v) (rX10_stride (T 6 v))]
      have p6 : mX7_give_1 S o o1 c o 6 = mX10_gives_16 T (nI v) 9 v := by
        have hr := (rg_add (rg_add (rg_vp hV'.2.2.2 (by decide)) sb (by decide) (by decide)).1 (told_rg hV hJ).1 (by decide) (by decide)).1
        unfold mX7_give_1
        rw [fl_k (by decide) (by decide), cg_p2 hne, r6, r3, st, vb, mlv_n hne, i2, fm65 (rg_w hr (by decide) (Int.le_refl _)) (by decide), g16_9, hcl, pk_us]
        unfold vX10_gives_10 vX10_gives_9
        have t8 : rX10_told (mX10_gives_8 T (nI v)) (nI v) 2 = rX10_told T (nI v) 2 := told_fr (by rw [g8_n (by decide), gl_5]) (by rw [g8_n (by decide), gl_2])
        rw [t8, gl_told, g8_n (by decide), gl_9, gl_6, hcl, Int32.add_assoc (T 9 v) (rX10_stride (T 6 v))]
      have p7 : mX7_give_1 S o o1 c o 7 = mX10_gives_16 T (nI v) 10 v := by
        have h := rf_f1 (T := T) (p := nI v)
        rw [hcl] at h
        unfold mX7_give_1
        rw [h, cg_f1 hne, os_n hne, os_k (k := 7) (by decide) (by decide), os_k (k := 8) (by decide) (by decide), mlv_n hne, r7, r8, i8]
      have p8 : mX7_give_1 S o o1 c o 8 = mX10_gives_16 T (nI v) 11 v := by
        have h := rf_f2 (T := T) (p := nI v)
        rw [hcl] at h
        unfold mX7_give_1
        rw [h, cg_f2 hne, os_n hne, os_k (k := 7) (by decide) (by decide), os_k (k := 8) (by decide) (by decide), mlv_n hne, r7, r8, i8, i9, os]
      have q0 : mX7_give_1 S o o1 c o 0 = mX10_gives_16 T (nI v) 3 v := by
        unfold mX7_give_1
        rw [fl_k (by decide) (by decide), os_k (by decide) (by decide), m0, rf_3]
      have q1 : mX7_give_1 S o o1 c o 1 = mX10_gives_16 T (nI v) 4 v := by
        unfold mX7_give_1
        rw [fl_k (by decide) (by decide), os_k (by decide) (by decide), m1, rf_4]
      have q4 : mX7_give_1 S o o1 c o 4 = T 7 v := by
        unfold mX7_give_1
        rw [fl_k (by decide) (by decide), os_k (by decide) (by decide), r4]
      have go : ∀ k, (k = 2 ∨ k = 3 ∨ k = 4 ∨ k = 9 ∨ k = 10) → mX7_give_1 S o o1 c o k = S o k := fun k h2 => by
        unfold mX7_give_1
        rw [fl_k (by omega) (by omega), os_k (by omega) (by omega), mlv_k (by omega) (by omega)]
      have gt : ∀ k, (k = 5 ∨ k = 6 ∨ k = 7 ∨ k = 12 ∨ k = 13) → mX10_gives_16 T (nI v) k = T k := fun k h2 => g16_fr (by omega) (by omega) (by omega) (by omega) (by omega) (by omega)
      refine ⟨?_, ?_⟩
      · have h := rf_out (T := T) (p := nI v) (by rw [hcl]; exact h0) (by rw [hcl]; exact h1)
        rw [hcl] at h
        rw [h]
        unfold rX7_give vX7_give_2 OUT
        rw [if_neg (fun q => h1 (m0.symm.trans q)), p7, q4, q1, rf_4]
      · rw [e2, e3]
        refine ⟨k10 q0 q1 ?_ ?_ ?_ p5 p6 p7 p8 ?_, ?_, ?_, ?_⟩
        · rw [go 2 (by decide), gt 5 (by decide)]; exact R1 2 (by decide)
        · rw [go 3 (by decide), gt 6 (by decide)]; exact R1 3 (by decide)
        · rw [go 4 (by decide), gt 7 (by decide)]; exact R1 4 (by decide)
        · rw [go 9 (by decide), gt 12 (by decide)]; exact R1 9 (by decide)
        · refine Or.inr ?_
          rw [go 10 (by decide), gt 13 (by decide)]
          exact R2.resolve_left h0
        · rw [rf_3]; exact st1
        · rw [gt 13 (by decide)]; exact R4
