/-! the law's object sets: what it keeps beside the class -/
def cB (a : Nat → Nat) (cA c2 c3 : ClassId) (β ρ : Nat → Nat) (b : Nat) (wr : Nat → Nat → Option Nat) : Cf := fun o r _ => match o with
  | 0 => .inr (10, bcl a β ρ b r)
  | 1 => .inl (cA, 32, .inl r)
  | 2 => .inl (c2, 4, .inr (.inr (.inr (.inr (fun k => some (β (3 + k)))))))
  | 3 => .inl (cA, 12, .inl r)
  | 4 => .inl (cA, 12, .inl r)
  | 5 => .inl (cA, 12, .inl r)
  | 6 => .inl (cA, 12, .inl r)
  | 7 => .inl (c3, 3, .inr (.inr (.inr (.inr (fun k => some (β (8 + k)))))))
  | 8 => .inl (c2, 8, .inr (.inr (.inr (.inr (wr 0)))))
  | 9 => .inl (c2, 8, .inr (.inr (.inr (.inr (wr 1)))))
  | _ => .inl (c2, 8, .inr (.inr (.inr (.inr (wr 2)))))
abbrev wB (a : Nat → Nat) (cA c2 c3 : ClassId) (β ρ : Nat → Nat) (b : Nat) (wr : Nat → Nat → Option Nat) (S : Mm) (L : Int64) (B : Mm) (X : va_W) : va_W := wG 37 a (cM a cA) S L ++ (wG 11 β (cB a cA c2 c3 β ρ b wr) B 0 ++ X)
section WB
variable {a : Nat → Nat} {cA c2 c3 : ClassId} {β ρ : Nat → Nat} {b : Nat} {wr : Nat → Nat → Option Nat} {S : Mm} {L : Int64} {B : Mm} {X : va_W} {r : Nat → Int32} {L9 : Int64}
theorem cB_i {i : Nat} (hi : i < 4) : cB a cA c2 c3 β ρ b wr (3 + i) r L9 = .inl (cA, 12, .inl r) := by
  rcases v4 hi with rfl | rfl | rfl | rfl <;> rfl
theorem cB_w {t : Nat} (ht : t < 3) : cB a cA c2 c3 β ρ b wr (8 + t) r L9 = .inl (c2, 8, .inr (.inr (.inr (.inr (wr t))))) := by
  rcases (show t = 0 ∨ t = 1 ∨ t = 2 by omega) with rfl | rfl | rfl <;> rfl
theorem wB_get {o : Nat} (h : o < 11) : (wB a cA c2 c3 β ρ b wr S L B X)[37 + o]? = some (β o, cB a cA c2 c3 β ρ b wr o (B o) 0) := by
  show (wG 37 a (cM a cA) S L ++ _)[37 + o]? = _
  rw [List.getElem?_append_right (by rw [wG_len]; omega), wG_len, Nat.add_sub_cancel_left, List.getElem?_append_left (by rw [wG_len]; exact h), wG_get h]
theorem wB_set {o k : Nat} {x : Int32} {e : va_E} (h : o < 11) (he : cB a cA c2 c3 β ρ b wr o (upd (B o) k x) 0 = e) : (wB a cA c2 c3 β ρ b wr S L B X).set (37 + o) (β o, e) = wB a cA c2 c3 β ρ b wr S L (up2 B o k x) X := by
  show (wG 37 a (cM a cA) S L ++ _).set (37 + o) _ = _
  rw [List.set_append_right _ _ (by rw [wG_len]; omega), wG_len, Nat.add_sub_cancel_left, List.set_append_left _ _ (by rw [wG_len]; exact h), wG_up h he]
theorem wB_d {x : Int32} : (wB a cA c2 c3 β ρ b wr S L B X).set 37 (β 0, .inr (10, bcl a β ρ b (upd (B 0) 2 x))) = wB a cA c2 c3 β ρ b wr S L (up2 B 0 2 x) X := wB_set (o := 0) (by decide) rfl
theorem wB_f {k : Nat} {x : Int32} {fs : List Value} (hf : bcl a β ρ b (upd (B 0) k x) = fs) : (wB a cA c2 c3 β ρ b wr S L B X).set 37 (β 0, .inr (10, fs)) = wB a cA c2 c3 β ρ b wr S L (up2 B 0 k x) X := wB_set (o := 0) (by decide) (by rw [← hf]; rfl)
theorem wB_f8 {x : Int32} : (wB a cA c2 c3 β ρ b wr S L B X).set 37 (β 0, .inr (10, (bcl a β ρ b (B 0)).set 8 (.int x))) = wB a cA c2 c3 β ρ b wr S L (up2 B 0 8 x) X := wB_f rfl
theorem wB_f9 {x : Int32} : (wB a cA c2 c3 β ρ b wr S L B X).set 37 (β 0, .inr (10, (bcl a β ρ b (B 0)).set 9 (.int x))) = wB a cA c2 c3 β ρ b wr S L (up2 B 0 9 x) X := wB_f rfl
theorem wB_f10 {x : Int32} : (wB a cA c2 c3 β ρ b wr S L B X).set 37 (β 0, .inr (10, (bcl a β ρ b (B 0)).set 10 (.int x))) = wB a cA c2 c3 β ρ b wr S L (up2 B 0 10 x) X := wB_f rfl
theorem wB_1 {j : Nat} {x : Int32} : (wB a cA c2 c3 β ρ b wr S L B X).set (37 + 1) (β 1, .inl (cA, 32, .inl (upd (B 1) j x))) = wB a cA c2 c3 β ρ b wr S L (up2 B 1 j x) X := wB_set (o := 1) (by decide) rfl
theorem wB_i {i j : Nat} {x : Int32} (hi : i < 4) : (wB a cA c2 c3 β ρ b wr S L B X).set (37 + (3 + i)) (β (3 + i), .inl (cA, 12, .inl (upd (B (3 + i)) j x))) = wB a cA c2 c3 β ρ b wr S L (up2 B (3 + i) j x) X := wB_set (by omega) (cB_i hi)
theorem wB_recv {s : State} {H : Heap} {G : va_G} {tys : List (ClassId × FieldType)} (hK : va_K G vwCl tys s) (hP : va_P G vwCl (wB a cA c2 c3 β ρ b wr S L B X) H) : ∃ cell : Cell, H[β 0]? = some cell ∧ cell.vm.isStatics = false ∧ s.vm.findClass RX10 = some cell.cls :=
  va_recv (q := (RX10, TX10, 22)) (ci := 10) hK hP rfl (wB_get (o := 0) (by decide))
end WB
section SB
variable {p : Program} {l : Launch} {e : Env} {R : Room} {s : State} {m : MethodId} {args : Array Value} {below : List Frame} {meth : Method} {c : Code} {H : Heap} {locs : List Loc} {cells slots : Nat} {Q : State → Prop}
variable {cc : ByteArray} {pc : Nat} {ls : Array Slot} {rest : List Value} {G : va_G} {A0 : Nat → Prop} {cA c2 c3 : ClassId} {H0 : Heap} {ws : va_W}
theorem s_ild (hx : p.tables.exec = Jvm.exec) (hb : c.code = cc) (hK : va_K G vwCl (tyB cA c2 c3) s) (hP : va_P G vwCl ws H) {q0 q n : Nat} {f : Nat → Int32} (ha : ws[q0]? = some (q, .inl (cA, n, .inl f))) {i : Int32} (hin : vp_in i n) {j : Nat} (hj : i.toNatClampNeg = j) {v : Int32} (hv : f j = v) (hdg : decode cc pc = .ok (.iaload, 1))
    (kk : W p l e R s m args below meth c H locs cells slots Q (F0 m (pc + 1) ls (.int v :: rest))) : W p l e R s m args below meth c H locs cells slots Q (F0 m pc ls (.int i :: .ref q :: rest)) := by
  subst hj; subst hv
  exact va_iald hx hb hK hP q0 0 ha rfl hin hdg kk
theorem s_ist (hx : p.tables.exec = Jvm.exec) (hb : c.code = cc) (hK : va_K G vwCl (tyB cA c2 c3) s) (hP : va_P G vwCl ws H) (hD : va_D A0 ws) (hS : va_S A0 H0 H locs) {q0 q n : Nat} {f : Nat → Int32} (ha : ws[q0]? = some (q, .inl (cA, n, .inl f))) {i x : Int32} (hin : vp_in i n) {j : Nat} (hj : i.toNatClampNeg = j) (hdg : decode cc pc = .ok (.iastore, 1))
    (kk : ∀ (H1 : Heap) (locs1 : List Loc), va_P G vwCl (ws.set q0 (q, .inl (cA, n, .inl (upd f j x)))) H1 → va_D A0 (ws.set q0 (q, .inl (cA, n, .inl (upd f j x)))) → va_S A0 H0 H1 locs1 → W p l e R s m args below meth c H1 locs1 cells slots Q (F0 m (pc + 1) ls rest)) : W p l e R s m args below meth c H locs cells slots Q (F0 m pc ls (.int x :: .int i :: .ref q :: rest)) := by
  subst hj
  exact va_iast hx hb hK hP hD hS q0 0 ha rfl hin hdg kk
end SB
theorem dr_rg {B B' : Mm} {K : Int} (h : rg (B 0 2) 0 K) (hK : K < 2000000000) (hB : B' = up2 B 0 2 (B 0 2 + 1)) : rg (B' 0 2) 0 (K + 1) := by
  rw [hB, up2_h]
  have e1 : (1 : Int32).toInt = 1 := by decide
  exact rg_w (rg_add h (rg_c e1) (by omega) (by omega)).1 (by omega) (by omega)
theorem row_rg {B B' : Mm} {K : Int} {o k : Nat} {x : Int32} (h : rg (B 0 2) 0 K) (ho : o ≠ 0) (hB : B' = up2 B o k x) : rg (B' 0 2) 0 K := by
  rw [hB, up2_n (by omega)]
  exact h
theorem fld_rg {B B' : Mm} {K : Int} {k : Nat} {x : Int32} (h : rg (B 0 2) 0 K) (hk : k ≠ 2) (hB : B' = up2 B 0 k x) : rg (B' 0 2) 0 K := by
  rw [hB, up2_k (by omega)]
  exact h
theorem rg_ge {x lo : Int32} {A B C : Int} (h : rg x A B) (hl : lo.toInt = C) (hC : C ≤ A) : ¬ x < lo := by
  rw [Int32.lt_iff_toInt_lt, hl]
  unfold rg at h
  omega
theorem rg_lt {x hi : Int32} {A B C : Int} (h : rg x A B) (hl : hi.toInt = C) (hC : B < C) : x < hi := by
  rw [Int32.lt_iff_toInt_lt, hl]
  unfold rg at h
  omega
theorem rg_le {x hi : Int32} {A B C : Int} (h : rg x A B) (hl : hi.toInt = C) (hC : B ≤ C) : x ≤ hi := by
  rw [Int32.le_iff_toInt_le, hl]
  unfold rg at h
  omega
theorem vp_rg {x : Int32} {n : Nat} (B : Int) (h : vp_in x n) (hB : (n : Int) = B + 1) (hn : n < 2147483648) : rg x 0 B := rg_w (rg_vp h hn) (Int.le_refl _) (by omega)
theorem vp_nI {x : Int32} {n : Nat} (h : vp_in x n) (hn : n < 2 ^ 31) : ∃ i : Nat, i < n ∧ x = nI i := by
  obtain ⟨j, h1, h2, e⟩ := rg_nI (rg_vp h hn)
  exact ⟨j, by omega, e⟩
/-- the class's settings are those that the law's object keeps -/
def RB (S B : Mm) : Prop := (∀ i, i < 4 → ∀ k, k < 12 → S (14 + i) k = B (3 + i) k) ∧ (∀ k, k < 32 → S 4 (96 + k) = B 1 k) ∧ S 1 2 = B 0 8
theorem RB_dr {S B : Mm} {k : Nat} {x : Int32} (hk : k ≠ 8) (h : RB S B) : RB S (up2 B 0 k x) := by
  refine ⟨fun i hi k9 hk9 => ?_, fun k9 hk9 => ?_, ?_⟩
  · rw [up2_n (by omega)]; exact h.1 i hi k9 hk9
  · rw [up2_n (by omega)]; exact h.2.1 k9 hk9
  · rw [up2_k (by omega)]; exact h.2.2
theorem RB_up {S B : Mm} {i k : Nat} {x : Int32} (hi : i < 4) (h : RB S B) : RB (up2 S (14 + i) k x) (up2 B (3 + i) k x) := by
  refine ⟨fun j hj k9 hk9 => ?_, fun k9 hk9 => ?_, ?_⟩
  · by_cases e : j = i
    · subst e
      rw [up2_s, up2_s]
      by_cases e2 : k9 = k
      · subst e2
        rw [pk_us, pk_us]
      · rw [pk_un e2, pk_un e2]
        exact h.1 j hj k9 hk9
    · rw [up2_n (by omega), up2_n (by omega)]
      exact h.1 j hj k9 hk9
  · rw [up2_n (by omega), up2_n (by omega)]; exact h.2.1 k9 hk9
  · rw [up2_n (by omega), up2_n (by omega)]; exact h.2.2
theorem RB_dw {S B : Mm} {j : Nat} {x : Int32} (h : RB S B) : RB (up2 S 4 (96 + j) x) (up2 B 1 j x) := by
  refine ⟨fun i hi k9 hk9 => ?_, fun k9 hk9 => ?_, ?_⟩
  · rw [up2_n (by omega), up2_n (by omega)]; exact h.1 i hi k9 hk9
  · by_cases e2 : k9 = j
    · subst e2
      rw [up2_h, up2_h]
    · rw [up2_k (by omega), up2_k e2]
      exact h.2.1 k9 hk9
  · rw [up2_n (by omega), up2_n (by omega)]; exact h.2.2
theorem RB_gn {S B : Mm} {x : Int32} (h : RB S B) : RB (up2 S 1 2 x) (up2 B 0 8 x) := by
  refine ⟨fun i hi k9 hk9 => ?_, fun k9 hk9 => ?_, ?_⟩
  · rw [up2_n (by omega), up2_n (by omega)]; exact h.1 i hi k9 hk9
  · rw [up2_n (by omega), up2_n (by omega)]; exact h.2.1 k9 hk9
  · rw [up2_h, up2_h]
theorem RB_fr {S S' B : Mm} (h : RB S B) (hS : ∀ o, (o = 1 ∨ o = 4 ∨ (14 ≤ o ∧ o < 18)) → S' o = S o) : RB S' B := by
  refine ⟨fun i hi k9 hk9 => ?_, fun k9 hk9 => ?_, ?_⟩
  · rw [hS (14 + i) (by omega)]; exact h.1 i hi k9 hk9
  · rw [hS 4 (by omega)]; exact h.2.1 k9 hk9
  · rw [hS 1 (by omega)]; exact h.2.2
theorem sw_f {S : Mm} {i : Nat} {p2 p3 p4 p5 : Int32} (hi : i < 4) : fX9_setWaves S (nI i) p2 p3 p4 p5 = up2 (up2 (up2 (up2 S (14 + i) 0 p2) (14 + i) 1 p3) (14 + i) 2 p4) (14 + i) 3 p5 := by
  unfold fX9_setWaves mX9_setWaves_1
  rw [io_n hi]
theorem se_f {S : Mm} {i : Nat} {p2 p3 p4 p5 : Int32} (hi : i < 4) : fX9_setEnvelope S (nI i) p2 p3 p4 p5 = up2 (up2 (up2 (up2 S (14 + i) 4 p2) (14 + i) 5 p3) (14 + i) 6 p4) (14 + i) 7 p5 := by
  unfold fX9_setEnvelope mX9_setEnvelope_1
  rw [io_n hi]
theorem sf_f {S : Mm} {i : Nat} {p2 p3 : Int32} (hi : i < 4) : fX9_setFilter S (nI i) p2 p3 = up2 (up2 S (14 + i) 8 p2) (14 + i) 9 p3 := by
  unfold fX9_setFilter
  rw [io_n hi]
theorem sv_f {S : Mm} {i : Nat} {p2 p3 : Int32} (hi : i < 4) : fX9_setVibrato S (nI i) p2 p3 = up2 (up2 S (14 + i) 10 p2) (14 + i) 11 p3 := by
  unfold fX9_setVibrato
  rw [io_n hi]
theorem sd_f {S : Mm} {j : Nat} {x : Int32} (hj : j < 32) : fX9_draw S (nI j) x = up2 S 4 (96 + j) x := by
  unfold fX9_draw fX8_redraw
  rw [show (96 : Int32) + nI j = nI (96 + j) from nI_add 96 j, put_at (N := 128) rfl (by omega)]
theorem sd_r {S : Mm} {j : Nat} {x : Int32} (hj : j < 32) : rX9_draw S (nI j) x = S 4 (96 + j) := by
  unfold rX9_draw rX8_redraw
  rw [show (96 : Int32) + nI j = nI (96 + j) from nI_add 96 j, get_at (N := 128) rfl (by omega)]
theorem JI_up {S : Mm} {o k : Nat} {x : Int32} (hk : k < 4 ∨ 8 ≤ k) (h : JI S) : JI (up2 S o k x) := by
  intro i h1 h2
  unfold JI1
  rw [up2_k (by omega), up2_k (by omega), up2_k (by omega), up2_k (by omega)]
  exact h i h1 h2
theorem JI_dw {S : Mm} {k : Nat} {x : Int32} (h : JI S) : JI (up2 S 4 k x) := JI_fr (fun i h1 h2 => up2_n (by omega)) h
theorem JI_gn {S : Mm} {k : Nat} {x : Int32} (h : JI S) : JI (up2 S 1 k x) := JI_fr (fun i h1 h2 => up2_n (by omega)) h
theorem JI_e {S : Mm} {i : Nat} {p2 p3 p4 p5 : Int32} (h : JI S) (h2 : rg p2 1 400) (h3 : rg p3 1 400) (h4 : rg p4 0 1000) (h5 : rg p5 1 400) : JI (up2 (up2 (up2 (up2 S (14 + i) 4 p2) (14 + i) 5 p3) (14 + i) 6 p4) (14 + i) 7 p5) := by
  intro j g1 g2
  by_cases e : j = 14 + i
  · subst e
    unfold JI1
    rw [up2_k (by decide), up2_k (by decide), up2_k (by decide), up2_h, up2_k (by decide), up2_k (by decide), up2_h, up2_k (by decide), up2_h, up2_h]
    exact ⟨h2, h3, h4, h5⟩
  · have e9 : (up2 (up2 (up2 (up2 S (14 + i) 4 p2) (14 + i) 5 p3) (14 + i) 6 p4) (14 + i) 7 p5) j = S j := by
      rw [up2_n e, up2_n e, up2_n e, up2_n e]
    unfold JI1
    rw [e9]
    exact h j g1 g2
def setP (S : Mm) (K : Int) (r : Int32) (u : Mm × Mm) : Prop := r = 1 ∧ RB u.1 u.2 ∧ JI u.1 ∧ (∀ o, o ≠ 1 → o ≠ 4 → (o < 14 ∨ 18 ≤ o) → u.1 o = S o) ∧ rg (u.2 0 2) 0 (K + 10)
theorem iX10_set_X10 : ∀ w ∈ u_ws RX10 TX10 22, w ∈ wsX10_set := by decide +kernel
set_option maxHeartbeats 16000000 in
set_option maxRecDepth 100000 in
theorem c_X10_set (l : Launch) (G : va_G) (cA c2 c3 : ClassId) (b N : Nat) (xs : Nat → Int32) (sz : Nat) (a β ρ : Nat → Nat) (wr : Nat → Nat → Option Nat) (S : Mm) (L : Int64) (B : Mm) (X : va_W) (hN : N ≤ 260) {K : Int} (hKK : K ≤ 1000000) (hd : rg (B 0 2) 0 K) (hRB : RB S B) (hJ : JI S) (hW : va_D (fun _ => True) (wB a cA c2 c3 β ρ b wr S L B X)) : Met l yX10_set wsX10_set ({ frames := 3, cells := 0, slots := 0, locals := 73 } : Room) (va_Pc [.ref (β 0)] (bI G cA c2 c3 (a 37) b N xs (wB a cA c2 c3 β ρ b wr S L B X) sz)) (bQi (setP S K) (fun u => wB a cA c2 c3 β ρ b wr u.1 L u.2 X) G (wB a cA c2 c3 β ρ b wr S L B X) sz) 0 0 (va_A (wB a cA c2 c3 β ρ b wr S L B X) sz) := by
  refine b_met (cc := cX10_set) (maxL := 10) (ret := some .boolean) (by decide) rfl (Nat.le_of_ble_eq_true rfl) hW ?_
  intro p e s m below meth c ls hx hb hr hlocks hml hts hown hnm hsz hK hP hD hA hS hl
  subst hsz
  have hl : lv_has ls 10 [(0, .ref (β 0))] := hl
  refine lv_aload_n hx hb dX10_set_0 rfl (lv_at hl 0 rfl) ?_
  refine lv_iconst (v := 4) hx hb dX10_set_1 (by decide) ?_
  refine v_cVi (k0 := 37) (q0 := β 0) (e0 := .inr (10, bcl a β ρ b (B 0))) (e1 := .inr (10, bcl a β ρ b (upd (B 0) 2 (B 0 2 + 1)))) (As := [.int 4]) (rest := []) ⟨hx, hb, hml, hown, hts⟩ (c_X10_draw l G cA c2 c3 (a 37) b N xs s.heap.size a β ρ (β 0) (B 0) 4 (by decide) (by decide) hN hd) (cwV 1 hts gX10_set_X10_draw rfl rfl rfl (by decide +kernel) ⟨Nat.le_of_ble_eq_true rfl, Nat.le_of_ble_eq_true rfl⟩) (wB_recv hK.1.1 hP) hK hA hP hD (wB_get (o := 0) (by decide)) hS rfl hl.1 rfl (lv_room (Nat.le_of_ble_eq_true rfl)) dX10_set_2 ⟨Nat.le_of_ble_eq_true rfl, Nat.le_of_ble_eq_true rfl⟩ (fun w1 H locs hw1 hP hD hS => ?_)
  rw [wB_d] at hP hD
  obtain ⟨B1, hB1⟩ : ∃ Z9 : Mm, Z9 = up2 B 0 2 (B 0 2 + 1) := ⟨_, rfl⟩
  rw [← hB1] at hP hD
  have hd1 := dr_rg hd (by omega) (B' := B1) hB1
  obtain ⟨i, hi, ei⟩ := vp_nI hw1 (by decide)
  rw [ei]
  refine lv_istore_n (lv' := [(1, .int (nI i)), (0, .ref (β 0))]) hx hb dX10_set_5 rfl hl (by decide) rfl (fun ls hl => ?_)
  refine lv_aload_n hx hb dX10_set_6 rfl (lv_at hl 1 rfl) ?_
  refine va_get (D := G) (ci := 10) (v := .ref (β 2)) (C := RX10) (T := TX10) (N := 22) hx hb hts iX10_set_X10 hown hK.1.1 hP 37 (wB_get (o := 0) (by decide)) rfl 4 (by decide) (hts (.fieldLink RX10 21 "MelodeonLaw$Bench" "instrument" "[[I") (by decide +kernel)) (fun _ h9 => h9) rfl dX10_set_7 ?_
  refine lv_iload_n hx hb dX10_set_10 rfl (lv_at hl 0 rfl) ?_
  refine e_aald hx hb hK.2.1 hP (37 + 2) 1 (wB_get (o := 2) (by decide)) rfl (vp_in_nI hi (by decide)) (v := .ref (β (3 + i))) (by rw [nI_clamp (by omega)]; rfl) dX10_set_11 ?_
  refine lv_astore_n (lv' := [(2, .ref (β (3 + i))), (1, .int (nI i)), (0, .ref (β 0))]) hx hb dX10_set_12 rfl hl (by decide) rfl (fun ls hl => ?_)
  refine lv_aload_n hx hb dX10_set_13 rfl (lv_at hl 2 rfl) ?_
  refine lv_bipush (v := 6) hx hb dX10_set_14 (by decide) ?_
  refine v_cVi (k0 := 37) (q0 := β 0) (e0 := .inr (10, bcl a β ρ b (B1 0))) (e1 := .inr (10, bcl a β ρ b (upd (B1 0) 2 (B1 0 2 + 1)))) (As := [.int 6]) (rest := []) ⟨hx, hb, hml, hown, hts⟩ (c_X10_draw l G cA c2 c3 (a 37) b N xs H.size a β ρ (β 0) (B1 0) 6 (by decide) (by decide) hN hd1) (cwV 1 hts gX10_set_X10_draw rfl rfl rfl (by decide +kernel) ⟨Nat.le_of_ble_eq_true rfl, Nat.le_of_ble_eq_true rfl⟩) (wB_recv hK.1.1 hP) hK hA hP hD (wB_get (o := 0) (by decide)) hS rfl hl.1 rfl (lv_room (Nat.le_of_ble_eq_true rfl)) dX10_set_16 ⟨Nat.le_of_ble_eq_true rfl, Nat.le_of_ble_eq_true rfl⟩ (fun w2 H locs hw2 hP hD hS => ?_)
  rw [wB_d] at hP hD
  obtain ⟨B2, hB2⟩ : ∃ Z9 : Mm, Z9 = up2 B1 0 2 (B1 0 2 + 1) := ⟨_, rfl⟩
  rw [← hB2] at hP hD
  have hd2 := dr_rg hd1 (by omega) (B' := B2) hB2
  obtain ⟨k9, hk9, e9⟩ := vp_nI hw2 (by decide)
  rw [e9]
  rcases (show k9 = 0 ∨ k9 = 1 ∨ k9 = 2 ∨ k9 = 3 ∨ k9 = 4 ∨ k9 = 5 by omega) with rfl | rfl | rfl | rfl | rfl | rfl
  ·
    refine lv_tableIn (off := 33) (tgt := 52) hx hb dX10_set_19 (by decide) (by decide) rfl (by decide) ?_
    refine lv_aload_n hx hb dX10_set_52 rfl (lv_at hl 0 rfl) ?_
    refine lv_iconst (v := 3) hx hb dX10_set_53 (by decide) ?_
    refine s_ild hx hb hK.2.1 hP ((wB_get (o := 3 + i) (by omega)).trans (by rw [cB_i hi])) (vp_in_lit (by decide)) (j := 3) (by decide) (v := B (3 + i) 3) (by rw [hB2, up2_n (by omega), hB1, up2_n (by omega)]) dX10_set_54 ?_
    refine lv_istore_n (lv' := [(3, .int (B (3 + i) 3)), (2, .ref (β (3 + i))), (1, .int (nI i)), (0, .ref (β 0))]) hx hb dX10_set_55 rfl hl (by decide) rfl (fun ls hl => ?_)
    refine lv_aload_n hx hb dX10_set_56 rfl (lv_at hl 1 rfl) ?_
    refine lv_iconst (v := 0) hx hb dX10_set_57 (by decide) ?_
    refine lv_aload_n hx hb dX10_set_58 rfl (lv_at hl 3 rfl) ?_
    refine lv_iconst (v := 4) hx hb dX10_set_59 (by decide) ?_
    refine v_cVi (k0 := 37) (q0 := β 0) (e0 := .inr (10, bcl a β ρ b (B2 0))) (e1 := .inr (10, bcl a β ρ b (upd (B2 0) 2 (B2 0 2 + 1)))) (As := [.int 4]) (rest := [.int 0, .ref (β (3 + i))]) ⟨hx, hb, hml, hown, hts⟩ (c_X10_draw l G cA c2 c3 (a 37) b N xs H.size a β ρ (β 0) (B2 0) 4 (by decide) (by decide) hN hd2) (cwV 1 hts gX10_set_X10_draw rfl rfl rfl (by decide +kernel) ⟨Nat.le_of_ble_eq_true rfl, Nat.le_of_ble_eq_true rfl⟩) (wB_recv hK.1.1 hP) hK hA hP hD (wB_get (o := 0) (by decide)) hS rfl hl.1 rfl (lv_room (Nat.le_of_ble_eq_true rfl)) dX10_set_60 ⟨Nat.le_of_ble_eq_true rfl, Nat.le_of_ble_eq_true rfl⟩ (fun w3 H locs hw3 hP hD hS => ?_)
    rw [wB_d] at hP hD
    obtain ⟨B3, hB3⟩ : ∃ Z9 : Mm, Z9 = up2 B2 0 2 (B2 0 2 + 1) := ⟨_, rfl⟩
    rw [← hB3] at hP hD
    have hd3 := dr_rg hd2 (by omega) (B' := B3) hB3
    refine s_ist hx hb hK.2.1 hP hD hS ((wB_get (o := 3 + i) (by omega)).trans (by rw [cB_i hi])) (vp_in_lit (by decide)) (j := 0) (by decide) dX10_set_63 (fun H locs hP hD hS => ?_)
    rw [wB_i hi] at hP hD
    obtain ⟨B4, hB4⟩ : ∃ Z9 : Mm, Z9 = up2 B3 (3 + i) 0 w3 := ⟨_, rfl⟩
    rw [← hB4] at hP hD
    have hd4 := row_rg hd3 (by omega) hB4
    refine lv_aload_n hx hb dX10_set_64 rfl (lv_at hl 1 rfl) ?_
    refine lv_iconst (v := 1) hx hb dX10_set_65 (by decide) ?_
    refine lv_aload_n hx hb dX10_set_66 rfl (lv_at hl 3 rfl) ?_
    refine lv_iconst (v := 4) hx hb dX10_set_67 (by decide) ?_
    refine v_cVi (k0 := 37) (q0 := β 0) (e0 := .inr (10, bcl a β ρ b (B4 0))) (e1 := .inr (10, bcl a β ρ b (upd (B4 0) 2 (B4 0 2 + 1)))) (As := [.int 4]) (rest := [.int 1, .ref (β (3 + i))]) ⟨hx, hb, hml, hown, hts⟩ (c_X10_draw l G cA c2 c3 (a 37) b N xs H.size a β ρ (β 0) (B4 0) 4 (by decide) (by decide) hN hd4) (cwV 1 hts gX10_set_X10_draw rfl rfl rfl (by decide +kernel) ⟨Nat.le_of_ble_eq_true rfl, Nat.le_of_ble_eq_true rfl⟩) (wB_recv hK.1.1 hP) hK hA hP hD (wB_get (o := 0) (by decide)) hS rfl hl.1 rfl (lv_room (Nat.le_of_ble_eq_true rfl)) dX10_set_68 ⟨Nat.le_of_ble_eq_true rfl, Nat.le_of_ble_eq_true rfl⟩ (fun w4 H locs hw4 hP hD hS => ?_)
    rw [wB_d] at hP hD
    obtain ⟨B5, hB5⟩ : ∃ Z9 : Mm, Z9 = up2 B4 0 2 (B4 0 2 + 1) := ⟨_, rfl⟩
    rw [← hB5] at hP hD
    have hd5 := dr_rg hd4 (by omega) (B' := B5) hB5
    refine s_ist hx hb hK.2.1 hP hD hS ((wB_get (o := 3 + i) (by omega)).trans (by rw [cB_i hi])) (vp_in_lit (by decide)) (j := 1) (by decide) dX10_set_71 (fun H locs hP hD hS => ?_)
    rw [wB_i hi] at hP hD
    obtain ⟨B6, hB6⟩ : ∃ Z9 : Mm, Z9 = up2 B5 (3 + i) 1 w4 := ⟨_, rfl⟩
    rw [← hB6] at hP hD
    have hd6 := row_rg hd5 (by omega) hB6
    refine lv_aload_n hx hb dX10_set_72 rfl (lv_at hl 1 rfl) ?_
    refine lv_iconst (v := 2) hx hb dX10_set_73 (by decide) ?_
    refine lv_aload_n hx hb dX10_set_74 rfl (lv_at hl 3 rfl) ?_
    refine lv_sipush (v := 129) hx hb dX10_set_75 (by decide) ?_
    refine v_cVi (k0 := 37) (q0 := β 0) (e0 := .inr (10, bcl a β ρ b (B6 0))) (e1 := .inr (10, bcl a β ρ b (upd (B6 0) 2 (B6 0 2 + 1)))) (As := [.int 129]) (rest := [.int 2, .ref (β (3 + i))]) ⟨hx, hb, hml, hown, hts⟩ (c_X10_draw l G cA c2 c3 (a 37) b N xs H.size a β ρ (β 0) (B6 0) 129 (by decide) (by decide) hN hd6) (cwV 1 hts gX10_set_X10_draw rfl rfl rfl (by decide +kernel) ⟨Nat.le_of_ble_eq_true rfl, Nat.le_of_ble_eq_true rfl⟩) (wB_recv hK.1.1 hP) hK hA hP hD (wB_get (o := 0) (by decide)) hS rfl hl.1 rfl (lv_room (Nat.le_of_ble_eq_true rfl)) dX10_set_78 ⟨Nat.le_of_ble_eq_true rfl, Nat.le_of_ble_eq_true rfl⟩ (fun w5 H locs hw5 hP hD hS => ?_)
    rw [wB_d] at hP hD
    obtain ⟨B7, hB7⟩ : ∃ Z9 : Mm, Z9 = up2 B6 0 2 (B6 0 2 + 1) := ⟨_, rfl⟩
    rw [← hB7] at hP hD
    have hd7 := dr_rg hd6 (by omega) (B' := B7) hB7
    refine lv_bipush (v := 64) hx hb dX10_set_81 (by decide) ?_
    refine lv_isub hx hb dX10_set_83 ?_
    refine s_ist hx hb hK.2.1 hP hD hS ((wB_get (o := 3 + i) (by omega)).trans (by rw [cB_i hi])) (vp_in_lit (by decide)) (j := 2) (by decide) dX10_set_84 (fun H locs hP hD hS => ?_)
    rw [wB_i hi] at hP hD
    obtain ⟨B8, hB8⟩ : ∃ Z9 : Mm, Z9 = up2 B7 (3 + i) 2 (w5 - 64) := ⟨_, rfl⟩
    rw [← hB8] at hP hD
    have hd8 := row_rg hd7 (by omega) hB8
    refine lv_aload_n hx hb dX10_set_85 rfl (lv_at hl 1 rfl) ?_
    refine lv_iconst (v := 3) hx hb dX10_set_86 (by decide) ?_
    refine lv_aload_n hx hb dX10_set_87 rfl (lv_at hl 3 rfl) ?_
    refine lv_iconst (v := 3) hx hb dX10_set_88 (by decide) ?_
    refine v_cVi (k0 := 37) (q0 := β 0) (e0 := .inr (10, bcl a β ρ b (B8 0))) (e1 := .inr (10, bcl a β ρ b (upd (B8 0) 2 (B8 0 2 + 1)))) (As := [.int 3]) (rest := [.int 3, .ref (β (3 + i))]) ⟨hx, hb, hml, hown, hts⟩ (c_X10_draw l G cA c2 c3 (a 37) b N xs H.size a β ρ (β 0) (B8 0) 3 (by decide) (by decide) hN hd8) (cwV 1 hts gX10_set_X10_draw rfl rfl rfl (by decide +kernel) ⟨Nat.le_of_ble_eq_true rfl, Nat.le_of_ble_eq_true rfl⟩) (wB_recv hK.1.1 hP) hK hA hP hD (wB_get (o := 0) (by decide)) hS rfl hl.1 rfl (lv_room (Nat.le_of_ble_eq_true rfl)) dX10_set_89 ⟨Nat.le_of_ble_eq_true rfl, Nat.le_of_ble_eq_true rfl⟩ (fun w6 H locs hw6 hP hD hS => ?_)
    rw [wB_d] at hP hD
    obtain ⟨B9, hB9⟩ : ∃ Z9 : Mm, Z9 = up2 B8 0 2 (B8 0 2 + 1) := ⟨_, rfl⟩
    rw [← hB9] at hP hD
    have hd9 := dr_rg hd8 (by omega) (B' := B9) hB9
    refine lv_if_ne (tgt := 99) hx hb dX10_set_92 (by decide) (fun c1 => ?_) (fun c1 => ?_)
    ·
      refine lv_aload_n hx hb dX10_set_99 rfl (lv_at hl 3 rfl) ?_
      refine lv_bipush (v := 101) hx hb dX10_set_100 (by decide) ?_
      refine v_cVi (k0 := 37) (q0 := β 0) (e0 := .inr (10, bcl a β ρ b (B9 0))) (e1 := .inr (10, bcl a β ρ b (upd (B9 0) 2 (B9 0 2 + 1)))) (As := [.int 101]) (rest := [.int 3, .ref (β (3 + i))]) ⟨hx, hb, hml, hown, hts⟩ (c_X10_draw l G cA c2 c3 (a 37) b N xs H.size a β ρ (β 0) (B9 0) 101 (by decide) (by decide) hN hd9) (cwV 1 hts gX10_set_X10_draw rfl rfl rfl (by decide +kernel) ⟨Nat.le_of_ble_eq_true rfl, Nat.le_of_ble_eq_true rfl⟩) (wB_recv hK.1.1 hP) hK hA hP hD (wB_get (o := 0) (by decide)) hS rfl hl.1 rfl (lv_room (Nat.le_of_ble_eq_true rfl)) dX10_set_102 ⟨Nat.le_of_ble_eq_true rfl, Nat.le_of_ble_eq_true rfl⟩ (fun w7 H locs hw7 hP hD hS => ?_)
      rw [wB_d] at hP hD
      obtain ⟨B10, hB10⟩ : ∃ Z9 : Mm, Z9 = up2 B9 0 2 (B9 0 2 + 1) := ⟨_, rfl⟩
      rw [← hB10] at hP hD
      have hd10 := dr_rg hd9 (by omega) (B' := B10) hB10
      refine s_ist hx hb hK.2.1 hP hD hS ((wB_get (o := 3 + i) (by omega)).trans (by rw [cB_i hi])) (vp_in_lit (by decide)) (j := 3) (by decide) dX10_set_105 (fun H locs hP hD hS => ?_)
      rw [wB_i hi] at hP hD
      obtain ⟨B11, hB11⟩ : ∃ Z9 : Mm, Z9 = up2 B10 (3 + i) 3 w7 := ⟨_, rfl⟩
      rw [← hB11] at hP hD
      have hd11 := row_rg hd10 (by omega) hB11
      refine lv_aload_n hx hb dX10_set_106 rfl (lv_at hl 3 rfl) ?_
      refine va_get (D := G) (ci := 10) (v := .ref (a 0)) (C := RX10) (T := TX10) (N := 22) hx hb hts iX10_set_X10 hown hK.1.1 hP 37 (wB_get (o := 0) (by decide)) rfl 0 (by decide) (hts (.fieldLink RX10 10 "MelodeonLaw$Bench" "m" "LMelodeon;") (by decide +kernel)) (fun _ h9 => h9) rfl dX10_set_107 ?_
      refine lv_iload_n hx hb dX10_set_110 rfl (lv_at hl 2 rfl) ?_
      refine lv_aload_n hx hb dX10_set_111 rfl (lv_at hl 1 rfl) ?_
      refine lv_iconst (v := 0) hx hb dX10_set_112 (by decide) ?_
      refine s_ild hx hb hK.2.1 hP ((wB_get (o := 3 + i) (by omega)).trans (by rw [cB_i hi])) (vp_in_lit (by decide)) (j := 0) (by decide) (v := w3) (by rw [hB11, up2_k (by decide), hB10, up2_n (by omega), hB9, up2_n (by omega), hB8, up2_k (by decide), hB7, up2_n (by omega), hB6, up2_k (by decide), hB5, up2_n (by omega), hB4, up2_h]) dX10_set_113 ?_
      refine lv_aload_n hx hb dX10_set_114 rfl (lv_at hl 1 rfl) ?_
      refine lv_iconst (v := 1) hx hb dX10_set_115 (by decide) ?_
      refine s_ild hx hb hK.2.1 hP ((wB_get (o := 3 + i) (by omega)).trans (by rw [cB_i hi])) (vp_in_lit (by decide)) (j := 1) (by decide) (v := w4) (by rw [hB11, up2_k (by decide), hB10, up2_n (by omega), hB9, up2_n (by omega), hB8, up2_k (by decide), hB7, up2_n (by omega), hB6, up2_h]) dX10_set_116 ?_
      refine lv_aload_n hx hb dX10_set_117 rfl (lv_at hl 1 rfl) ?_
      refine lv_iconst (v := 2) hx hb dX10_set_118 (by decide) ?_
      refine s_ild hx hb hK.2.1 hP ((wB_get (o := 3 + i) (by omega)).trans (by rw [cB_i hi])) (vp_in_lit (by decide)) (j := 2) (by decide) (v := w5 - 64) (by rw [hB11, up2_k (by decide), hB10, up2_n (by omega), hB9, up2_n (by omega), hB8, up2_h]) dX10_set_119 ?_
      refine lv_aload_n hx hb dX10_set_120 rfl (lv_at hl 1 rfl) ?_
      refine lv_iconst (v := 3) hx hb dX10_set_121 (by decide) ?_
      refine s_ild hx hb hK.2.1 hP ((wB_get (o := 3 + i) (by omega)).trans (by rw [cB_i hi])) (vp_in_lit (by decide)) (j := 3) (by decide) (v := w7) (by rw [hB11, up2_h]) dX10_set_122 ?_
      refine t_cVi (As := [.int (nI i), .int w3, .int w4, .int (w5 - 64), .int w7]) (rest := []) ⟨hx, hb, hml, hown, hts⟩ (c_X9_setWaves l G cA a (t_ap hD) S L H.size (nI i) w3 w4 (w5 - 64) w7 (rg_ge (vp_rg 3 (vp_in_nI hi (by decide)) (by decide) (by decide)) (C := 0) (by decide) (by decide)) (rg_lt (vp_rg 3 (vp_in_nI hi (by decide)) (by decide) (by decide)) (C := 4) (by decide) (by decide)) (rg_ge (vp_rg 3 hw3 (by decide) (by decide)) (C := 0) (by decide) (by decide)) (rg_lt (vp_rg 3 hw3 (by decide) (by decide)) (C := 4) (by decide) (by decide)) (rg_ge (vp_rg 3 hw4 (by decide) (by decide)) (C := 0) (by decide) (by decide)) (rg_lt (vp_rg 3 hw4 (by decide) (by decide)) (C := 4) (by decide) (by decide)) (rg_ge (rg_w (a' := (-64)) (b' := 64) (rg_sub (vp_rg 128 hw5 (by decide) (by decide)) (rg_c (show (64 : Int32).toInt = 64 from by decide)) (by decide) (by decide)).1 (by decide) (by decide)) (C := (-64)) (by decide) (by decide)) (rg_le (rg_w (a' := (-64)) (b' := 64) (rg_sub (vp_rg 128 hw5 (by decide) (by decide)) (rg_c (show (64 : Int32).toInt = 64 from by decide)) (by decide) (by decide)).1 (by decide) (by decide)) (C := 64) (by decide) (by decide)) (rg_ge (vp_rg 100 hw7 (by decide) (by decide)) (C := 0) (by decide) (by decide)) (rg_le (vp_rg 100 hw7 (by decide) (by decide)) (C := 100) (by decide) (by decide))) (cwV 5 hts gX10_set_X9_setWaves rfl rfl rfl (by decide +kernel) ⟨Nat.le_of_ble_eq_true rfl, Nat.le_of_ble_eq_true rfl⟩) hK.1 hA hP hD hS rfl hl.1 rfl (lv_room (Nat.le_of_ble_eq_true rfl)) dX10_set_123 ⟨Nat.le_of_ble_eq_true rfl, Nat.le_of_ble_eq_true rfl⟩ (fun H locs hP hD hS => ?_)
      refine lv_iload_n hx hb dX10_set_126 rfl (lv_at hl 0 rfl) ?_
      refine lv_icmp_ne (tgt := 134) hx hb dX10_set_127 (by decide) (fun c9 => absurd (show rX9_setWaves S (nI i) w3 w4 (w5 - 64) w7 = B (3 + i) 3 from by unfold rX9_setWaves; rw [io_n hi]; exact hRB.1 i hi 3 (by decide)) c9) (fun _ => ?_)
      refine lv_iconst (v := 1) hx hb dX10_set_130 (by decide) ?_
      refine lv_goto (tgt := 135) hx hb dX10_set_131 (by decide) ?_
      refine b_zret (u := (fX9_setWaves S (nI i) w3 w4 (w5 - 64) w7, B11)) hx hb hr hlocks rfl ⟨rfl, ?_, ?_, ?_, ?_⟩ hP hD hS dX10_set_135
      · show RB (fX9_setWaves S (nI i) w3 w4 (w5 - 64) w7) B11
        rw [sw_f hi, hB11, hB10, hB9, hB8, hB7, hB6, hB5, hB4, hB3, hB2, hB1]
        exact RB_up hi (RB_dr (by decide) (RB_dr (by decide) (RB_up hi (RB_dr (by decide) (RB_up hi (RB_dr (by decide) (RB_up hi (RB_dr (by decide) (RB_dr (by decide) (RB_dr (by decide) (hRB)))))))))))
      · show JI (fX9_setWaves S (nI i) w3 w4 (w5 - 64) w7)
        rw [sw_f hi]
        exact JI_up (by decide) (JI_up (by decide) (JI_up (by decide) (JI_up (by decide) hJ)))
      · intro o h1 h4 h14
        show (fX9_setWaves S (nI i) w3 w4 (w5 - 64) w7) o = S o
        rw [sw_f hi, up2_n (by omega), up2_n (by omega), up2_n (by omega), up2_n (by omega)]
      · exact rg_w hd11 (by omega) (by omega)
    ·
      refine lv_iconst (v := 0) hx hb dX10_set_95 (by decide) ?_
      refine lv_goto (tgt := 105) hx hb dX10_set_96 (by decide) ?_
      refine s_ist hx hb hK.2.1 hP hD hS ((wB_get (o := 3 + i) (by omega)).trans (by rw [cB_i hi])) (vp_in_lit (by decide)) (j := 3) (by decide) dX10_set_105 (fun H locs hP hD hS => ?_)
      rw [wB_i hi] at hP hD
      obtain ⟨B12, hB12⟩ : ∃ Z9 : Mm, Z9 = up2 B9 (3 + i) 3 0 := ⟨_, rfl⟩
      rw [← hB12] at hP hD
      have hd12 := row_rg hd9 (by omega) hB12
      refine lv_aload_n hx hb dX10_set_106 rfl (lv_at hl 3 rfl) ?_
      refine va_get (D := G) (ci := 10) (v := .ref (a 0)) (C := RX10) (T := TX10) (N := 22) hx hb hts iX10_set_X10 hown hK.1.1 hP 37 (wB_get (o := 0) (by decide)) rfl 0 (by decide) (hts (.fieldLink RX10 10 "MelodeonLaw$Bench" "m" "LMelodeon;") (by decide +kernel)) (fun _ h9 => h9) rfl dX10_set_107 ?_
      refine lv_iload_n hx hb dX10_set_110 rfl (lv_at hl 2 rfl) ?_
      refine lv_aload_n hx hb dX10_set_111 rfl (lv_at hl 1 rfl) ?_
      refine lv_iconst (v := 0) hx hb dX10_set_112 (by decide) ?_
      refine s_ild hx hb hK.2.1 hP ((wB_get (o := 3 + i) (by omega)).trans (by rw [cB_i hi])) (vp_in_lit (by decide)) (j := 0) (by decide) (v := w3) (by rw [hB12, up2_k (by decide), hB9, up2_n (by omega), hB8, up2_k (by decide), hB7, up2_n (by omega), hB6, up2_k (by decide), hB5, up2_n (by omega), hB4, up2_h]) dX10_set_113 ?_
      refine lv_aload_n hx hb dX10_set_114 rfl (lv_at hl 1 rfl) ?_
      refine lv_iconst (v := 1) hx hb dX10_set_115 (by decide) ?_
      refine s_ild hx hb hK.2.1 hP ((wB_get (o := 3 + i) (by omega)).trans (by rw [cB_i hi])) (vp_in_lit (by decide)) (j := 1) (by decide) (v := w4) (by rw [hB12, up2_k (by decide), hB9, up2_n (by omega), hB8, up2_k (by decide), hB7, up2_n (by omega), hB6, up2_h]) dX10_set_116 ?_
      refine lv_aload_n hx hb dX10_set_117 rfl (lv_at hl 1 rfl) ?_
      refine lv_iconst (v := 2) hx hb dX10_set_118 (by decide) ?_
      refine s_ild hx hb hK.2.1 hP ((wB_get (o := 3 + i) (by omega)).trans (by rw [cB_i hi])) (vp_in_lit (by decide)) (j := 2) (by decide) (v := w5 - 64) (by rw [hB12, up2_k (by decide), hB9, up2_n (by omega), hB8, up2_h]) dX10_set_119 ?_
      refine lv_aload_n hx hb dX10_set_120 rfl (lv_at hl 1 rfl) ?_
      refine lv_iconst (v := 3) hx hb dX10_set_121 (by decide) ?_
      refine s_ild hx hb hK.2.1 hP ((wB_get (o := 3 + i) (by omega)).trans (by rw [cB_i hi])) (vp_in_lit (by decide)) (j := 3) (by decide) (v := 0) (by rw [hB12, up2_h]) dX10_set_122 ?_
      refine t_cVi (As := [.int (nI i), .int w3, .int w4, .int (w5 - 64), .int 0]) (rest := []) ⟨hx, hb, hml, hown, hts⟩ (c_X9_setWaves l G cA a (t_ap hD) S L H.size (nI i) w3 w4 (w5 - 64) 0 (rg_ge (vp_rg 3 (vp_in_nI hi (by decide)) (by decide) (by decide)) (C := 0) (by decide) (by decide)) (rg_lt (vp_rg 3 (vp_in_nI hi (by decide)) (by decide) (by decide)) (C := 4) (by decide) (by decide)) (rg_ge (vp_rg 3 hw3 (by decide) (by decide)) (C := 0) (by decide) (by decide)) (rg_lt (vp_rg 3 hw3 (by decide) (by decide)) (C := 4) (by decide) (by decide)) (rg_ge (vp_rg 3 hw4 (by decide) (by decide)) (C := 0) (by decide) (by decide)) (rg_lt (vp_rg 3 hw4 (by decide) (by decide)) (C := 4) (by decide) (by decide)) (rg_ge (rg_w (a' := (-64)) (b' := 64) (rg_sub (vp_rg 128 hw5 (by decide) (by decide)) (rg_c (show (64 : Int32).toInt = 64 from by decide)) (by decide) (by decide)).1 (by decide) (by decide)) (C := (-64)) (by decide) (by decide)) (rg_le (rg_w (a' := (-64)) (b' := 64) (rg_sub (vp_rg 128 hw5 (by decide) (by decide)) (rg_c (show (64 : Int32).toInt = 64 from by decide)) (by decide) (by decide)).1 (by decide) (by decide)) (C := 64) (by decide) (by decide)) (rg_ge (rg_c (show (0 : Int32).toInt = 0 from by decide)) (C := 0) (by decide) (by decide)) (rg_le (rg_c (show (0 : Int32).toInt = 0 from by decide)) (C := 100) (by decide) (by decide))) (cwV 5 hts gX10_set_X9_setWaves rfl rfl rfl (by decide +kernel) ⟨Nat.le_of_ble_eq_true rfl, Nat.le_of_ble_eq_true rfl⟩) hK.1 hA hP hD hS rfl hl.1 rfl (lv_room (Nat.le_of_ble_eq_true rfl)) dX10_set_123 ⟨Nat.le_of_ble_eq_true rfl, Nat.le_of_ble_eq_true rfl⟩ (fun H locs hP hD hS => ?_)
      refine lv_iload_n hx hb dX10_set_126 rfl (lv_at hl 0 rfl) ?_
      refine lv_icmp_ne (tgt := 134) hx hb dX10_set_127 (by decide) (fun c9 => absurd (show rX9_setWaves S (nI i) w3 w4 (w5 - 64) 0 = B (3 + i) 3 from by unfold rX9_setWaves; rw [io_n hi]; exact hRB.1 i hi 3 (by decide)) c9) (fun _ => ?_)
      refine lv_iconst (v := 1) hx hb dX10_set_130 (by decide) ?_
      refine lv_goto (tgt := 135) hx hb dX10_set_131 (by decide) ?_
      refine b_zret (u := (fX9_setWaves S (nI i) w3 w4 (w5 - 64) 0, B12)) hx hb hr hlocks rfl ⟨rfl, ?_, ?_, ?_, ?_⟩ hP hD hS dX10_set_135
      · show RB (fX9_setWaves S (nI i) w3 w4 (w5 - 64) 0) B12
        rw [sw_f hi, hB12, hB9, hB8, hB7, hB6, hB5, hB4, hB3, hB2, hB1]
        exact RB_up hi (RB_dr (by decide) (RB_up hi (RB_dr (by decide) (RB_up hi (RB_dr (by decide) (RB_up hi (RB_dr (by decide) (RB_dr (by decide) (RB_dr (by decide) (hRB))))))))))
      · show JI (fX9_setWaves S (nI i) w3 w4 (w5 - 64) 0)
        rw [sw_f hi]
        exact JI_up (by decide) (JI_up (by decide) (JI_up (by decide) (JI_up (by decide) hJ)))
      · intro o h1 h4 h14
        show (fX9_setWaves S (nI i) w3 w4 (w5 - 64) 0) o = S o
        rw [sw_f hi, up2_n (by omega), up2_n (by omega), up2_n (by omega), up2_n (by omega)]
      · exact rg_w hd12 (by omega) (by omega)
  ·
    refine lv_tableIn (off := 117) (tgt := 136) hx hb dX10_set_19 (by decide) (by decide) rfl (by decide) ?_
    refine lv_aload_n hx hb dX10_set_136 rfl (lv_at hl 0 rfl) ?_
    refine lv_bipush (v := 6) hx hb dX10_set_137 (by decide) ?_
    refine s_ild hx hb hK.2.1 hP ((wB_get (o := 3 + i) (by omega)).trans (by rw [cB_i hi])) (vp_in_lit (by decide)) (j := 6) (by decide) (v := B (3 + i) 6) (by rw [hB2, up2_n (by omega), hB1, up2_n (by omega)]) dX10_set_139 ?_
    refine lv_istore (lv' := [(4, .int (B (3 + i) 6)), (2, .ref (β (3 + i))), (1, .int (nI i)), (0, .ref (β 0))]) hx hb dX10_set_140 hl (by decide) rfl (fun ls hl => ?_)
    refine lv_aload_n hx hb dX10_set_142 rfl (lv_at hl 1 rfl) ?_
    refine lv_iconst (v := 4) hx hb dX10_set_143 (by decide) ?_
    refine lv_iconst (v := 1) hx hb dX10_set_144 (by decide) ?_
    refine lv_aload_n hx hb dX10_set_145 rfl (lv_at hl 3 rfl) ?_
    refine lv_aload_n hx hb dX10_set_146 rfl (lv_at hl 3 rfl) ?_
    refine lv_iconst (v := 2) hx hb dX10_set_147 (by decide) ?_
    refine v_cVi (k0 := 37) (q0 := β 0) (e0 := .inr (10, bcl a β ρ b (B2 0))) (e1 := .inr (10, bcl a β ρ b (upd (B2 0) 2 (B2 0 2 + 1)))) (As := [.int 2]) (rest := [.ref (β 0), .int 1, .int 4, .ref (β (3 + i))]) ⟨hx, hb, hml, hown, hts⟩ (c_X10_draw l G cA c2 c3 (a 37) b N xs H.size a β ρ (β 0) (B2 0) 2 (by decide) (by decide) hN hd2) (cwV 1 hts gX10_set_X10_draw rfl rfl rfl (by decide +kernel) ⟨Nat.le_of_ble_eq_true rfl, Nat.le_of_ble_eq_true rfl⟩) (wB_recv hK.1.1 hP) hK hA hP hD (wB_get (o := 0) (by decide)) hS rfl hl.1 rfl (lv_room (Nat.le_of_ble_eq_true rfl)) dX10_set_148 ⟨Nat.le_of_ble_eq_true rfl, Nat.le_of_ble_eq_true rfl⟩ (fun w8 H locs hw8 hP hD hS => ?_)
    rw [wB_d] at hP hD
    obtain ⟨B13, hB13⟩ : ∃ Z9 : Mm, Z9 = up2 B2 0 2 (B2 0 2 + 1) := ⟨_, rfl⟩
    rw [← hB13] at hP hD
    have hd13 := dr_rg hd2 (by omega) (B' := B13) hB13
    refine lv_if_ne (tgt := 158) hx hb dX10_set_151 (by decide) (fun c1 => ?_) (fun c1 => ?_)
    ·
      refine lv_bipush (v := 30) hx hb dX10_set_158 (by decide) ?_
      refine v_cVi (k0 := 37) (q0 := β 0) (e0 := .inr (10, bcl a β ρ b (B13 0))) (e1 := .inr (10, bcl a β ρ b (upd (B13 0) 2 (B13 0 2 + 1)))) (As := [.int 30]) (rest := [.int 1, .int 4, .ref (β (3 + i))]) ⟨hx, hb, hml, hown, hts⟩ (c_X10_draw l G cA c2 c3 (a 37) b N xs H.size a β ρ (β 0) (B13 0) 30 (by decide) (by decide) hN hd13) (cwV 1 hts gX10_set_X10_draw rfl rfl rfl (by decide +kernel) ⟨Nat.le_of_ble_eq_true rfl, Nat.le_of_ble_eq_true rfl⟩) (wB_recv hK.1.1 hP) hK hA hP hD (wB_get (o := 0) (by decide)) hS rfl hl.1 rfl (lv_room (Nat.le_of_ble_eq_true rfl)) dX10_set_160 ⟨Nat.le_of_ble_eq_true rfl, Nat.le_of_ble_eq_true rfl⟩ (fun w9 H locs hw9 hP hD hS => ?_)
      rw [wB_d] at hP hD
      obtain ⟨B14, hB14⟩ : ∃ Z9 : Mm, Z9 = up2 B13 0 2 (B13 0 2 + 1) := ⟨_, rfl⟩
      rw [← hB14] at hP hD
      have hd14 := dr_rg hd13 (by omega) (B' := B14) hB14
      refine lv_iadd hx hb dX10_set_163 ?_
      refine s_ist hx hb hK.2.1 hP hD hS ((wB_get (o := 3 + i) (by omega)).trans (by rw [cB_i hi])) (vp_in_lit (by decide)) (j := 4) (by decide) dX10_set_164 (fun H locs hP hD hS => ?_)
      rw [wB_i hi] at hP hD
      obtain ⟨B15, hB15⟩ : ∃ Z9 : Mm, Z9 = up2 B14 (3 + i) 4 (1 + w9) := ⟨_, rfl⟩
      rw [← hB15] at hP hD
      have hd15 := row_rg hd14 (by omega) hB15
      refine lv_aload_n hx hb dX10_set_165 rfl (lv_at hl 1 rfl) ?_
      refine lv_iconst (v := 5) hx hb dX10_set_166 (by decide) ?_
      refine lv_iconst (v := 1) hx hb dX10_set_167 (by decide) ?_
      refine lv_aload_n hx hb dX10_set_168 rfl (lv_at hl 3 rfl) ?_
      refine lv_bipush (v := 20) hx hb dX10_set_169 (by decide) ?_
      refine v_cVi (k0 := 37) (q0 := β 0) (e0 := .inr (10, bcl a β ρ b (B15 0))) (e1 := .inr (10, bcl a β ρ b (upd (B15 0) 2 (B15 0 2 + 1)))) (As := [.int 20]) (rest := [.int 1, .int 5, .ref (β (3 + i))]) ⟨hx, hb, hml, hown, hts⟩ (c_X10_draw l G cA c2 c3 (a 37) b N xs H.size a β ρ (β 0) (B15 0) 20 (by decide) (by decide) hN hd15) (cwV 1 hts gX10_set_X10_draw rfl rfl rfl (by decide +kernel) ⟨Nat.le_of_ble_eq_true rfl, Nat.le_of_ble_eq_true rfl⟩) (wB_recv hK.1.1 hP) hK hA hP hD (wB_get (o := 0) (by decide)) hS rfl hl.1 rfl (lv_room (Nat.le_of_ble_eq_true rfl)) dX10_set_171 ⟨Nat.le_of_ble_eq_true rfl, Nat.le_of_ble_eq_true rfl⟩ (fun w10 H locs hw10 hP hD hS => ?_)
      rw [wB_d] at hP hD
      obtain ⟨B16, hB16⟩ : ∃ Z9 : Mm, Z9 = up2 B15 0 2 (B15 0 2 + 1) := ⟨_, rfl⟩
      rw [← hB16] at hP hD
      have hd16 := dr_rg hd15 (by omega) (B' := B16) hB16
      refine lv_iadd hx hb dX10_set_174 ?_
      refine s_ist hx hb hK.2.1 hP hD hS ((wB_get (o := 3 + i) (by omega)).trans (by rw [cB_i hi])) (vp_in_lit (by decide)) (j := 5) (by decide) dX10_set_175 (fun H locs hP hD hS => ?_)
      rw [wB_i hi] at hP hD
      obtain ⟨B17, hB17⟩ : ∃ Z9 : Mm, Z9 = up2 B16 (3 + i) 5 (1 + w10) := ⟨_, rfl⟩
      rw [← hB17] at hP hD
      have hd17 := row_rg hd16 (by omega) hB17
      refine lv_aload_n hx hb dX10_set_176 rfl (lv_at hl 1 rfl) ?_
      refine lv_bipush (v := 6) hx hb dX10_set_177 (by decide) ?_
      refine lv_aload_n hx hb dX10_set_179 rfl (lv_at hl 3 rfl) ?_
      refine lv_sipush (v := 1001) hx hb dX10_set_180 (by decide) ?_
      refine v_cVi (k0 := 37) (q0 := β 0) (e0 := .inr (10, bcl a β ρ b (B17 0))) (e1 := .inr (10, bcl a β ρ b (upd (B17 0) 2 (B17 0 2 + 1)))) (As := [.int 1001]) (rest := [.int 6, .ref (β (3 + i))]) ⟨hx, hb, hml, hown, hts⟩ (c_X10_draw l G cA c2 c3 (a 37) b N xs H.size a β ρ (β 0) (B17 0) 1001 (by decide) (by decide) hN hd17) (cwV 1 hts gX10_set_X10_draw rfl rfl rfl (by decide +kernel) ⟨Nat.le_of_ble_eq_true rfl, Nat.le_of_ble_eq_true rfl⟩) (wB_recv hK.1.1 hP) hK hA hP hD (wB_get (o := 0) (by decide)) hS rfl hl.1 rfl (lv_room (Nat.le_of_ble_eq_true rfl)) dX10_set_183 ⟨Nat.le_of_ble_eq_true rfl, Nat.le_of_ble_eq_true rfl⟩ (fun w11 H locs hw11 hP hD hS => ?_)
      rw [wB_d] at hP hD
      obtain ⟨B18, hB18⟩ : ∃ Z9 : Mm, Z9 = up2 B17 0 2 (B17 0 2 + 1) := ⟨_, rfl⟩
      rw [← hB18] at hP hD
      have hd18 := dr_rg hd17 (by omega) (B' := B18) hB18
      refine s_ist hx hb hK.2.1 hP hD hS ((wB_get (o := 3 + i) (by omega)).trans (by rw [cB_i hi])) (vp_in_lit (by decide)) (j := 6) (by decide) dX10_set_186 (fun H locs hP hD hS => ?_)
      rw [wB_i hi] at hP hD
      obtain ⟨B19, hB19⟩ : ∃ Z9 : Mm, Z9 = up2 B18 (3 + i) 6 w11 := ⟨_, rfl⟩
      rw [← hB19] at hP hD
      have hd19 := row_rg hd18 (by omega) hB19
      refine lv_aload_n hx hb dX10_set_187 rfl (lv_at hl 1 rfl) ?_
      refine lv_bipush (v := 7) hx hb dX10_set_188 (by decide) ?_
      refine lv_iconst (v := 1) hx hb dX10_set_190 (by decide) ?_
      refine lv_aload_n hx hb dX10_set_191 rfl (lv_at hl 3 rfl) ?_
      refine lv_bipush (v := 30) hx hb dX10_set_192 (by decide) ?_
      refine v_cVi (k0 := 37) (q0 := β 0) (e0 := .inr (10, bcl a β ρ b (B19 0))) (e1 := .inr (10, bcl a β ρ b (upd (B19 0) 2 (B19 0 2 + 1)))) (As := [.int 30]) (rest := [.int 1, .int 7, .ref (β (3 + i))]) ⟨hx, hb, hml, hown, hts⟩ (c_X10_draw l G cA c2 c3 (a 37) b N xs H.size a β ρ (β 0) (B19 0) 30 (by decide) (by decide) hN hd19) (cwV 1 hts gX10_set_X10_draw rfl rfl rfl (by decide +kernel) ⟨Nat.le_of_ble_eq_true rfl, Nat.le_of_ble_eq_true rfl⟩) (wB_recv hK.1.1 hP) hK hA hP hD (wB_get (o := 0) (by decide)) hS rfl hl.1 rfl (lv_room (Nat.le_of_ble_eq_true rfl)) dX10_set_194 ⟨Nat.le_of_ble_eq_true rfl, Nat.le_of_ble_eq_true rfl⟩ (fun w12 H locs hw12 hP hD hS => ?_)
      rw [wB_d] at hP hD
      obtain ⟨B20, hB20⟩ : ∃ Z9 : Mm, Z9 = up2 B19 0 2 (B19 0 2 + 1) := ⟨_, rfl⟩
      rw [← hB20] at hP hD
      have hd20 := dr_rg hd19 (by omega) (B' := B20) hB20
      refine lv_iadd hx hb dX10_set_197 ?_
      refine s_ist hx hb hK.2.1 hP hD hS ((wB_get (o := 3 + i) (by omega)).trans (by rw [cB_i hi])) (vp_in_lit (by decide)) (j := 7) (by decide) dX10_set_198 (fun H locs hP hD hS => ?_)
      rw [wB_i hi] at hP hD
      obtain ⟨B21, hB21⟩ : ∃ Z9 : Mm, Z9 = up2 B20 (3 + i) 7 (1 + w12) := ⟨_, rfl⟩
      rw [← hB21] at hP hD
      have hd21 := row_rg hd20 (by omega) hB21
      refine lv_aload_n hx hb dX10_set_199 rfl (lv_at hl 3 rfl) ?_
      refine va_get (D := G) (ci := 10) (v := .ref (a 0)) (C := RX10) (T := TX10) (N := 22) hx hb hts iX10_set_X10 hown hK.1.1 hP 37 (wB_get (o := 0) (by decide)) rfl 0 (by decide) (hts (.fieldLink RX10 10 "MelodeonLaw$Bench" "m" "LMelodeon;") (by decide +kernel)) (fun _ h9 => h9) rfl dX10_set_200 ?_
      refine lv_iload_n hx hb dX10_set_203 rfl (lv_at hl 2 rfl) ?_
      refine lv_aload_n hx hb dX10_set_204 rfl (lv_at hl 1 rfl) ?_
      refine lv_iconst (v := 4) hx hb dX10_set_205 (by decide) ?_
      refine s_ild hx hb hK.2.1 hP ((wB_get (o := 3 + i) (by omega)).trans (by rw [cB_i hi])) (vp_in_lit (by decide)) (j := 4) (by decide) (v := 1 + w9) (by rw [hB21, up2_k (by decide), hB20, up2_n (by omega), hB19, up2_k (by decide), hB18, up2_n (by omega), hB17, up2_k (by decide), hB16, up2_n (by omega), hB15, up2_h]) dX10_set_206 ?_
      refine lv_aload_n hx hb dX10_set_207 rfl (lv_at hl 1 rfl) ?_
      refine lv_iconst (v := 5) hx hb dX10_set_208 (by decide) ?_
      refine s_ild hx hb hK.2.1 hP ((wB_get (o := 3 + i) (by omega)).trans (by rw [cB_i hi])) (vp_in_lit (by decide)) (j := 5) (by decide) (v := 1 + w10) (by rw [hB21, up2_k (by decide), hB20, up2_n (by omega), hB19, up2_k (by decide), hB18, up2_n (by omega), hB17, up2_h]) dX10_set_209 ?_
      refine lv_aload_n hx hb dX10_set_210 rfl (lv_at hl 1 rfl) ?_
      refine lv_bipush (v := 6) hx hb dX10_set_211 (by decide) ?_
      refine s_ild hx hb hK.2.1 hP ((wB_get (o := 3 + i) (by omega)).trans (by rw [cB_i hi])) (vp_in_lit (by decide)) (j := 6) (by decide) (v := w11) (by rw [hB21, up2_k (by decide), hB20, up2_n (by omega), hB19, up2_h]) dX10_set_213 ?_
      refine lv_aload_n hx hb dX10_set_214 rfl (lv_at hl 1 rfl) ?_
      refine lv_bipush (v := 7) hx hb dX10_set_215 (by decide) ?_
      refine s_ild hx hb hK.2.1 hP ((wB_get (o := 3 + i) (by omega)).trans (by rw [cB_i hi])) (vp_in_lit (by decide)) (j := 7) (by decide) (v := 1 + w12) (by rw [hB21, up2_h]) dX10_set_217 ?_
      refine t_cVi (As := [.int (nI i), .int (1 + w9), .int (1 + w10), .int w11, .int (1 + w12)]) (rest := []) ⟨hx, hb, hml, hown, hts⟩ (c_X9_setEnvelope l G cA a (t_ap hD) S L H.size (nI i) (1 + w9) (1 + w10) w11 (1 + w12) (rg_ge (vp_rg 3 (vp_in_nI hi (by decide)) (by decide) (by decide)) (C := 0) (by decide) (by decide)) (rg_lt (vp_rg 3 (vp_in_nI hi (by decide)) (by decide) (by decide)) (C := 4) (by decide) (by decide)) (rg_ge (rg_w (a' := 1) (b' := 30) (rg_add (rg_c (show (1 : Int32).toInt = 1 from by decide)) (vp_rg 29 hw9 (by decide) (by decide)) (by decide) (by decide)).1 (by decide) (by decide)) (C := 1) (by decide) (by decide)) (rg_le (rg_w (a' := 1) (b' := 30) (rg_add (rg_c (show (1 : Int32).toInt = 1 from by decide)) (vp_rg 29 hw9 (by decide) (by decide)) (by decide) (by decide)).1 (by decide) (by decide)) (C := 400) (by decide) (by decide)) (rg_ge (rg_w (a' := 1) (b' := 20) (rg_add (rg_c (show (1 : Int32).toInt = 1 from by decide)) (vp_rg 19 hw10 (by decide) (by decide)) (by decide) (by decide)).1 (by decide) (by decide)) (C := 1) (by decide) (by decide)) (rg_le (rg_w (a' := 1) (b' := 20) (rg_add (rg_c (show (1 : Int32).toInt = 1 from by decide)) (vp_rg 19 hw10 (by decide) (by decide)) (by decide) (by decide)).1 (by decide) (by decide)) (C := 400) (by decide) (by decide)) (rg_ge (vp_rg 1000 hw11 (by decide) (by decide)) (C := 0) (by decide) (by decide)) (rg_le (vp_rg 1000 hw11 (by decide) (by decide)) (C := 1000) (by decide) (by decide)) (rg_ge (rg_w (a' := 1) (b' := 30) (rg_add (rg_c (show (1 : Int32).toInt = 1 from by decide)) (vp_rg 29 hw12 (by decide) (by decide)) (by decide) (by decide)).1 (by decide) (by decide)) (C := 1) (by decide) (by decide)) (rg_le (rg_w (a' := 1) (b' := 30) (rg_add (rg_c (show (1 : Int32).toInt = 1 from by decide)) (vp_rg 29 hw12 (by decide) (by decide)) (by decide) (by decide)).1 (by decide) (by decide)) (C := 400) (by decide) (by decide))) (cwV 5 hts gX10_set_X9_setEnvelope rfl rfl rfl (by decide +kernel) ⟨Nat.le_of_ble_eq_true rfl, Nat.le_of_ble_eq_true rfl⟩) hK.1 hA hP hD hS rfl hl.1 rfl (lv_room (Nat.le_of_ble_eq_true rfl)) dX10_set_218 ⟨Nat.le_of_ble_eq_true rfl, Nat.le_of_ble_eq_true rfl⟩ (fun H locs hP hD hS => ?_)
      refine lv_iload hx hb dX10_set_221 (lv_at hl 0 rfl) ?_
      refine lv_icmp_ne (tgt := 230) hx hb dX10_set_223 (by decide) (fun c9 => absurd (show rX9_setEnvelope S (nI i) (1 + w9) (1 + w10) w11 (1 + w12) = B (3 + i) 6 from by unfold rX9_setEnvelope; rw [io_n hi]; exact hRB.1 i hi 6 (by decide)) c9) (fun _ => ?_)
      refine lv_iconst (v := 1) hx hb dX10_set_226 (by decide) ?_
      refine lv_goto (tgt := 231) hx hb dX10_set_227 (by decide) ?_
      refine b_zret (u := (fX9_setEnvelope S (nI i) (1 + w9) (1 + w10) w11 (1 + w12), B21)) hx hb hr hlocks rfl ⟨rfl, ?_, ?_, ?_, ?_⟩ hP hD hS dX10_set_231
      · show RB (fX9_setEnvelope S (nI i) (1 + w9) (1 + w10) w11 (1 + w12)) B21
        rw [se_f hi, hB21, hB20, hB19, hB18, hB17, hB16, hB15, hB14, hB13, hB2, hB1]
        exact RB_up hi (RB_dr (by decide) (RB_up hi (RB_dr (by decide) (RB_up hi (RB_dr (by decide) (RB_up hi (RB_dr (by decide) (RB_dr (by decide) (RB_dr (by decide) (RB_dr (by decide) (hRB)))))))))))
      · show JI (fX9_setEnvelope S (nI i) (1 + w9) (1 + w10) w11 (1 + w12))
        rw [se_f hi]
        exact JI_e hJ (rg_w (rg_w (a' := 1) (b' := 30) (rg_add (rg_c (show (1 : Int32).toInt = 1 from by decide)) (vp_rg 29 hw9 (by decide) (by decide)) (by decide) (by decide)).1 (by decide) (by decide)) (by decide) (by decide)) (rg_w (rg_w (a' := 1) (b' := 20) (rg_add (rg_c (show (1 : Int32).toInt = 1 from by decide)) (vp_rg 19 hw10 (by decide) (by decide)) (by decide) (by decide)).1 (by decide) (by decide)) (by decide) (by decide)) (rg_w (vp_rg 1000 hw11 (by decide) (by decide)) (by decide) (by decide)) (rg_w (rg_w (a' := 1) (b' := 30) (rg_add (rg_c (show (1 : Int32).toInt = 1 from by decide)) (vp_rg 29 hw12 (by decide) (by decide)) (by decide) (by decide)).1 (by decide) (by decide)) (by decide) (by decide))
      · intro o h1 h4 h14
        show (fX9_setEnvelope S (nI i) (1 + w9) (1 + w10) w11 (1 + w12)) o = S o
        rw [se_f hi, up2_n (by omega), up2_n (by omega), up2_n (by omega), up2_n (by omega)]
      · exact rg_w hd21 (by omega) (by omega)
    ·
      refine lv_iconst (v := 4) hx hb dX10_set_154 (by decide) ?_
      refine lv_goto (tgt := 160) hx hb dX10_set_155 (by decide) ?_
      refine v_cVi (k0 := 37) (q0 := β 0) (e0 := .inr (10, bcl a β ρ b (B13 0))) (e1 := .inr (10, bcl a β ρ b (upd (B13 0) 2 (B13 0 2 + 1)))) (As := [.int 4]) (rest := [.int 1, .int 4, .ref (β (3 + i))]) ⟨hx, hb, hml, hown, hts⟩ (c_X10_draw l G cA c2 c3 (a 37) b N xs H.size a β ρ (β 0) (B13 0) 4 (by decide) (by decide) hN hd13) (cwV 1 hts gX10_set_X10_draw rfl rfl rfl (by decide +kernel) ⟨Nat.le_of_ble_eq_true rfl, Nat.le_of_ble_eq_true rfl⟩) (wB_recv hK.1.1 hP) hK hA hP hD (wB_get (o := 0) (by decide)) hS rfl hl.1 rfl (lv_room (Nat.le_of_ble_eq_true rfl)) dX10_set_160 ⟨Nat.le_of_ble_eq_true rfl, Nat.le_of_ble_eq_true rfl⟩ (fun w13 H locs hw13 hP hD hS => ?_)
      rw [wB_d] at hP hD
      obtain ⟨B22, hB22⟩ : ∃ Z9 : Mm, Z9 = up2 B13 0 2 (B13 0 2 + 1) := ⟨_, rfl⟩
      rw [← hB22] at hP hD
      have hd22 := dr_rg hd13 (by omega) (B' := B22) hB22
      refine lv_iadd hx hb dX10_set_163 ?_
      refine s_ist hx hb hK.2.1 hP hD hS ((wB_get (o := 3 + i) (by omega)).trans (by rw [cB_i hi])) (vp_in_lit (by decide)) (j := 4) (by decide) dX10_set_164 (fun H locs hP hD hS => ?_)
      rw [wB_i hi] at hP hD
      obtain ⟨B23, hB23⟩ : ∃ Z9 : Mm, Z9 = up2 B22 (3 + i) 4 (1 + w13) := ⟨_, rfl⟩
      rw [← hB23] at hP hD
      have hd23 := row_rg hd22 (by omega) hB23
      refine lv_aload_n hx hb dX10_set_165 rfl (lv_at hl 1 rfl) ?_
      refine lv_iconst (v := 5) hx hb dX10_set_166 (by decide) ?_
      refine lv_iconst (v := 1) hx hb dX10_set_167 (by decide) ?_
      refine lv_aload_n hx hb dX10_set_168 rfl (lv_at hl 3 rfl) ?_
      refine lv_bipush (v := 20) hx hb dX10_set_169 (by decide) ?_
      refine v_cVi (k0 := 37) (q0 := β 0) (e0 := .inr (10, bcl a β ρ b (B23 0))) (e1 := .inr (10, bcl a β ρ b (upd (B23 0) 2 (B23 0 2 + 1)))) (As := [.int 20]) (rest := [.int 1, .int 5, .ref (β (3 + i))]) ⟨hx, hb, hml, hown, hts⟩ (c_X10_draw l G cA c2 c3 (a 37) b N xs H.size a β ρ (β 0) (B23 0) 20 (by decide) (by decide) hN hd23) (cwV 1 hts gX10_set_X10_draw rfl rfl rfl (by decide +kernel) ⟨Nat.le_of_ble_eq_true rfl, Nat.le_of_ble_eq_true rfl⟩) (wB_recv hK.1.1 hP) hK hA hP hD (wB_get (o := 0) (by decide)) hS rfl hl.1 rfl (lv_room (Nat.le_of_ble_eq_true rfl)) dX10_set_171 ⟨Nat.le_of_ble_eq_true rfl, Nat.le_of_ble_eq_true rfl⟩ (fun w14 H locs hw14 hP hD hS => ?_)
      rw [wB_d] at hP hD
      obtain ⟨B24, hB24⟩ : ∃ Z9 : Mm, Z9 = up2 B23 0 2 (B23 0 2 + 1) := ⟨_, rfl⟩
      rw [← hB24] at hP hD
      have hd24 := dr_rg hd23 (by omega) (B' := B24) hB24
      refine lv_iadd hx hb dX10_set_174 ?_
      refine s_ist hx hb hK.2.1 hP hD hS ((wB_get (o := 3 + i) (by omega)).trans (by rw [cB_i hi])) (vp_in_lit (by decide)) (j := 5) (by decide) dX10_set_175 (fun H locs hP hD hS => ?_)
      rw [wB_i hi] at hP hD
      obtain ⟨B25, hB25⟩ : ∃ Z9 : Mm, Z9 = up2 B24 (3 + i) 5 (1 + w14) := ⟨_, rfl⟩
      rw [← hB25] at hP hD
      have hd25 := row_rg hd24 (by omega) hB25
      refine lv_aload_n hx hb dX10_set_176 rfl (lv_at hl 1 rfl) ?_
      refine lv_bipush (v := 6) hx hb dX10_set_177 (by decide) ?_
      refine lv_aload_n hx hb dX10_set_179 rfl (lv_at hl 3 rfl) ?_
      refine lv_sipush (v := 1001) hx hb dX10_set_180 (by decide) ?_
      refine v_cVi (k0 := 37) (q0 := β 0) (e0 := .inr (10, bcl a β ρ b (B25 0))) (e1 := .inr (10, bcl a β ρ b (upd (B25 0) 2 (B25 0 2 + 1)))) (As := [.int 1001]) (rest := [.int 6, .ref (β (3 + i))]) ⟨hx, hb, hml, hown, hts⟩ (c_X10_draw l G cA c2 c3 (a 37) b N xs H.size a β ρ (β 0) (B25 0) 1001 (by decide) (by decide) hN hd25) (cwV 1 hts gX10_set_X10_draw rfl rfl rfl (by decide +kernel) ⟨Nat.le_of_ble_eq_true rfl, Nat.le_of_ble_eq_true rfl⟩) (wB_recv hK.1.1 hP) hK hA hP hD (wB_get (o := 0) (by decide)) hS rfl hl.1 rfl (lv_room (Nat.le_of_ble_eq_true rfl)) dX10_set_183 ⟨Nat.le_of_ble_eq_true rfl, Nat.le_of_ble_eq_true rfl⟩ (fun w15 H locs hw15 hP hD hS => ?_)
      rw [wB_d] at hP hD
      obtain ⟨B26, hB26⟩ : ∃ Z9 : Mm, Z9 = up2 B25 0 2 (B25 0 2 + 1) := ⟨_, rfl⟩
      rw [← hB26] at hP hD
      have hd26 := dr_rg hd25 (by omega) (B' := B26) hB26
      refine s_ist hx hb hK.2.1 hP hD hS ((wB_get (o := 3 + i) (by omega)).trans (by rw [cB_i hi])) (vp_in_lit (by decide)) (j := 6) (by decide) dX10_set_186 (fun H locs hP hD hS => ?_)
      rw [wB_i hi] at hP hD
      obtain ⟨B27, hB27⟩ : ∃ Z9 : Mm, Z9 = up2 B26 (3 + i) 6 w15 := ⟨_, rfl⟩
      rw [← hB27] at hP hD
      have hd27 := row_rg hd26 (by omega) hB27
      refine lv_aload_n hx hb dX10_set_187 rfl (lv_at hl 1 rfl) ?_
      refine lv_bipush (v := 7) hx hb dX10_set_188 (by decide) ?_
      refine lv_iconst (v := 1) hx hb dX10_set_190 (by decide) ?_
      refine lv_aload_n hx hb dX10_set_191 rfl (lv_at hl 3 rfl) ?_
      refine lv_bipush (v := 30) hx hb dX10_set_192 (by decide) ?_
      refine v_cVi (k0 := 37) (q0 := β 0) (e0 := .inr (10, bcl a β ρ b (B27 0))) (e1 := .inr (10, bcl a β ρ b (upd (B27 0) 2 (B27 0 2 + 1)))) (As := [.int 30]) (rest := [.int 1, .int 7, .ref (β (3 + i))]) ⟨hx, hb, hml, hown, hts⟩ (c_X10_draw l G cA c2 c3 (a 37) b N xs H.size a β ρ (β 0) (B27 0) 30 (by decide) (by decide) hN hd27) (cwV 1 hts gX10_set_X10_draw rfl rfl rfl (by decide +kernel) ⟨Nat.le_of_ble_eq_true rfl, Nat.le_of_ble_eq_true rfl⟩) (wB_recv hK.1.1 hP) hK hA hP hD (wB_get (o := 0) (by decide)) hS rfl hl.1 rfl (lv_room (Nat.le_of_ble_eq_true rfl)) dX10_set_194 ⟨Nat.le_of_ble_eq_true rfl, Nat.le_of_ble_eq_true rfl⟩ (fun w16 H locs hw16 hP hD hS => ?_)
      rw [wB_d] at hP hD
      obtain ⟨B28, hB28⟩ : ∃ Z9 : Mm, Z9 = up2 B27 0 2 (B27 0 2 + 1) := ⟨_, rfl⟩
      rw [← hB28] at hP hD
      have hd28 := dr_rg hd27 (by omega) (B' := B28) hB28
      refine lv_iadd hx hb dX10_set_197 ?_
      refine s_ist hx hb hK.2.1 hP hD hS ((wB_get (o := 3 + i) (by omega)).trans (by rw [cB_i hi])) (vp_in_lit (by decide)) (j := 7) (by decide) dX10_set_198 (fun H locs hP hD hS => ?_)
      rw [wB_i hi] at hP hD
      obtain ⟨B29, hB29⟩ : ∃ Z9 : Mm, Z9 = up2 B28 (3 + i) 7 (1 + w16) := ⟨_, rfl⟩
      rw [← hB29] at hP hD
      have hd29 := row_rg hd28 (by omega) hB29
      refine lv_aload_n hx hb dX10_set_199 rfl (lv_at hl 3 rfl) ?_
      refine va_get (D := G) (ci := 10) (v := .ref (a 0)) (C := RX10) (T := TX10) (N := 22) hx hb hts iX10_set_X10 hown hK.1.1 hP 37 (wB_get (o := 0) (by decide)) rfl 0 (by decide) (hts (.fieldLink RX10 10 "MelodeonLaw$Bench" "m" "LMelodeon;") (by decide +kernel)) (fun _ h9 => h9) rfl dX10_set_200 ?_
      refine lv_iload_n hx hb dX10_set_203 rfl (lv_at hl 2 rfl) ?_
      refine lv_aload_n hx hb dX10_set_204 rfl (lv_at hl 1 rfl) ?_
      refine lv_iconst (v := 4) hx hb dX10_set_205 (by decide) ?_
      refine s_ild hx hb hK.2.1 hP ((wB_get (o := 3 + i) (by omega)).trans (by rw [cB_i hi])) (vp_in_lit (by decide)) (j := 4) (by decide) (v := 1 + w13) (by rw [hB29, up2_k (by decide), hB28, up2_n (by omega), hB27, up2_k (by decide), hB26, up2_n (by omega), hB25, up2_k (by decide), hB24, up2_n (by omega), hB23, up2_h]) dX10_set_206 ?_
      refine lv_aload_n hx hb dX10_set_207 rfl (lv_at hl 1 rfl) ?_
      refine lv_iconst (v := 5) hx hb dX10_set_208 (by decide) ?_
      refine s_ild hx hb hK.2.1 hP ((wB_get (o := 3 + i) (by omega)).trans (by rw [cB_i hi])) (vp_in_lit (by decide)) (j := 5) (by decide) (v := 1 + w14) (by rw [hB29, up2_k (by decide), hB28, up2_n (by omega), hB27, up2_k (by decide), hB26, up2_n (by omega), hB25, up2_h]) dX10_set_209 ?_
      refine lv_aload_n hx hb dX10_set_210 rfl (lv_at hl 1 rfl) ?_
      refine lv_bipush (v := 6) hx hb dX10_set_211 (by decide) ?_
      refine s_ild hx hb hK.2.1 hP ((wB_get (o := 3 + i) (by omega)).trans (by rw [cB_i hi])) (vp_in_lit (by decide)) (j := 6) (by decide) (v := w15) (by rw [hB29, up2_k (by decide), hB28, up2_n (by omega), hB27, up2_h]) dX10_set_213 ?_
      refine lv_aload_n hx hb dX10_set_214 rfl (lv_at hl 1 rfl) ?_
      refine lv_bipush (v := 7) hx hb dX10_set_215 (by decide) ?_
      refine s_ild hx hb hK.2.1 hP ((wB_get (o := 3 + i) (by omega)).trans (by rw [cB_i hi])) (vp_in_lit (by decide)) (j := 7) (by decide) (v := 1 + w16) (by rw [hB29, up2_h]) dX10_set_217 ?_
      refine t_cVi (As := [.int (nI i), .int (1 + w13), .int (1 + w14), .int w15, .int (1 + w16)]) (rest := []) ⟨hx, hb, hml, hown, hts⟩ (c_X9_setEnvelope l G cA a (t_ap hD) S L H.size (nI i) (1 + w13) (1 + w14) w15 (1 + w16) (rg_ge (vp_rg 3 (vp_in_nI hi (by decide)) (by decide) (by decide)) (C := 0) (by decide) (by decide)) (rg_lt (vp_rg 3 (vp_in_nI hi (by decide)) (by decide) (by decide)) (C := 4) (by decide) (by decide)) (rg_ge (rg_w (a' := 1) (b' := 4) (rg_add (rg_c (show (1 : Int32).toInt = 1 from by decide)) (vp_rg 3 hw13 (by decide) (by decide)) (by decide) (by decide)).1 (by decide) (by decide)) (C := 1) (by decide) (by decide)) (rg_le (rg_w (a' := 1) (b' := 4) (rg_add (rg_c (show (1 : Int32).toInt = 1 from by decide)) (vp_rg 3 hw13 (by decide) (by decide)) (by decide) (by decide)).1 (by decide) (by decide)) (C := 400) (by decide) (by decide)) (rg_ge (rg_w (a' := 1) (b' := 20) (rg_add (rg_c (show (1 : Int32).toInt = 1 from by decide)) (vp_rg 19 hw14 (by decide) (by decide)) (by decide) (by decide)).1 (by decide) (by decide)) (C := 1) (by decide) (by decide)) (rg_le (rg_w (a' := 1) (b' := 20) (rg_add (rg_c (show (1 : Int32).toInt = 1 from by decide)) (vp_rg 19 hw14 (by decide) (by decide)) (by decide) (by decide)).1 (by decide) (by decide)) (C := 400) (by decide) (by decide)) (rg_ge (vp_rg 1000 hw15 (by decide) (by decide)) (C := 0) (by decide) (by decide)) (rg_le (vp_rg 1000 hw15 (by decide) (by decide)) (C := 1000) (by decide) (by decide)) (rg_ge (rg_w (a' := 1) (b' := 30) (rg_add (rg_c (show (1 : Int32).toInt = 1 from by decide)) (vp_rg 29 hw16 (by decide) (by decide)) (by decide) (by decide)).1 (by decide) (by decide)) (C := 1) (by decide) (by decide)) (rg_le (rg_w (a' := 1) (b' := 30) (rg_add (rg_c (show (1 : Int32).toInt = 1 from by decide)) (vp_rg 29 hw16 (by decide) (by decide)) (by decide) (by decide)).1 (by decide) (by decide)) (C := 400) (by decide) (by decide))) (cwV 5 hts gX10_set_X9_setEnvelope rfl rfl rfl (by decide +kernel) ⟨Nat.le_of_ble_eq_true rfl, Nat.le_of_ble_eq_true rfl⟩) hK.1 hA hP hD hS rfl hl.1 rfl (lv_room (Nat.le_of_ble_eq_true rfl)) dX10_set_218 ⟨Nat.le_of_ble_eq_true rfl, Nat.le_of_ble_eq_true rfl⟩ (fun H locs hP hD hS => ?_)
      refine lv_iload hx hb dX10_set_221 (lv_at hl 0 rfl) ?_
      refine lv_icmp_ne (tgt := 230) hx hb dX10_set_223 (by decide) (fun c9 => absurd (show rX9_setEnvelope S (nI i) (1 + w13) (1 + w14) w15 (1 + w16) = B (3 + i) 6 from by unfold rX9_setEnvelope; rw [io_n hi]; exact hRB.1 i hi 6 (by decide)) c9) (fun _ => ?_)
      refine lv_iconst (v := 1) hx hb dX10_set_226 (by decide) ?_
      refine lv_goto (tgt := 231) hx hb dX10_set_227 (by decide) ?_
      refine b_zret (u := (fX9_setEnvelope S (nI i) (1 + w13) (1 + w14) w15 (1 + w16), B29)) hx hb hr hlocks rfl ⟨rfl, ?_, ?_, ?_, ?_⟩ hP hD hS dX10_set_231
      · show RB (fX9_setEnvelope S (nI i) (1 + w13) (1 + w14) w15 (1 + w16)) B29
        rw [se_f hi, hB29, hB28, hB27, hB26, hB25, hB24, hB23, hB22, hB13, hB2, hB1]
        exact RB_up hi (RB_dr (by decide) (RB_up hi (RB_dr (by decide) (RB_up hi (RB_dr (by decide) (RB_up hi (RB_dr (by decide) (RB_dr (by decide) (RB_dr (by decide) (RB_dr (by decide) (hRB)))))))))))
      · show JI (fX9_setEnvelope S (nI i) (1 + w13) (1 + w14) w15 (1 + w16))
        rw [se_f hi]
        exact JI_e hJ (rg_w (rg_w (a' := 1) (b' := 4) (rg_add (rg_c (show (1 : Int32).toInt = 1 from by decide)) (vp_rg 3 hw13 (by decide) (by decide)) (by decide) (by decide)).1 (by decide) (by decide)) (by decide) (by decide)) (rg_w (rg_w (a' := 1) (b' := 20) (rg_add (rg_c (show (1 : Int32).toInt = 1 from by decide)) (vp_rg 19 hw14 (by decide) (by decide)) (by decide) (by decide)).1 (by decide) (by decide)) (by decide) (by decide)) (rg_w (vp_rg 1000 hw15 (by decide) (by decide)) (by decide) (by decide)) (rg_w (rg_w (a' := 1) (b' := 30) (rg_add (rg_c (show (1 : Int32).toInt = 1 from by decide)) (vp_rg 29 hw16 (by decide) (by decide)) (by decide) (by decide)).1 (by decide) (by decide)) (by decide) (by decide))
      · intro o h1 h4 h14
        show (fX9_setEnvelope S (nI i) (1 + w13) (1 + w14) w15 (1 + w16)) o = S o
        rw [se_f hi, up2_n (by omega), up2_n (by omega), up2_n (by omega), up2_n (by omega)]
      · exact rg_w hd29 (by omega) (by omega)
  ·
    refine lv_tableIn (off := 213) (tgt := 232) hx hb dX10_set_19 (by decide) (by decide) rfl (by decide) ?_
    refine lv_aload_n hx hb dX10_set_232 rfl (lv_at hl 0 rfl) ?_
    refine lv_bipush (v := 8) hx hb dX10_set_233 (by decide) ?_
    refine s_ild hx hb hK.2.1 hP ((wB_get (o := 3 + i) (by omega)).trans (by rw [cB_i hi])) (vp_in_lit (by decide)) (j := 8) (by decide) (v := B (3 + i) 8) (by rw [hB2, up2_n (by omega), hB1, up2_n (by omega)]) dX10_set_235 ?_
    refine lv_istore (lv' := [(5, .int (B (3 + i) 8)), (2, .ref (β (3 + i))), (1, .int (nI i)), (0, .ref (β 0))]) hx hb dX10_set_236 hl (by decide) rfl (fun ls hl => ?_)
    refine lv_aload_n hx hb dX10_set_238 rfl (lv_at hl 1 rfl) ?_
    refine lv_bipush (v := 8) hx hb dX10_set_239 (by decide) ?_
    refine lv_iconst (v := 1) hx hb dX10_set_241 (by decide) ?_
    refine lv_aload_n hx hb dX10_set_242 rfl (lv_at hl 3 rfl) ?_
    refine lv_sipush (v := 128) hx hb dX10_set_243 (by decide) ?_
    refine v_cVi (k0 := 37) (q0 := β 0) (e0 := .inr (10, bcl a β ρ b (B2 0))) (e1 := .inr (10, bcl a β ρ b (upd (B2 0) 2 (B2 0 2 + 1)))) (As := [.int 128]) (rest := [.int 1, .int 8, .ref (β (3 + i))]) ⟨hx, hb, hml, hown, hts⟩ (c_X10_draw l G cA c2 c3 (a 37) b N xs H.size a β ρ (β 0) (B2 0) 128 (by decide) (by decide) hN hd2) (cwV 1 hts gX10_set_X10_draw rfl rfl rfl (by decide +kernel) ⟨Nat.le_of_ble_eq_true rfl, Nat.le_of_ble_eq_true rfl⟩) (wB_recv hK.1.1 hP) hK hA hP hD (wB_get (o := 0) (by decide)) hS rfl hl.1 rfl (lv_room (Nat.le_of_ble_eq_true rfl)) dX10_set_246 ⟨Nat.le_of_ble_eq_true rfl, Nat.le_of_ble_eq_true rfl⟩ (fun w17 H locs hw17 hP hD hS => ?_)
    rw [wB_d] at hP hD
    obtain ⟨B30, hB30⟩ : ∃ Z9 : Mm, Z9 = up2 B2 0 2 (B2 0 2 + 1) := ⟨_, rfl⟩
    rw [← hB30] at hP hD
    have hd30 := dr_rg hd2 (by omega) (B' := B30) hB30
    refine lv_iadd hx hb dX10_set_249 ?_
    refine s_ist hx hb hK.2.1 hP hD hS ((wB_get (o := 3 + i) (by omega)).trans (by rw [cB_i hi])) (vp_in_lit (by decide)) (j := 8) (by decide) dX10_set_250 (fun H locs hP hD hS => ?_)
    rw [wB_i hi] at hP hD
    obtain ⟨B31, hB31⟩ : ∃ Z9 : Mm, Z9 = up2 B30 (3 + i) 8 (1 + w17) := ⟨_, rfl⟩
    rw [← hB31] at hP hD
    have hd31 := row_rg hd30 (by omega) hB31
    refine lv_aload_n hx hb dX10_set_251 rfl (lv_at hl 1 rfl) ?_
    refine lv_bipush (v := 9) hx hb dX10_set_252 (by decide) ?_
    refine lv_bipush (v := 16) hx hb dX10_set_254 (by decide) ?_
    refine lv_aload_n hx hb dX10_set_256 rfl (lv_at hl 3 rfl) ?_
    refine lv_sipush (v := 241) hx hb dX10_set_257 (by decide) ?_
    refine v_cVi (k0 := 37) (q0 := β 0) (e0 := .inr (10, bcl a β ρ b (B31 0))) (e1 := .inr (10, bcl a β ρ b (upd (B31 0) 2 (B31 0 2 + 1)))) (As := [.int 241]) (rest := [.int 16, .int 9, .ref (β (3 + i))]) ⟨hx, hb, hml, hown, hts⟩ (c_X10_draw l G cA c2 c3 (a 37) b N xs H.size a β ρ (β 0) (B31 0) 241 (by decide) (by decide) hN hd31) (cwV 1 hts gX10_set_X10_draw rfl rfl rfl (by decide +kernel) ⟨Nat.le_of_ble_eq_true rfl, Nat.le_of_ble_eq_true rfl⟩) (wB_recv hK.1.1 hP) hK hA hP hD (wB_get (o := 0) (by decide)) hS rfl hl.1 rfl (lv_room (Nat.le_of_ble_eq_true rfl)) dX10_set_260 ⟨Nat.le_of_ble_eq_true rfl, Nat.le_of_ble_eq_true rfl⟩ (fun w18 H locs hw18 hP hD hS => ?_)
    rw [wB_d] at hP hD
    obtain ⟨B32, hB32⟩ : ∃ Z9 : Mm, Z9 = up2 B31 0 2 (B31 0 2 + 1) := ⟨_, rfl⟩
    rw [← hB32] at hP hD
    have hd32 := dr_rg hd31 (by omega) (B' := B32) hB32
    refine lv_iadd hx hb dX10_set_263 ?_
    refine s_ist hx hb hK.2.1 hP hD hS ((wB_get (o := 3 + i) (by omega)).trans (by rw [cB_i hi])) (vp_in_lit (by decide)) (j := 9) (by decide) dX10_set_264 (fun H locs hP hD hS => ?_)
    rw [wB_i hi] at hP hD
    obtain ⟨B33, hB33⟩ : ∃ Z9 : Mm, Z9 = up2 B32 (3 + i) 9 (16 + w18) := ⟨_, rfl⟩
    rw [← hB33] at hP hD
    have hd33 := row_rg hd32 (by omega) hB33
    refine lv_aload_n hx hb dX10_set_265 rfl (lv_at hl 3 rfl) ?_
    refine va_get (D := G) (ci := 10) (v := .ref (a 0)) (C := RX10) (T := TX10) (N := 22) hx hb hts iX10_set_X10 hown hK.1.1 hP 37 (wB_get (o := 0) (by decide)) rfl 0 (by decide) (hts (.fieldLink RX10 10 "MelodeonLaw$Bench" "m" "LMelodeon;") (by decide +kernel)) (fun _ h9 => h9) rfl dX10_set_266 ?_
    refine lv_iload_n hx hb dX10_set_269 rfl (lv_at hl 2 rfl) ?_
    refine lv_aload_n hx hb dX10_set_270 rfl (lv_at hl 1 rfl) ?_
    refine lv_bipush (v := 8) hx hb dX10_set_271 (by decide) ?_
    refine s_ild hx hb hK.2.1 hP ((wB_get (o := 3 + i) (by omega)).trans (by rw [cB_i hi])) (vp_in_lit (by decide)) (j := 8) (by decide) (v := 1 + w17) (by rw [hB33, up2_k (by decide), hB32, up2_n (by omega), hB31, up2_h]) dX10_set_273 ?_
    refine lv_aload_n hx hb dX10_set_274 rfl (lv_at hl 1 rfl) ?_
    refine lv_bipush (v := 9) hx hb dX10_set_275 (by decide) ?_
    refine s_ild hx hb hK.2.1 hP ((wB_get (o := 3 + i) (by omega)).trans (by rw [cB_i hi])) (vp_in_lit (by decide)) (j := 9) (by decide) (v := 16 + w18) (by rw [hB33, up2_h]) dX10_set_277 ?_
    refine t_cVi (As := [.int (nI i), .int (1 + w17), .int (16 + w18)]) (rest := []) ⟨hx, hb, hml, hown, hts⟩ (c_X9_setFilter l G cA a (t_ap hD) S L H.size (nI i) (1 + w17) (16 + w18) (rg_ge (vp_rg 3 (vp_in_nI hi (by decide)) (by decide) (by decide)) (C := 0) (by decide) (by decide)) (rg_lt (vp_rg 3 (vp_in_nI hi (by decide)) (by decide) (by decide)) (C := 4) (by decide) (by decide)) (rg_ge (rg_w (a' := 1) (b' := 128) (rg_add (rg_c (show (1 : Int32).toInt = 1 from by decide)) (vp_rg 127 hw17 (by decide) (by decide)) (by decide) (by decide)).1 (by decide) (by decide)) (C := 1) (by decide) (by decide)) (rg_le (rg_w (a' := 1) (b' := 128) (rg_add (rg_c (show (1 : Int32).toInt = 1 from by decide)) (vp_rg 127 hw17 (by decide) (by decide)) (by decide) (by decide)).1 (by decide) (by decide)) (C := 128) (by decide) (by decide)) (rg_ge (rg_w (a' := 16) (b' := 256) (rg_add (rg_c (show (16 : Int32).toInt = 16 from by decide)) (vp_rg 240 hw18 (by decide) (by decide)) (by decide) (by decide)).1 (by decide) (by decide)) (C := 16) (by decide) (by decide)) (rg_le (rg_w (a' := 16) (b' := 256) (rg_add (rg_c (show (16 : Int32).toInt = 16 from by decide)) (vp_rg 240 hw18 (by decide) (by decide)) (by decide) (by decide)).1 (by decide) (by decide)) (C := 256) (by decide) (by decide))) (cwV 3 hts gX10_set_X9_setFilter rfl rfl rfl (by decide +kernel) ⟨Nat.le_of_ble_eq_true rfl, Nat.le_of_ble_eq_true rfl⟩) hK.1 hA hP hD hS rfl hl.1 rfl (lv_room (Nat.le_of_ble_eq_true rfl)) dX10_set_278 ⟨Nat.le_of_ble_eq_true rfl, Nat.le_of_ble_eq_true rfl⟩ (fun H locs hP hD hS => ?_)
    refine lv_iload hx hb dX10_set_281 (lv_at hl 0 rfl) ?_
    refine lv_icmp_ne (tgt := 290) hx hb dX10_set_283 (by decide) (fun c9 => absurd (show rX9_setFilter S (nI i) (1 + w17) (16 + w18) = B (3 + i) 8 from by unfold rX9_setFilter; rw [io_n hi]; exact hRB.1 i hi 8 (by decide)) c9) (fun _ => ?_)
    refine lv_iconst (v := 1) hx hb dX10_set_286 (by decide) ?_
    refine lv_goto (tgt := 291) hx hb dX10_set_287 (by decide) ?_
    refine b_zret (u := (fX9_setFilter S (nI i) (1 + w17) (16 + w18), B33)) hx hb hr hlocks rfl ⟨rfl, ?_, ?_, ?_, ?_⟩ hP hD hS dX10_set_291
    · show RB (fX9_setFilter S (nI i) (1 + w17) (16 + w18)) B33
      rw [sf_f hi, hB33, hB32, hB31, hB30, hB2, hB1]
      exact RB_up hi (RB_dr (by decide) (RB_up hi (RB_dr (by decide) (RB_dr (by decide) (RB_dr (by decide) (hRB))))))
    · show JI (fX9_setFilter S (nI i) (1 + w17) (16 + w18))
      rw [sf_f hi]
      exact JI_up (by decide) (JI_up (by decide) hJ)
    · intro o h1 h4 h14
      show (fX9_setFilter S (nI i) (1 + w17) (16 + w18)) o = S o
      rw [sf_f hi, up2_n (by omega), up2_n (by omega)]
    · exact rg_w hd33 (by omega) (by omega)
  ·
    refine lv_tableIn (off := 273) (tgt := 292) hx hb dX10_set_19 (by decide) (by decide) rfl (by decide) ?_
    refine lv_aload_n hx hb dX10_set_292 rfl (lv_at hl 0 rfl) ?_
    refine lv_bipush (v := 10) hx hb dX10_set_293 (by decide) ?_
    refine s_ild hx hb hK.2.1 hP ((wB_get (o := 3 + i) (by omega)).trans (by rw [cB_i hi])) (vp_in_lit (by decide)) (j := 10) (by decide) (v := B (3 + i) 10) (by rw [hB2, up2_n (by omega), hB1, up2_n (by omega)]) dX10_set_295 ?_
    refine lv_istore (lv' := [(6, .int (B (3 + i) 10)), (2, .ref (β (3 + i))), (1, .int (nI i)), (0, .ref (β 0))]) hx hb dX10_set_296 hl (by decide) rfl (fun ls hl => ?_)
    refine lv_aload_n hx hb dX10_set_298 rfl (lv_at hl 1 rfl) ?_
    refine lv_bipush (v := 10) hx hb dX10_set_299 (by decide) ?_
    refine lv_aload_n hx hb dX10_set_301 rfl (lv_at hl 3 rfl) ?_
    refine lv_bipush (v := 65) hx hb dX10_set_302 (by decide) ?_
    refine v_cVi (k0 := 37) (q0 := β 0) (e0 := .inr (10, bcl a β ρ b (B2 0))) (e1 := .inr (10, bcl a β ρ b (upd (B2 0) 2 (B2 0 2 + 1)))) (As := [.int 65]) (rest := [.int 10, .ref (β (3 + i))]) ⟨hx, hb, hml, hown, hts⟩ (c_X10_draw l G cA c2 c3 (a 37) b N xs H.size a β ρ (β 0) (B2 0) 65 (by decide) (by decide) hN hd2) (cwV 1 hts gX10_set_X10_draw rfl rfl rfl (by decide +kernel) ⟨Nat.le_of_ble_eq_true rfl, Nat.le_of_ble_eq_true rfl⟩) (wB_recv hK.1.1 hP) hK hA hP hD (wB_get (o := 0) (by decide)) hS rfl hl.1 rfl (lv_room (Nat.le_of_ble_eq_true rfl)) dX10_set_304 ⟨Nat.le_of_ble_eq_true rfl, Nat.le_of_ble_eq_true rfl⟩ (fun w19 H locs hw19 hP hD hS => ?_)
    rw [wB_d] at hP hD
    obtain ⟨B34, hB34⟩ : ∃ Z9 : Mm, Z9 = up2 B2 0 2 (B2 0 2 + 1) := ⟨_, rfl⟩
    rw [← hB34] at hP hD
    have hd34 := dr_rg hd2 (by omega) (B' := B34) hB34
    refine s_ist hx hb hK.2.1 hP hD hS ((wB_get (o := 3 + i) (by omega)).trans (by rw [cB_i hi])) (vp_in_lit (by decide)) (j := 10) (by decide) dX10_set_307 (fun H locs hP hD hS => ?_)
    rw [wB_i hi] at hP hD
    obtain ⟨B35, hB35⟩ : ∃ Z9 : Mm, Z9 = up2 B34 (3 + i) 10 w19 := ⟨_, rfl⟩
    rw [← hB35] at hP hD
    have hd35 := row_rg hd34 (by omega) hB35
    refine lv_aload_n hx hb dX10_set_308 rfl (lv_at hl 1 rfl) ?_
    refine lv_bipush (v := 11) hx hb dX10_set_309 (by decide) ?_
    refine lv_bipush (v := 8) hx hb dX10_set_311 (by decide) ?_
    refine lv_aload_n hx hb dX10_set_313 rfl (lv_at hl 3 rfl) ?_
    refine lv_bipush (v := 60) hx hb dX10_set_314 (by decide) ?_
    refine v_cVi (k0 := 37) (q0 := β 0) (e0 := .inr (10, bcl a β ρ b (B35 0))) (e1 := .inr (10, bcl a β ρ b (upd (B35 0) 2 (B35 0 2 + 1)))) (As := [.int 60]) (rest := [.int 8, .int 11, .ref (β (3 + i))]) ⟨hx, hb, hml, hown, hts⟩ (c_X10_draw l G cA c2 c3 (a 37) b N xs H.size a β ρ (β 0) (B35 0) 60 (by decide) (by decide) hN hd35) (cwV 1 hts gX10_set_X10_draw rfl rfl rfl (by decide +kernel) ⟨Nat.le_of_ble_eq_true rfl, Nat.le_of_ble_eq_true rfl⟩) (wB_recv hK.1.1 hP) hK hA hP hD (wB_get (o := 0) (by decide)) hS rfl hl.1 rfl (lv_room (Nat.le_of_ble_eq_true rfl)) dX10_set_316 ⟨Nat.le_of_ble_eq_true rfl, Nat.le_of_ble_eq_true rfl⟩ (fun w20 H locs hw20 hP hD hS => ?_)
    rw [wB_d] at hP hD
    obtain ⟨B36, hB36⟩ : ∃ Z9 : Mm, Z9 = up2 B35 0 2 (B35 0 2 + 1) := ⟨_, rfl⟩
    rw [← hB36] at hP hD
    have hd36 := dr_rg hd35 (by omega) (B' := B36) hB36
    refine lv_iadd hx hb dX10_set_319 ?_
    refine s_ist hx hb hK.2.1 hP hD hS ((wB_get (o := 3 + i) (by omega)).trans (by rw [cB_i hi])) (vp_in_lit (by decide)) (j := 11) (by decide) dX10_set_320 (fun H locs hP hD hS => ?_)
    rw [wB_i hi] at hP hD
    obtain ⟨B37, hB37⟩ : ∃ Z9 : Mm, Z9 = up2 B36 (3 + i) 11 (8 + w20) := ⟨_, rfl⟩
    rw [← hB37] at hP hD
    have hd37 := row_rg hd36 (by omega) hB37
    refine lv_aload_n hx hb dX10_set_321 rfl (lv_at hl 3 rfl) ?_
    refine va_get (D := G) (ci := 10) (v := .ref (a 0)) (C := RX10) (T := TX10) (N := 22) hx hb hts iX10_set_X10 hown hK.1.1 hP 37 (wB_get (o := 0) (by decide)) rfl 0 (by decide) (hts (.fieldLink RX10 10 "MelodeonLaw$Bench" "m" "LMelodeon;") (by decide +kernel)) (fun _ h9 => h9) rfl dX10_set_322 ?_
    refine lv_iload_n hx hb dX10_set_325 rfl (lv_at hl 2 rfl) ?_
    refine lv_aload_n hx hb dX10_set_326 rfl (lv_at hl 1 rfl) ?_
    refine lv_bipush (v := 10) hx hb dX10_set_327 (by decide) ?_
    refine s_ild hx hb hK.2.1 hP ((wB_get (o := 3 + i) (by omega)).trans (by rw [cB_i hi])) (vp_in_lit (by decide)) (j := 10) (by decide) (v := w19) (by rw [hB37, up2_k (by decide), hB36, up2_n (by omega), hB35, up2_h]) dX10_set_329 ?_
    refine lv_aload_n hx hb dX10_set_330 rfl (lv_at hl 1 rfl) ?_
    refine lv_bipush (v := 11) hx hb dX10_set_331 (by decide) ?_
    refine s_ild hx hb hK.2.1 hP ((wB_get (o := 3 + i) (by omega)).trans (by rw [cB_i hi])) (vp_in_lit (by decide)) (j := 11) (by decide) (v := 8 + w20) (by rw [hB37, up2_h]) dX10_set_333 ?_
    refine t_cVi (As := [.int (nI i), .int w19, .int (8 + w20)]) (rest := []) ⟨hx, hb, hml, hown, hts⟩ (c_X9_setVibrato l G cA a (t_ap hD) S L H.size (nI i) w19 (8 + w20) (rg_ge (vp_rg 3 (vp_in_nI hi (by decide)) (by decide) (by decide)) (C := 0) (by decide) (by decide)) (rg_lt (vp_rg 3 (vp_in_nI hi (by decide)) (by decide) (by decide)) (C := 4) (by decide) (by decide)) (rg_ge (vp_rg 64 hw19 (by decide) (by decide)) (C := 0) (by decide) (by decide)) (rg_le (vp_rg 64 hw19 (by decide) (by decide)) (C := 64) (by decide) (by decide)) (rg_ge (rg_w (a' := 8) (b' := 67) (rg_add (rg_c (show (8 : Int32).toInt = 8 from by decide)) (vp_rg 59 hw20 (by decide) (by decide)) (by decide) (by decide)).1 (by decide) (by decide)) (C := 8) (by decide) (by decide)) (rg_le (rg_w (a' := 8) (b' := 67) (rg_add (rg_c (show (8 : Int32).toInt = 8 from by decide)) (vp_rg 59 hw20 (by decide) (by decide)) (by decide) (by decide)).1 (by decide) (by decide)) (C := 255) (by decide) (by decide))) (cwV 3 hts gX10_set_X9_setVibrato rfl rfl rfl (by decide +kernel) ⟨Nat.le_of_ble_eq_true rfl, Nat.le_of_ble_eq_true rfl⟩) hK.1 hA hP hD hS rfl hl.1 rfl (lv_room (Nat.le_of_ble_eq_true rfl)) dX10_set_334 ⟨Nat.le_of_ble_eq_true rfl, Nat.le_of_ble_eq_true rfl⟩ (fun H locs hP hD hS => ?_)
    refine lv_iload hx hb dX10_set_337 (lv_at hl 0 rfl) ?_
    refine lv_icmp_ne (tgt := 346) hx hb dX10_set_339 (by decide) (fun c9 => absurd (show rX9_setVibrato S (nI i) w19 (8 + w20) = B (3 + i) 10 from by unfold rX9_setVibrato; rw [io_n hi]; exact hRB.1 i hi 10 (by decide)) c9) (fun _ => ?_)
    refine lv_iconst (v := 1) hx hb dX10_set_342 (by decide) ?_
    refine lv_goto (tgt := 347) hx hb dX10_set_343 (by decide) ?_
    refine b_zret (u := (fX9_setVibrato S (nI i) w19 (8 + w20), B37)) hx hb hr hlocks rfl ⟨rfl, ?_, ?_, ?_, ?_⟩ hP hD hS dX10_set_347
    · show RB (fX9_setVibrato S (nI i) w19 (8 + w20)) B37
      rw [sv_f hi, hB37, hB36, hB35, hB34, hB2, hB1]
      exact RB_up hi (RB_dr (by decide) (RB_up hi (RB_dr (by decide) (RB_dr (by decide) (RB_dr (by decide) (hRB))))))
    · show JI (fX9_setVibrato S (nI i) w19 (8 + w20))
      rw [sv_f hi]
      exact JI_up (by decide) (JI_up (by decide) hJ)
    · intro o h1 h4 h14
      show (fX9_setVibrato S (nI i) w19 (8 + w20)) o = S o
      rw [sv_f hi, up2_n (by omega), up2_n (by omega)]
    · exact rg_w hd37 (by omega) (by omega)
  ·
    refine lv_tableIn (off := 329) (tgt := 348) hx hb dX10_set_19 (by decide) (by decide) rfl (by decide) ?_
    refine lv_aload_n hx hb dX10_set_348 rfl (lv_at hl 2 rfl) ?_
    refine lv_bipush (v := 32) hx hb dX10_set_349 (by decide) ?_
    refine v_cVi (k0 := 37) (q0 := β 0) (e0 := .inr (10, bcl a β ρ b (B2 0))) (e1 := .inr (10, bcl a β ρ b (upd (B2 0) 2 (B2 0 2 + 1)))) (As := [.int 32]) (rest := []) ⟨hx, hb, hml, hown, hts⟩ (c_X10_draw l G cA c2 c3 (a 37) b N xs H.size a β ρ (β 0) (B2 0) 32 (by decide) (by decide) hN hd2) (cwV 1 hts gX10_set_X10_draw rfl rfl rfl (by decide +kernel) ⟨Nat.le_of_ble_eq_true rfl, Nat.le_of_ble_eq_true rfl⟩) (wB_recv hK.1.1 hP) hK hA hP hD (wB_get (o := 0) (by decide)) hS rfl hl.1 rfl (lv_room (Nat.le_of_ble_eq_true rfl)) dX10_set_351 ⟨Nat.le_of_ble_eq_true rfl, Nat.le_of_ble_eq_true rfl⟩ (fun w21 H locs hw21 hP hD hS => ?_)
    rw [wB_d] at hP hD
    obtain ⟨B38, hB38⟩ : ∃ Z9 : Mm, Z9 = up2 B2 0 2 (B2 0 2 + 1) := ⟨_, rfl⟩
    rw [← hB38] at hP hD
    have hd38 := dr_rg hd2 (by omega) (B' := B38) hB38
    obtain ⟨j, hj, ej⟩ := vp_nI hw21 (by decide)
    rw [ej]
    refine lv_istore (lv' := [(7, .int (nI j)), (2, .ref (β (3 + i))), (1, .int (nI i)), (0, .ref (β 0))]) hx hb dX10_set_354 hl (by decide) rfl (fun ls hl => ?_)
    refine lv_aload_n hx hb dX10_set_356 rfl (lv_at hl 3 rfl) ?_
    refine va_get (D := G) (ci := 10) (v := .ref (β 1)) (C := RX10) (T := TX10) (N := 22) hx hb hts iX10_set_X10 hown hK.1.1 hP 37 (wB_get (o := 0) (by decide)) rfl 3 (by decide) (hts (.fieldLink RX10 16 "MelodeonLaw$Bench" "drawn" "[I") (by decide +kernel)) (fun _ h9 => h9) rfl dX10_set_357 ?_
    refine lv_iload hx hb dX10_set_360 (lv_at hl 0 rfl) ?_
    refine s_ild hx hb hK.2.1 hP (wB_get (o := 1) (by decide)) (vp_in_nI hj (by decide)) (j := j) (nI_clamp (by omega)) (v := B 1 j) (by rw [hB38, up2_n (by omega), hB2, up2_n (by omega), hB1, up2_n (by omega)]) dX10_set_362 ?_
    refine lv_istore (lv' := [(8, .int (B 1 j)), (7, .int (nI j)), (2, .ref (β (3 + i))), (1, .int (nI i)), (0, .ref (β 0))]) hx hb dX10_set_363 hl (by decide) rfl (fun ls hl => ?_)
    refine lv_aload_n hx hb dX10_set_365 rfl (lv_at hl 4 rfl) ?_
    refine va_get (D := G) (ci := 10) (v := .ref (β 1)) (C := RX10) (T := TX10) (N := 22) hx hb hts iX10_set_X10 hown hK.1.1 hP 37 (wB_get (o := 0) (by decide)) rfl 3 (by decide) (hts (.fieldLink RX10 16 "MelodeonLaw$Bench" "drawn" "[I") (by decide +kernel)) (fun _ h9 => h9) rfl dX10_set_366 ?_
    refine lv_iload hx hb dX10_set_369 (lv_at hl 1 rfl) ?_
    refine lv_aload_n hx hb dX10_set_371 rfl (lv_at hl 4 rfl) ?_
    refine lv_sipush (v := 2001) hx hb dX10_set_372 (by decide) ?_
    refine v_cVi (k0 := 37) (q0 := β 0) (e0 := .inr (10, bcl a β ρ b (B38 0))) (e1 := .inr (10, bcl a β ρ b (upd (B38 0) 2 (B38 0 2 + 1)))) (As := [.int 2001]) (rest := [.int (nI j), .ref (β 1)]) ⟨hx, hb, hml, hown, hts⟩ (c_X10_draw l G cA c2 c3 (a 37) b N xs H.size a β ρ (β 0) (B38 0) 2001 (by decide) (by decide) hN hd38) (cwV 1 hts gX10_set_X10_draw rfl rfl rfl (by decide +kernel) ⟨Nat.le_of_ble_eq_true rfl, Nat.le_of_ble_eq_true rfl⟩) (wB_recv hK.1.1 hP) hK hA hP hD (wB_get (o := 0) (by decide)) hS rfl hl.1 rfl (lv_room (Nat.le_of_ble_eq_true rfl)) dX10_set_375 ⟨Nat.le_of_ble_eq_true rfl, Nat.le_of_ble_eq_true rfl⟩ (fun w22 H locs hw22 hP hD hS => ?_)
    rw [wB_d] at hP hD
    obtain ⟨B39, hB39⟩ : ∃ Z9 : Mm, Z9 = up2 B38 0 2 (B38 0 2 + 1) := ⟨_, rfl⟩
    rw [← hB39] at hP hD
    have hd39 := dr_rg hd38 (by omega) (B' := B39) hB39
    refine lv_sipush (v := 1000) hx hb dX10_set_378 (by decide) ?_
    refine lv_isub hx hb dX10_set_381 ?_
    refine s_ist hx hb hK.2.1 hP hD hS (wB_get (o := 1) (by decide)) (vp_in_nI hj (by decide)) (j := j) (nI_clamp (by omega)) dX10_set_382 (fun H locs hP hD hS => ?_)
    rw [wB_1] at hP hD
    obtain ⟨B40, hB40⟩ : ∃ Z9 : Mm, Z9 = up2 B39 1 j (w22 - 1000) := ⟨_, rfl⟩
    rw [← hB40] at hP hD
    have hd40 := row_rg hd39 (by omega) hB40
    refine lv_aload_n hx hb dX10_set_383 rfl (lv_at hl 4 rfl) ?_
    refine va_get (D := G) (ci := 10) (v := .ref (a 0)) (C := RX10) (T := TX10) (N := 22) hx hb hts iX10_set_X10 hown hK.1.1 hP 37 (wB_get (o := 0) (by decide)) rfl 0 (by decide) (hts (.fieldLink RX10 10 "MelodeonLaw$Bench" "m" "LMelodeon;") (by decide +kernel)) (fun _ h9 => h9) rfl dX10_set_384 ?_
    refine lv_iload hx hb dX10_set_387 (lv_at hl 1 rfl) ?_
    refine lv_aload_n hx hb dX10_set_389 rfl (lv_at hl 4 rfl) ?_
    refine va_get (D := G) (ci := 10) (v := .ref (β 1)) (C := RX10) (T := TX10) (N := 22) hx hb hts iX10_set_X10 hown hK.1.1 hP 37 (wB_get (o := 0) (by decide)) rfl 3 (by decide) (hts (.fieldLink RX10 16 "MelodeonLaw$Bench" "drawn" "[I") (by decide +kernel)) (fun _ h9 => h9) rfl dX10_set_390 ?_
    refine lv_iload hx hb dX10_set_393 (lv_at hl 1 rfl) ?_
    refine s_ild hx hb hK.2.1 hP (wB_get (o := 1) (by decide)) (vp_in_nI hj (by decide)) (j := j) (nI_clamp (by omega)) (v := w22 - 1000) (by rw [hB40, up2_h]) dX10_set_395 ?_
    refine t_cVi (As := [.int (nI j), .int (w22 - 1000)]) (rest := []) ⟨hx, hb, hml, hown, hts⟩ (c_X9_draw l G cA a (t_ap hD) S L H.size (nI j) (w22 - 1000) (rg_ge (vp_rg 31 (vp_in_nI hj (by decide)) (by decide) (by decide)) (C := 0) (by decide) (by decide)) (rg_lt (vp_rg 31 (vp_in_nI hj (by decide)) (by decide) (by decide)) (C := 32) (by decide) (by decide)) (rg_ge (rg_w (a' := (-1000)) (b' := 1000) (rg_sub (vp_rg 2000 hw22 (by decide) (by decide)) (rg_c (show (1000 : Int32).toInt = 1000 from by decide)) (by decide) (by decide)).1 (by decide) (by decide)) (C := (-1000)) (by decide) (by decide)) (rg_le (rg_w (a' := (-1000)) (b' := 1000) (rg_sub (vp_rg 2000 hw22 (by decide) (by decide)) (rg_c (show (1000 : Int32).toInt = 1000 from by decide)) (by decide) (by decide)).1 (by decide) (by decide)) (C := 1000) (by decide) (by decide))) (cwV 2 hts gX10_set_X9_draw rfl rfl rfl (by decide +kernel) ⟨Nat.le_of_ble_eq_true rfl, Nat.le_of_ble_eq_true rfl⟩) hK.1 hA hP hD hS rfl hl.1 rfl (lv_room (Nat.le_of_ble_eq_true rfl)) dX10_set_396 ⟨Nat.le_of_ble_eq_true rfl, Nat.le_of_ble_eq_true rfl⟩ (fun H locs hP hD hS => ?_)
    refine lv_iload hx hb dX10_set_399 (lv_at hl 0 rfl) ?_
    refine lv_icmp_ne (tgt := 408) hx hb dX10_set_401 (by decide) (fun c9 => absurd (show rX9_draw S (nI j) (w22 - 1000) = B 1 j from by rw [sd_r hj]; exact hRB.2.1 j hj) c9) (fun _ => ?_)
    refine lv_iconst (v := 1) hx hb dX10_set_404 (by decide) ?_
    refine lv_goto (tgt := 409) hx hb dX10_set_405 (by decide) ?_
    refine b_zret (u := (fX9_draw S (nI j) (w22 - 1000), B40)) hx hb hr hlocks rfl ⟨rfl, ?_, ?_, ?_, ?_⟩ hP hD hS dX10_set_409
    · show RB (fX9_draw S (nI j) (w22 - 1000)) B40
      rw [sd_f hj, hB40, hB39, hB38, hB2, hB1]
      exact RB_dw (RB_dr (by decide) (RB_dr (by decide) (RB_dr (by decide) (RB_dr (by decide) (hRB)))))
    · show JI (fX9_draw S (nI j) (w22 - 1000))
      rw [sd_f hj]
      exact JI_dw hJ
    · intro o h1 h4 h14
      show (fX9_draw S (nI j) (w22 - 1000)) o = S o
      rw [sd_f hj, up2_n (by omega)]
    · exact rg_w hd40 (by omega) (by omega)
  ·
    refine lv_tableOut (tgt := 410) hx hb dX10_set_19 (by decide) (by decide) ?_
    refine lv_aload_n hx hb dX10_set_410 rfl (lv_at hl 2 rfl) ?_
    refine va_get (D := G) (ci := 10) (v := .int (B2 0 8)) (C := RX10) (T := TX10) (N := 22) hx hb hts iX10_set_X10 hown hK.1.1 hP 37 (wB_get (o := 0) (by decide)) rfl 8 (by decide) (hts (.fieldLink RX10 28 "MelodeonLaw$Bench" "gain" "I") (by decide +kernel)) (fun _ h9 => h9) rfl dX10_set_411 ?_
    rw [show B2 0 8 = B 0 8 from by rw [hB2, up2_k (by decide), hB1, up2_k (by decide)]]
    refine lv_istore (lv' := [(9, .int (B 0 8)), (2, .ref (β (3 + i))), (1, .int (nI i)), (0, .ref (β 0))]) hx hb dX10_set_414 hl (by decide) rfl (fun ls hl => ?_)
    refine lv_aload_n hx hb dX10_set_416 rfl (lv_at hl 3 rfl) ?_
    refine lv_aload_n hx hb dX10_set_417 rfl (lv_at hl 3 rfl) ?_
    refine lv_sipush (v := 257) hx hb dX10_set_418 (by decide) ?_
    refine v_cVi (k0 := 37) (q0 := β 0) (e0 := .inr (10, bcl a β ρ b (B2 0))) (e1 := .inr (10, bcl a β ρ b (upd (B2 0) 2 (B2 0 2 + 1)))) (As := [.int 257]) (rest := [.ref (β 0)]) ⟨hx, hb, hml, hown, hts⟩ (c_X10_draw l G cA c2 c3 (a 37) b N xs H.size a β ρ (β 0) (B2 0) 257 (by decide) (by decide) hN hd2) (cwV 1 hts gX10_set_X10_draw rfl rfl rfl (by decide +kernel) ⟨Nat.le_of_ble_eq_true rfl, Nat.le_of_ble_eq_true rfl⟩) (wB_recv hK.1.1 hP) hK hA hP hD (wB_get (o := 0) (by decide)) hS rfl hl.1 rfl (lv_room (Nat.le_of_ble_eq_true rfl)) dX10_set_421 ⟨Nat.le_of_ble_eq_true rfl, Nat.le_of_ble_eq_true rfl⟩ (fun w23 H locs hw23 hP hD hS => ?_)
    rw [wB_d] at hP hD
    obtain ⟨B41, hB41⟩ : ∃ Z9 : Mm, Z9 = up2 B2 0 2 (B2 0 2 + 1) := ⟨_, rfl⟩
    rw [← hB41] at hP hD
    have hd41 := dr_rg hd2 (by omega) (B' := B41) hB41
    refine va_put (D := G) (ci := 10) (v := .int w23) (ty := .int) (C := RX10) (T := TX10) (N := 22) hx hb hts iX10_set_X10 tyX10 tyX10_ok nmX10 hown hK.1.1 hP hD hS 37 (wB_get (o := 0) (by decide)) rfl 8 (by decide) (hts (.fieldLink RX10 28 "MelodeonLaw$Bench" "gain" "I") (by decide +kernel)) (fun _ h9 => h9) rfl (by decide +kernel) rfl rfl (Nat.le_of_ble_eq_true rfl) dX10_set_424 (fun H locs hP hD hS => ?_)
    rw [wB_f8] at hP hD
    obtain ⟨B42, hB42⟩ : ∃ Z9 : Mm, Z9 = up2 B41 0 8 w23 := ⟨_, rfl⟩
    rw [← hB42] at hP hD
    have hd42 := fld_rg hd41 (by decide) hB42
    refine lv_aload_n hx hb dX10_set_427 rfl (lv_at hl 3 rfl) ?_
    refine va_get (D := G) (ci := 10) (v := .ref (a 0)) (C := RX10) (T := TX10) (N := 22) hx hb hts iX10_set_X10 hown hK.1.1 hP 37 (wB_get (o := 0) (by decide)) rfl 0 (by decide) (hts (.fieldLink RX10 10 "MelodeonLaw$Bench" "m" "LMelodeon;") (by decide +kernel)) (fun _ h9 => h9) rfl dX10_set_428 ?_
    refine lv_aload_n hx hb dX10_set_431 rfl (lv_at hl 3 rfl) ?_
    refine va_get (D := G) (ci := 10) (v := .int (B42 0 8)) (C := RX10) (T := TX10) (N := 22) hx hb hts iX10_set_X10 hown hK.1.1 hP 37 (wB_get (o := 0) (by decide)) rfl 8 (by decide) (hts (.fieldLink RX10 28 "MelodeonLaw$Bench" "gain" "I") (by decide +kernel)) (fun _ h9 => h9) rfl dX10_set_432 ?_
    rw [show B42 0 8 = w23 from by rw [hB42, up2_h]]
    refine t_cVi (As := [.int w23]) (rest := []) ⟨hx, hb, hml, hown, hts⟩ (c_X9_setGain l G cA a (t_ap hD) S L H.size w23 (rg_ge (vp_rg 256 hw23 (by decide) (by decide)) (C := 0) (by decide) (by decide)) (rg_le (vp_rg 256 hw23 (by decide) (by decide)) (C := 256) (by decide) (by decide))) (cwV 1 hts gX10_set_X9_setGain rfl rfl rfl (by decide +kernel) ⟨Nat.le_of_ble_eq_true rfl, Nat.le_of_ble_eq_true rfl⟩) hK.1 hA hP hD hS rfl hl.1 rfl (lv_room (Nat.le_of_ble_eq_true rfl)) dX10_set_435 ⟨Nat.le_of_ble_eq_true rfl, Nat.le_of_ble_eq_true rfl⟩ (fun H locs hP hD hS => ?_)
    refine lv_iload hx hb dX10_set_438 (lv_at hl 0 rfl) ?_
    refine lv_icmp_ne (tgt := 447) hx hb dX10_set_440 (by decide) (fun c9 => absurd (show rX9_setGain S w23 = B 0 8 from hRB.2.2) c9) (fun _ => ?_)
    refine lv_iconst (v := 1) hx hb dX10_set_443 (by decide) ?_
    refine lv_goto (tgt := 448) hx hb dX10_set_444 (by decide) ?_
    refine b_zret (u := (fX9_setGain S w23, B42)) hx hb hr hlocks rfl ⟨rfl, ?_, ?_, ?_, ?_⟩ hP hD hS dX10_set_448
    · show RB (fX9_setGain S w23) B42
      rw [hB42, hB41, hB2, hB1]
      exact RB_gn (RB_dr (by decide) (RB_dr (by decide) (RB_dr (by decide) (hRB))))
    · show JI (fX9_setGain S w23)
      exact JI_gn hJ
    · intro o h1 h4 h14
      show (fX9_setGain S w23) o = S o
      unfold fX9_setGain
      rw [up2_n (by omega)]
    · exact rg_w hd42 (by omega) (by omega)
