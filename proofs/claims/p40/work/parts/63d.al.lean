section LWK
variable {p : Program} {l : Launch} {e : Env} {s : State} {m : MethodId} {args : Array Value} {below : List Frame} {meth : Method} {c : Code} {H : Heap} {locs : List Loc} {cells slots : Nat} {Q : State → Prop}
variable {ls : Array Slot} {G : va_G} {A0 : Nat → Prop} {cA c2 c3 : ClassId} {a β ρ : Nat → Nat} {b N : Nat} {xs : Nat → Int32} {wr : Nat → Nat → Option Nat} {S : Mm} {L : Int64} {B : Mm} {X : va_W}
/-- the greatest that was heard is one of what was told -/
def MX (mo : Int32) (m : Nat) (t : Nat → Int32) : Prop := mo = 0 ∨ ∃ j, j < m ∧ mo = abv (t j)
theorem MX_s {mo x : Int32} {m : Nat} {t : Nat → Int32} (h : MX mo m t) : MX (if mo < abv x then abv x else mo) (m + 1) (upd t m x) := by
  by_cases c : mo < abv x
  · rw [if_pos c]
    exact Or.inr ⟨m, by omega, by rw [pk_us]⟩
  · rw [if_neg c]
    rcases h with h | ⟨j, h1, h2⟩
    · exact Or.inl h
    · exact Or.inr ⟨j, by omega, by rw [pk_un (by omega)]; exact h2⟩
theorem nI_ge' {i n : Nat} (h : n ≤ i) (hi : i < 2 ^ 31) : nI n ≤ nI i := by
  rw [Int32.le_iff_toInt_le, nI_toInt hi, nI_toInt (by omega)]
  omega
set_option maxHeartbeats 4000000 in
theorem ah_loop (C : LC p s m c args G A0 cA c2 c3 (a 37) b N xs) {time stp pk si : Int32} {told ah : Nat} (hah : ah < 1000) (hsi : ∀ j, 0 < j → j ≤ ah → si = nI j → sdz S L j = 0) : ∀ (n kx mm : Nat) (f : Nat → Int32) (H : Heap) (locs : List Loc) (ls : Array Slot) (cells slots : Nat), kx + n = ah → mm + n ≤ 400 → IV (sq S L kx).1 → MT (sq S L kx).1 (sq S L kx).2 mm f → MX (mxs S L kx) mm f → va_P G vwCl (wB a cA c2 c3 β ρ b wr (sq S L kx).1 (sq S L kx).2 B (X ++ [(told, .inl (cA, 400, .inl f))])) H → va_D A0 (wB a cA c2 c3 β ρ b wr (sq S L kx).1 (sq S L kx).2 B (X ++ [(told, .inl (cA, 400, .inl f))])) → va_S A0 s.heap H locs → cells + 2 * n ≤ 682275 → slots + 8 * n ≤ 7054873 → lv_has ls 24 [(0, .ref b), (1, .int time), (2, .ref (β 0)), (3, .ref (a 0)), (4, .ref told), (5, .int (nI mm)), (6, .int stp), (8, .int (nI ah)), (11, .int pk), (12, .int si), (13, .int (mxs S L kx)), (14, .int (nI kx))] →
    (∀ (H1 : Heap) (locs1 : List Loc) (ls1 : Array Slot) (f1 : Nat → Int32), IV (sq S L ah).1 → MT (sq S L ah).1 (sq S L ah).2 (mm + n) f1 → MX (mxs S L ah) (mm + n) f1 → va_P G vwCl (wB a cA c2 c3 β ρ b wr (sq S L ah).1 (sq S L ah).2 B (X ++ [(told, .inl (cA, 400, .inl f1))])) H1 → va_D A0 (wB a cA c2 c3 β ρ b wr (sq S L ah).1 (sq S L ah).2 B (X ++ [(told, .inl (cA, 400, .inl f1))])) → va_S A0 s.heap H1 locs1 → lv_has ls1 24 [(0, .ref b), (1, .int time), (2, .ref (β 0)), (3, .ref (a 0)), (4, .ref told), (5, .int (nI (mm + n))), (6, .int stp), (8, .int (nI ah)), (11, .int pk), (12, .int si), (13, .int (mxs S L ah)), (14, .int (nI ah))] → W p l e room_1 s m args below meth c H1 locs1 (cells + 2 * n) (slots + 8 * n) Q (F0 m 706 ls1 [])) → W p l e room_1 s m args below meth c H locs cells slots Q (F0 m 292 ls []) := by
  have CC := C
  obtain ⟨hx, hb, hml, hown, hts, hK, hA, hN⟩ := C
  intro n
  induction n with
  | zero =>
    intro kx mm f H locs ls cells slots hk hmm hI hM hX9 hP hD hS hc hs hl kk
    have e : kx = ah := by omega
    subst e
    refine lv_iload hx hb dL_law_292 (lv_at hl 11 rfl) ?_
    refine lv_iload hx hb dL_law_294 (lv_at hl 7 rfl) ?_
    refine lv_icmp_ge (tgt := 706) hx hb dL_law_296 (by decide) (fun _ => ?_) (fun c9 => absurd (nI_ge' (Nat.le_refl _) (by omega)) c9)
    exact kk H locs ls f hI hM hX9 hP hD hS hl
  | succ n ih =>
    intro kx mm f H locs ls cells slots hk hmm hI hM hX9 hP hD hS hc hs hl kk
    refine lv_iload hx hb dL_law_292 (lv_at hl 11 rfl) ?_
    refine lv_iload hx hb dL_law_294 (lv_at hl 7 rfl) ?_
    refine lv_icmp_ge (tgt := 706) hx hb dL_law_296 (by decide) (fun c9 => absurd c9 (nI_ge (by omega) (by omega))) (fun _ => ?_)
    have e1 : fX9_sample (sq S L kx).1 (sq S L kx).2 = (sq S L (kx + 1)).1 := by rw [sq_s]
    have e2 : lX9_sample (sq S L kx).1 (sq S L kx).2 = (sq S L (kx + 1)).2 := by rw [sq_s]
    have e3 : (if mxs S L kx < abv (rX9_sample (sq S L kx).1 (sq S L kx).2) then abv (rX9_sample (sq S L kx).1 (sq S L kx).2) else mxs S L kx) = mxs S L (kx + 1) := by rw [mxs_s]; rfl
    refine ah_turn CC hI hM (by omega) (fun z => ?_) hP hD hS (by omega) (by omega) hl (fun H locs ls hP hD hS hl => ?_)
    · rw [e1]
      exact hsi (kx + 1) (by omega) (by omega) z.symm
    have hI2 := IV_sample (L := (sq S L kx).2) hI
    have hM2 := MT_sample (t' := upd f mm (rX9_sample (sq S L kx).1 (sq S L kx).2)) hM (by omega) (fun j hj => by rw [pk_un (by omega)]) (by rw [pk_us])
    have hX2 := MX_s (x := rX9_sample (sq S L kx).1 (sq S L kx).2) hX9
    rw [e1] at hI2
    rw [e1, e2] at hM2 hP hD
    rw [e3] at hX2 hl
    refine ih (kx + 1) (mm + 1) _ H locs ls (cells + 2) (slots + 8) (by omega) (by omega) hI2 hM2 hX2 hP hD hS (by omega) (by omega) hl (fun H1 locs1 ls1 f1 k1 k2 k3 k4 k5 k6 k7 => ?_)
    rw [show mm + 1 + n = mm + (n + 1) by omega] at k2 k3 k7
    rw [show cells + 2 + 2 * n = cells + 2 * (n + 1) by omega, show slots + 8 + 8 * n = slots + 8 * (n + 1) by omega]
    exact kk H1 locs1 ls1 f1 k1 k2 k3 k4 k5 k6 k7
end LWK
