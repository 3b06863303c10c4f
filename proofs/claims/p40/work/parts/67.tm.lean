set_option maxHeartbeats 4000000 in
theorem tm_loop {p : Program} {l : Launch} {e : Env} {s : State} {m : MethodId} {below : List Frame} {meth : Method} {c : Code} {G : va_G} {cA c2 c3 : ClassId} {zq b N : Nat} {xs : Nat → Int32} (C : LC p s m c #[Value.ref b] G (aN s) cA c2 c3 zq b N xs) (htsT : ∀ w ∈ wsT, w.before #[Value.ref b] s = true) (hAO : AO2 s) (hr : meth.sig.returnType = ret) (hlocks : meth.locks = false) : ∀ (n tm : Nat) (d0 : Drawn) (H : Heap) (locs : List Loc) (ls : Array Slot) (cells slots : Nat), tm + n = 3 → s.drawn.sameBut d0 lw_cs → va_S (aN s) s.heap H locs → cells ≤ 300 * tm → slots ≤ 2500 * tm → lv_has ls 24 [(1, .int (nI tm)), (0, .ref b)] → W p l e room_1 (s.setDrawn d0) m #[Value.ref b] below meth c H locs cells slots (lw_Z below #[Value.ref b] s) (F0 m 2 ls []) := by
  intro n
  induction n with
  | zero =>
    intro tm d0 H locs ls cells slots hn hd0 hS hc hs hl
    have e : tm = 3 := by omega
    subst e
    obtain ⟨hx, hb, hml, hown, hts, hK, hA, hN⟩ := LC_d C d0
    refine lv_iload_n hx hb dL_law_2 rfl (lv_at hl 0 rfl) ?_
    refine lv_iconst (v := 3) hx hb dL_law_3 (by decide) ?_
    refine lv_icmp_ge (tgt := 905) hx hb dL_law_4 (by decide) (fun _ => ?_) (fun c9 => absurd (by decide) c9)
    refine va_forget (fun q hq => hS.2.2 q hq) ?_
    refine W.widen (k := 682275) (n := 7054873) (by omega) (by omega) ?_
    refine lv_iconst (v := 1) hx hb dL_law_905 (by decide) ?_
    exact lw_ret hd0 hx hb hr hlocks dL_law_906
  | succ n ih =>
    intro tm d0 H locs ls cells slots hn hd0 hS hc hs hl
    have htm : tm < 3 := by omega
    have Cd := LC_d C d0
    obtain ⟨hx, hb, hml, hown, hts, hK, hA, hN⟩ := LC_d C d0
    refine lv_iload_n hx hb dL_law_2 rfl (lv_at hl 0 rfl) ?_
    refine lv_iconst (v := 3) hx hb dL_law_3 (by decide) ?_
    refine lv_icmp_ge (tgt := 905) hx hb dL_law_4 (by decide) (fun c9 => absurd c9 (show ¬ nI 3 ≤ nI tm from nI_ge (by omega) (by omega))) (fun _ => ?_)
    refine tb_a Cd (dr_words htsT d0) ⟨AOt.moved (u := s) (U := s.setDrawn d0) (Vm.Alike.refl s.vm) hAO.1, AOt.moved (u := s) (U := s.setDrawn d0) (Vm.Alike.refl s.vm) hAO.2⟩ hS (by omega) (by omega) hl (fun a β ρ told d H locs ls hz hd hP hD hS hl => ?_)
    have C2 : LC p s m c #[Value.ref b] G (aN s) cA c2 c3 (a 37) b N xs := by rw [hz]; exact C
    have hdr : rg (B0 d 0 2) 0 69 := by
      show rg d 0 69
      rw [hd]
      exact d_rg htm
    refine wl_loop (LC_d C2 d0) (L := 0) (t := fun _ => 0) (mm := 0) (X1 := [(ρ 11, .inl (cA, 0, .inl (fun _ => 0)))] ++ [(told, .inl (cA, 400, .inl (fun _ => 0)))]) 6 0 SM0 (B0 d) (fun _ _ => none) [] 69 H locs ls _ _ rfl IV_0 RB_0 MT_0 PR_0 (by decide) hdr hP hD hS (by omega) (by omega) hl (fun S1 B1 wr1 P1 H locs ls hI hR hM hd1 hP hD hS hl => ?_)
    refine tb_b (LC_d C2 d0) (K := 189) (by decide) hI hR hM (rg_w hd1 (by decide) (by decide)) (P_dropL hP) (D_dropL hD) hS (by omega) (by omega) hl (fun ρ S2 B2 H locs ls hI hR hM hd2 hP hD hS hl => ?_)
    refine st_loop C2 9 0 d0 S2 0 B2 0 (fun _ => 0) 209 H locs ls _ _ rfl hd0 hI hR hM (by decide) (by decide) (rg_w hd2 (by decide) (by decide)) hP hD hS (by omega) (by omega) hl (fun d1 S3 L3 B3 mm3 f3 H locs ls hd9 hP hD hS hl => ?_)
    refine te_turn (LC_d C2 d1) (tm := tm) hP hD hS (by omega) (by omega) hl (fun H locs ls hS hl => ?_)
    exact ih (tm + 1) d1 H locs ls _ _ (by omega) hd9 hS (by omega) (by omega) hl
