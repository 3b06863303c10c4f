/-! each call, there and there: the refusals, the answers, the states behind -/
theorem lr_1 {x : Int32} (h : x = 1) : (if x = 1 then (1 : Int32) else 2) = 1 := if_pos h
theorem lr_2 {x : Int32} (h : x = 2) : (if x = 1 then (1 : Int32) else 2) = 2 := if_neg (by rw [h]; decide)
theorem si_T {T : Mm} {p1 : Int32} : ∀ k i, (seX11_silentIn_32 T p1 k i).2 = up2 T 18 0 0 := by
  intro k
  induction k with
  | zero => intro i; rw [seX11_silentIn_32_0]
  | succ k ih =>
    intro i
    rw [seX11_silentIn_32_s]
    unfold eseX11_silentIn_32
    split
    · rfl
    · exact ih _
theorem sm_18 {B K : Int} {S T : Mm} {L L' M : Int64} (hB : B < 1800000000) (h : RAll B K S L T L') : fX10_sample T M 18 = T 18 := by
  have gt := gt_eq (by decide) (by decide) hB h.1.1 h.1.2.1 h.1.2.2.1 h.2.2 h.1.2.2.2.1
  rw [fin_n (by decide), s27_o (by decide) (by decide) (by decide) (by decide), mx_fr (by decide) (by decide) (by decide) (by decide) (by decide) (by decide)]
  exact gt.2.2.2.2.2.1 18 (by decide) (by decide)
theorem run_18 {B K : Int} {S T : Mm} {L L' : Int64} {p1 : Int32} (hB : B < 1000000000) (hK : K < 1000000000) (h : RAll B K S L T L') : ∀ i : Nat, i ≤ 200 → (lpX11_run_26 T L' p1 i).1 18 0 = 0 := by
  intro i
  induction i with
  | zero =>
    intro _
    rw [lpX11_run_26_0]
    exact (up2_h : up2 T 18 0 0 18 0 = 0)
  | succ i ih =>
    intro hi
    rw [lpX11_run_26_s]
    dsimp only
    unfold bX11_run_26_zS
    rw [sm_18 (by omega) (run_ok (p1 := p1) hB hK h i (by omega)).2]
    exact ih (by omega)
theorem wr3 {x : Int32} (h1 : ¬ x < (-1)) (h2 : x ≤ 47) : x = -1 ∨ vp_in x 48 := by
  by_cases c : x < 0
  · refine Or.inl ?_
    rw [Int32.lt_iff_toInt_lt] at h1 c
    have e1 : (-1 : Int32).toInt = -1 := by decide
    have e0 : (0 : Int32).toInt = 0 := by decide
    exact Int32.toInt_inj.mp (by omega)
  · exact Or.inr (vp_le (by decide) c h2)
theorem sim_draw {B K : Int} {S T : Mm} {L L' : Int64} {p1 p2 : Int32} (hB : B < 900000000) (hK : K < 900000000) (h : RAll B K S L T L') : (kX9_draw S p1 p2 = 0 → rX9_draw S p1 p2 = rX11_draw T p1 p2 ∧ fX11_draw T p1 p2 18 0 = 0 ∧ RAll (B + 600) (K + 200) (fX9_draw S p1 p2) L (fX11_draw T p1 p2) L') ∧ (¬ kX9_draw S p1 p2 = 0 → fX11_draw T p1 p2 18 0 = (if kX9_draw S p1 p2 = 1 then (1 : Int32) else 2) ∧ RAll (B + 600) (K + 200) S L (fX11_draw T p1 p2) L') := by
  have h0 := RAll_18 h 0
  refine ⟨fun hk => ?_, fun hk => ?_⟩
  · obtain ⟨z1, z2, z3, z4⟩ := kz_draw hk
    rcases kq_draw S T p1 p2 with ⟨_, e1, e2⟩ | ⟨e, _⟩ | ⟨e, _⟩
    · rw [e1, e2]
      have r := draw_ok (p2 := p2) h0 (vp_lt (by decide) z1 z2)
      refine ⟨by exact r.1, ?_, RAll_w r.2 (by omega) (by omega)⟩
      rw [up2_n (by decide), up2_h]
    · exact absurd (hk.symm.trans e) (by decide)
    · exact absurd (hk.symm.trans e) (by decide)
  · rcases kq_draw S T p1 p2 with ⟨e, _, _⟩ | ⟨e, e2⟩ | ⟨e, e2⟩
    · exact absurd e hk
    · rw [e2]
      exact ⟨up2_h.trans (lr_1 e).symm, RAll_w (RAll_18 h0 _) (by omega) (by omega)⟩
    · rw [e2]
      exact ⟨up2_h.trans (lr_2 e).symm, RAll_w (RAll_18 h0 _) (by omega) (by omega)⟩
theorem sim_wave {B K : Int} {S T : Mm} {L L' : Int64} {p1 p2 : Int32} (hB : B < 900000000) (hK : K < 900000000) (h : RAll B K S L T L') : (kX9_wave S p1 p2 = 0 → rX9_wave S p1 p2 = rX11_wave T p1 p2 ∧ fX11_wave T p1 p2 18 0 = 0 ∧ RAll (B + 600) (K + 200) S L (fX11_wave T p1 p2) L') ∧ (¬ kX9_wave S p1 p2 = 0 → fX11_wave T p1 p2 18 0 = (if kX9_wave S p1 p2 = 1 then (1 : Int32) else 2) ∧ RAll (B + 600) (K + 200) S L (fX11_wave T p1 p2) L') := by
  have h0 := RAll_18 h 0
  refine ⟨fun hk => ?_, fun hk => ?_⟩
  · obtain ⟨z1, z2, z3, z4⟩ := kz_wave hk
    rcases kq_wave S T p1 p2 with ⟨_, e1, e2⟩ | ⟨e, _⟩ | ⟨e, _⟩
    · rw [e1, e2]
      exact ⟨wave_ok h0 (vp_lt (by decide) z1 z2) (vp_le (by decide) z3 z4), up2_h, RAll_w h0 (by omega) (by omega)⟩
    · exact absurd (hk.symm.trans e) (by decide)
    · exact absurd (hk.symm.trans e) (by decide)
  · rcases kq_wave S T p1 p2 with ⟨e, _, _⟩ | ⟨e, e2⟩ | ⟨e, e2⟩
    · exact absurd e hk
    · rw [e2]
      exact ⟨up2_h.trans (lr_1 e).symm, RAll_w (RAll_18 h0 _) (by omega) (by omega)⟩
    · rw [e2]
      exact ⟨up2_h.trans (lr_2 e).symm, RAll_w (RAll_18 h0 _) (by omega) (by omega)⟩
theorem sim_stride {B K : Int} {S T : Mm} {L L' : Int64} {p1 : Int32} (hB : B < 900000000) (hK : K < 900000000) (h : RAll B K S L T L') : (kX9_stride S p1 = 0 → rX9_stride S p1 = rX11_stride T p1 ∧ fX11_stride T p1 18 0 = 0 ∧ RAll (B + 600) (K + 200) S L (fX11_stride T p1) L') ∧ (¬ kX9_stride S p1 = 0 → fX11_stride T p1 18 0 = 1 ∧ RAll (B + 600) (K + 200) S L (fX11_stride T p1) L') := by
  have h0 := RAll_18 h 0
  refine ⟨fun hk => ?_, fun hk => ?_⟩
  · obtain ⟨z1, z2⟩ := kz_stride hk
    rcases kq_stride S T p1 with ⟨_, e1, e2⟩ | ⟨e, _⟩ | ⟨e, _⟩
    · rw [e1, e2]
      exact ⟨stride_ok h0 (vp_le (by decide) z1 z2), up2_h, RAll_w h0 (by omega) (by omega)⟩
    · exact absurd (hk.symm.trans e) (by decide)
    · exact absurd (hk.symm.trans e) (by decide)
  · rcases kq_stride S T p1 with ⟨e, _, _⟩ | ⟨e, e2⟩ | ⟨e, e2⟩
    · exact absurd e hk
    · rw [e2]
      exact ⟨up2_h.trans rfl, RAll_w (RAll_18 h0 _) (by omega) (by omega)⟩
    · rw [e2]
      exact ⟨up2_h.trans rfl, RAll_w (RAll_18 h0 _) (by omega) (by omega)⟩
theorem sim_setWaves {B K : Int} {S T : Mm} {L L' : Int64} {p1 p2 p3 p4 p5 : Int32} (hB : B < 900000000) (hK : K < 900000000) (h : RAll B K S L T L') : (kX9_setWaves S p1 p2 p3 p4 p5 = 0 → rX9_setWaves S p1 p2 p3 p4 p5 = rX11_setWaves T p1 p2 p3 p4 p5 ∧ fX11_setWaves T p1 p2 p3 p4 p5 18 0 = 0 ∧ RAll (B + 600) (K + 200) (fX9_setWaves S p1 p2 p3 p4 p5) L (fX11_setWaves T p1 p2 p3 p4 p5) L') ∧ (¬ kX9_setWaves S p1 p2 p3 p4 p5 = 0 → fX11_setWaves T p1 p2 p3 p4 p5 18 0 = (if kX9_setWaves S p1 p2 p3 p4 p5 = 1 then (1 : Int32) else 2) ∧ RAll (B + 600) (K + 200) S L (fX11_setWaves T p1 p2 p3 p4 p5) L') := by
  have h0 := RAll_18 h 0
  refine ⟨fun hk => ?_, fun hk => ?_⟩
  · obtain ⟨z1, z2, z3, z4, z5, z6, z7, z8, z9, z10⟩ := kz_setWaves hk
    rcases kq_setWaves S T p1 p2 p3 p4 p5 with ⟨_, e1, e2⟩ | ⟨e, _⟩ | ⟨e, _⟩
    · rw [e1, e2]
      have r := setWaves_ok h (vp_lt (by decide) z1 z2) (vp_lt (by decide) z3 z4) (vp_lt (by decide) z5 z6) (rg_of (by decide) (by decide) z7 z8) (rg_of (by decide) (by decide) z9 z10)
      refine ⟨by exact r.1, ?_, RAll_w r.2 (by omega) (by omega)⟩
      unfold mX11_setWaves_2 fX11_put_ mX11_put__1; rw [upR_n (by decide), upR_n (by decide), up2_h]
    · exact absurd (hk.symm.trans e) (by decide)
    · exact absurd (hk.symm.trans e) (by decide)
  · rcases kq_setWaves S T p1 p2 p3 p4 p5 with ⟨e, _, _⟩ | ⟨e, e2⟩ | ⟨e, e2⟩
    · exact absurd e hk
    · rw [e2]
      exact ⟨up2_h.trans (lr_1 e).symm, RAll_w (RAll_18 h0 _) (by omega) (by omega)⟩
    · rw [e2]
      exact ⟨up2_h.trans (lr_2 e).symm, RAll_w (RAll_18 h0 _) (by omega) (by omega)⟩
theorem sim_setEnvelope {B K : Int} {S T : Mm} {L L' : Int64} {p1 p2 p3 p4 p5 : Int32} (hB : B < 900000000) (hK : K < 900000000) (h : RAll B K S L T L') : (kX9_setEnvelope S p1 p2 p3 p4 p5 = 0 → rX9_setEnvelope S p1 p2 p3 p4 p5 = rX11_setEnvelope T p1 p2 p3 p4 p5 ∧ fX11_setEnvelope T p1 p2 p3 p4 p5 18 0 = 0 ∧ RAll (B + 600) (K + 200) (fX9_setEnvelope S p1 p2 p3 p4 p5) L (fX11_setEnvelope T p1 p2 p3 p4 p5) L') ∧ (¬ kX9_setEnvelope S p1 p2 p3 p4 p5 = 0 → fX11_setEnvelope T p1 p2 p3 p4 p5 18 0 = (if kX9_setEnvelope S p1 p2 p3 p4 p5 = 1 then (1 : Int32) else 2) ∧ RAll (B + 600) (K + 200) S L (fX11_setEnvelope T p1 p2 p3 p4 p5) L') := by
  have h0 := RAll_18 h 0
  refine ⟨fun hk => ?_, fun hk => ?_⟩
  · obtain ⟨z1, z2, z3, z4, z5, z6, z7, z8, z9, z10⟩ := kz_setEnvelope hk
    rcases kq_setEnvelope S T p1 p2 p3 p4 p5 with ⟨_, e1, e2⟩ | ⟨e, _⟩ | ⟨e, _⟩
    · rw [e1, e2]
      have r := setEnvelope_ok h (vp_lt (by decide) z1 z2) (rg_of (by decide) (by decide) z3 z4) (rg_of (by decide) (by decide) z5 z6) (rg_of (by decide) (by decide) z7 z8) (rg_of (by decide) (by decide) z9 z10)
      refine ⟨by exact r.1, ?_, RAll_w r.2 (by omega) (by omega)⟩
      unfold mX11_setEnvelope_2 fX11_put_ mX11_put__1; rw [upR_n (by decide), upR_n (by decide), up2_h]
    · exact absurd (hk.symm.trans e) (by decide)
    · exact absurd (hk.symm.trans e) (by decide)
  · rcases kq_setEnvelope S T p1 p2 p3 p4 p5 with ⟨e, _, _⟩ | ⟨e, e2⟩ | ⟨e, e2⟩
    · exact absurd e hk
    · rw [e2]
      exact ⟨up2_h.trans (lr_1 e).symm, RAll_w (RAll_18 h0 _) (by omega) (by omega)⟩
    · rw [e2]
      exact ⟨up2_h.trans (lr_2 e).symm, RAll_w (RAll_18 h0 _) (by omega) (by omega)⟩
theorem sim_setFilter {B K : Int} {S T : Mm} {L L' : Int64} {p1 p2 p3 : Int32} (hB : B < 900000000) (hK : K < 900000000) (h : RAll B K S L T L') : (kX9_setFilter S p1 p2 p3 = 0 → rX9_setFilter S p1 p2 p3 = rX11_setFilter T p1 p2 p3 ∧ fX11_setFilter T p1 p2 p3 18 0 = 0 ∧ RAll (B + 600) (K + 200) (fX9_setFilter S p1 p2 p3) L (fX11_setFilter T p1 p2 p3) L') ∧ (¬ kX9_setFilter S p1 p2 p3 = 0 → fX11_setFilter T p1 p2 p3 18 0 = (if kX9_setFilter S p1 p2 p3 = 1 then (1 : Int32) else 2) ∧ RAll (B + 600) (K + 200) S L (fX11_setFilter T p1 p2 p3) L') := by
  have h0 := RAll_18 h 0
  refine ⟨fun hk => ?_, fun hk => ?_⟩
  · obtain ⟨z1, z2, z3, z4, z5, z6⟩ := kz_setFilter hk
    rcases kq_setFilter S T p1 p2 p3 with ⟨_, e1, e2⟩ | ⟨e, _⟩ | ⟨e, _⟩
    · rw [e1, e2]
      have r := setFilter_ok h (vp_lt (by decide) z1 z2) (rg_of (by decide) (by decide) z3 z4) (rg_of (by decide) (by decide) z5 z6)
      refine ⟨by exact r.1, ?_, RAll_w r.2 (by omega) (by omega)⟩
      unfold mX11_setFilter_1 fX11_put_ mX11_put__1; rw [upR_n (by decide), upR_n (by decide), up2_h]
    · exact absurd (hk.symm.trans e) (by decide)
    · exact absurd (hk.symm.trans e) (by decide)
  · rcases kq_setFilter S T p1 p2 p3 with ⟨e, _, _⟩ | ⟨e, e2⟩ | ⟨e, e2⟩
    · exact absurd e hk
    · rw [e2]
      exact ⟨up2_h.trans (lr_1 e).symm, RAll_w (RAll_18 h0 _) (by omega) (by omega)⟩
    · rw [e2]
      exact ⟨up2_h.trans (lr_2 e).symm, RAll_w (RAll_18 h0 _) (by omega) (by omega)⟩
theorem sim_setVibrato {B K : Int} {S T : Mm} {L L' : Int64} {p1 p2 p3 : Int32} (hB : B < 900000000) (hK : K < 900000000) (h : RAll B K S L T L') : (kX9_setVibrato S p1 p2 p3 = 0 → rX9_setVibrato S p1 p2 p3 = rX11_setVibrato T p1 p2 p3 ∧ fX11_setVibrato T p1 p2 p3 18 0 = 0 ∧ RAll (B + 600) (K + 200) (fX9_setVibrato S p1 p2 p3) L (fX11_setVibrato T p1 p2 p3) L') ∧ (¬ kX9_setVibrato S p1 p2 p3 = 0 → fX11_setVibrato T p1 p2 p3 18 0 = (if kX9_setVibrato S p1 p2 p3 = 1 then (1 : Int32) else 2) ∧ RAll (B + 600) (K + 200) S L (fX11_setVibrato T p1 p2 p3) L') := by
  have h0 := RAll_18 h 0
  refine ⟨fun hk => ?_, fun hk => ?_⟩
  · obtain ⟨z1, z2, z3, z4, z5, z6⟩ := kz_setVibrato hk
    rcases kq_setVibrato S T p1 p2 p3 with ⟨_, e1, e2⟩ | ⟨e, _⟩ | ⟨e, _⟩
    · rw [e1, e2]
      have r := setVibrato_ok h (vp_lt (by decide) z1 z2) (rg_of (by decide) (by decide) z3 z4) (rg_of (by decide) (by decide) z5 z6)
      refine ⟨by exact r.1, ?_, RAll_w r.2 (by omega) (by omega)⟩
      unfold mX11_setVibrato_1 fX11_put_ mX11_put__1; rw [upR_n (by decide), upR_n (by decide), up2_h]
    · exact absurd (hk.symm.trans e) (by decide)
    · exact absurd (hk.symm.trans e) (by decide)
  · rcases kq_setVibrato S T p1 p2 p3 with ⟨e, _, _⟩ | ⟨e, e2⟩ | ⟨e, e2⟩
    · exact absurd e hk
    · rw [e2]
      exact ⟨up2_h.trans (lr_1 e).symm, RAll_w (RAll_18 h0 _) (by omega) (by omega)⟩
    · rw [e2]
      exact ⟨up2_h.trans (lr_2 e).symm, RAll_w (RAll_18 h0 _) (by omega) (by omega)⟩
theorem sim_setGain {B K : Int} {S T : Mm} {L L' : Int64} {p1 : Int32} (hB : B < 900000000) (hK : K < 900000000) (h : RAll B K S L T L') : (kX9_setGain S p1 = 0 → rX9_setGain S p1 = rX11_setGain T p1 ∧ fX11_setGain T p1 18 0 = 0 ∧ RAll (B + 600) (K + 200) (fX9_setGain S p1) L (fX11_setGain T p1) L') ∧ (¬ kX9_setGain S p1 = 0 → fX11_setGain T p1 18 0 = 1 ∧ RAll (B + 600) (K + 200) S L (fX11_setGain T p1) L') := by
  have h0 := RAll_18 h 0
  refine ⟨fun hk => ?_, fun hk => ?_⟩
  · obtain ⟨z1, z2⟩ := kz_setGain hk
    rcases kq_setGain S T p1 with ⟨_, e1, e2⟩ | ⟨e, _⟩ | ⟨e, _⟩
    · rw [e1, e2]
      have r := setGain_ok (p1 := p1) h0
      refine ⟨by exact r.1, ?_, RAll_w r.2 (by omega) (by omega)⟩
      rw [up2_n (by decide), up2_h]
    · exact absurd (hk.symm.trans e) (by decide)
    · exact absurd (hk.symm.trans e) (by decide)
  · rcases kq_setGain S T p1 with ⟨e, _, _⟩ | ⟨e, e2⟩ | ⟨e, e2⟩
    · exact absurd e hk
    · rw [e2]
      exact ⟨up2_h.trans rfl, RAll_w (RAll_18 h0 _) (by omega) (by omega)⟩
    · rw [e2]
      exact ⟨up2_h.trans rfl, RAll_w (RAll_18 h0 _) (by omega) (by omega)⟩
theorem sim_setDelay {B K : Int} {S T : Mm} {L L' : Int64} {p1 p2 p3 : Int32} (hB : B < 900000000) (hK : K < 900000000) (h : RAll B K S L T L') : (kX9_setDelay S p1 p2 p3 = 0 → rX9_setDelay S p1 p2 p3 = rX11_setDelay T p1 p2 p3 ∧ fX11_setDelay T p1 p2 p3 18 0 = 0 ∧ RAll (B + 600) (K + 200) (fX9_setDelay S p1 p2 p3) L (fX11_setDelay T p1 p2 p3) L') ∧ (¬ kX9_setDelay S p1 p2 p3 = 0 → fX11_setDelay T p1 p2 p3 18 0 = 1 ∧ RAll (B + 600) (K + 200) S L (fX11_setDelay T p1 p2 p3) L') := by
  have h0 := RAll_18 h 0
  refine ⟨fun hk => ?_, fun hk => ?_⟩
  · obtain ⟨z1, z2, z3, z4, z5, z6⟩ := kz_setDelay hk
    rcases kq_setDelay S T p1 p2 p3 with ⟨_, e1, e2⟩ | ⟨e, _⟩ | ⟨e, _⟩
    · rw [e1, e2]
      have r := setDelay_ok (p2 := p2) (p3 := p3) h (rg_of (by decide) (by decide) z1 z2)
      refine ⟨by rw [up2_n (by decide)]; exact r.1, ?_, RAll_w r.2 (by omega) (by omega)⟩
      rw [sd_n (by decide), lpX11_setDelay_80_0, up2_n (by decide), up2_n (by decide), up2_n (by decide), up2_h]
    · exact absurd (hk.symm.trans e) (by decide)
    · exact absurd (hk.symm.trans e) (by decide)
  · rcases kq_setDelay S T p1 p2 p3 with ⟨e, _, _⟩ | ⟨e, e2⟩ | ⟨e, e2⟩
    · exact absurd e hk
    · rw [e2]
      exact ⟨up2_h.trans rfl, RAll_w (RAll_18 h0 _) (by omega) (by omega)⟩
    · rw [e2]
      exact ⟨up2_h.trans rfl, RAll_w (RAll_18 h0 _) (by omega) (by omega)⟩
theorem sim_begin {B K : Int} {S T : Mm} {L L' : Int64} {p1 p2 p3 : Int32} (hB : B < 900000000) (hK : K < 900000000) (h : RAll B K S L T L') : (kX9_begin S p1 p2 p3 = 0 → rX9_begin S p1 p2 p3 = rX11_begin T p1 p2 p3 ∧ fX11_begin T p1 p2 p3 18 0 = 0 ∧ RAll (B + 600) (K + 200) (fX9_begin S p1 p2 p3) L (fX11_begin T p1 p2 p3) L') ∧ (¬ kX9_begin S p1 p2 p3 = 0 → fX11_begin T p1 p2 p3 18 0 = (if kX9_begin S p1 p2 p3 = 1 then (1 : Int32) else 2) ∧ RAll (B + 600) (K + 200) S L (fX11_begin T p1 p2 p3) L') := by
  have h0 := RAll_18 h 0
  refine ⟨fun hk => ?_, fun hk => ?_⟩
  · obtain ⟨z1, z2, z3, z4, z5, z6⟩ := kz_begin hk
    rcases kq_begin S T p1 p2 p3 with ⟨_, e1, e2⟩ | ⟨e, _⟩ | ⟨e, _⟩
    · rw [e1, e2]
      have r := begin_ok (p3 := p3) (by omega) h0 (vp_lt (by decide) z1 z2) (vp_le (by decide) z3 z4)
      refine ⟨by exact r.1, ?_, RAll_w r.2 (by omega) (by omega)⟩
      rw [bg_fr (by decide) (by decide), up2_h]
    · exact absurd (hk.symm.trans e) (by decide)
    · exact absurd (hk.symm.trans e) (by decide)
  · rcases kq_begin S T p1 p2 p3 with ⟨e, _, _⟩ | ⟨e, e2⟩ | ⟨e, e2⟩
    · exact absurd e hk
    · rw [e2]
      exact ⟨up2_h.trans (lr_1 e).symm, RAll_w (RAll_18 h0 _) (by omega) (by omega)⟩
    · rw [e2]
      exact ⟨up2_h.trans (lr_2 e).symm, RAll_w (RAll_18 h0 _) (by omega) (by omega)⟩
theorem sim_end {B K : Int} {S T : Mm} {L L' : Int64} {p1 : Int32} (hB : B < 900000000) (hK : K < 900000000) (h : RAll B K S L T L') : (kX9_end S p1 = 0 → rX9_end S p1 = rX11_end T p1 ∧ fX11_end T p1 18 0 = 0 ∧ RAll (B + 600) (K + 200) (fX9_end S p1) L (fX11_end T p1) L') ∧ (¬ kX9_end S p1 = 0 → fX11_end T p1 18 0 = 1 ∧ RAll (B + 600) (K + 200) S L (fX11_end T p1) L') := by
  have h0 := RAll_18 h 0
  refine ⟨fun hk => ?_, fun hk => ?_⟩
  · obtain ⟨z1, z2⟩ := kz_end hk
    rcases kq_end S T p1 with ⟨_, e1, e2⟩ | ⟨e, _⟩ | ⟨e, _⟩
    · rw [e1, e2]
      have r := end_ok h0 (vp_lt (by decide) z1 z2)
      refine ⟨by exact r.1, ?_, RAll_w r.2 (by omega) (by omega)⟩
      rw [end_fr (by decide), up2_h]
    · exact absurd (hk.symm.trans e) (by decide)
    · exact absurd (hk.symm.trans e) (by decide)
  · rcases kq_end S T p1 with ⟨e, _, _⟩ | ⟨e, e2⟩ | ⟨e, e2⟩
    · exact absurd e hk
    · rw [e2]
      exact ⟨up2_h.trans rfl, RAll_w (RAll_18 h0 _) (by omega) (by omega)⟩
    · rw [e2]
      exact ⟨up2_h.trans rfl, RAll_w (RAll_18 h0 _) (by omega) (by omega)⟩
theorem sim_write {B K : Int} {S T : Mm} {L L' : Int64} {p1 p2 p3 p4 p5 : Int32} (hB : B < 900000000) (hK : K < 900000000) (h : RAll B K S L T L') : (kX9_write S p1 p2 p3 p4 p5 = 0 → rX9_write S p1 p2 p3 p4 p5 = rX11_write T p1 p2 p3 p4 p5 ∧ fX11_write T p1 p2 p3 p4 p5 18 0 = 0 ∧ RAll (B + 600) (K + 200) (fX9_write S p1 p2 p3 p4 p5) L (fX11_write T p1 p2 p3 p4 p5) L') ∧ (¬ kX9_write S p1 p2 p3 p4 p5 = 0 → fX11_write T p1 p2 p3 p4 p5 18 0 = (if kX9_write S p1 p2 p3 p4 p5 = 1 then (1 : Int32) else 2) ∧ RAll (B + 600) (K + 200) S L (fX11_write T p1 p2 p3 p4 p5) L') := by
  have h0 := RAll_18 h 0
  refine ⟨fun hk => ?_, fun hk => ?_⟩
  · obtain ⟨z1, z2, z3, z4, z5, z6, z7, z8, z9, z10⟩ := kz_write hk
    rcases kq_write S T p1 p2 p3 p4 p5 with ⟨_, e1, e2⟩ | ⟨e, _⟩ | ⟨e, _⟩
    · rw [e1, e2]
      have r := write_ok (p4 := p4) (p5 := p5) h (vp_lt (by decide) z1 z2) (vp_lt (by decide) z3 z4) (wr3 z5 z6)
      refine ⟨by exact r.1, ?_, RAll_w r.2 (by omega) (by omega)⟩
      (by_cases c : p3 = -1); · rw [if_pos c]; unfold mX11_write_2 mX11_write_1; rw [up2_n (by decide), up2_n (by decide), up2_n (by decide), up2_h]
      · rw [if_neg c]; unfold mX11_write_4 mX11_write_3; rw [up2_n (by decide), up2_n (by decide), up2_n (by decide), up2_h]
    · exact absurd (hk.symm.trans e) (by decide)
    · exact absurd (hk.symm.trans e) (by decide)
  · rcases kq_write S T p1 p2 p3 p4 p5 with ⟨e, _, _⟩ | ⟨e, e2⟩ | ⟨e, e2⟩
    · exact absurd e hk
    · rw [e2]
      exact ⟨up2_h.trans (lr_1 e).symm, RAll_w (RAll_18 h0 _) (by omega) (by omega)⟩
    · rw [e2]
      exact ⟨up2_h.trans (lr_2 e).symm, RAll_w (RAll_18 h0 _) (by omega) (by omega)⟩
theorem sim_setTrack {B K : Int} {S T : Mm} {L L' : Int64} {p1 p2 : Int32} (hB : B < 900000000) (hK : K < 900000000) (h : RAll B K S L T L') : (kX9_setTrack S p1 p2 = 0 → rX9_setTrack S p1 p2 = rX11_setTrack T p1 p2 ∧ fX11_setTrack T p1 p2 18 0 = 0 ∧ RAll (B + 600) (K + 200) (fX9_setTrack S p1 p2) L (fX11_setTrack T p1 p2) L') ∧ (¬ kX9_setTrack S p1 p2 = 0 → fX11_setTrack T p1 p2 18 0 = 1 ∧ RAll (B + 600) (K + 200) S L (fX11_setTrack T p1 p2) L') := by
  have h0 := RAll_18 h 0
  refine ⟨fun hk => ?_, fun hk => ?_⟩
  · obtain ⟨z1, z2, z3, z4⟩ := kz_setTrack hk
    rcases kq_setTrack S T p1 p2 with ⟨_, e1, e2⟩ | ⟨e, _⟩ | ⟨e, _⟩
    · rw [e1, e2]
      have r := setTrack_ok h0 (vp_lt (by decide) z1 z2) (vp_lt (by decide) z3 z4)
      refine ⟨by exact r.1, ?_, RAll_w r.2 (by omega) (by omega)⟩
      rw [up2_n (by decide), up2_h]
    · exact absurd (hk.symm.trans e) (by decide)
    · exact absurd (hk.symm.trans e) (by decide)
  · rcases kq_setTrack S T p1 p2 with ⟨e, _, _⟩ | ⟨e, e2⟩ | ⟨e, e2⟩
    · exact absurd e hk
    · rw [e2]
      exact ⟨up2_h.trans rfl, RAll_w (RAll_18 h0 _) (by omega) (by omega)⟩
    · rw [e2]
      exact ⟨up2_h.trans rfl, RAll_w (RAll_18 h0 _) (by omega) (by omega)⟩
theorem sim_setTempo {B K : Int} {S T : Mm} {L L' : Int64} {p1 p2 : Int32} (hB : B < 900000000) (hK : K < 900000000) (h : RAll B K S L T L') : (kX9_setTempo S p1 p2 = 0 → rX9_setTempo S p1 p2 = rX11_setTempo T p1 p2 ∧ fX11_setTempo T p1 p2 18 0 = 0 ∧ RAll (B + 600) (K + 200) (fX9_setTempo S p1 p2) L (fX11_setTempo T p1 p2) L') ∧ (¬ kX9_setTempo S p1 p2 = 0 → fX11_setTempo T p1 p2 18 0 = 1 ∧ RAll (B + 600) (K + 200) S L (fX11_setTempo T p1 p2) L') := by
  have h0 := RAll_18 h 0
  refine ⟨fun hk => ?_, fun hk => ?_⟩
  · obtain ⟨z1, z2, z3, z4⟩ := kz_setTempo hk
    rcases kq_setTempo S T p1 p2 with ⟨_, e1, e2⟩ | ⟨e, _⟩ | ⟨e, _⟩
    · rw [e1, e2]
      have r := setTempo_ok h0 (rg_of (by decide) (by decide) z1 z2) z3 z4
      refine ⟨by exact r.1, ?_, RAll_w r.2 (by omega) (by omega)⟩
      rw [up2_n (by decide), up2_n (by decide), up2_h]
    · exact absurd (hk.symm.trans e) (by decide)
    · exact absurd (hk.symm.trans e) (by decide)
  · rcases kq_setTempo S T p1 p2 with ⟨e, _, _⟩ | ⟨e, e2⟩ | ⟨e, e2⟩
    · exact absurd e hk
    · rw [e2]
      exact ⟨up2_h.trans rfl, RAll_w (RAll_18 h0 _) (by omega) (by omega)⟩
    · rw [e2]
      exact ⟨up2_h.trans rfl, RAll_w (RAll_18 h0 _) (by omega) (by omega)⟩
theorem sim_heard {B K : Int} {S T : Mm} {L L' : Int64} {p1 : Int32} (hB : B < 900000000) (hK : K < 900000000) (h : RAll B K S L T L') : (kX9_heard S p1 = 0 → rX9_heard S p1 = rX11_heard T p1 ∧ fX11_heard T p1 18 0 = 0 ∧ RAll (B + 600) (K + 200) S L (fX11_heard T p1) L') ∧ (¬ kX9_heard S p1 = 0 → fX11_heard T p1 18 0 = 1 ∧ RAll (B + 600) (K + 200) S L (fX11_heard T p1) L') := by
  have h0 := RAll_18 h 0
  refine ⟨fun hk => ?_, fun hk => ?_⟩
  · obtain ⟨z1, z2⟩ := kz_heard hk
    rcases kq_heard S T p1 with ⟨_, e1, e2⟩ | ⟨e, _⟩ | ⟨e, _⟩
    · rw [e1, e2]
      exact ⟨heard_ok h (vp_le (by decide) z1 z2), up2_h, RAll_w h0 (by omega) (by omega)⟩
    · exact absurd (hk.symm.trans e) (by decide)
    · exact absurd (hk.symm.trans e) (by decide)
  · rcases kq_heard S T p1 with ⟨e, _, _⟩ | ⟨e, e2⟩ | ⟨e, e2⟩
    · exact absurd e hk
    · rw [e2]
      exact ⟨up2_h.trans rfl, RAll_w (RAll_18 h0 _) (by omega) (by omega)⟩
    · rw [e2]
      exact ⟨up2_h.trans rfl, RAll_w (RAll_18 h0 _) (by omega) (by omega)⟩
theorem sim_ofVoice {B K : Int} {S T : Mm} {L L' : Int64} {p1 p2 : Int32} (hB : B < 900000000) (hK : K < 900000000) (h : RAll B K S L T L') : (kX9_ofVoice S p1 p2 = 0 → rX9_ofVoice S p1 p2 = rX11_ofVoice T p1 p2 ∧ fX11_ofVoice T p1 p2 18 0 = 0 ∧ RAll (B + 600) (K + 200) S L (fX11_ofVoice T p1 p2) L') ∧ (¬ kX9_ofVoice S p1 p2 = 0 → fX11_ofVoice T p1 p2 18 0 = (if kX9_ofVoice S p1 p2 = 1 then (1 : Int32) else 2) ∧ RAll (B + 600) (K + 200) S L (fX11_ofVoice T p1 p2) L') := by
  have h0 := RAll_18 h 0
  refine ⟨fun hk => ?_, fun hk => ?_⟩
  · obtain ⟨z1, z2, z3, z4⟩ := kz_ofVoice hk
    rcases kq_ofVoice S T p1 p2 with ⟨_, e1, e2⟩ | ⟨e, _⟩ | ⟨e, _⟩
    · rw [e1, e2]
      exact ⟨ofVoice_ok h (vp_lt (by decide) z1 z2), up2_h, RAll_w h0 (by omega) (by omega)⟩
    · exact absurd (hk.symm.trans e) (by decide)
    · exact absurd (hk.symm.trans e) (by decide)
  · rcases kq_ofVoice S T p1 p2 with ⟨e, _, _⟩ | ⟨e, e2⟩ | ⟨e, e2⟩
    · exact absurd e hk
    · rw [e2]
      exact ⟨up2_h.trans (lr_1 e).symm, RAll_w (RAll_18 h0 _) (by omega) (by omega)⟩
    · rw [e2]
      exact ⟨up2_h.trans (lr_2 e).symm, RAll_w (RAll_18 h0 _) (by omega) (by omega)⟩
theorem sim_ofStep {B K : Int} {S T : Mm} {L L' : Int64} {p1 p2 p3 : Int32} (hB : B < 900000000) (hK : K < 900000000) (h : RAll B K S L T L') : (kX9_ofStep S p1 p2 p3 = 0 → rX9_ofStep S p1 p2 p3 = rX11_ofStep T p1 p2 p3 ∧ fX11_ofStep T p1 p2 p3 18 0 = 0 ∧ RAll (B + 600) (K + 200) S L (fX11_ofStep T p1 p2 p3) L') ∧ (¬ kX9_ofStep S p1 p2 p3 = 0 → fX11_ofStep T p1 p2 p3 18 0 = (if kX9_ofStep S p1 p2 p3 = 1 then (1 : Int32) else 2) ∧ RAll (B + 600) (K + 200) S L (fX11_ofStep T p1 p2 p3) L') := by
  have h0 := RAll_18 h 0
  refine ⟨fun hk => ?_, fun hk => ?_⟩
  · obtain ⟨z1, z2, z3, z4, z5, z6⟩ := kz_ofStep hk
    rcases kq_ofStep S T p1 p2 p3 with ⟨_, e1, e2⟩ | ⟨e, _⟩ | ⟨e, _⟩
    · rw [e1, e2]
      exact ⟨ofStep_ok h (vp_lt (by decide) z1 z2) (vp_lt (by decide) z3 z4) (vp_le (by decide) z5 z6), up2_h, RAll_w h0 (by omega) (by omega)⟩
    · exact absurd (hk.symm.trans e) (by decide)
    · exact absurd (hk.symm.trans e) (by decide)
  · rcases kq_ofStep S T p1 p2 p3 with ⟨e, _, _⟩ | ⟨e, e2⟩ | ⟨e, e2⟩
    · exact absurd e hk
    · rw [e2]
      exact ⟨up2_h.trans (lr_1 e).symm, RAll_w (RAll_18 h0 _) (by omega) (by omega)⟩
    · rw [e2]
      exact ⟨up2_h.trans (lr_2 e).symm, RAll_w (RAll_18 h0 _) (by omega) (by omega)⟩
theorem sim_inDelay {B K : Int} {S T : Mm} {L L' : Int64} {p1 : Int32} (hB : B < 900000000) (hK : K < 900000000) (h : RAll B K S L T L') : (kX9_inDelay S p1 = 0 → rX9_inDelay S p1 = rX11_inDelay T p1 ∧ fX11_inDelay T p1 18 0 = 0 ∧ RAll (B + 600) (K + 200) S L (fX11_inDelay T p1) L') ∧ (¬ kX9_inDelay S p1 = 0 → fX11_inDelay T p1 18 0 = 1 ∧ RAll (B + 600) (K + 200) S L (fX11_inDelay T p1) L') := by
  have h0 := RAll_18 h 0
  refine ⟨fun hk => ?_, fun hk => ?_⟩
  · obtain ⟨z1, z2⟩ := kz_inDelay hk
    rcases kq_inDelay S T p1 (inDelay_len h) with ⟨_, e1, e2⟩ | ⟨e, _⟩ | ⟨e, _⟩
    · rw [e1, e2]
      exact ⟨inDelay_ok h z1 z2, up2_h, RAll_w h0 (by omega) (by omega)⟩
    · exact absurd (hk.symm.trans e) (by decide)
    · exact absurd (hk.symm.trans e) (by decide)
  · rcases kq_inDelay S T p1 (inDelay_len h) with ⟨e, _, _⟩ | ⟨e, e2⟩ | ⟨e, e2⟩
    · exact absurd e hk
    · rw [e2]
      exact ⟨up2_h.trans rfl, RAll_w (RAll_18 h0 _) (by omega) (by omega)⟩
    · rw [e2]
      exact ⟨up2_h.trans rfl, RAll_w (RAll_18 h0 _) (by omega) (by omega)⟩
theorem sim_run {B K : Int} {S T : Mm} {L L' : Int64} {p1 : Int32} (hB : B < 900000000) (hK : K < 900000000) (h : RAll B K S L T L') : (kX9_run S p1 = 0 → rX9_run S L p1 = rX11_run T L' p1 ∧ fX11_run T L' p1 18 0 = 0 ∧ RAll (B + 600) (K + 200) (fX9_run S L p1) (lX9_run S L p1) (fX11_run T L' p1) (lX11_run T L' p1)) ∧ (¬ kX9_run S p1 = 0 → fX11_run T L' p1 18 0 = 1 ∧ RAll (B + 600) (K + 200) S L (fX11_run T L' p1) (lX11_run T L' p1)) := by
  have h0 := RAll_18 h 0
  refine ⟨fun hk => ?_, fun hk => ?_⟩
  · obtain ⟨z1, z2⟩ := kz_run hk
    have hp : p1.toNatClampNeg ≤ 200 := by
      have hx : p1.toNatClampNeg = p1.toInt.toNat := rfl
      have e2 : (200 : Int32).toInt = 200 := by decide
      rw [Int32.le_iff_toInt_le] at z2
      omega
    rcases kq_run S T L' p1 with ⟨_, e1, e2⟩ | ⟨e, _⟩ | ⟨e, _⟩
    · have e3 : lX11_run T L' p1 = (lpX11_run_26 T L' p1 (p1.toNatClampNeg)).2.2 := by
        unfold lX11_run
        rw [if_neg (fun q => ?_)]
        rcases isIn_z.mp q with q | q
        · exact z1 q
        · exact absurd z2 (Int32.not_le.mpr q)
      have r := run_ok (p1 := p1) (by omega) (by omega) h p1.toNatClampNeg hp
      rw [e1, e2, e3]
      unfold rX9_run fX9_run lX9_run
      exact ⟨r.1, run_18 (by omega) (by omega) h _ hp, RAll_w r.2 (by omega) (by omega)⟩
    · exact absurd (hk.symm.trans e) (by decide)
    · exact absurd (hk.symm.trans e) (by decide)
  · have e3 : lX11_run T L' p1 = L' := by
      unfold lX11_run
      rw [if_pos]
      rcases kq_run S T L' p1 with ⟨e, _, _⟩ | ⟨e, _⟩ | ⟨e, _⟩
      · exact absurd e hk
      · unfold kX9_run at e
        by_cases c : p1 < 1 ∨ 200 < p1
        · exact isIn_z.mpr c
        · rw [if_neg c] at e
          exact absurd e (by decide)
      · unfold kX9_run at e
        by_cases c : p1 < 1 ∨ 200 < p1
        · exact isIn_z.mpr c
        · rw [if_neg c] at e
          exact absurd e (by decide)
    rcases kq_run S T L' p1 with ⟨e, _, _⟩ | ⟨e, e2⟩ | ⟨e, e2⟩
    · exact absurd e hk
    · rw [e2, e3]
      exact ⟨up2_h, RAll_w (RAll_18 h0 _) (by omega) (by omega)⟩
    · rw [e2, e3]
      exact ⟨up2_h, RAll_w (RAll_18 h0 _) (by omega) (by omega)⟩
theorem sim_wouldPeak {B K : Int} {S T : Mm} {L L' : Int64} {p1 : Int32} (hB : B < 900000000) (hK : K < 900000000) (h : RAll B K S L T L') : (kX9_wouldPeak S p1 = 0 → rX9_wouldPeak S p1 = rX11_wouldPeak T p1 ∧ fX11_wouldPeak T p1 18 0 = 0 ∧ RAll (B + 600) (K + 200) (fX9_wouldPeak S p1) L (fX11_wouldPeak T p1) L') ∧ (¬ kX9_wouldPeak S p1 = 0 → fX11_wouldPeak T p1 18 0 = 1 ∧ RAll (B + 600) (K + 200) S L (fX11_wouldPeak T p1) L') := by
  have h0 := RAll_18 h 0
  refine ⟨fun hk => ?_, fun hk => ?_⟩
  · obtain ⟨z1, z2⟩ := kz_wouldPeak hk
    have hp : p1.toNatClampNeg ≤ 200 := by
      have hx : p1.toNatClampNeg = p1.toInt.toNat := rfl
      have e2 : (200 : Int32).toInt = 200 := by decide
      rw [Int32.le_iff_toInt_le] at z2
      omega
    rcases kq_wouldPeak S T p1 with ⟨_, e1, e2⟩ | ⟨e, _⟩ | ⟨e, _⟩
    · have r := wp_ok (p1 := p1) (by omega) (by omega) h p1.toNatClampNeg hp
      rw [e1, e2]
      unfold rX9_wouldPeak fX9_wouldPeak
      exact ⟨r.1, up2_h, RAll_w (RAll_far h0 r.2.2) (by omega) (by omega)⟩
    · exact absurd (hk.symm.trans e) (by decide)
    · exact absurd (hk.symm.trans e) (by decide)
  · rcases kq_wouldPeak S T p1 with ⟨e, _, _⟩ | ⟨e, e2⟩ | ⟨e, e2⟩
    · exact absurd e hk
    · rw [e2]
      exact ⟨up2_h, RAll_w (RAll_18 h0 _) (by omega) (by omega)⟩
    · rw [e2]
      exact ⟨up2_h, RAll_w (RAll_18 h0 _) (by omega) (by omega)⟩
theorem sim_silentIn {B K : Int} {S T : Mm} {L L' : Int64} {p1 : Int32} (hB : B < 900000000) (hK : K < 900000000) (h : RAll B K S L T L') : (kX9_silentIn S p1 = 0 → rX9_silentIn S p1 = rX11_silentIn T p1 ∧ fX11_silentIn T p1 18 0 = 0 ∧ RAll (B + 600) (K + 200) (fX9_silentIn S p1) L (fX11_silentIn T p1) L') ∧ (¬ kX9_silentIn S p1 = 0 → fX11_silentIn T p1 18 0 = 1 ∧ RAll (B + 600) (K + 200) S L (fX11_silentIn T p1) L') := by
  have h0 := RAll_18 h 0
  refine ⟨fun hk => ?_, fun hk => ?_⟩
  · obtain ⟨z1, z2⟩ := kz_silentIn hk
    have hp : p1.toNatClampNeg ≤ 200 := by
      have hx : p1.toNatClampNeg = p1.toInt.toNat := rfl
      have e2 : (200 : Int32).toInt = 200 := by decide
      rw [Int32.le_iff_toInt_le] at z2
      omega
    rcases kq_silentIn S T p1 with ⟨_, e1, e2⟩ | ⟨e, _⟩ | ⟨e, _⟩
    · have r := silent_ok (p1 := p1) (by omega) (by omega) h hp
      rw [e1, e2, si_T]
      exact ⟨r.1, up2_h, RAll_w (RAll_far h0 r.2) (by omega) (by omega)⟩
    · exact absurd (hk.symm.trans e) (by decide)
    · exact absurd (hk.symm.trans e) (by decide)
  · rcases kq_silentIn S T p1 with ⟨e, _, _⟩ | ⟨e, e2⟩ | ⟨e, e2⟩
    · exact absurd e hk
    · rw [e2]
      exact ⟨up2_h, RAll_w (RAll_18 h0 _) (by omega) (by omega)⟩
    · rw [e2]
      exact ⟨up2_h, RAll_w (RAll_18 h0 _) (by omega) (by omega)⟩
theorem sim_play {B K : Int} {S T : Mm} {L L' : Int64} {p1 : Int32} (hB : B < 900000000) (hK : K < 900000000) (h : RAll B K S L T L') : (kX9_play S p1 = 0 → rX9_play S p1 = rX11_play T p1 ∧ fX11_play T p1 18 0 = 0 ∧ RAll (B + 600) (K + 200) (fX9_play S p1) L (fX11_play T p1) L') ∧ (¬ kX9_play S p1 = 0 → fX11_play T p1 18 0 = 1 ∧ RAll (B + 600) (K + 200) S L (fX11_play T p1) L') := by
  have hi : rX11_isStep p1 = 0 ↔ (p1 < 0 ∨ (8 : Int32) ≤ p1) := isIn_s (by decide)
  refine ⟨fun hk => ?_, fun hk => ?_⟩
  · obtain ⟨z1, z2⟩ := kz_play hk
    have e : jX11_play_1 S p1 = 0 := by
      unfold jX11_play_1
      rw [if_neg (fun q => (hi.mp q).elim z1 (fun w => absurd z2 (Int32.not_lt.mpr w)))]
    have e' : jX11_play_1 T p1 = 0 := e
    have r := play_ok (RAll_18 h 0) (vp_lt (by decide) z1 z2)
    unfold rX11_play fX11_play
    rw [e', up2_h, if_pos rfl, if_pos rfl]
    refine ⟨r.1, by rw [up2_n (by decide), up2_n (by decide), up2_n (by decide), up2_h], RAll_w r.2 (by omega) (by omega)⟩
  · have c : p1 < 0 ∨ (8 : Int32) ≤ p1 := by
      refine Decidable.byContradiction (fun q => hk ?_)
      unfold kX9_play
      rw [if_neg q]
    have e' : jX11_play_1 T p1 = 1 := by
      unfold jX11_play_1
      rw [if_pos (hi.mpr c)]
    unfold fX11_play
    rw [e', up2_h, if_neg (by decide)]
    exact ⟨up2_h, RAll_w (RAll_18 h 1) (by omega) (by omega)⟩
theorem sim_hush {B K : Int} {S T : Mm} {L L' : Int64} (hB : B < 900000000) (hK : K < 900000000) (h : RAll B K S L T L') : rX9_hush S = rX11_hush T ∧ RAll (B + 600) (K + 200) (fX9_hush S) (L) (fX11_hush T) (L') := by
  have r := hush_ok h
  exact ⟨r.1, RAll_w r.2 (by omega) (by omega)⟩
theorem sim_stop {B K : Int} {S T : Mm} {L L' : Int64} (hB : B < 900000000) (hK : K < 900000000) (h : RAll B K S L T L') : rX9_stop S = rX11_stop T ∧ RAll (B + 600) (K + 200) (fX9_stop S) (L) (fX11_stop T) (L') := by
  have r := stop_ok (RAll_18 h 0)
  exact ⟨r.1, RAll_w r.2 (by omega) (by omega)⟩
theorem sim_reset {B K : Int} {S T : Mm} {L L' : Int64} (hB : B < 900000000) (hK : K < 900000000) (h : RAll B K S L T L') : rX9_reset S L = rX11_reset T L' ∧ RAll (B + 600) (K + 200) (fX9_reset S L) (lX9_reset S L) (fX11_reset T L') (lX11_reset T L') := by
  have r := reset_ok h
  exact ⟨r.1, RAll_w r.2 (by omega) (by omega)⟩
theorem sim_sample {B K : Int} {S T : Mm} {L L' : Int64} (hB : B < 900000000) (hK : K < 900000000) (h : RAll B K S L T L') : rX9_sample S L = rX11_sample T L' ∧ RAll (B + 600) (K + 200) (fX9_sample S L) (lX9_sample S L) (fX11_sample T L') (lX11_sample T L') := by
  have r := sam_eq (by omega) (by omega) h
  unfold rX11_sample rX11_ok fX11_sample fX11_ok lX11_sample
  exact ⟨r.1, RAll_w (RAll_18 r.2 0) (by omega) (by omega)⟩
theorem sim_clock {B K : Int} {S T : Mm} {L L' : Int64} (hB : B < 900000000) (hK : K < 900000000) (h : RAll B K S L T L') : rX9_clock S = rX11_clock T ∧ RAll (B + 600) (K + 200) S L (fX11_clock T) L' := ⟨h.1.2.2.1.1, RAll_w (RAll_18 h 0) (by omega) (by omega)⟩
theorem sim_peak {B K : Int} {S T : Mm} {L L' : Int64} (hB : B < 900000000) (hK : K < 900000000) (h : RAll B K S L T L') : rX9_peak S = rX11_peak T ∧ RAll (B + 600) (K + 200) S L (fX11_peak T) L' := ⟨h.2.1.2.2.1, RAll_w (RAll_18 h 0) (by omega) (by omega)⟩
theorem sim_clipped {B K : Int} {S T : Mm} {L L' : Int64} (hB : B < 900000000) (hK : K < 900000000) (h : RAll B K S L T L') : rX9_clipped S = rX11_clipped T ∧ RAll (B + 600) (K + 200) S L (fX11_clipped T) L' := ⟨h.2.1.2.2.2.1, RAll_w (RAll_18 h 0) (by omega) (by omega)⟩
theorem sim_crossings {B K : Int} {S T : Mm} {L L' : Int64} (hB : B < 900000000) (hK : K < 900000000) (h : RAll B K S L T L') : rX9_crossings S = rX11_crossings T ∧ RAll (B + 600) (K + 200) S L (fX11_crossings T) L' := ⟨h.2.1.2.2.2.2.1, RAll_w (RAll_18 h 0) (by omega) (by omega)⟩
theorem sim_sounding {B K : Int} {S T : Mm} {L L' : Int64} (hB : B < 900000000) (hK : K < 900000000) (h : RAll B K S L T L') : rX9_sounding S = rX11_sounding T ∧ RAll (B + 600) (K + 200) S L (fX11_sounding T) L' := ⟨sounding_ok h.1.2.1, RAll_w (RAll_18 h 0) (by omega) (by omega)⟩
theorem sim_taken {B K : Int} {S T : Mm} {L L' : Int64} (hB : B < 900000000) (hK : K < 900000000) (h : RAll B K S L T L') : rX9_taken S = rX11_taken T ∧ RAll (B + 600) (K + 200) S L (fX11_taken T) L' := ⟨h.1.2.2.1.2.2.1, RAll_w (RAll_18 h 0) (by omega) (by omega)⟩
theorem sim_step {B K : Int} {S T : Mm} {L L' : Int64} (hB : B < 900000000) (hK : K < 900000000) (h : RAll B K S L T L') : rX9_step S = rX11_step T ∧ RAll (B + 600) (K + 200) S L (fX11_step T) L' := ⟨step_ok h, RAll_w (RAll_18 h 0) (by omega) (by omega)⟩
theorem sim_nextVoice {B K : Int} {S T : Mm} {L L' : Int64} (hB : B < 900000000) (hK : K < 900000000) (h : RAll B K S L T L') : rX9_nextVoice S = rX11_nextVoice T ∧ RAll (B + 600) (K + 200) S L (fX11_nextVoice T) L' := ⟨next_ok (by omega) h, RAll_w (RAll_18 h 0) (by omega) (by omega)⟩
theorem sim_isPlaying {B K : Int} {S T : Mm} {L L' : Int64} (hB : B < 900000000) (hK : K < 900000000) (h : RAll B K S L T L') : rX9_isPlaying S = rX11_isPlaying T ∧ RAll (B + 600) (K + 200) S L (fX11_isPlaying T) L' := ⟨by unfold rX11_isPlaying; rw [up2_n (by decide)]; exact h.1.2.2.1.2.2.2.1, RAll_w (RAll_18 h 0) (by omega) (by omega)⟩
theorem sim_digest {B K : Int} {S T : Mm} {L L' : Int64} (hB : B < 900000000) (hK : K < 900000000) (h : RAll B K S L T L') : rX9_digest S = rX11_digest T ∧ RAll (B + 600) (K + 200) S L (fX11_digest T) L' := ⟨digest_ok (by omega) h, RAll_w (RAll_18 h 0) (by omega) (by omega)⟩
theorem sim_loudness {B K : Int} {S T : Mm} {L L' : Int64} (hB : B < 900000000) (hK : K < 900000000) (h : RAll B K S L T L') : mnX (S 34 3) L = mnX (T 0 30) L' ∧ RAll (B + 600) (K + 200) S L (up2 T 18 0 0) L' := ⟨by rw [h.2.1.2.1, h.2.1.1], RAll_w (RAll_18 h 0) (by omega) (by omega)⟩
theorem play_b {B K : Int} {S T : Mm} {L L' : Int64} (h : RAll B K S L T L') : (S 18 9 = 0 ∨ S 18 9 = 1) ∧ (T 0 24 = 0 ∨ T 0 24 = 1) := ⟨by rw [h.1.2.2.1.2.2.2.1]; exact h.1.2.2.1.2.2.2.2.1, h.1.2.2.1.2.2.2.2.1⟩
theorem nar_b {x : Int32} (h : x = 0 ∨ x = 1) : narrow .boolean (.int x) = .int x := by rcases h with e | e <;> subst e <;> rfl
