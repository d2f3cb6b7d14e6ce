set_option maxHeartbeats 4000000 in
set_option maxRecDepth 20000 in
/-- M.laysTried -/
theorem m_263_0 (σ : jM) (hg : GI σ)  (pre0 : (σ.1 117 49) ≤ 60) (fr lo : Nat) (hfr : 0 ≤ fr) (hlo : 0 ≤ lo) : WP 263 0 (lv_args 0 [.ref 117, iV 0]) [] fr lo σ (fun v τ => v = none ∧ GI τ ∧ FR Wla σ τ ∧ ((τ.1 148 0) = (σ.1 117 49)) ∧ ((τ.1 148 1) = (σ.1 148 1)) ∧ ((l0 τ) = (tl σ)) ∧ ((l1 τ) = (l1 σ))) := by
  show WP 263 0 [(0, .ref 117), (1, iV 0)] [] _ _ _ _
  refine wp_al1 jF_263_0 rfl rfl (pc2 := 1) ?_
  refine wp_gr (b := 148) jF_263_1 kd117 (by decide) (c := 248) rfl rfl rfl (pc2 := 4) ?_
  refine wp_il1 jF_263_4 rfl rfl (pc2 := 5) ?_
  refine wp_al1 jF_263_5 rfl rfl (pc2 := 6) ?_
  have b1 := GI.b hg 117 49 kd117 (lo := 0) (hi := 61) rfl
  refine wp_gi jF_263_6 kd117 (by decide) rfl rfl rfl (pc2 := 9) ?_
  refine wp_iast (n := 2) jF_263_9 kd148 (by decide) rfl rfl (by omega) (by omega) rfl (pc2 := 10) hg (lo := 0) (hi := 60) rfl (by omega) (by omega) ?_
  intro τ2 g3 f4 e5
  refine wp_ic jF_263_10 rfl (pc2 := 11) ?_
  refine wp_is1 (lv2 := [(0, .ref 117), (1, iV 0), (2, iV 0)]) jF_263_11 rfl rfl rfl (pc2 := 12) ?_
  have q6 : (τ2.1 117 49) = (σ.1 117 49) := (FRw.na f4 (by decide))
  refine wp_loop (α := Int) (fun a => [(0, .ref 117), (1, iV 0), (2, iV (a))]) (fun a τ => (0 ≤ a ∧ a ≤ 60) ∧ GI τ ∧ FR Wla τ2 τ ∧ ((a) ≤ (τ2.1 117 49)) ∧ ((τ.1 148 0) = (τ2.1 117 49)) ∧ ((τ.1 148 1) = (σ.1 148 1)) ∧ (CPT0 σ τ (a)) ∧ ((l1 τ) = (l1 σ))) (fun a τ => Int.toNat ((τ2.1 117 49) - (a))) (0) τ2 ?_ ?_
  · skip
    have q7 : (l1 τ2) = (l1 σ) := (l1_wr f4 (by decide))
    have q8 : (τ2.1 148 0) = (σ.1 117 49) := e5
    have b9 := GI.b hg 148 1 kd148 (lo := 0) (hi := 60) rfl
    have q10 : (τ2.1 148 1) = (σ.1 148 1) := (FRw.nj f4 (by decide))
    exact ⟨⟨by omega, by omega⟩, g3, FR.rf, (by omega), (by omega), (by omega), (Or.inl rfl), (by omega)⟩
  · rintro x11 τ13 ⟨h12, g14, f15, p16, p17, p18, p19, p20⟩ ih21
    have b22 := GI.b g14 148 0 kd148 (lo := 0) (hi := 60) rfl
    have b23 := GI.b g14 148 1 kd148 (lo := 0) (hi := 60) rfl
    show WP 263 12 [(0, .ref 117), (1, iV 0), (2, iV x11)] [] _ _ _ _
    show WP 263 12 [(0, .ref 117), (1, iV 0), (2, iV x11)] [] _ _ _ _
    refine wp_il1 jF_263_12 rfl rfl (pc2 := 13) ?_
    refine wp_al1 jF_263_13 rfl rfl (pc2 := 14) ?_
    refine wp_gi jF_263_14 kd117 (by decide) rfl ((FR.at f15 117 49 rfl).trans (FRw.na f4 (by decide))) rfl (pc2 := 17) ?_
    refine wp_i_ge jF_263_17 (m_rgb h12 rfl) (m_rgb b1 rfl) rfl (pc2 := 20) ?_ ?_
    · intro h24
      refine wp_rv jF_263_43 ?_
      exact ⟨rfl, g14, (FR.up (FR.w FR.rf f4 rfl) f15 sb_Wla_Wla), (by omega), (by omega), (cpt0_end (by omega) (by omega) p19), (by omega)⟩
    · intro h24
      refine wp_al1 jF_263_20 rfl rfl (pc2 := 21) ?_
      refine wp_gr (b := 147) jF_263_21 kd117 (by decide) (c := 247) rfl rfl rfl (pc2 := 24) ?_
      refine wp_bi jF_263_24 (by decide) rfl (pc2 := 26) ?_
      refine wp_il1 jF_263_26 rfl rfl (pc2 := 27) ?_
      refine wp_mul jF_263_27 rfl (pc2 := 28) ?_
      refine wp_il1 jF_263_28 rfl rfl (pc2 := 29) ?_
      refine wp_add jF_263_29 rfl (pc2 := 30) ?_
      refine wp_al1 jF_263_30 rfl rfl (pc2 := 31) ?_
      refine wp_gr (b := 149) jF_263_31 kd117 (by decide) (c := 249) rfl rfl rfl (pc2 := 34) ?_
      refine wp_il1 jF_263_34 rfl rfl (pc2 := 35) ?_
      have b25 := GI.b hg 149 x11.toNat kd149 (lo := 0) (hi := 255) rfl
      refine wp_iald (n := 64) (e := (σ.1 149 x11.toNat)) jF_263_35 kd149 (by decide) rfl rfl (by omega) (by omega) ((FR.at f15 149 x11.toNat rfl).trans (FRw.na f4 (by decide))) rfl (pc2 := 36) ?_
      refine wp_iast (n := 128) jF_263_36 kd147 (by decide) rfl rfl (by omega) (by omega) rfl (pc2 := 37) g14 (lo := 0) (hi := 255) rfl (by omega) (by omega) ?_
      intro τ26 g27 f28 e29
      refine wp_inc (lv2 := [(0, .ref 117), (1, iV 0), (2, iV (x11 + 1))]) jF_263_37 rfl rfl rfl rfl (pc2 := 40) ?_
      refine wp_go jF_263_40 ?_
      have q30 : (τ26.1 148 0) = (τ13.1 148 0) := (FRw.na f28 (by decide))
      have q31 : (τ26.1 148 1) = (τ13.1 148 1) := (FRw.na f28 (by decide))
      exact ih21 ((x11 + 1)) τ26 ⟨⟨by omega, by omega⟩, g27, (FR.w f15 f28 rfl), (by omega), (by omega), (by omega), (Or.inr (by have e := e29; rw [show (x11 + 1 - 1 : Int) = x11 by omega]; exact e)), ((l1_w f28 (by omega) (by omega)).trans p20)⟩ (by show Int.toNat ((τ2.1 117 49) - (x11 + 1)) < Int.toNat ((τ2.1 117 49) - x11); omega)
set_option maxHeartbeats 4000000 in
set_option maxRecDepth 20000 in
/-- M.laysTried -/
theorem m_263_1 (σ : jM) (hg : GI σ)  (pre0 : (σ.1 117 49) ≤ 60) (fr lo : Nat) (hfr : 0 ≤ fr) (hlo : 0 ≤ lo) : WP 263 0 (lv_args 0 [.ref 117, iV 1]) [] fr lo σ (fun v τ => v = none ∧ GI τ ∧ FR Wla σ τ ∧ ((τ.1 148 1) = (σ.1 117 49)) ∧ ((τ.1 148 0) = (σ.1 148 0)) ∧ ((l1 τ) = (tl σ)) ∧ ((l0 τ) = (l0 σ))) := by
  show WP 263 0 [(0, .ref 117), (1, iV 1)] [] _ _ _ _
  refine wp_al1 jF_263_0 rfl rfl (pc2 := 1) ?_
  refine wp_gr (b := 148) jF_263_1 kd117 (by decide) (c := 248) rfl rfl rfl (pc2 := 4) ?_
  refine wp_il1 jF_263_4 rfl rfl (pc2 := 5) ?_
  refine wp_al1 jF_263_5 rfl rfl (pc2 := 6) ?_
  have b1 := GI.b hg 117 49 kd117 (lo := 0) (hi := 61) rfl
  refine wp_gi jF_263_6 kd117 (by decide) rfl rfl rfl (pc2 := 9) ?_
  refine wp_iast (n := 2) jF_263_9 kd148 (by decide) rfl rfl (by omega) (by omega) rfl (pc2 := 10) hg (lo := 0) (hi := 60) rfl (by omega) (by omega) ?_
  intro τ2 g3 f4 e5
  refine wp_ic jF_263_10 rfl (pc2 := 11) ?_
  refine wp_is1 (lv2 := [(0, .ref 117), (1, iV 1), (2, iV 0)]) jF_263_11 rfl rfl rfl (pc2 := 12) ?_
  have q6 : (τ2.1 117 49) = (σ.1 117 49) := (FRw.na f4 (by decide))
  refine wp_loop (α := Int) (fun a => [(0, .ref 117), (1, iV 1), (2, iV (a))]) (fun a τ => (0 ≤ a ∧ a ≤ 60) ∧ GI τ ∧ FR Wla τ2 τ ∧ ((a) ≤ (τ2.1 117 49)) ∧ ((τ.1 148 1) = (τ2.1 117 49)) ∧ ((τ.1 148 0) = (σ.1 148 0)) ∧ (CPT1 σ τ (a)) ∧ ((l0 τ) = (l0 σ))) (fun a τ => Int.toNat ((τ2.1 117 49) - (a))) (0) τ2 ?_ ?_
  · skip
    have q7 : (l0 τ2) = (l0 σ) := (l0_wr f4 (by decide))
    have b8 := GI.b hg 148 0 kd148 (lo := 0) (hi := 60) rfl
    have q9 : (τ2.1 148 0) = (σ.1 148 0) := (FRw.nj f4 (by decide))
    have q10 : (τ2.1 148 1) = (σ.1 117 49) := e5
    exact ⟨⟨by omega, by omega⟩, g3, FR.rf, (by omega), (by omega), (by omega), (Or.inl rfl), (by omega)⟩
  · rintro x11 τ13 ⟨h12, g14, f15, p16, p17, p18, p19, p20⟩ ih21
    have b22 := GI.b g14 148 0 kd148 (lo := 0) (hi := 60) rfl
    have b23 := GI.b g14 148 1 kd148 (lo := 0) (hi := 60) rfl
    show WP 263 12 [(0, .ref 117), (1, iV 1), (2, iV x11)] [] _ _ _ _
    show WP 263 12 [(0, .ref 117), (1, iV 1), (2, iV x11)] [] _ _ _ _
    refine wp_il1 jF_263_12 rfl rfl (pc2 := 13) ?_
    refine wp_al1 jF_263_13 rfl rfl (pc2 := 14) ?_
    refine wp_gi jF_263_14 kd117 (by decide) rfl ((FR.at f15 117 49 rfl).trans (FRw.na f4 (by decide))) rfl (pc2 := 17) ?_
    refine wp_i_ge jF_263_17 (m_rgb h12 rfl) (m_rgb b1 rfl) rfl (pc2 := 20) ?_ ?_
    · intro h24
      refine wp_rv jF_263_43 ?_
      exact ⟨rfl, g14, (FR.up (FR.w FR.rf f4 rfl) f15 sb_Wla_Wla), (by omega), (by omega), (cpt1_end (by omega) (by omega) p19), (by omega)⟩
    · intro h24
      refine wp_al1 jF_263_20 rfl rfl (pc2 := 21) ?_
      refine wp_gr (b := 147) jF_263_21 kd117 (by decide) (c := 247) rfl rfl rfl (pc2 := 24) ?_
      refine wp_bi jF_263_24 (by decide) rfl (pc2 := 26) ?_
      refine wp_il1 jF_263_26 rfl rfl (pc2 := 27) ?_
      refine wp_mul jF_263_27 rfl (pc2 := 28) ?_
      refine wp_il1 jF_263_28 rfl rfl (pc2 := 29) ?_
      refine wp_add jF_263_29 rfl (pc2 := 30) ?_
      refine wp_al1 jF_263_30 rfl rfl (pc2 := 31) ?_
      refine wp_gr (b := 149) jF_263_31 kd117 (by decide) (c := 249) rfl rfl rfl (pc2 := 34) ?_
      refine wp_il1 jF_263_34 rfl rfl (pc2 := 35) ?_
      have b25 := GI.b hg 149 x11.toNat kd149 (lo := 0) (hi := 255) rfl
      refine wp_iald (n := 64) (e := (σ.1 149 x11.toNat)) jF_263_35 kd149 (by decide) rfl rfl (by omega) (by omega) ((FR.at f15 149 x11.toNat rfl).trans (FRw.na f4 (by decide))) rfl (pc2 := 36) ?_
      refine wp_iast (n := 128) jF_263_36 kd147 (by decide) rfl rfl (by omega) (by omega) rfl (pc2 := 37) g14 (lo := 0) (hi := 255) rfl (by omega) (by omega) ?_
      intro τ26 g27 f28 e29
      refine wp_inc (lv2 := [(0, .ref 117), (1, iV 1), (2, iV (x11 + 1))]) jF_263_37 rfl rfl rfl rfl (pc2 := 40) ?_
      refine wp_go jF_263_40 ?_
      have q30 : (τ26.1 148 0) = (τ13.1 148 0) := (FRw.na f28 (by decide))
      have q31 : (τ26.1 148 1) = (τ13.1 148 1) := (FRw.na f28 (by decide))
      exact ih21 ((x11 + 1)) τ26 ⟨⟨by omega, by omega⟩, g27, (FR.w f15 f28 rfl), (by omega), (by omega), (by omega), (Or.inr (by have e := e29; rw [show (x11 + 1 - 1 : Int) = x11 by omega]; exact e)), ((l0_w f28 (by omega) (by omega)).trans p20)⟩ (by show Int.toNat ((τ2.1 117 49) - (x11 + 1)) < Int.toNat ((τ2.1 117 49) - x11); omega)
