set_option maxHeartbeats 4000000 in
set_option maxRecDepth 20000 in
/-- M.asksSign -/
theorem m_238 (σ : jM) (hg : GI σ) (c : Int) (hl_c : 0 ≤ c) (hu_c : c ≤ 255)  (fr lo : Nat) (hfr : 2 ≤ fr) (hlo : 41 ≤ lo) : WP 238 0 (lv_args 0 [.ref 117, iV c]) [] fr lo σ (fun v τ => v = none ∧ GI τ ∧ FR Wsgn σ τ ∧ ((σ.1 117 2) ≤ (τ.1 117 2)) ∧ ((σ.1 117 5) ≠ 0 → (τ.1 117 5) = (σ.1 117 5)) ∧ ((τ.1 117 5) = 0 → ((σ.1 117 5) = 0 ∧ (σ.1 117 2) < (τ.1 117 2) ∧ (τ.1 117 2) ≤ (σ.1 117 3)))) := by
  show WP 238 0 [(0, .ref 117), (1, iV c)] [] _ _ _ _
  refine wp_al1 jF_238_0 rfl rfl (pc2 := 1) ?_
  have b1 := GI.b hg 117 5 kd117 (lo := (-2147483648)) (hi := 2147483647) rfl
  refine wp_gi jF_238_1 kd117 (by decide) rfl rfl rfl (pc2 := 4) ?_
  refine wp_z_ne jF_238_4 (m_rgb b1 rfl) rfl (pc2 := 7) ?_ ?_
  · intro h2
    refine wp_rv jF_238_24 ?_
    have b3 := GI.b hg 117 2 kd117 (lo := 0) (hi := 1601) rfl
    have b4 := GI.b hg 117 3 kd117 (lo := 0) (hi := 1600) rfl
    exact ⟨rfl, hg, FR.rf, (by omega), (by omega), (by omega)⟩
  · intro h2
    refine wp_al1 jF_238_7 rfl rfl (pc2 := 8) ?_
    refine wp_il1 jF_238_8 rfl rfl (pc2 := 9) ?_
    refine wp_cV (as := [iV c]) (rest := []) (a := 117) (mx := 2) (ci := 12) jF_238_9 kd117 (by decide) rfl rfl rfl rfl rfl (by omega) (by omega) rfl (pc2 := 12) ?_
    have b5 := GI.b hg 117 2 kd117 (lo := 0) (hi := 1601) rfl
    have b6 := GI.b hg 117 3 kd117 (lo := 0) (hi := 1600) rfl
    refine wp_use (m_239 σ hg c (by omega) (by omega)  _ _ (by omega) (by omega)) ?_
    rintro _ τ11 ⟨z14, rfl, h15, g12, f13, p7, p8, p9, p10⟩
    show WP 238 12 [(0, .ref 117), (1, iV c)] [iV z14] _ _ _ _
    refine wp_z_ne jF_238_12 (m_rgb h15 rfl) rfl (pc2 := 15) ?_ ?_
    · intro h16
      replace p10 := p10 (by omega)
      refine wp_rv jF_238_24 ?_
      have b17 := GI.b g12 117 2 kd117 (lo := 0) (hi := 1601) rfl
      have q18 : (τ11.1 117 5) = (σ.1 117 5) := (FR.at f13 117 5 rfl)
      exact ⟨rfl, g12, (FR.up FR.rf f13 sb_Wat_Wsgn), (by omega), (by omega), (by omega)⟩
    · intro h16
      clear p10
      refine wp_al1 jF_238_15 rfl rfl (pc2 := 16) ?_
      refine wp_ic jF_238_16 rfl (pc2 := 17) ?_
      refine wp_al1 jF_238_17 rfl rfl (pc2 := 18) ?_
      have b19 := GI.b g12 117 2 kd117 (lo := 0) (hi := 1601) rfl
      refine wp_gi jF_238_18 kd117 (by decide) rfl rfl rfl (pc2 := 21) ?_
      refine wp_cV (as := [iV 1, iV (τ11.1 117 2)]) (rest := []) (a := 117) (mx := 3) (ci := 12) jF_238_21 kd117 (by decide) rfl rfl rfl rfl rfl (by omega) (by omega) rfl (pc2 := 24) ?_
      have q20 : (τ11.1 117 5) = (σ.1 117 5) := (FR.at f13 117 5 rfl)
      refine wp_use (m_218 τ11 g12 1 (by omega) (by omega) (τ11.1 117 2) (by omega) (by omega)  _ _ (by omega) (by omega)) ?_
      rintro _ τ23 ⟨rfl, g24, f25, p21, p22⟩
      clear p21
      replace p22 := p22 (by omega)
      show WP 238 24 [(0, .ref 117), (1, iV c)] [] _ _ _ _
      refine wp_rv jF_238_24 ?_
      have q26 : (τ23.1 117 2) = (τ11.1 117 2) := (FR.at f25 117 2 rfl)
      have b27 := GI.b g24 117 5 kd117 (lo := (-2147483648)) (hi := 2147483647) rfl
      exact ⟨rfl, g24, (FR.up (FR.up FR.rf f13 sb_Wat_Wsgn) f25 sb_Wbad_Wsgn), (by omega), (by omega), (by omega)⟩
