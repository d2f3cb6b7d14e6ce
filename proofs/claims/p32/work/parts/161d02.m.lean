set_option maxHeartbeats 4000000 in
set_option maxRecDepth 20000 in
/-- Tape.takesWordOf -/
theorem m_56_r10_13 (σ : jM) (hg : GI σ) (rk : Int) (hl_rk : 0 ≤ rk) (hu_rk : rk ≤ 18)  (fr lo : Nat) (hfr : 2 ≤ fr) (hlo : 42 ≤ lo) : WP 56 0 (lv_args 0 [.ref 10, .ref 13, iV rk]) [] fr lo σ (fun v τ => ∃ z : Int, v = some (iV z) ∧ (0 ≤ z ∧ z ≤ 1) ∧ GI τ ∧ FR Wtp σ τ) := by
  show WP 56 0 [(0, .ref 10), (1, .ref 13), (2, iV rk)] [] _ _ _ _
  refine wp_al1 jF_56_0 rfl rfl (pc2 := 1) ?_
  refine wp_cV (as := []) (rest := []) (a := 10) (mx := 2) (ci := 6) jF_56_1 kd10 (by decide) rfl rfl rfl rfl rfl (by omega) (by omega) rfl (pc2 := 4) ?_
  have b1 := GI.b hg 10 1 kd10 (lo := 0) (hi := 1600) rfl
  refine wp_use (m_37_r10 σ hg   _ _ (by omega) (by omega)) ?_
  rintro _ τ3 ⟨z6, rfl, h7, g4, f5, p2⟩
  show WP 56 4 [(0, .ref 10), (1, .ref 13), (2, iV rk)] [iV z6] _ _ _ _
  refine wp_z_eq jF_56_4 (m_rgb h7 rfl) rfl (pc2 := 7) ?_ ?_
  · intro h8
    clear p2
    refine wp_al1 jF_56_16 rfl rfl (pc2 := 17) ?_
    refine wp_ic jF_56_17 rfl (pc2 := 18) ?_
    refine wp_al1 jF_56_18 rfl rfl (pc2 := 19) ?_
    have b9 := GI.b g4 10 2 kd10 (lo := 0) (hi := 1600) rfl
    refine wp_gi jF_56_19 kd10 (by decide) rfl rfl rfl (pc2 := 22) ?_
    refine wp_cV (as := [iV 1, iV (τ3.1 10 2)]) (rest := []) (a := 10) (mx := 3) (ci := 6) jF_56_22 kd10 (by decide) rfl rfl rfl rfl rfl (by omega) (by omega) rfl (pc2 := 25) ?_
    refine wp_use (m_42_r10 τ3 g4 1 (by omega) (by omega) (τ3.1 10 2) (by omega) (by omega)  _ _ (by omega) (by omega)) ?_
    rintro _ τ10 ⟨z13, rfl, h14, g11, f12⟩
    show WP 56 25 [(0, .ref 10), (1, .ref 13), (2, iV rk)] [iV z13] _ _ _ _
    refine wp_ri jF_56_25 (m_fitb (by omega) (by omega)) ?_
    exact ⟨z13, rfl, ⟨by omega, by omega⟩, g11, (FR.up f5 f12 sb_Wtp_Wtp)⟩
  · intro h8
    replace p2 := p2 (by omega)
    refine wp_al1 jF_56_7 rfl rfl (pc2 := 8) ?_
    refine wp_al1 jF_56_8 rfl rfl (pc2 := 9) ?_
    refine wp_cV (as := [.ref 13]) (rest := []) (a := 10) (mx := 3) (ci := 6) jF_56_9 kd10 (by decide) rfl rfl rfl rfl rfl (by omega) (by omega) rfl (pc2 := 12) ?_
    refine wp_use (m_41_r10_13 τ3 g4   _ _ (by omega) (by omega)) ?_
    rintro _ _ ⟨z17, rfl, h18, rfl⟩
    show WP 56 12 [(0, .ref 10), (1, .ref 13), (2, iV rk)] [iV z17] _ _ _ _
    refine wp_il1 jF_56_12 rfl rfl (pc2 := 13) ?_
    refine wp_i_eq jF_56_13 (m_rgb h18 rfl) ⟨by omega, by omega⟩ rfl (pc2 := 16) ?_ ?_
    · intro h19
      refine wp_al1 jF_56_26 rfl rfl (pc2 := 27) ?_
      refine wp_cV (as := []) (rest := []) (a := 10) (mx := 1) (ci := 6) jF_56_27 kd10 (by decide) rfl rfl rfl rfl rfl (by omega) (by omega) rfl (pc2 := 30) ?_
      have b20 := GI.b g4 10 5 kd10 (lo := 0) (hi := 1600) rfl
      have b21 := GI.b g4 10 6 kd10 (lo := 0) (hi := 1600) rfl
      refine wp_use (m_45_r10 τ3 g4  (by omega) _ _ (by omega) (by omega)) ?_
      rintro _ τ22 ⟨rfl, g23, f24⟩
      show WP 56 30 [(0, .ref 10), (1, .ref 13), (2, iV rk)] [] _ _ _ _
      refine wp_ic jF_56_30 rfl (pc2 := 31) ?_
      refine wp_ri jF_56_31 rfl ?_
      exact ⟨1, rfl, ⟨by omega, by omega⟩, g23, (FR.up f5 f24 sb_Wtp_Wtp)⟩
    · intro h19
      refine wp_al1 jF_56_16 rfl rfl (pc2 := 17) ?_
      refine wp_ic jF_56_17 rfl (pc2 := 18) ?_
      refine wp_al1 jF_56_18 rfl rfl (pc2 := 19) ?_
      have b25 := GI.b g4 10 2 kd10 (lo := 0) (hi := 1600) rfl
      refine wp_gi jF_56_19 kd10 (by decide) rfl rfl rfl (pc2 := 22) ?_
      refine wp_cV (as := [iV 1, iV (τ3.1 10 2)]) (rest := []) (a := 10) (mx := 3) (ci := 6) jF_56_22 kd10 (by decide) rfl rfl rfl rfl rfl (by omega) (by omega) rfl (pc2 := 25) ?_
      refine wp_use (m_42_r10 τ3 g4 1 (by omega) (by omega) (τ3.1 10 2) (by omega) (by omega)  _ _ (by omega) (by omega)) ?_
      rintro _ τ26 ⟨z29, rfl, h30, g27, f28⟩
      show WP 56 25 [(0, .ref 10), (1, .ref 13), (2, iV rk)] [iV z29] _ _ _ _
      refine wp_ri jF_56_25 (m_fitb (by omega) (by omega)) ?_
      exact ⟨z29, rfl, ⟨by omega, by omega⟩, g27, (FR.up f5 f28 sb_Wtp_Wtp)⟩
set_option maxHeartbeats 4000000 in
set_option maxRecDepth 20000 in
/-- Tape.takesFreeWord -/
theorem m_49_r10_13 (σ : jM) (hg : GI σ)   (fr lo : Nat) (hfr : 2 ≤ fr) (hlo : 42 ≤ lo) : WP 49 0 (lv_args 0 [.ref 10, .ref 13]) [] fr lo σ (fun v τ => ∃ z : Int, v = some (iV z) ∧ (0 ≤ z ∧ z ≤ 1) ∧ GI τ ∧ FR Wtp σ τ) := by
  show WP 49 0 [(0, .ref 10), (1, .ref 13)] [] _ _ _ _
  refine wp_al1 jF_49_0 rfl rfl (pc2 := 1) ?_
  refine wp_cV (as := []) (rest := []) (a := 10) (mx := 2) (ci := 6) jF_49_1 kd10 (by decide) rfl rfl rfl rfl rfl (by omega) (by omega) rfl (pc2 := 4) ?_
  have b1 := GI.b hg 10 1 kd10 (lo := 0) (hi := 1600) rfl
  refine wp_use (m_37_r10 σ hg   _ _ (by omega) (by omega)) ?_
  rintro _ τ3 ⟨z6, rfl, h7, g4, f5, p2⟩
  show WP 49 4 [(0, .ref 10), (1, .ref 13)] [iV z6] _ _ _ _
  refine wp_z_ne jF_49_4 (m_rgb h7 rfl) rfl (pc2 := 7) ?_ ?_
  · intro h8
    replace p2 := p2 (by omega)
    refine wp_al1 jF_49_17 rfl rfl (pc2 := 18) ?_
    have b9 := GI.b g4 10 6 kd10 (lo := 0) (hi := 1600) rfl
    refine wp_gi jF_49_18 kd10 (by decide) rfl rfl rfl (pc2 := 21) ?_
    refine wp_bi jF_49_21 (by decide) rfl (pc2 := 23) ?_
    refine wp_i_le jF_49_23 (m_rgb b9 rfl) (m_rgl rfl) rfl (pc2 := 26) ?_ ?_
    · intro h10
      refine wp_al1 jF_49_39 rfl rfl (pc2 := 40) ?_
      refine wp_al1 jF_49_40 rfl rfl (pc2 := 41) ?_
      refine wp_cV (as := [.ref 13]) (rest := []) (a := 10) (mx := 3) (ci := 6) jF_49_41 kd10 (by decide) rfl rfl rfl rfl rfl (by omega) (by omega) rfl (pc2 := 44) ?_
      refine wp_use (m_41_r10_13 τ3 g4   _ _ (by omega) (by omega)) ?_
      rintro _ _ ⟨z13, rfl, h14, rfl⟩
      show WP 49 44 [(0, .ref 10), (1, .ref 13)] [iV z13] _ _ _ _
      refine wp_ic jF_49_44 rfl (pc2 := 45) ?_
      refine wp_i_eq jF_49_45 (m_rgb h14 rfl) (m_rgl rfl) rfl (pc2 := 48) ?_ ?_
      · intro h15
        refine wp_al1 jF_49_58 rfl rfl (pc2 := 59) ?_
        refine wp_cV (as := []) (rest := []) (a := 10) (mx := 1) (ci := 6) jF_49_59 kd10 (by decide) rfl rfl rfl rfl rfl (by omega) (by omega) rfl (pc2 := 62) ?_
        have b16 := GI.b g4 10 5 kd10 (lo := 0) (hi := 1600) rfl
        refine wp_use (m_45_r10 τ3 g4  (by omega) _ _ (by omega) (by omega)) ?_
        rintro _ τ17 ⟨rfl, g18, f19⟩
        show WP 49 62 [(0, .ref 10), (1, .ref 13)] [] _ _ _ _
        refine wp_ic jF_49_62 rfl (pc2 := 63) ?_
        refine wp_ri jF_49_63 rfl ?_
        exact ⟨1, rfl, ⟨by omega, by omega⟩, g18, (FR.up f5 f19 sb_Wtp_Wtp)⟩
      · intro h15
        refine wp_al1 jF_49_48 rfl rfl (pc2 := 49) ?_
        refine wp_ic jF_49_49 rfl (pc2 := 50) ?_
        refine wp_al1 jF_49_50 rfl rfl (pc2 := 51) ?_
        have b20 := GI.b g4 10 5 kd10 (lo := 0) (hi := 1600) rfl
        refine wp_gi jF_49_51 kd10 (by decide) rfl rfl rfl (pc2 := 54) ?_
        refine wp_cV (as := [iV 1, iV (τ3.1 10 5)]) (rest := []) (a := 10) (mx := 3) (ci := 6) jF_49_54 kd10 (by decide) rfl rfl rfl rfl rfl (by omega) (by omega) rfl (pc2 := 57) ?_
        refine wp_use (m_42_r10 τ3 g4 1 (by omega) (by omega) (τ3.1 10 5) (by omega) (by omega)  _ _ (by omega) (by omega)) ?_
        rintro _ τ21 ⟨z24, rfl, h25, g22, f23⟩
        show WP 49 57 [(0, .ref 10), (1, .ref 13)] [iV z24] _ _ _ _
        refine wp_ri jF_49_57 (m_fitb (by omega) (by omega)) ?_
        exact ⟨z24, rfl, ⟨by omega, by omega⟩, g22, (FR.up f5 f23 sb_Wtp_Wtp)⟩
    · intro h10
      refine wp_al1 jF_49_26 rfl rfl (pc2 := 27) ?_
      refine wp_ic jF_49_27 rfl (pc2 := 28) ?_
      refine wp_al1 jF_49_28 rfl rfl (pc2 := 29) ?_
      have b26 := GI.b g4 10 5 kd10 (lo := 0) (hi := 1600) rfl
      refine wp_gi jF_49_29 kd10 (by decide) rfl rfl rfl (pc2 := 32) ?_
      refine wp_bi jF_49_32 (by decide) rfl (pc2 := 34) ?_
      refine wp_add jF_49_34 rfl (pc2 := 35) ?_
      refine wp_cV (as := [iV 1, iV ((τ3.1 10 5) + 6)]) (rest := []) (a := 10) (mx := 3) (ci := 6) jF_49_35 kd10 (by decide) rfl rfl rfl rfl rfl (by omega) (by omega) rfl (pc2 := 38) ?_
      refine wp_use (m_42_r10 τ3 g4 1 (by omega) (by omega) ((τ3.1 10 5) + 6) (by omega) (by omega)  _ _ (by omega) (by omega)) ?_
      rintro _ τ27 ⟨z30, rfl, h31, g28, f29⟩
      show WP 49 38 [(0, .ref 10), (1, .ref 13)] [iV z30] _ _ _ _
      refine wp_ri jF_49_38 (m_fitb (by omega) (by omega)) ?_
      exact ⟨z30, rfl, ⟨by omega, by omega⟩, g28, (FR.up f5 f29 sb_Wtp_Wtp)⟩
  · intro h8
    clear p2
    refine wp_al1 jF_49_7 rfl rfl (pc2 := 8) ?_
    refine wp_ic jF_49_8 rfl (pc2 := 9) ?_
    refine wp_al1 jF_49_9 rfl rfl (pc2 := 10) ?_
    have b32 := GI.b g4 10 2 kd10 (lo := 0) (hi := 1600) rfl
    refine wp_gi jF_49_10 kd10 (by decide) rfl rfl rfl (pc2 := 13) ?_
    refine wp_cV (as := [iV 1, iV (τ3.1 10 2)]) (rest := []) (a := 10) (mx := 3) (ci := 6) jF_49_13 kd10 (by decide) rfl rfl rfl rfl rfl (by omega) (by omega) rfl (pc2 := 16) ?_
    refine wp_use (m_42_r10 τ3 g4 1 (by omega) (by omega) (τ3.1 10 2) (by omega) (by omega)  _ _ (by omega) (by omega)) ?_
    rintro _ τ33 ⟨z36, rfl, h37, g34, f35⟩
    show WP 49 16 [(0, .ref 10), (1, .ref 13)] [iV z36] _ _ _ _
    refine wp_ri jF_49_16 (m_fitb (by omega) (by omega)) ?_
    exact ⟨z36, rfl, ⟨by omega, by omega⟩, g34, (FR.up f5 f35 sb_Wtp_Wtp)⟩
set_option maxHeartbeats 4000000 in
set_option maxRecDepth 20000 in
/-- Tape.takesFreeWord -/
theorem m_49_r10_15 (σ : jM) (hg : GI σ)   (fr lo : Nat) (hfr : 2 ≤ fr) (hlo : 42 ≤ lo) : WP 49 0 (lv_args 0 [.ref 10, .ref 15]) [] fr lo σ (fun v τ => ∃ z : Int, v = some (iV z) ∧ (0 ≤ z ∧ z ≤ 1) ∧ GI τ ∧ FR Wtp σ τ) := by
  show WP 49 0 [(0, .ref 10), (1, .ref 15)] [] _ _ _ _
  refine wp_al1 jF_49_0 rfl rfl (pc2 := 1) ?_
  refine wp_cV (as := []) (rest := []) (a := 10) (mx := 2) (ci := 6) jF_49_1 kd10 (by decide) rfl rfl rfl rfl rfl (by omega) (by omega) rfl (pc2 := 4) ?_
  have b1 := GI.b hg 10 1 kd10 (lo := 0) (hi := 1600) rfl
  refine wp_use (m_37_r10 σ hg   _ _ (by omega) (by omega)) ?_
  rintro _ τ3 ⟨z6, rfl, h7, g4, f5, p2⟩
  show WP 49 4 [(0, .ref 10), (1, .ref 15)] [iV z6] _ _ _ _
  refine wp_z_ne jF_49_4 (m_rgb h7 rfl) rfl (pc2 := 7) ?_ ?_
  · intro h8
    replace p2 := p2 (by omega)
    refine wp_al1 jF_49_17 rfl rfl (pc2 := 18) ?_
    have b9 := GI.b g4 10 6 kd10 (lo := 0) (hi := 1600) rfl
    refine wp_gi jF_49_18 kd10 (by decide) rfl rfl rfl (pc2 := 21) ?_
    refine wp_bi jF_49_21 (by decide) rfl (pc2 := 23) ?_
    refine wp_i_le jF_49_23 (m_rgb b9 rfl) (m_rgl rfl) rfl (pc2 := 26) ?_ ?_
    · intro h10
      refine wp_al1 jF_49_39 rfl rfl (pc2 := 40) ?_
      refine wp_al1 jF_49_40 rfl rfl (pc2 := 41) ?_
      refine wp_cV (as := [.ref 15]) (rest := []) (a := 10) (mx := 3) (ci := 6) jF_49_41 kd10 (by decide) rfl rfl rfl rfl rfl (by omega) (by omega) rfl (pc2 := 44) ?_
      refine wp_use (m_41_r10_15 τ3 g4   _ _ (by omega) (by omega)) ?_
      rintro _ _ ⟨z13, rfl, h14, rfl⟩
      show WP 49 44 [(0, .ref 10), (1, .ref 15)] [iV z13] _ _ _ _
      refine wp_ic jF_49_44 rfl (pc2 := 45) ?_
      refine wp_i_eq jF_49_45 (m_rgb h14 rfl) (m_rgl rfl) rfl (pc2 := 48) ?_ ?_
      · intro h15
        refine wp_al1 jF_49_58 rfl rfl (pc2 := 59) ?_
        refine wp_cV (as := []) (rest := []) (a := 10) (mx := 1) (ci := 6) jF_49_59 kd10 (by decide) rfl rfl rfl rfl rfl (by omega) (by omega) rfl (pc2 := 62) ?_
        have b16 := GI.b g4 10 5 kd10 (lo := 0) (hi := 1600) rfl
        refine wp_use (m_45_r10 τ3 g4  (by omega) _ _ (by omega) (by omega)) ?_
        rintro _ τ17 ⟨rfl, g18, f19⟩
        show WP 49 62 [(0, .ref 10), (1, .ref 15)] [] _ _ _ _
        refine wp_ic jF_49_62 rfl (pc2 := 63) ?_
        refine wp_ri jF_49_63 rfl ?_
        exact ⟨1, rfl, ⟨by omega, by omega⟩, g18, (FR.up f5 f19 sb_Wtp_Wtp)⟩
      · intro h15
        refine wp_al1 jF_49_48 rfl rfl (pc2 := 49) ?_
        refine wp_ic jF_49_49 rfl (pc2 := 50) ?_
        refine wp_al1 jF_49_50 rfl rfl (pc2 := 51) ?_
        have b20 := GI.b g4 10 5 kd10 (lo := 0) (hi := 1600) rfl
        refine wp_gi jF_49_51 kd10 (by decide) rfl rfl rfl (pc2 := 54) ?_
        refine wp_cV (as := [iV 1, iV (τ3.1 10 5)]) (rest := []) (a := 10) (mx := 3) (ci := 6) jF_49_54 kd10 (by decide) rfl rfl rfl rfl rfl (by omega) (by omega) rfl (pc2 := 57) ?_
        refine wp_use (m_42_r10 τ3 g4 1 (by omega) (by omega) (τ3.1 10 5) (by omega) (by omega)  _ _ (by omega) (by omega)) ?_
        rintro _ τ21 ⟨z24, rfl, h25, g22, f23⟩
        show WP 49 57 [(0, .ref 10), (1, .ref 15)] [iV z24] _ _ _ _
        refine wp_ri jF_49_57 (m_fitb (by omega) (by omega)) ?_
        exact ⟨z24, rfl, ⟨by omega, by omega⟩, g22, (FR.up f5 f23 sb_Wtp_Wtp)⟩
    · intro h10
      refine wp_al1 jF_49_26 rfl rfl (pc2 := 27) ?_
      refine wp_ic jF_49_27 rfl (pc2 := 28) ?_
      refine wp_al1 jF_49_28 rfl rfl (pc2 := 29) ?_
      have b26 := GI.b g4 10 5 kd10 (lo := 0) (hi := 1600) rfl
      refine wp_gi jF_49_29 kd10 (by decide) rfl rfl rfl (pc2 := 32) ?_
      refine wp_bi jF_49_32 (by decide) rfl (pc2 := 34) ?_
      refine wp_add jF_49_34 rfl (pc2 := 35) ?_
      refine wp_cV (as := [iV 1, iV ((τ3.1 10 5) + 6)]) (rest := []) (a := 10) (mx := 3) (ci := 6) jF_49_35 kd10 (by decide) rfl rfl rfl rfl rfl (by omega) (by omega) rfl (pc2 := 38) ?_
      refine wp_use (m_42_r10 τ3 g4 1 (by omega) (by omega) ((τ3.1 10 5) + 6) (by omega) (by omega)  _ _ (by omega) (by omega)) ?_
      rintro _ τ27 ⟨z30, rfl, h31, g28, f29⟩
      show WP 49 38 [(0, .ref 10), (1, .ref 15)] [iV z30] _ _ _ _
      refine wp_ri jF_49_38 (m_fitb (by omega) (by omega)) ?_
      exact ⟨z30, rfl, ⟨by omega, by omega⟩, g28, (FR.up f5 f29 sb_Wtp_Wtp)⟩
  · intro h8
    clear p2
    refine wp_al1 jF_49_7 rfl rfl (pc2 := 8) ?_
    refine wp_ic jF_49_8 rfl (pc2 := 9) ?_
    refine wp_al1 jF_49_9 rfl rfl (pc2 := 10) ?_
    have b32 := GI.b g4 10 2 kd10 (lo := 0) (hi := 1600) rfl
    refine wp_gi jF_49_10 kd10 (by decide) rfl rfl rfl (pc2 := 13) ?_
    refine wp_cV (as := [iV 1, iV (τ3.1 10 2)]) (rest := []) (a := 10) (mx := 3) (ci := 6) jF_49_13 kd10 (by decide) rfl rfl rfl rfl rfl (by omega) (by omega) rfl (pc2 := 16) ?_
    refine wp_use (m_42_r10 τ3 g4 1 (by omega) (by omega) (τ3.1 10 2) (by omega) (by omega)  _ _ (by omega) (by omega)) ?_
    rintro _ τ33 ⟨z36, rfl, h37, g34, f35⟩
    show WP 49 16 [(0, .ref 10), (1, .ref 15)] [iV z36] _ _ _ _
    refine wp_ri jF_49_16 (m_fitb (by omega) (by omega)) ?_
    exact ⟨z36, rfl, ⟨by omega, by omega⟩, g34, (FR.up f5 f35 sb_Wtp_Wtp)⟩
