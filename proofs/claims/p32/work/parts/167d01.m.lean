set_option maxHeartbeats 4000000 in
set_option maxRecDepth 20000 in
/-- Question.takesSum -/
theorem m_182_r16_d6 (σ : jM) (hg : GI σ)  (pre0 : (σ.1 16 5) = 6) (fr lo : Nat) (hfr : 5 ≤ fr) (hlo : 108 ≤ lo) : WP 182 0 (lv_args 0 [.ref 16]) [] fr lo σ (fun v τ => ∃ z : Int, v = some (iV z) ∧ (0 ≤ z ∧ z ≤ 1) ∧ GI τ ∧ FR WQ σ τ ∧ (z = 1 → (τ.1 16 5) = 6)) := by
  show WP 182 0 [(0, .ref 16)] [] _ _ _ _
  refine wp_al1 jF_182_0 rfl rfl (pc2 := 1) ?_
  refine wp_cV (as := []) (rest := []) (a := 16) (mx := 3) (ci := 3) jF_182_1 kd16 (by decide) rfl rfl rfl rfl rfl (by omega) (by omega) rfl (pc2 := 4) ?_
  have q1 : (σ.1 16 5) = 6 := pre0
  refine wp_use (m_183_r16_d6 σ hg  (by omega) _ _ (by omega) (by omega)) ?_
  rintro _ τ3 ⟨z6, rfl, h7, g4, f5, p2⟩
  show WP 182 4 [(0, .ref 16)] [iV z6] _ _ _ _
  refine wp_z_ne jF_182_4 (m_rgb h7 rfl) rfl (pc2 := 7) ?_ ?_
  · intro h8
    replace p2 := p2 (by omega)
    refine wp_ic jF_182_9 rfl (pc2 := 10) ?_
    refine wp_is1 (lv2 := [(0, .ref 16), (1, iV 0)]) jF_182_10 rfl rfl rfl (pc2 := 11) ?_
    refine wp_loop (α := Int) (fun a => [(0, .ref 16), (1, iV (a))]) (fun a τ => (0 ≤ a ∧ a ≤ 1600) ∧ GI τ ∧ FR WQ τ3 τ ∧ ((τ.1 16 5) = 6)) (fun a τ => Int.toNat (1600 - (a))) (0) τ3 ?_ ?_
    · skip
      have b9 := GI.b g4 16 5 kd16 (lo := 0) (hi := 6) rfl
      exact ⟨⟨by omega, by omega⟩, g4, FR.rf, (by omega)⟩
    · rintro x10 τ12 ⟨h11, g13, f14, p15⟩ ih16
      have b17 := GI.b g13 16 5 kd16 (lo := 0) (hi := 6) rfl
      show WP 182 11 [(0, .ref 16), (1, iV x10)] [] _ _ _ _
      show WP 182 11 [(0, .ref 16), (1, iV x10)] [] _ _ _ _
      refine wp_il1 jF_182_11 rfl rfl (pc2 := 12) ?_
      refine wp_si jF_182_12 (by decide) rfl (pc2 := 15) ?_
      refine wp_i_ge jF_182_15 (m_rgb h11 rfl) (m_rgl rfl) rfl (pc2 := 18) ?_ ?_
      · intro h18
        refine wp_ic jF_182_83 rfl (pc2 := 84) ?_
        refine wp_ri jF_182_84 rfl ?_
        exact ⟨1, rfl, ⟨by omega, by omega⟩, g13, (FR.up f5 f14 sb_WQ_WQ), (by omega)⟩
      · intro h18
        refine wp_al1 jF_182_18 rfl rfl (pc2 := 19) ?_
        refine wp_gr (b := 10) jF_182_19 kd16 (by decide) (c := 110) rfl rfl rfl (pc2 := 22) ?_
        refine wp_cV (as := []) (rest := []) (a := 10) (mx := 1) (ci := 6) jF_182_22 kd10 (by decide) rfl rfl rfl rfl rfl (by omega) (by omega) rfl (pc2 := 25) ?_
        have b19 := GI.b hg 10 1 kd10 (lo := 0) (hi := 1600) rfl
        have q20 : (τ12.1 10 1) = (σ.1 10 1) := ((FR.at f14 10 1 rfl).trans (FR.at f5 10 1 rfl))
        have b21 := GI.b g13 10 2 kd10 (lo := 0) (hi := 1600) rfl
        refine wp_use (m_35_r10_c τ12 g13   _ _ (by omega) (by omega)) ?_
        rintro _ τ25 ⟨z28, rfl, h29, g26, f27, p22, p23, p24⟩
        show WP 182 25 [(0, .ref 16), (1, iV x10)] [iV z28] _ _ _ _
        refine wp_bi jF_182_25 (by decide) rfl (pc2 := 27) ?_
        refine wp_i_eq jF_182_27 (m_rgb h29 rfl) (m_rgl rfl) rfl (pc2 := 30) ?_ ?_
        · intro h30
          replace p22 := p22 (by omega)
          replace p24 := p24 (by omega)
          refine wp_al1 jF_182_42 rfl rfl (pc2 := 43) ?_
          refine wp_gr (b := 10) jF_182_43 kd16 (by decide) (c := 110) rfl rfl rfl (pc2 := 46) ?_
          refine wp_cV (as := []) (rest := []) (a := 10) (mx := 1) (ci := 6) jF_182_46 kd10 (by decide) rfl rfl rfl rfl rfl (by omega) (by omega) rfl (pc2 := 49) ?_
          have q31 : (τ25.1 10 1) = (σ.1 10 1) := ((FR.at f27 10 1 rfl).trans ((FR.at f14 10 1 rfl).trans (FR.at f5 10 1 rfl)))
          have b32 := GI.b g26 10 2 kd10 (lo := 0) (hi := 1600) rfl
          refine wp_use (m_35_r10_c τ25 g26   _ _ (by omega) (by omega)) ?_
          rintro _ τ36 ⟨z39, rfl, h40, g37, f38, p33, p34, p35⟩
          replace p34 := p34 (by omega)
          show WP 182 49 [(0, .ref 16), (1, iV x10)] [iV z39] _ _ _ _
          refine wp_is1 (lv2 := [(0, .ref 16), (1, iV x10), (2, iV z39)]) jF_182_49 rfl rfl rfl (pc2 := 50) ?_
          refine wp_al1 jF_182_50 rfl rfl (pc2 := 51) ?_
          refine wp_gr (b := 10) jF_182_51 kd16 (by decide) (c := 110) rfl rfl rfl (pc2 := 54) ?_
          refine wp_dup jF_182_54 rfl rfl (pc2 := 55) ?_
          have b41 := GI.b g37 10 2 kd10 (lo := 0) (hi := 1600) rfl
          refine wp_gi jF_182_55 kd10 (by decide) rfl rfl rfl (pc2 := 58) ?_
          refine wp_ic jF_182_58 rfl (pc2 := 59) ?_
          refine wp_add jF_182_59 rfl (pc2 := 60) ?_
          refine wp_pi jF_182_60 kd10 (by decide) rfl rfl rfl (pc2 := 63) g37 (lo := 0) (hi := 1600) rfl (by omega) (by omega) ?_
          intro τ42 g43 f44 e45
          refine wp_al1 jF_182_63 rfl rfl (pc2 := 64) ?_
          refine wp_cV (as := []) (rest := []) (a := 16) (mx := 3) (ci := 3) jF_182_64 kd16 (by decide) rfl rfl rfl rfl rfl (by omega) (by omega) rfl (pc2 := 67) ?_
          have q46 : (τ42.1 16 5) = (τ12.1 16 5) := ((FRw.na f44 (by decide)).trans ((FR.at f38 16 5 rfl).trans (FR.at f27 16 5 rfl)))
          refine wp_use (m_183_r16_d6 τ42 g43  (by omega) _ _ (by omega) (by omega)) ?_
          rintro _ τ48 ⟨z51, rfl, h52, g49, f50, p47⟩
          show WP 182 67 [(0, .ref 16), (1, iV x10), (2, iV z39)] [iV z51] _ _ _ _
          refine wp_z_ne jF_182_67 (m_rgb h52 rfl) rfl (pc2 := 70) ?_ ?_
          · intro h53
            replace p47 := p47 (by omega)
            refine wp_al1 jF_182_72 rfl rfl (pc2 := 73) ?_
            refine wp_il1 jF_182_73 rfl rfl (pc2 := 74) ?_
            refine wp_cV (as := [iV z39]) (rest := []) (a := 16) (mx := 2) (ci := 3) jF_182_74 kd16 (by decide) rfl rfl rfl rfl rfl (by omega) (by omega) rfl (pc2 := 77) ?_
            refine wp_use (m_180_r16 τ48 g49 z39 (by omega) (by omega)  _ _ (by omega) (by omega)) ?_
            rintro _ τ54 ⟨rfl, g55, f56⟩
            show WP 182 77 [(0, .ref 16), (1, iV x10), (2, iV z39)] [] _ _ _ _
            refine wp_inc (lv2 := [(0, .ref 16), (1, iV (x10 + 1)), (2, iV z39)]) jF_182_77 rfl rfl rfl rfl (pc2 := 80) ?_
            refine wp_go jF_182_80 ?_
            have b57 := GI.b g49 16 5 kd16 (lo := 0) (hi := 6) rfl
            have q58 : (τ54.1 16 5) = (τ48.1 16 5) := (FR.at f56 16 5 rfl)
            refine wp_less [0, 1] (lv2 := [(0, .ref 16), (1, iV (x10 + 1))]) rfl rfl ?_
            exact ih16 ((x10 + 1)) τ54 ⟨⟨by omega, by omega⟩, g55, (FR.up (FR.up (FR.w (FR.up (FR.up f14 f27 sb_Wtp_WQ) f38 sb_Wtp_WQ) f44 rfl) f50 sb_WQ_WQ) f56 sb_WQs_WQ), (by omega)⟩ (by show Int.toNat (1600 - (x10 + 1)) < Int.toNat (1600 - x10); omega)
          · intro h53
            clear p47
            refine wp_ic jF_182_70 rfl (pc2 := 71) ?_
            refine wp_ri jF_182_71 rfl ?_
            have b59 := GI.b g49 16 5 kd16 (lo := 0) (hi := 6) rfl
            exact ⟨0, rfl, ⟨by omega, by omega⟩, g49, (FR.up (FR.w (FR.up (FR.up (FR.up f5 f14 sb_WQ_WQ) f27 sb_Wtp_WQ) f38 sb_Wtp_WQ) f44 rfl) f50 sb_WQ_WQ), (by omega)⟩
        · intro h30
          refine wp_al1 jF_182_30 rfl rfl (pc2 := 31) ?_
          refine wp_gr (b := 10) jF_182_31 kd16 (by decide) (c := 110) rfl rfl rfl (pc2 := 34) ?_
          refine wp_cV (as := []) (rest := []) (a := 10) (mx := 1) (ci := 6) jF_182_34 kd10 (by decide) rfl rfl rfl rfl rfl (by omega) (by omega) rfl (pc2 := 37) ?_
          have q60 : (τ25.1 10 1) = (σ.1 10 1) := ((FR.at f27 10 1 rfl).trans ((FR.at f14 10 1 rfl).trans (FR.at f5 10 1 rfl)))
          have b61 := GI.b g26 10 2 kd10 (lo := 0) (hi := 1600) rfl
          refine wp_use (m_35_r10_c τ25 g26   _ _ (by omega) (by omega)) ?_
          rintro _ τ65 ⟨z68, rfl, h69, g66, f67, p62, p63, p64⟩
          show WP 182 37 [(0, .ref 16), (1, iV x10)] [iV z68] _ _ _ _
          refine wp_bi jF_182_37 (by decide) rfl (pc2 := 39) ?_
          refine wp_i_ne jF_182_39 (m_rgb h69 rfl) (m_rgl rfl) rfl (pc2 := 42) ?_ ?_
          · intro h70
            refine wp_ic jF_182_83 rfl (pc2 := 84) ?_
            refine wp_ri jF_182_84 rfl ?_
            have q71 : (τ65.1 16 5) = (τ12.1 16 5) := ((FR.at f67 16 5 rfl).trans (FR.at f27 16 5 rfl))
            exact ⟨1, rfl, ⟨by omega, by omega⟩, g66, (FR.up (FR.up (FR.up f5 f14 sb_WQ_WQ) f27 sb_Wtp_WQ) f67 sb_Wtp_WQ), (by omega)⟩
          · intro h70
            replace p62 := p62 (by omega)
            replace p64 := p64 (by omega)
            refine wp_al1 jF_182_42 rfl rfl (pc2 := 43) ?_
            refine wp_gr (b := 10) jF_182_43 kd16 (by decide) (c := 110) rfl rfl rfl (pc2 := 46) ?_
            refine wp_cV (as := []) (rest := []) (a := 10) (mx := 1) (ci := 6) jF_182_46 kd10 (by decide) rfl rfl rfl rfl rfl (by omega) (by omega) rfl (pc2 := 49) ?_
            have q72 : (τ65.1 10 1) = (σ.1 10 1) := ((FR.at f67 10 1 rfl).trans ((FR.at f27 10 1 rfl).trans ((FR.at f14 10 1 rfl).trans (FR.at f5 10 1 rfl))))
            have b73 := GI.b g66 10 2 kd10 (lo := 0) (hi := 1600) rfl
            refine wp_use (m_35_r10_c τ65 g66   _ _ (by omega) (by omega)) ?_
            rintro _ τ77 ⟨z80, rfl, h81, g78, f79, p74, p75, p76⟩
            replace p75 := p75 (by omega)
            show WP 182 49 [(0, .ref 16), (1, iV x10)] [iV z80] _ _ _ _
            refine wp_is1 (lv2 := [(0, .ref 16), (1, iV x10), (2, iV z80)]) jF_182_49 rfl rfl rfl (pc2 := 50) ?_
            refine wp_al1 jF_182_50 rfl rfl (pc2 := 51) ?_
            refine wp_gr (b := 10) jF_182_51 kd16 (by decide) (c := 110) rfl rfl rfl (pc2 := 54) ?_
            refine wp_dup jF_182_54 rfl rfl (pc2 := 55) ?_
            have b82 := GI.b g78 10 2 kd10 (lo := 0) (hi := 1600) rfl
            refine wp_gi jF_182_55 kd10 (by decide) rfl rfl rfl (pc2 := 58) ?_
            refine wp_ic jF_182_58 rfl (pc2 := 59) ?_
            refine wp_add jF_182_59 rfl (pc2 := 60) ?_
            refine wp_pi jF_182_60 kd10 (by decide) rfl rfl rfl (pc2 := 63) g78 (lo := 0) (hi := 1600) rfl (by omega) (by omega) ?_
            intro τ83 g84 f85 e86
            refine wp_al1 jF_182_63 rfl rfl (pc2 := 64) ?_
            refine wp_cV (as := []) (rest := []) (a := 16) (mx := 3) (ci := 3) jF_182_64 kd16 (by decide) rfl rfl rfl rfl rfl (by omega) (by omega) rfl (pc2 := 67) ?_
            have q87 : (τ83.1 16 5) = (τ12.1 16 5) := ((FRw.na f85 (by decide)).trans ((FR.at f79 16 5 rfl).trans ((FR.at f67 16 5 rfl).trans (FR.at f27 16 5 rfl))))
            refine wp_use (m_183_r16_d6 τ83 g84  (by omega) _ _ (by omega) (by omega)) ?_
            rintro _ τ89 ⟨z92, rfl, h93, g90, f91, p88⟩
            show WP 182 67 [(0, .ref 16), (1, iV x10), (2, iV z80)] [iV z92] _ _ _ _
            refine wp_z_ne jF_182_67 (m_rgb h93 rfl) rfl (pc2 := 70) ?_ ?_
            · intro h94
              replace p88 := p88 (by omega)
              refine wp_al1 jF_182_72 rfl rfl (pc2 := 73) ?_
              refine wp_il1 jF_182_73 rfl rfl (pc2 := 74) ?_
              refine wp_cV (as := [iV z80]) (rest := []) (a := 16) (mx := 2) (ci := 3) jF_182_74 kd16 (by decide) rfl rfl rfl rfl rfl (by omega) (by omega) rfl (pc2 := 77) ?_
              refine wp_use (m_180_r16 τ89 g90 z80 (by omega) (by omega)  _ _ (by omega) (by omega)) ?_
              rintro _ τ95 ⟨rfl, g96, f97⟩
              show WP 182 77 [(0, .ref 16), (1, iV x10), (2, iV z80)] [] _ _ _ _
              refine wp_inc (lv2 := [(0, .ref 16), (1, iV (x10 + 1)), (2, iV z80)]) jF_182_77 rfl rfl rfl rfl (pc2 := 80) ?_
              refine wp_go jF_182_80 ?_
              have b98 := GI.b g90 16 5 kd16 (lo := 0) (hi := 6) rfl
              have q99 : (τ95.1 16 5) = (τ89.1 16 5) := (FR.at f97 16 5 rfl)
              refine wp_less [0, 1] (lv2 := [(0, .ref 16), (1, iV (x10 + 1))]) rfl rfl ?_
              exact ih16 ((x10 + 1)) τ95 ⟨⟨by omega, by omega⟩, g96, (FR.up (FR.up (FR.w (FR.up (FR.up (FR.up f14 f27 sb_Wtp_WQ) f67 sb_Wtp_WQ) f79 sb_Wtp_WQ) f85 rfl) f91 sb_WQ_WQ) f97 sb_WQs_WQ), (by omega)⟩ (by show Int.toNat (1600 - (x10 + 1)) < Int.toNat (1600 - x10); omega)
            · intro h94
              clear p88
              refine wp_ic jF_182_70 rfl (pc2 := 71) ?_
              refine wp_ri jF_182_71 rfl ?_
              have b100 := GI.b g90 16 5 kd16 (lo := 0) (hi := 6) rfl
              exact ⟨0, rfl, ⟨by omega, by omega⟩, g90, (FR.up (FR.w (FR.up (FR.up (FR.up (FR.up f5 f14 sb_WQ_WQ) f27 sb_Wtp_WQ) f67 sb_Wtp_WQ) f79 sb_Wtp_WQ) f85 rfl) f91 sb_WQ_WQ), (by omega)⟩
  · intro h8
    clear p2
    refine wp_ic jF_182_7 rfl (pc2 := 8) ?_
    refine wp_ri jF_182_8 rfl ?_
    have b101 := GI.b g4 16 5 kd16 (lo := 0) (hi := 6) rfl
    exact ⟨0, rfl, ⟨by omega, by omega⟩, g4, f5, (by omega)⟩
set_option maxHeartbeats 4000000 in
set_option maxRecDepth 20000 in
/-- Question.takesComparison -/
theorem m_181_r16_d6 (σ : jM) (hg : GI σ)  (pre0 : (σ.1 16 5) = 6) (fr lo : Nat) (hfr : 6 ≤ fr) (hlo : 130 ≤ lo) : WP 181 0 (lv_args 0 [.ref 16]) [] fr lo σ (fun v τ => ∃ z : Int, v = some (iV z) ∧ (0 ≤ z ∧ z ≤ 1) ∧ GI τ ∧ FR WQ σ τ ∧ (z = 1 → (τ.1 16 5) = 6)) := by
  show WP 181 0 [(0, .ref 16)] [] _ _ _ _
  refine wp_al1 jF_181_0 rfl rfl (pc2 := 1) ?_
  refine wp_cV (as := []) (rest := []) (a := 16) (mx := 3) (ci := 3) jF_181_1 kd16 (by decide) rfl rfl rfl rfl rfl (by omega) (by omega) rfl (pc2 := 4) ?_
  have q1 : (σ.1 16 5) = 6 := pre0
  refine wp_use (m_182_r16_d6 σ hg  (by omega) _ _ (by omega) (by omega)) ?_
  rintro _ τ3 ⟨z6, rfl, h7, g4, f5, p2⟩
  show WP 181 4 [(0, .ref 16)] [iV z6] _ _ _ _
  refine wp_z_ne jF_181_4 (m_rgb h7 rfl) rfl (pc2 := 7) ?_ ?_
  · intro h8
    replace p2 := p2 (by omega)
    refine wp_al1 jF_181_9 rfl rfl (pc2 := 10) ?_
    refine wp_gr (b := 10) jF_181_10 kd16 (by decide) (c := 110) rfl rfl rfl (pc2 := 13) ?_
    refine wp_cV (as := []) (rest := []) (a := 10) (mx := 1) (ci := 6) jF_181_13 kd10 (by decide) rfl rfl rfl rfl rfl (by omega) (by omega) rfl (pc2 := 16) ?_
    have b9 := GI.b hg 10 1 kd10 (lo := 0) (hi := 1600) rfl
    have q10 : (τ3.1 10 1) = (σ.1 10 1) := (FR.at f5 10 1 rfl)
    have b11 := GI.b g4 10 2 kd10 (lo := 0) (hi := 1600) rfl
    refine wp_use (m_35_r10_c τ3 g4   _ _ (by omega) (by omega)) ?_
    rintro _ τ15 ⟨z18, rfl, h19, g16, f17, p12, p13, p14⟩
    show WP 181 16 [(0, .ref 16)] [iV z18] _ _ _ _
    refine wp_is1 (lv2 := [(0, .ref 16), (1, iV z18)]) jF_181_16 rfl rfl rfl (pc2 := 17) ?_
    refine wp_il1 jF_181_17 rfl rfl (pc2 := 18) ?_
    refine wp_bi jF_181_18 (by decide) rfl (pc2 := 20) ?_
    refine wp_i_eq jF_181_20 (m_rgb h19 rfl) (m_rgl rfl) rfl (pc2 := 23) ?_ ?_
    · intro h20
      replace p12 := p12 (by omega)
      replace p14 := p14 (by omega)
      refine wp_al1 jF_181_51 rfl rfl (pc2 := 52) ?_
      refine wp_gr (b := 10) jF_181_52 kd16 (by decide) (c := 110) rfl rfl rfl (pc2 := 55) ?_
      refine wp_dup jF_181_55 rfl rfl (pc2 := 56) ?_
      have b21 := GI.b g16 10 2 kd10 (lo := 0) (hi := 1600) rfl
      refine wp_gi jF_181_56 kd10 (by decide) rfl rfl rfl (pc2 := 59) ?_
      refine wp_ic jF_181_59 rfl (pc2 := 60) ?_
      refine wp_add jF_181_60 rfl (pc2 := 61) ?_
      refine wp_pi jF_181_61 kd10 (by decide) rfl rfl rfl (pc2 := 64) g16 (lo := 0) (hi := 1600) rfl (by omega) (by omega) ?_
      intro τ22 g23 f24 e25
      refine wp_al1 jF_181_64 rfl rfl (pc2 := 65) ?_
      refine wp_cV (as := []) (rest := []) (a := 16) (mx := 3) (ci := 3) jF_181_65 kd16 (by decide) rfl rfl rfl rfl rfl (by omega) (by omega) rfl (pc2 := 68) ?_
      have b26 := GI.b g4 16 5 kd16 (lo := 0) (hi := 6) rfl
      have q27 : (τ22.1 16 5) = (τ3.1 16 5) := ((FRw.na f24 (by decide)).trans (FR.at f17 16 5 rfl))
      refine wp_use (m_182_r16_d6 τ22 g23  (by omega) _ _ (by omega) (by omega)) ?_
      rintro _ τ29 ⟨z32, rfl, h33, g30, f31, p28⟩
      show WP 181 68 [(0, .ref 16), (1, iV z18)] [iV z32] _ _ _ _
      refine wp_z_ne jF_181_68 (m_rgb h33 rfl) rfl (pc2 := 71) ?_ ?_
      · intro h34
        replace p28 := p28 (by omega)
        refine wp_al1 jF_181_73 rfl rfl (pc2 := 74) ?_
        refine wp_il1 jF_181_74 rfl rfl (pc2 := 75) ?_
        refine wp_cV (as := [iV z18]) (rest := []) (a := 16) (mx := 2) (ci := 3) jF_181_75 kd16 (by decide) rfl rfl rfl rfl rfl (by omega) (by omega) rfl (pc2 := 78) ?_
        refine wp_use (m_180_r16 τ29 g30 z18 (by omega) (by omega)  _ _ (by omega) (by omega)) ?_
        rintro _ τ35 ⟨rfl, g36, f37⟩
        show WP 181 78 [(0, .ref 16), (1, iV z18)] [] _ _ _ _
        refine wp_ic jF_181_78 rfl (pc2 := 79) ?_
        refine wp_ri jF_181_79 rfl ?_
        have b38 := GI.b g30 16 5 kd16 (lo := 0) (hi := 6) rfl
        have q39 : (τ35.1 16 5) = (τ29.1 16 5) := (FR.at f37 16 5 rfl)
        exact ⟨1, rfl, ⟨by omega, by omega⟩, g36, (FR.up (FR.up (FR.w (FR.up f5 f17 sb_Wtp_WQ) f24 rfl) f31 sb_WQ_WQ) f37 sb_WQs_WQ), (by omega)⟩
      · intro h34
        clear p28
        refine wp_ic jF_181_71 rfl (pc2 := 72) ?_
        refine wp_ri jF_181_72 rfl ?_
        have b40 := GI.b g30 16 5 kd16 (lo := 0) (hi := 6) rfl
        exact ⟨0, rfl, ⟨by omega, by omega⟩, g30, (FR.up (FR.w (FR.up f5 f17 sb_Wtp_WQ) f24 rfl) f31 sb_WQ_WQ), (by omega)⟩
    · intro h20
      refine wp_il1 jF_181_23 rfl rfl (pc2 := 24) ?_
      refine wp_bi jF_181_24 (by decide) rfl (pc2 := 26) ?_
      refine wp_i_eq jF_181_26 (m_rgb h19 rfl) (m_rgl rfl) rfl (pc2 := 29) ?_ ?_
      · intro h41
        replace p12 := p12 (by omega)
        replace p14 := p14 (by omega)
        refine wp_al1 jF_181_51 rfl rfl (pc2 := 52) ?_
        refine wp_gr (b := 10) jF_181_52 kd16 (by decide) (c := 110) rfl rfl rfl (pc2 := 55) ?_
        refine wp_dup jF_181_55 rfl rfl (pc2 := 56) ?_
        have b42 := GI.b g16 10 2 kd10 (lo := 0) (hi := 1600) rfl
        refine wp_gi jF_181_56 kd10 (by decide) rfl rfl rfl (pc2 := 59) ?_
        refine wp_ic jF_181_59 rfl (pc2 := 60) ?_
        refine wp_add jF_181_60 rfl (pc2 := 61) ?_
        refine wp_pi jF_181_61 kd10 (by decide) rfl rfl rfl (pc2 := 64) g16 (lo := 0) (hi := 1600) rfl (by omega) (by omega) ?_
        intro τ43 g44 f45 e46
        refine wp_al1 jF_181_64 rfl rfl (pc2 := 65) ?_
        refine wp_cV (as := []) (rest := []) (a := 16) (mx := 3) (ci := 3) jF_181_65 kd16 (by decide) rfl rfl rfl rfl rfl (by omega) (by omega) rfl (pc2 := 68) ?_
        have b47 := GI.b g4 16 5 kd16 (lo := 0) (hi := 6) rfl
        have q48 : (τ43.1 16 5) = (τ3.1 16 5) := ((FRw.na f45 (by decide)).trans (FR.at f17 16 5 rfl))
        refine wp_use (m_182_r16_d6 τ43 g44  (by omega) _ _ (by omega) (by omega)) ?_
        rintro _ τ50 ⟨z53, rfl, h54, g51, f52, p49⟩
        show WP 181 68 [(0, .ref 16), (1, iV z18)] [iV z53] _ _ _ _
        refine wp_z_ne jF_181_68 (m_rgb h54 rfl) rfl (pc2 := 71) ?_ ?_
        · intro h55
          replace p49 := p49 (by omega)
          refine wp_al1 jF_181_73 rfl rfl (pc2 := 74) ?_
          refine wp_il1 jF_181_74 rfl rfl (pc2 := 75) ?_
          refine wp_cV (as := [iV z18]) (rest := []) (a := 16) (mx := 2) (ci := 3) jF_181_75 kd16 (by decide) rfl rfl rfl rfl rfl (by omega) (by omega) rfl (pc2 := 78) ?_
          refine wp_use (m_180_r16 τ50 g51 z18 (by omega) (by omega)  _ _ (by omega) (by omega)) ?_
          rintro _ τ56 ⟨rfl, g57, f58⟩
          show WP 181 78 [(0, .ref 16), (1, iV z18)] [] _ _ _ _
          refine wp_ic jF_181_78 rfl (pc2 := 79) ?_
          refine wp_ri jF_181_79 rfl ?_
          have b59 := GI.b g51 16 5 kd16 (lo := 0) (hi := 6) rfl
          have q60 : (τ56.1 16 5) = (τ50.1 16 5) := (FR.at f58 16 5 rfl)
          exact ⟨1, rfl, ⟨by omega, by omega⟩, g57, (FR.up (FR.up (FR.w (FR.up f5 f17 sb_Wtp_WQ) f45 rfl) f52 sb_WQ_WQ) f58 sb_WQs_WQ), (by omega)⟩
        · intro h55
          clear p49
          refine wp_ic jF_181_71 rfl (pc2 := 72) ?_
          refine wp_ri jF_181_72 rfl ?_
          have b61 := GI.b g51 16 5 kd16 (lo := 0) (hi := 6) rfl
          exact ⟨0, rfl, ⟨by omega, by omega⟩, g51, (FR.up (FR.w (FR.up f5 f17 sb_Wtp_WQ) f45 rfl) f52 sb_WQ_WQ), (by omega)⟩
      · intro h41
        refine wp_il1 jF_181_29 rfl rfl (pc2 := 30) ?_
        refine wp_bi jF_181_30 (by decide) rfl (pc2 := 32) ?_
        refine wp_i_eq jF_181_32 (m_rgb h19 rfl) (m_rgl rfl) rfl (pc2 := 35) ?_ ?_
        · intro h62
          replace p12 := p12 (by omega)
          replace p14 := p14 (by omega)
          refine wp_al1 jF_181_51 rfl rfl (pc2 := 52) ?_
          refine wp_gr (b := 10) jF_181_52 kd16 (by decide) (c := 110) rfl rfl rfl (pc2 := 55) ?_
          refine wp_dup jF_181_55 rfl rfl (pc2 := 56) ?_
          have b63 := GI.b g16 10 2 kd10 (lo := 0) (hi := 1600) rfl
          refine wp_gi jF_181_56 kd10 (by decide) rfl rfl rfl (pc2 := 59) ?_
          refine wp_ic jF_181_59 rfl (pc2 := 60) ?_
          refine wp_add jF_181_60 rfl (pc2 := 61) ?_
          refine wp_pi jF_181_61 kd10 (by decide) rfl rfl rfl (pc2 := 64) g16 (lo := 0) (hi := 1600) rfl (by omega) (by omega) ?_
          intro τ64 g65 f66 e67
          refine wp_al1 jF_181_64 rfl rfl (pc2 := 65) ?_
          refine wp_cV (as := []) (rest := []) (a := 16) (mx := 3) (ci := 3) jF_181_65 kd16 (by decide) rfl rfl rfl rfl rfl (by omega) (by omega) rfl (pc2 := 68) ?_
          have b68 := GI.b g4 16 5 kd16 (lo := 0) (hi := 6) rfl
          have q69 : (τ64.1 16 5) = (τ3.1 16 5) := ((FRw.na f66 (by decide)).trans (FR.at f17 16 5 rfl))
          refine wp_use (m_182_r16_d6 τ64 g65  (by omega) _ _ (by omega) (by omega)) ?_
          rintro _ τ71 ⟨z74, rfl, h75, g72, f73, p70⟩
          show WP 181 68 [(0, .ref 16), (1, iV z18)] [iV z74] _ _ _ _
          refine wp_z_ne jF_181_68 (m_rgb h75 rfl) rfl (pc2 := 71) ?_ ?_
          · intro h76
            replace p70 := p70 (by omega)
            refine wp_al1 jF_181_73 rfl rfl (pc2 := 74) ?_
            refine wp_il1 jF_181_74 rfl rfl (pc2 := 75) ?_
            refine wp_cV (as := [iV z18]) (rest := []) (a := 16) (mx := 2) (ci := 3) jF_181_75 kd16 (by decide) rfl rfl rfl rfl rfl (by omega) (by omega) rfl (pc2 := 78) ?_
            refine wp_use (m_180_r16 τ71 g72 z18 (by omega) (by omega)  _ _ (by omega) (by omega)) ?_
            rintro _ τ77 ⟨rfl, g78, f79⟩
            show WP 181 78 [(0, .ref 16), (1, iV z18)] [] _ _ _ _
            refine wp_ic jF_181_78 rfl (pc2 := 79) ?_
            refine wp_ri jF_181_79 rfl ?_
            have b80 := GI.b g72 16 5 kd16 (lo := 0) (hi := 6) rfl
            have q81 : (τ77.1 16 5) = (τ71.1 16 5) := (FR.at f79 16 5 rfl)
            exact ⟨1, rfl, ⟨by omega, by omega⟩, g78, (FR.up (FR.up (FR.w (FR.up f5 f17 sb_Wtp_WQ) f66 rfl) f73 sb_WQ_WQ) f79 sb_WQs_WQ), (by omega)⟩
          · intro h76
            clear p70
            refine wp_ic jF_181_71 rfl (pc2 := 72) ?_
            refine wp_ri jF_181_72 rfl ?_
            have b82 := GI.b g72 16 5 kd16 (lo := 0) (hi := 6) rfl
            exact ⟨0, rfl, ⟨by omega, by omega⟩, g72, (FR.up (FR.w (FR.up f5 f17 sb_Wtp_WQ) f66 rfl) f73 sb_WQ_WQ), (by omega)⟩
        · intro h62
          refine wp_al1 jF_181_35 rfl rfl (pc2 := 36) ?_
          refine wp_gr (b := 10) jF_181_36 kd16 (by decide) (c := 110) rfl rfl rfl (pc2 := 39) ?_
          refine wp_ic jF_181_39 rfl (pc2 := 40) ?_
          refine wp_al1 jF_181_40 rfl rfl (pc2 := 41) ?_
          refine wp_gr (b := 10) jF_181_41 kd16 (by decide) (c := 110) rfl rfl rfl (pc2 := 44) ?_
          have b83 := GI.b g16 10 2 kd10 (lo := 0) (hi := 1600) rfl
          refine wp_gi jF_181_44 kd10 (by decide) rfl rfl rfl (pc2 := 47) ?_
          refine wp_cV (as := [iV 1, iV (τ15.1 10 2)]) (rest := []) (a := 10) (mx := 3) (ci := 6) jF_181_47 kd10 (by decide) rfl rfl rfl rfl rfl (by omega) (by omega) rfl (pc2 := 50) ?_
          refine wp_use (m_42_r10 τ15 g16 1 (by omega) (by omega) (τ15.1 10 2) (by omega) (by omega)  _ _ (by omega) (by omega)) ?_
          rintro _ τ84 ⟨z87, rfl, h88, g85, f86⟩
          show WP 181 50 [(0, .ref 16), (1, iV z18)] [iV z87] _ _ _ _
          refine wp_ri jF_181_50 (m_fitb (by omega) (by omega)) ?_
          have b89 := GI.b g4 16 5 kd16 (lo := 0) (hi := 6) rfl
          have q90 : (τ84.1 16 5) = (τ3.1 16 5) := ((FR.at f86 16 5 rfl).trans (FR.at f17 16 5 rfl))
          exact ⟨z87, rfl, ⟨by omega, by omega⟩, g85, (FR.up (FR.up f5 f17 sb_Wtp_WQ) f86 sb_Wtp_WQ), (by omega)⟩
  · intro h8
    clear p2
    refine wp_ic jF_181_7 rfl (pc2 := 8) ?_
    refine wp_ri jF_181_8 rfl ?_
    have b91 := GI.b g4 16 5 kd16 (lo := 0) (hi := 6) rfl
    exact ⟨0, rfl, ⟨by omega, by omega⟩, g4, f5, (by omega)⟩
set_option maxHeartbeats 4000000 in
set_option maxRecDepth 20000 in
/-- Question.takesDenied -/
theorem m_179_r16_d6 (σ : jM) (hg : GI σ)  (pre0 : (σ.1 16 5) = 6) (pre1 : (σ.1 10 5) + (σ.1 10 6) ≤ 1600) (fr lo : Nat) (hfr : 2 ≤ fr) (hlo : 42 ≤ lo) : WP 179 0 (lv_args 0 [.ref 16]) [] fr lo σ (fun v τ => ∃ z : Int, v = some (iV z) ∧ (0 ≤ z ∧ z ≤ 1) ∧ GI τ ∧ FR WQ σ τ ∧ (z = 1 → (τ.1 16 5) = 6)) := by
  show WP 179 0 [(0, .ref 16)] [] _ _ _ _
  refine wp_al1 jF_179_0 rfl rfl (pc2 := 1) ?_
  refine wp_cV (as := []) (rest := []) (a := 16) (mx := 1) (ci := 3) jF_179_1 kd16 (by decide) rfl rfl rfl rfl rfl (by omega) (by omega) rfl (pc2 := 4) ?_
  show WP 177 0 [(0, .ref 16)] [] _ _ _ _
  refine wp_al1 jF_177_0 rfl rfl (pc2 := 1) ?_
  refine wp_gi jF_177_1 kd16 (by decide) rfl pre0 rfl (pc2 := 4) ?_
  refine wp_bi jF_177_4 (by decide) rfl (pc2 := 6) ?_
  refine wp_i_lt jF_177_6 (m_rgl rfl) (m_rgl rfl) rfl (pc2 := 9) ?_ ?_
  · intro h1; exfalso; omega
  · intro h1
    refine wp_al1 jF_177_9 rfl rfl (pc2 := 10) ?_
    refine wp_gr (b := 10) jF_177_10 kd16 (by decide) (c := 110) rfl rfl rfl (pc2 := 13) ?_
    refine wp_ic jF_177_13 rfl (pc2 := 14) ?_
    refine wp_al1 jF_177_14 rfl rfl (pc2 := 15) ?_
    refine wp_gr (b := 10) jF_177_15 kd16 (by decide) (c := 110) rfl rfl rfl (pc2 := 18) ?_
    have b2 := GI.b hg 10 2 kd10 (lo := 0) (hi := 1600) rfl
    refine wp_gi jF_177_18 kd10 (by decide) rfl rfl rfl (pc2 := 21) ?_
    refine wp_cV (as := [iV 4, iV (σ.1 10 2)]) (rest := []) (a := 10) (mx := 3) (ci := 6) jF_177_21 kd10 (by decide) rfl rfl rfl rfl rfl (by omega) (by omega) rfl (pc2 := 24) ?_
    refine wp_use (m_42_r10 σ hg 4 (by omega) (by omega) (σ.1 10 2) (by omega) (by omega)  _ _ (by omega) (by omega)) ?_
    rintro _ τ3 ⟨z6, rfl, h7, g4, f5⟩
    show WP 177 24 [(0, .ref 16)] [iV z6] _ _ _ _
    refine wp_ri jF_177_24 (m_fitb (by omega) (by omega)) ?_
    show WP 179 4 [(0, .ref 16)] [iV z6] _ _ _ _
    refine wp_z_ne jF_179_4 (m_rgb h7 rfl) rfl (pc2 := 7) ?_ ?_
    · intro h8; exfalso; omega
    · intro h8
      refine wp_ic jF_179_7 rfl (pc2 := 8) ?_
      refine wp_ri jF_179_8 rfl ?_
      have q9 : (τ3.1 16 5) = 6 := ((FR.at f5 16 5 rfl).trans pre0)
      exact ⟨0, rfl, ⟨by omega, by omega⟩, g4, (FR.up FR.rf f5 sb_Wtp_WQ), (by omega)⟩
set_option maxHeartbeats 4000000 in
set_option maxRecDepth 20000 in
/-- Question.takesBracket -/
theorem m_176_r16_d6 (σ : jM) (hg : GI σ)  (pre0 : (σ.1 16 5) = 6) (pre1 : (σ.1 10 2) ≤ 1599) (fr lo : Nat) (hfr : 2 ≤ fr) (hlo : 43 ≤ lo) : WP 176 0 (lv_args 0 [.ref 16]) [] fr lo σ (fun v τ => ∃ z : Int, v = some (iV z) ∧ (0 ≤ z ∧ z ≤ 1) ∧ GI τ ∧ FR WQ σ τ ∧ (z = 1 → (τ.1 16 5) = 6)) := by
  show WP 176 0 [(0, .ref 16)] [] _ _ _ _
  refine wp_al1 jF_176_0 rfl rfl (pc2 := 1) ?_
  refine wp_cV (as := []) (rest := []) (a := 16) (mx := 1) (ci := 3) jF_176_1 kd16 (by decide) rfl rfl rfl rfl rfl (by omega) (by omega) rfl (pc2 := 4) ?_
  show WP 177 0 [(0, .ref 16)] [] _ _ _ _
  refine wp_al1 jF_177_0 rfl rfl (pc2 := 1) ?_
  refine wp_gi jF_177_1 kd16 (by decide) rfl pre0 rfl (pc2 := 4) ?_
  refine wp_bi jF_177_4 (by decide) rfl (pc2 := 6) ?_
  refine wp_i_lt jF_177_6 (m_rgl rfl) (m_rgl rfl) rfl (pc2 := 9) ?_ ?_
  · intro h1; exfalso; omega
  · intro h1
    refine wp_al1 jF_177_9 rfl rfl (pc2 := 10) ?_
    refine wp_gr (b := 10) jF_177_10 kd16 (by decide) (c := 110) rfl rfl rfl (pc2 := 13) ?_
    refine wp_ic jF_177_13 rfl (pc2 := 14) ?_
    refine wp_al1 jF_177_14 rfl rfl (pc2 := 15) ?_
    refine wp_gr (b := 10) jF_177_15 kd16 (by decide) (c := 110) rfl rfl rfl (pc2 := 18) ?_
    have b2 := GI.b hg 10 2 kd10 (lo := 0) (hi := 1600) rfl
    refine wp_gi jF_177_18 kd10 (by decide) rfl rfl rfl (pc2 := 21) ?_
    refine wp_cV (as := [iV 4, iV (σ.1 10 2)]) (rest := []) (a := 10) (mx := 3) (ci := 6) jF_177_21 kd10 (by decide) rfl rfl rfl rfl rfl (by omega) (by omega) rfl (pc2 := 24) ?_
    refine wp_use (m_42_r10 σ hg 4 (by omega) (by omega) (σ.1 10 2) (by omega) (by omega)  _ _ (by omega) (by omega)) ?_
    rintro _ τ3 ⟨z6, rfl, h7, g4, f5⟩
    show WP 177 24 [(0, .ref 16)] [iV z6] _ _ _ _
    refine wp_ri jF_177_24 (m_fitb (by omega) (by omega)) ?_
    show WP 176 4 [(0, .ref 16)] [iV z6] _ _ _ _
    refine wp_z_ne jF_176_4 (m_rgb h7 rfl) rfl (pc2 := 7) ?_ ?_
    · intro h8; exfalso; omega
    · intro h8
      refine wp_ic jF_176_7 rfl (pc2 := 8) ?_
      refine wp_ri jF_176_8 rfl ?_
      have q9 : (τ3.1 16 5) = 6 := ((FR.at f5 16 5 rfl).trans pre0)
      exact ⟨0, rfl, ⟨by omega, by omega⟩, g4, (FR.up FR.rf f5 sb_Wtp_WQ), (by omega)⟩
set_option maxHeartbeats 4000000 in
set_option maxRecDepth 20000 in
/-- Question.takesFact -/
theorem m_175_r16_d6 (σ : jM) (hg : GI σ)  (pre0 : (σ.1 16 5) = 6) (fr lo : Nat) (hfr : 7 ≤ fr) (hlo : 151 ≤ lo) : WP 175 0 (lv_args 0 [.ref 16]) [] fr lo σ (fun v τ => ∃ z : Int, v = some (iV z) ∧ (0 ≤ z ∧ z ≤ 1) ∧ GI τ ∧ FR WQ σ τ ∧ (z = 1 → (τ.1 16 5) = 6)) := by
  show WP 175 0 [(0, .ref 16)] [] _ _ _ _
  refine wp_al1 jF_175_0 rfl rfl (pc2 := 1) ?_
  refine wp_gr (b := 10) jF_175_1 kd16 (by decide) (c := 110) rfl rfl rfl (pc2 := 4) ?_
  refine wp_cV (as := []) (rest := []) (a := 10) (mx := 1) (ci := 6) jF_175_4 kd10 (by decide) rfl rfl rfl rfl rfl (by omega) (by omega) rfl (pc2 := 7) ?_
  have b1 := GI.b hg 10 1 kd10 (lo := 0) (hi := 1600) rfl
  have b2 := GI.b hg 10 2 kd10 (lo := 0) (hi := 1600) rfl
  refine wp_use (m_35_r10_c σ hg   _ _ (by omega) (by omega)) ?_
  rintro _ τ6 ⟨z9, rfl, h10, g7, f8, p3, p4, p5⟩
  show WP 175 7 [(0, .ref 16)] [iV z9] _ _ _ _
  refine wp_bi jF_175_7 (by decide) rfl (pc2 := 9) ?_
  refine wp_i_ne jF_175_9 (m_rgb h10 rfl) (m_rgl rfl) rfl (pc2 := 12) ?_ ?_
  · intro h11
    refine wp_al1 jF_175_17 rfl rfl (pc2 := 18) ?_
    refine wp_bi jF_175_18 (by decide) rfl (pc2 := 20) ?_
    refine wp_cV (as := [iV 18]) (rest := []) (a := 16) (mx := 2) (ci := 3) jF_175_20 kd16 (by decide) rfl rfl rfl rfl rfl (by omega) (by omega) rfl (pc2 := 23) ?_
    refine wp_use (m_178_r16 τ6 g7 18 (by omega) (by omega)  _ _ (by omega) (by omega)) ?_
    rintro _ τ13 ⟨z16, rfl, h17, g14, f15, p12⟩
    show WP 175 23 [(0, .ref 16)] [iV z16] _ _ _ _
    refine wp_z_eq jF_175_23 (m_rgb h17 rfl) rfl (pc2 := 26) ?_ ?_
    · intro h18
      clear p12
      refine wp_al1 jF_175_31 rfl rfl (pc2 := 32) ?_
      refine wp_bi jF_175_32 (by decide) rfl (pc2 := 34) ?_
      refine wp_cV (as := [iV 6]) (rest := []) (a := 16) (mx := 2) (ci := 3) jF_175_34 kd16 (by decide) rfl rfl rfl rfl rfl (by omega) (by omega) rfl (pc2 := 37) ?_
      refine wp_use (m_178_r16 τ13 g14 6 (by omega) (by omega)  _ _ (by omega) (by omega)) ?_
      rintro _ τ20 ⟨z23, rfl, h24, g21, f22, p19⟩
      show WP 175 37 [(0, .ref 16)] [iV z23] _ _ _ _
      refine wp_z_eq jF_175_37 (m_rgb h24 rfl) rfl (pc2 := 40) ?_ ?_
      · intro h25
        clear p19
        refine wp_al1 jF_175_55 rfl rfl (pc2 := 56) ?_
        refine wp_cV (as := []) (rest := []) (a := 16) (mx := 2) (ci := 3) jF_175_56 kd16 (by decide) rfl rfl rfl rfl rfl (by omega) (by omega) rfl (pc2 := 59) ?_
        have q26 : (τ20.1 16 5) = 6 := ((FR.at f22 16 5 rfl).trans ((FR.at f15 16 5 rfl).trans ((FR.at f8 16 5 rfl).trans pre0)))
        refine wp_use (m_181_r16_d6 τ20 g21  (by omega) _ _ (by omega) (by omega)) ?_
        rintro _ τ28 ⟨z31, rfl, h32, g29, f30, p27⟩
        show WP 175 59 [(0, .ref 16)] [iV z31] _ _ _ _
        refine wp_ri jF_175_59 (m_fitb (by omega) (by omega)) ?_
        have b33 := GI.b g29 16 5 kd16 (lo := 0) (hi := 6) rfl
        exact ⟨z31, rfl, ⟨by omega, by omega⟩, g29, (FR.up (FR.up (FR.up (FR.up FR.rf f8 sb_Wtp_WQ) f15 sb_Wtp_WQ) f22 sb_Wtp_WQ) f30 sb_WQ_WQ), (by omega)⟩
      · intro h25
        replace p19 := p19 (by omega)
        refine wp_al1 jF_175_40 rfl rfl (pc2 := 41) ?_
        refine wp_gr (b := 10) jF_175_41 kd16 (by decide) (c := 110) rfl rfl rfl (pc2 := 44) ?_
        refine wp_cV (as := []) (rest := []) (a := 10) (mx := 1) (ci := 6) jF_175_44 kd10 (by decide) rfl rfl rfl rfl rfl (by omega) (by omega) rfl (pc2 := 47) ?_
        have b34 := GI.b g21 10 5 kd10 (lo := 0) (hi := 1600) rfl
        have b35 := GI.b g21 10 6 kd10 (lo := 0) (hi := 1600) rfl
        refine wp_use (m_45_r10 τ20 g21  (by omega) _ _ (by omega) (by omega)) ?_
        rintro _ τ36 ⟨rfl, g37, f38⟩
        show WP 175 47 [(0, .ref 16)] [] _ _ _ _
        refine wp_al1 jF_175_47 rfl rfl (pc2 := 48) ?_
        refine wp_bi jF_175_48 (by decide) rfl (pc2 := 50) ?_
        refine wp_cV (as := [iV 6]) (rest := []) (a := 16) (mx := 2) (ci := 3) jF_175_50 kd16 (by decide) rfl rfl rfl rfl rfl (by omega) (by omega) rfl (pc2 := 53) ?_
        refine wp_use (m_180_r16 τ36 g37 6 (by omega) (by omega)  _ _ (by omega) (by omega)) ?_
        rintro _ τ39 ⟨rfl, g40, f41⟩
        show WP 175 53 [(0, .ref 16)] [] _ _ _ _
        refine wp_ic jF_175_53 rfl (pc2 := 54) ?_
        refine wp_ri jF_175_54 rfl ?_
        have q42 : (τ39.1 16 5) = 6 := ((FR.at f41 16 5 rfl).trans ((FR.at f38 16 5 rfl).trans ((FR.at f22 16 5 rfl).trans ((FR.at f15 16 5 rfl).trans ((FR.at f8 16 5 rfl).trans pre0)))))
        exact ⟨1, rfl, ⟨by omega, by omega⟩, g40, (FR.up (FR.up (FR.up (FR.up (FR.up FR.rf f8 sb_Wtp_WQ) f15 sb_Wtp_WQ) f22 sb_Wtp_WQ) f38 sb_Wtp_WQ) f41 sb_WQs_WQ), (by omega)⟩
    · intro h18
      replace p12 := p12 (by omega)
      refine wp_al1 jF_175_26 rfl rfl (pc2 := 27) ?_
      refine wp_cV (as := []) (rest := []) (a := 16) (mx := 1) (ci := 3) jF_175_27 kd16 (by decide) rfl rfl rfl rfl rfl (by omega) (by omega) rfl (pc2 := 30) ?_
      have b43 := GI.b g14 10 5 kd10 (lo := 0) (hi := 1600) rfl
      have b44 := GI.b g14 10 6 kd10 (lo := 0) (hi := 1600) rfl
      have q45 : (τ13.1 16 5) = 6 := ((FR.at f15 16 5 rfl).trans ((FR.at f8 16 5 rfl).trans pre0))
      refine wp_use (m_179_r16_d6 τ13 g14  (by omega) (by omega) _ _ (by omega) (by omega)) ?_
      rintro _ τ47 ⟨z50, rfl, h51, g48, f49, p46⟩
      show WP 175 30 [(0, .ref 16)] [iV z50] _ _ _ _
      refine wp_ri jF_175_30 (m_fitb (by omega) (by omega)) ?_
      have b52 := GI.b g48 16 5 kd16 (lo := 0) (hi := 6) rfl
      exact ⟨z50, rfl, ⟨by omega, by omega⟩, g48, (FR.up (FR.up (FR.up FR.rf f8 sb_Wtp_WQ) f15 sb_Wtp_WQ) f49 sb_WQ_WQ), (by omega)⟩
  · intro h11
    replace p3 := p3 (by omega)
    replace p5 := p5 (by omega)
    refine wp_al1 jF_175_12 rfl rfl (pc2 := 13) ?_
    refine wp_cV (as := []) (rest := []) (a := 16) (mx := 1) (ci := 3) jF_175_13 kd16 (by decide) rfl rfl rfl rfl rfl (by omega) (by omega) rfl (pc2 := 16) ?_
    have b53 := GI.b g7 10 2 kd10 (lo := 0) (hi := 1600) rfl
    have q54 : (τ6.1 16 5) = 6 := ((FR.at f8 16 5 rfl).trans pre0)
    refine wp_use (m_176_r16_d6 τ6 g7  (by omega) (by omega) _ _ (by omega) (by omega)) ?_
    rintro _ τ56 ⟨z59, rfl, h60, g57, f58, p55⟩
    show WP 175 16 [(0, .ref 16)] [iV z59] _ _ _ _
    refine wp_ri jF_175_16 (m_fitb (by omega) (by omega)) ?_
    have b61 := GI.b g57 16 5 kd16 (lo := 0) (hi := 6) rfl
    exact ⟨z59, rfl, ⟨by omega, by omega⟩, g57, (FR.up (FR.up FR.rf f8 sb_Wtp_WQ) f58 sb_WQ_WQ), (by omega)⟩
set_option maxHeartbeats 4000000 in
set_option maxRecDepth 20000 in
/-- Question.takesBoth -/
theorem m_174_r16_d6 (σ : jM) (hg : GI σ)  (pre0 : (σ.1 16 5) = 6) (fr lo : Nat) (hfr : 8 ≤ fr) (hlo : 171 ≤ lo) : WP 174 0 (lv_args 0 [.ref 16]) [] fr lo σ (fun v τ => ∃ z : Int, v = some (iV z) ∧ (0 ≤ z ∧ z ≤ 1) ∧ GI τ ∧ FR WQ σ τ ∧ (z = 1 → (τ.1 16 5) = 6)) := by
  show WP 174 0 [(0, .ref 16)] [] _ _ _ _
  refine wp_al1 jF_174_0 rfl rfl (pc2 := 1) ?_
  refine wp_cV (as := []) (rest := []) (a := 16) (mx := 1) (ci := 3) jF_174_1 kd16 (by decide) rfl rfl rfl rfl rfl (by omega) (by omega) rfl (pc2 := 4) ?_
  have q1 : (σ.1 16 5) = 6 := pre0
  refine wp_use (m_175_r16_d6 σ hg  (by omega) _ _ (by omega) (by omega)) ?_
  rintro _ τ3 ⟨z6, rfl, h7, g4, f5, p2⟩
  show WP 174 4 [(0, .ref 16)] [iV z6] _ _ _ _
  refine wp_z_ne jF_174_4 (m_rgb h7 rfl) rfl (pc2 := 7) ?_ ?_
  · intro h8
    replace p2 := p2 (by omega)
    refine wp_ic jF_174_9 rfl (pc2 := 10) ?_
    refine wp_is1 (lv2 := [(0, .ref 16), (1, iV 0)]) jF_174_10 rfl rfl rfl (pc2 := 11) ?_
    refine wp_loop (α := Int) (fun a => [(0, .ref 16), (1, iV (a))]) (fun a τ => (0 ≤ a ∧ a ≤ 1600) ∧ GI τ ∧ FR WQ τ3 τ ∧ ((τ.1 16 5) = 6)) (fun a τ => Int.toNat (1600 - (a))) (0) τ3 ?_ ?_
    · skip
      have b9 := GI.b g4 16 5 kd16 (lo := 0) (hi := 6) rfl
      exact ⟨⟨by omega, by omega⟩, g4, FR.rf, (by omega)⟩
    · rintro x10 τ12 ⟨h11, g13, f14, p15⟩ ih16
      have b17 := GI.b g13 16 5 kd16 (lo := 0) (hi := 6) rfl
      show WP 174 11 [(0, .ref 16), (1, iV x10)] [] _ _ _ _
      show WP 174 11 [(0, .ref 16), (1, iV x10)] [] _ _ _ _
      refine wp_il1 jF_174_11 rfl rfl (pc2 := 12) ?_
      refine wp_si jF_174_12 (by decide) rfl (pc2 := 15) ?_
      refine wp_i_ge jF_174_15 (m_rgb h11 rfl) (m_rgl rfl) rfl (pc2 := 18) ?_ ?_
      · intro h18
        refine wp_ic jF_174_55 rfl (pc2 := 56) ?_
        refine wp_ri jF_174_56 rfl ?_
        exact ⟨1, rfl, ⟨by omega, by omega⟩, g13, (FR.up f5 f14 sb_WQ_WQ), (by omega)⟩
      · intro h18
        refine wp_al1 jF_174_18 rfl rfl (pc2 := 19) ?_
        refine wp_bi jF_174_19 (by decide) rfl (pc2 := 21) ?_
        refine wp_cV (as := [iV 16]) (rest := []) (a := 16) (mx := 2) (ci := 3) jF_174_21 kd16 (by decide) rfl rfl rfl rfl rfl (by omega) (by omega) rfl (pc2 := 24) ?_
        refine wp_use (m_178_r16 τ12 g13 16 (by omega) (by omega)  _ _ (by omega) (by omega)) ?_
        rintro _ τ20 ⟨z23, rfl, h24, g21, f22, p19⟩
        show WP 174 24 [(0, .ref 16), (1, iV x10)] [iV z23] _ _ _ _
        refine wp_z_eq jF_174_24 (m_rgb h24 rfl) rfl (pc2 := 27) ?_ ?_
        · intro h25
          clear p19
          refine wp_ic jF_174_55 rfl (pc2 := 56) ?_
          refine wp_ri jF_174_56 rfl ?_
          have q26 : (τ20.1 16 5) = (τ12.1 16 5) := (FR.at f22 16 5 rfl)
          exact ⟨1, rfl, ⟨by omega, by omega⟩, g21, (FR.up (FR.up f5 f14 sb_WQ_WQ) f22 sb_Wtp_WQ), (by omega)⟩
        · intro h25
          replace p19 := p19 (by omega)
          refine wp_al1 jF_174_27 rfl rfl (pc2 := 28) ?_
          refine wp_gr (b := 10) jF_174_28 kd16 (by decide) (c := 110) rfl rfl rfl (pc2 := 31) ?_
          refine wp_cV (as := []) (rest := []) (a := 10) (mx := 1) (ci := 6) jF_174_31 kd10 (by decide) rfl rfl rfl rfl rfl (by omega) (by omega) rfl (pc2 := 34) ?_
          have b27 := GI.b g21 10 5 kd10 (lo := 0) (hi := 1600) rfl
          have b28 := GI.b g21 10 6 kd10 (lo := 0) (hi := 1600) rfl
          refine wp_use (m_45_r10 τ20 g21  (by omega) _ _ (by omega) (by omega)) ?_
          rintro _ τ29 ⟨rfl, g30, f31⟩
          show WP 174 34 [(0, .ref 16), (1, iV x10)] [] _ _ _ _
          refine wp_al1 jF_174_34 rfl rfl (pc2 := 35) ?_
          refine wp_cV (as := []) (rest := []) (a := 16) (mx := 1) (ci := 3) jF_174_35 kd16 (by decide) rfl rfl rfl rfl rfl (by omega) (by omega) rfl (pc2 := 38) ?_
          have q32 : (τ29.1 16 5) = (τ12.1 16 5) := ((FR.at f31 16 5 rfl).trans (FR.at f22 16 5 rfl))
          refine wp_use (m_175_r16_d6 τ29 g30  (by omega) _ _ (by omega) (by omega)) ?_
          rintro _ τ34 ⟨z37, rfl, h38, g35, f36, p33⟩
          show WP 174 38 [(0, .ref 16), (1, iV x10)] [iV z37] _ _ _ _
          refine wp_z_ne jF_174_38 (m_rgb h38 rfl) rfl (pc2 := 41) ?_ ?_
          · intro h39
            replace p33 := p33 (by omega)
            refine wp_al1 jF_174_43 rfl rfl (pc2 := 44) ?_
            refine wp_bi jF_174_44 (by decide) rfl (pc2 := 46) ?_
            refine wp_cV (as := [iV 16]) (rest := []) (a := 16) (mx := 2) (ci := 3) jF_174_46 kd16 (by decide) rfl rfl rfl rfl rfl (by omega) (by omega) rfl (pc2 := 49) ?_
            refine wp_use (m_180_r16 τ34 g35 16 (by omega) (by omega)  _ _ (by omega) (by omega)) ?_
            rintro _ τ40 ⟨rfl, g41, f42⟩
            show WP 174 49 [(0, .ref 16), (1, iV x10)] [] _ _ _ _
            refine wp_inc (lv2 := [(0, .ref 16), (1, iV (x10 + 1))]) jF_174_49 rfl rfl rfl rfl (pc2 := 52) ?_
            refine wp_go jF_174_52 ?_
            have b43 := GI.b g35 16 5 kd16 (lo := 0) (hi := 6) rfl
            have q44 : (τ40.1 16 5) = (τ34.1 16 5) := (FR.at f42 16 5 rfl)
            exact ih16 ((x10 + 1)) τ40 ⟨⟨by omega, by omega⟩, g41, (FR.up (FR.up (FR.up (FR.up f14 f22 sb_Wtp_WQ) f31 sb_Wtp_WQ) f36 sb_WQ_WQ) f42 sb_WQs_WQ), (by omega)⟩ (by show Int.toNat (1600 - (x10 + 1)) < Int.toNat (1600 - x10); omega)
          · intro h39
            clear p33
            refine wp_ic jF_174_41 rfl (pc2 := 42) ?_
            refine wp_ri jF_174_42 rfl ?_
            have b45 := GI.b g35 16 5 kd16 (lo := 0) (hi := 6) rfl
            exact ⟨0, rfl, ⟨by omega, by omega⟩, g35, (FR.up (FR.up (FR.up (FR.up f5 f14 sb_WQ_WQ) f22 sb_Wtp_WQ) f31 sb_Wtp_WQ) f36 sb_WQ_WQ), (by omega)⟩
  · intro h8
    clear p2
    refine wp_ic jF_174_7 rfl (pc2 := 8) ?_
    refine wp_ri jF_174_8 rfl ?_
    have b46 := GI.b g4 16 5 kd16 (lo := 0) (hi := 6) rfl
    exact ⟨0, rfl, ⟨by omega, by omega⟩, g4, f5, (by omega)⟩
set_option maxHeartbeats 4000000 in
set_option maxRecDepth 20000 in
/-- Question.takesTest -/
theorem m_173_r16_d6 (σ : jM) (hg : GI σ)  (pre0 : (σ.1 16 5) = 6) (fr lo : Nat) (hfr : 9 ≤ fr) (hlo : 192 ≤ lo) : WP 173 0 (lv_args 0 [.ref 16]) [] fr lo σ (fun v τ => ∃ z : Int, v = some (iV z) ∧ (0 ≤ z ∧ z ≤ 1) ∧ GI τ ∧ FR WQ σ τ ∧ (z = 1 → (τ.1 16 5) = 6)) := by
  show WP 173 0 [(0, .ref 16)] [] _ _ _ _
  refine wp_al1 jF_173_0 rfl rfl (pc2 := 1) ?_
  refine wp_cV (as := []) (rest := []) (a := 16) (mx := 2) (ci := 3) jF_173_1 kd16 (by decide) rfl rfl rfl rfl rfl (by omega) (by omega) rfl (pc2 := 4) ?_
  have q1 : (σ.1 16 5) = 6 := pre0
  refine wp_use (m_174_r16_d6 σ hg  (by omega) _ _ (by omega) (by omega)) ?_
  rintro _ τ3 ⟨z6, rfl, h7, g4, f5, p2⟩
  show WP 173 4 [(0, .ref 16)] [iV z6] _ _ _ _
  refine wp_z_ne jF_173_4 (m_rgb h7 rfl) rfl (pc2 := 7) ?_ ?_
  · intro h8
    replace p2 := p2 (by omega)
    refine wp_ic jF_173_9 rfl (pc2 := 10) ?_
    refine wp_is1 (lv2 := [(0, .ref 16), (1, iV 0)]) jF_173_10 rfl rfl rfl (pc2 := 11) ?_
    refine wp_loop (α := Int) (fun a => [(0, .ref 16), (1, iV (a))]) (fun a τ => (0 ≤ a ∧ a ≤ 1600) ∧ GI τ ∧ FR WQ τ3 τ ∧ ((τ.1 16 5) = 6)) (fun a τ => Int.toNat (1600 - (a))) (0) τ3 ?_ ?_
    · skip
      have b9 := GI.b g4 16 5 kd16 (lo := 0) (hi := 6) rfl
      exact ⟨⟨by omega, by omega⟩, g4, FR.rf, (by omega)⟩
    · rintro x10 τ12 ⟨h11, g13, f14, p15⟩ ih16
      have b17 := GI.b g13 16 5 kd16 (lo := 0) (hi := 6) rfl
      show WP 173 11 [(0, .ref 16), (1, iV x10)] [] _ _ _ _
      show WP 173 11 [(0, .ref 16), (1, iV x10)] [] _ _ _ _
      refine wp_il1 jF_173_11 rfl rfl (pc2 := 12) ?_
      refine wp_si jF_173_12 (by decide) rfl (pc2 := 15) ?_
      refine wp_i_ge jF_173_15 (m_rgb h11 rfl) (m_rgl rfl) rfl (pc2 := 18) ?_ ?_
      · intro h18
        refine wp_ic jF_173_55 rfl (pc2 := 56) ?_
        refine wp_ri jF_173_56 rfl ?_
        exact ⟨1, rfl, ⟨by omega, by omega⟩, g13, (FR.up f5 f14 sb_WQ_WQ), (by omega)⟩
      · intro h18
        refine wp_al1 jF_173_18 rfl rfl (pc2 := 19) ?_
        refine wp_bi jF_173_19 (by decide) rfl (pc2 := 21) ?_
        refine wp_cV (as := [iV 17]) (rest := []) (a := 16) (mx := 2) (ci := 3) jF_173_21 kd16 (by decide) rfl rfl rfl rfl rfl (by omega) (by omega) rfl (pc2 := 24) ?_
        refine wp_use (m_178_r16 τ12 g13 17 (by omega) (by omega)  _ _ (by omega) (by omega)) ?_
        rintro _ τ20 ⟨z23, rfl, h24, g21, f22, p19⟩
        show WP 173 24 [(0, .ref 16), (1, iV x10)] [iV z23] _ _ _ _
        refine wp_z_eq jF_173_24 (m_rgb h24 rfl) rfl (pc2 := 27) ?_ ?_
        · intro h25
          clear p19
          refine wp_ic jF_173_55 rfl (pc2 := 56) ?_
          refine wp_ri jF_173_56 rfl ?_
          have q26 : (τ20.1 16 5) = (τ12.1 16 5) := (FR.at f22 16 5 rfl)
          exact ⟨1, rfl, ⟨by omega, by omega⟩, g21, (FR.up (FR.up f5 f14 sb_WQ_WQ) f22 sb_Wtp_WQ), (by omega)⟩
        · intro h25
          replace p19 := p19 (by omega)
          refine wp_al1 jF_173_27 rfl rfl (pc2 := 28) ?_
          refine wp_gr (b := 10) jF_173_28 kd16 (by decide) (c := 110) rfl rfl rfl (pc2 := 31) ?_
          refine wp_cV (as := []) (rest := []) (a := 10) (mx := 1) (ci := 6) jF_173_31 kd10 (by decide) rfl rfl rfl rfl rfl (by omega) (by omega) rfl (pc2 := 34) ?_
          have b27 := GI.b g21 10 5 kd10 (lo := 0) (hi := 1600) rfl
          have b28 := GI.b g21 10 6 kd10 (lo := 0) (hi := 1600) rfl
          refine wp_use (m_45_r10 τ20 g21  (by omega) _ _ (by omega) (by omega)) ?_
          rintro _ τ29 ⟨rfl, g30, f31⟩
          show WP 173 34 [(0, .ref 16), (1, iV x10)] [] _ _ _ _
          refine wp_al1 jF_173_34 rfl rfl (pc2 := 35) ?_
          refine wp_cV (as := []) (rest := []) (a := 16) (mx := 2) (ci := 3) jF_173_35 kd16 (by decide) rfl rfl rfl rfl rfl (by omega) (by omega) rfl (pc2 := 38) ?_
          have q32 : (τ29.1 16 5) = (τ12.1 16 5) := ((FR.at f31 16 5 rfl).trans (FR.at f22 16 5 rfl))
          refine wp_use (m_174_r16_d6 τ29 g30  (by omega) _ _ (by omega) (by omega)) ?_
          rintro _ τ34 ⟨z37, rfl, h38, g35, f36, p33⟩
          show WP 173 38 [(0, .ref 16), (1, iV x10)] [iV z37] _ _ _ _
          refine wp_z_ne jF_173_38 (m_rgb h38 rfl) rfl (pc2 := 41) ?_ ?_
          · intro h39
            replace p33 := p33 (by omega)
            refine wp_al1 jF_173_43 rfl rfl (pc2 := 44) ?_
            refine wp_bi jF_173_44 (by decide) rfl (pc2 := 46) ?_
            refine wp_cV (as := [iV 17]) (rest := []) (a := 16) (mx := 2) (ci := 3) jF_173_46 kd16 (by decide) rfl rfl rfl rfl rfl (by omega) (by omega) rfl (pc2 := 49) ?_
            refine wp_use (m_180_r16 τ34 g35 17 (by omega) (by omega)  _ _ (by omega) (by omega)) ?_
            rintro _ τ40 ⟨rfl, g41, f42⟩
            show WP 173 49 [(0, .ref 16), (1, iV x10)] [] _ _ _ _
            refine wp_inc (lv2 := [(0, .ref 16), (1, iV (x10 + 1))]) jF_173_49 rfl rfl rfl rfl (pc2 := 52) ?_
            refine wp_go jF_173_52 ?_
            have b43 := GI.b g35 16 5 kd16 (lo := 0) (hi := 6) rfl
            have q44 : (τ40.1 16 5) = (τ34.1 16 5) := (FR.at f42 16 5 rfl)
            exact ih16 ((x10 + 1)) τ40 ⟨⟨by omega, by omega⟩, g41, (FR.up (FR.up (FR.up (FR.up f14 f22 sb_Wtp_WQ) f31 sb_Wtp_WQ) f36 sb_WQ_WQ) f42 sb_WQs_WQ), (by omega)⟩ (by show Int.toNat (1600 - (x10 + 1)) < Int.toNat (1600 - x10); omega)
          · intro h39
            clear p33
            refine wp_ic jF_173_41 rfl (pc2 := 42) ?_
            refine wp_ri jF_173_42 rfl ?_
            have b45 := GI.b g35 16 5 kd16 (lo := 0) (hi := 6) rfl
            exact ⟨0, rfl, ⟨by omega, by omega⟩, g35, (FR.up (FR.up (FR.up (FR.up f5 f14 sb_WQ_WQ) f22 sb_Wtp_WQ) f31 sb_Wtp_WQ) f36 sb_WQ_WQ), (by omega)⟩
  · intro h8
    clear p2
    refine wp_ic jF_173_7 rfl (pc2 := 8) ?_
    refine wp_ri jF_173_8 rfl ?_
    have b46 := GI.b g4 16 5 kd16 (lo := 0) (hi := 6) rfl
    exact ⟨0, rfl, ⟨by omega, by omega⟩, g4, f5, (by omega)⟩
set_option maxHeartbeats 4000000 in
set_option maxRecDepth 20000 in
/-- Question.takesBorne -/
theorem m_187_r16_d5 (σ : jM) (hg : GI σ)  (pre0 : (σ.1 16 5) = 5) (pre1 : (σ.1 10 5) + (σ.1 10 6) ≤ 1600) (fr lo : Nat) (hfr : 4 ≤ fr) (hlo : 86 ≤ lo) : WP 187 0 (lv_args 0 [.ref 16]) [] fr lo σ (fun v τ => ∃ z : Int, v = some (iV z) ∧ (0 ≤ z ∧ z ≤ 1) ∧ GI τ ∧ FR WQ σ τ ∧ (z = 1 → (τ.1 16 5) = 5)) := by
  show WP 187 0 [(0, .ref 16)] [] _ _ _ _
  refine wp_al1 jF_187_0 rfl rfl (pc2 := 1) ?_
  refine wp_cV (as := []) (rest := []) (a := 16) (mx := 1) (ci := 3) jF_187_1 kd16 (by decide) rfl rfl rfl rfl rfl (by omega) (by omega) rfl (pc2 := 4) ?_
  show WP 177 0 [(0, .ref 16)] [] _ _ _ _
  refine wp_al1 jF_177_0 rfl rfl (pc2 := 1) ?_
  refine wp_gi jF_177_1 kd16 (by decide) rfl pre0 rfl (pc2 := 4) ?_
  refine wp_bi jF_177_4 (by decide) rfl (pc2 := 6) ?_
  refine wp_i_lt jF_177_6 (m_rgl rfl) (m_rgl rfl) rfl (pc2 := 9) ?_ ?_
  · intro h1
    refine wp_al1 jF_177_25 rfl rfl (pc2 := 26) ?_
    refine wp_dup jF_177_26 rfl rfl (pc2 := 27) ?_
    refine wp_gi jF_177_27 kd16 (by decide) rfl pre0 rfl (pc2 := 30) ?_
    refine wp_ic jF_177_30 rfl (pc2 := 31) ?_
    refine wp_addx (c := 6) jF_177_31 rfl rfl (pc2 := 32) ?_
    refine wp_pi jF_177_32 kd16 (by decide) rfl rfl rfl (pc2 := 35) hg (lo := 0) (hi := 6) rfl (by omega) (by omega) ?_
    intro τ2 g3 f4 e5
    refine wp_ic jF_177_35 rfl (pc2 := 36) ?_
    refine wp_ri jF_177_36 rfl ?_
    show WP 187 4 [(0, .ref 16)] [iV 1] _ _ _ _
    refine wp_z_ne jF_187_4 (m_rgl rfl) rfl (pc2 := 7) ?_ ?_
    · intro h6
      refine wp_al1 jF_187_9 rfl rfl (pc2 := 10) ?_
      refine wp_gr (b := 10) jF_187_10 kd16 (by decide) (c := 110) rfl rfl rfl (pc2 := 13) ?_
      refine wp_cV (as := []) (rest := []) (a := 10) (mx := 1) (ci := 6) jF_187_13 kd10 (by decide) rfl rfl rfl rfl rfl (by omega) (by omega) rfl (pc2 := 16) ?_
      have b7 := GI.b hg 10 5 kd10 (lo := 0) (hi := 1600) rfl
      have q8 : (τ2.1 10 5) = (σ.1 10 5) := (FRw.na f4 (by decide))
      have b9 := GI.b hg 10 6 kd10 (lo := 0) (hi := 1600) rfl
      have q10 : (τ2.1 10 6) = (σ.1 10 6) := (FRw.na f4 (by decide))
      refine wp_use (m_45_r10 τ2 g3  (by omega) _ _ (by omega) (by omega)) ?_
      rintro _ τ11 ⟨rfl, g12, f13⟩
      show WP 187 16 [(0, .ref 16)] [] _ _ _ _
      refine wp_al1 jF_187_16 rfl rfl (pc2 := 17) ?_
      refine wp_cV (as := []) (rest := []) (a := 16) (mx := 3) (ci := 3) jF_187_17 kd16 (by decide) rfl rfl rfl rfl rfl (by omega) (by omega) rfl (pc2 := 20) ?_
      have q14 : (τ11.1 16 5) = 6 := ((FR.at f13 16 5 rfl).trans e5)
      refine wp_use (m_184_r16_d6 τ11 g12  (by omega) _ _ (by omega) (by omega)) ?_
      rintro _ τ16 ⟨z19, rfl, h20, g17, f18, p15⟩
      show WP 187 20 [(0, .ref 16)] [iV z19] _ _ _ _
      refine wp_z_ne jF_187_20 (m_rgb h20 rfl) rfl (pc2 := 23) ?_ ?_
      · intro h21
        replace p15 := p15 (by omega)
        refine wp_al1 jF_187_25 rfl rfl (pc2 := 26) ?_
        refine wp_dup jF_187_26 rfl rfl (pc2 := 27) ?_
        have b22 := GI.b g17 16 5 kd16 (lo := 0) (hi := 6) rfl
        refine wp_gi jF_187_27 kd16 (by decide) rfl rfl rfl (pc2 := 30) ?_
        refine wp_ic jF_187_30 rfl (pc2 := 31) ?_
        refine wp_sub jF_187_31 rfl (pc2 := 32) ?_
        refine wp_pi jF_187_32 kd16 (by decide) rfl rfl rfl (pc2 := 35) g17 (lo := 0) (hi := 6) rfl (by omega) (by omega) ?_
        intro τ23 g24 f25 e26
        refine wp_al1 jF_187_35 rfl rfl (pc2 := 36) ?_
        refine wp_bi jF_187_36 (by decide) rfl (pc2 := 38) ?_
        refine wp_cV (as := [iV 13]) (rest := []) (a := 16) (mx := 2) (ci := 3) jF_187_38 kd16 (by decide) rfl rfl rfl rfl rfl (by omega) (by omega) rfl (pc2 := 41) ?_
        refine wp_use (m_180_r16 τ23 g24 13 (by omega) (by omega)  _ _ (by omega) (by omega)) ?_
        rintro _ τ27 ⟨rfl, g28, f29⟩
        show WP 187 41 [(0, .ref 16)] [] _ _ _ _
        refine wp_ic jF_187_41 rfl (pc2 := 42) ?_
        refine wp_ri jF_187_42 rfl ?_
        have q30 : (τ27.1 16 5) = ((τ16.1 16 5) - 1) := ((FR.at f29 16 5 rfl).trans e26)
        exact ⟨1, rfl, ⟨by omega, by omega⟩, g28, (FR.up (FR.w (FR.up (FR.up (FR.w FR.rf f4 rfl) f13 sb_Wtp_WQ) f18 sb_WQ_WQ) f25 rfl) f29 sb_WQs_WQ), (by omega)⟩
      · intro h21
        clear p15
        refine wp_ic jF_187_23 rfl (pc2 := 24) ?_
        refine wp_ri jF_187_24 rfl ?_
        have b31 := GI.b g17 16 5 kd16 (lo := 0) (hi := 6) rfl
        exact ⟨0, rfl, ⟨by omega, by omega⟩, g17, (FR.up (FR.up (FR.w FR.rf f4 rfl) f13 sb_Wtp_WQ) f18 sb_WQ_WQ), (by omega)⟩
    · intro h6; exfalso; omega
  · intro h1; exfalso; omega
