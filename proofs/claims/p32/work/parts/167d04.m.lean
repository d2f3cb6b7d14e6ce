set_option maxHeartbeats 4000000 in
set_option maxRecDepth 20000 in
/-- Question.takesHeld -/
theorem m_186_r16_d4 (σ : jM) (hg : GI σ) (chooser : Int) (hl_chooser : (-1) ≤ chooser) (hu_chooser : chooser ≤ 18) (pre0 : (σ.1 16 5) = 4) (fr lo : Nat) (hfr : 10 ≤ fr) (hlo : 217 ≤ lo) : WP 186 0 (lv_args 0 [.ref 16, iV chooser]) [] fr lo σ (fun v τ => ∃ z : Int, v = some (iV z) ∧ (0 ≤ z ∧ z ≤ 1) ∧ GI τ ∧ FR WQ σ τ ∧ (z = 1 → (τ.1 16 5) = 4)) := by
  show WP 186 0 [(0, .ref 16), (1, iV chooser)] [] _ _ _ _
  refine wp_al1 jF_186_0 rfl rfl (pc2 := 1) ?_
  refine wp_gr (b := 10) jF_186_1 kd16 (by decide) (c := 110) rfl rfl rfl (pc2 := 4) ?_
  refine wp_cV (as := []) (rest := []) (a := 10) (mx := 1) (ci := 6) jF_186_4 kd10 (by decide) rfl rfl rfl rfl rfl (by omega) (by omega) rfl (pc2 := 7) ?_
  have b1 := GI.b hg 10 1 kd10 (lo := 0) (hi := 1600) rfl
  have b2 := GI.b hg 10 2 kd10 (lo := 0) (hi := 1600) rfl
  refine wp_use (m_35_r10_c σ hg   _ _ (by omega) (by omega)) ?_
  rintro _ τ6 ⟨z9, rfl, h10, g7, f8, p3, p4, p5⟩
  show WP 186 7 [(0, .ref 16), (1, iV chooser)] [iV z9] _ _ _ _
  refine wp_bi jF_186_7 (by decide) rfl (pc2 := 9) ?_
  refine wp_i_eq jF_186_9 (m_rgb h10 rfl) (m_rgl rfl) rfl (pc2 := 12) ?_ ?_
  · intro h11
    replace p3 := p3 (by omega)
    replace p5 := p5 (by omega)
    refine wp_al1 jF_186_28 rfl rfl (pc2 := 29) ?_
    refine wp_cV (as := []) (rest := []) (a := 16) (mx := 1) (ci := 3) jF_186_29 kd16 (by decide) rfl rfl rfl rfl rfl (by omega) (by omega) rfl (pc2 := 32) ?_
    show WP 177 0 [(0, .ref 16)] [] _ _ _ _
    refine wp_al1 jF_177_0 rfl rfl (pc2 := 1) ?_
    refine wp_gi jF_177_1 kd16 (by decide) rfl ((FR.at f8 16 5 rfl).trans pre0) rfl (pc2 := 4) ?_
    refine wp_bi jF_177_4 (by decide) rfl (pc2 := 6) ?_
    refine wp_i_lt jF_177_6 (m_rgl rfl) (m_rgl rfl) rfl (pc2 := 9) ?_ ?_
    · intro h12
      refine wp_al1 jF_177_25 rfl rfl (pc2 := 26) ?_
      refine wp_dup jF_177_26 rfl rfl (pc2 := 27) ?_
      refine wp_gi jF_177_27 kd16 (by decide) rfl ((FR.at f8 16 5 rfl).trans pre0) rfl (pc2 := 30) ?_
      refine wp_ic jF_177_30 rfl (pc2 := 31) ?_
      refine wp_addx (c := 5) jF_177_31 rfl rfl (pc2 := 32) ?_
      refine wp_pi jF_177_32 kd16 (by decide) rfl rfl rfl (pc2 := 35) g7 (lo := 0) (hi := 6) rfl (by omega) (by omega) ?_
      intro τ13 g14 f15 e16
      refine wp_ic jF_177_35 rfl (pc2 := 36) ?_
      refine wp_ri jF_177_36 rfl ?_
      show WP 186 32 [(0, .ref 16), (1, iV chooser)] [iV 1] _ _ _ _
      refine wp_z_ne jF_186_32 (m_rgl rfl) rfl (pc2 := 35) ?_ ?_
      · intro h17
        refine wp_al1 jF_186_37 rfl rfl (pc2 := 38) ?_
        refine wp_gr (b := 10) jF_186_38 kd16 (by decide) (c := 110) rfl rfl rfl (pc2 := 41) ?_
        refine wp_dup jF_186_41 rfl rfl (pc2 := 42) ?_
        have b18 := GI.b g7 10 2 kd10 (lo := 0) (hi := 1600) rfl
        refine wp_gi jF_186_42 kd10 (by decide) rfl (FRw.na f15 (by decide)) rfl (pc2 := 45) ?_
        refine wp_ic jF_186_45 rfl (pc2 := 46) ?_
        refine wp_add jF_186_46 rfl (pc2 := 47) ?_
        refine wp_pi jF_186_47 kd10 (by decide) rfl rfl rfl (pc2 := 50) g14 (lo := 0) (hi := 1600) rfl (by omega) (by omega) ?_
        intro τ19 g20 f21 e22
        refine wp_al1 jF_186_50 rfl rfl (pc2 := 51) ?_
        refine wp_cV (as := []) (rest := []) (a := 16) (mx := 3) (ci := 3) jF_186_51 kd16 (by decide) rfl rfl rfl rfl rfl (by omega) (by omega) rfl (pc2 := 54) ?_
        have q23 : (τ19.1 16 5) = 5 := ((FRw.na f21 (by decide)).trans e16)
        refine wp_use (m_182_r16_d5 τ19 g20  (by omega) _ _ (by omega) (by omega)) ?_
        rintro _ τ25 ⟨z28, rfl, h29, g26, f27, p24⟩
        show WP 186 54 [(0, .ref 16), (1, iV chooser)] [iV z28] _ _ _ _
        refine wp_z_ne jF_186_54 (m_rgb h29 rfl) rfl (pc2 := 57) ?_ ?_
        · intro h30
          replace p24 := p24 (by omega)
          refine wp_il1 jF_186_59 rfl rfl (pc2 := 60) ?_
          refine wp_ic jF_186_60 rfl (pc2 := 61) ?_
          refine wp_i_eq jF_186_61 ⟨by omega, by omega⟩ (m_rgl rfl) rfl (pc2 := 64) ?_ ?_
          · intro h31
            refine wp_al1 jF_186_90 rfl rfl (pc2 := 91) ?_
            refine wp_gr (b := 10) jF_186_91 kd16 (by decide) (c := 110) rfl rfl rfl (pc2 := 94) ?_
            refine wp_bi jF_186_94 (by decide) rfl (pc2 := 96) ?_
            refine wp_cV (as := [iV 41]) (rest := []) (a := 10) (mx := 2) (ci := 6) jF_186_96 kd10 (by decide) rfl rfl rfl rfl rfl (by omega) (by omega) rfl (pc2 := 99) ?_
            refine wp_use (m_68_r10 τ25 g26 41 (by omega) (by omega)  _ _ (by omega) (by omega)) ?_
            rintro _ τ32 ⟨z35, rfl, h36, g33, f34⟩
            show WP 186 99 [(0, .ref 16), (1, iV chooser)] [iV z35] _ _ _ _
            refine wp_z_ne jF_186_99 (m_rgb h36 rfl) rfl (pc2 := 102) ?_ ?_
            · intro h37
              refine wp_al1 jF_186_104 rfl rfl (pc2 := 105) ?_
              refine wp_dup jF_186_105 rfl rfl (pc2 := 106) ?_
              have b38 := GI.b g26 16 5 kd16 (lo := 0) (hi := 6) rfl
              refine wp_gi jF_186_106 kd16 (by decide) rfl (FR.at f34 16 5 rfl) rfl (pc2 := 109) ?_
              refine wp_ic jF_186_109 rfl (pc2 := 110) ?_
              refine wp_sub jF_186_110 rfl (pc2 := 111) ?_
              refine wp_pi jF_186_111 kd16 (by decide) rfl rfl rfl (pc2 := 114) g33 (lo := 0) (hi := 6) rfl (by omega) (by omega) ?_
              intro τ39 g40 f41 e42
              refine wp_ic jF_186_114 rfl (pc2 := 115) ?_
              refine wp_ri jF_186_115 rfl ?_
              have q43 : (τ39.1 16 5) = ((τ25.1 16 5) - 1) := e42
              exact ⟨1, rfl, ⟨by omega, by omega⟩, g40, (FR.w (FR.up (FR.up (FR.w (FR.w (FR.up FR.rf f8 sb_Wtp_WQ) f15 rfl) f21 rfl) f27 sb_WQ_WQ) f34 sb_Wtp_WQ) f41 rfl), (by omega)⟩
            · intro h37
              refine wp_ic jF_186_102 rfl (pc2 := 103) ?_
              refine wp_ri jF_186_103 rfl ?_
              have b44 := GI.b g26 16 5 kd16 (lo := 0) (hi := 6) rfl
              have q45 : (τ32.1 16 5) = (τ25.1 16 5) := (FR.at f34 16 5 rfl)
              exact ⟨0, rfl, ⟨by omega, by omega⟩, g33, (FR.up (FR.up (FR.w (FR.w (FR.up FR.rf f8 sb_Wtp_WQ) f15 rfl) f21 rfl) f27 sb_WQ_WQ) f34 sb_Wtp_WQ), (by omega)⟩
          · intro h31
            refine wp_al1 jF_186_64 rfl rfl (pc2 := 65) ?_
            refine wp_gr (b := 10) jF_186_65 kd16 (by decide) (c := 110) rfl rfl rfl (pc2 := 68) ?_
            refine wp_bi jF_186_68 (by decide) rfl (pc2 := 70) ?_
            refine wp_cV (as := [iV 44]) (rest := []) (a := 10) (mx := 2) (ci := 6) jF_186_70 kd10 (by decide) rfl rfl rfl rfl rfl (by omega) (by omega) rfl (pc2 := 73) ?_
            refine wp_use (m_68_r10 τ25 g26 44 (by omega) (by omega)  _ _ (by omega) (by omega)) ?_
            rintro _ τ46 ⟨z49, rfl, h50, g47, f48⟩
            show WP 186 73 [(0, .ref 16), (1, iV chooser)] [iV z49] _ _ _ _
            refine wp_z_eq jF_186_73 (m_rgb h50 rfl) rfl (pc2 := 76) ?_ ?_
            · intro h51
              refine wp_ic jF_186_83 rfl (pc2 := 84) ?_
              refine wp_ri jF_186_84 rfl ?_
              have b52 := GI.b g26 16 5 kd16 (lo := 0) (hi := 6) rfl
              have q53 : (τ46.1 16 5) = (τ25.1 16 5) := (FR.at f48 16 5 rfl)
              exact ⟨0, rfl, ⟨by omega, by omega⟩, g47, (FR.up (FR.up (FR.w (FR.w (FR.up FR.rf f8 sb_Wtp_WQ) f15 rfl) f21 rfl) f27 sb_WQ_WQ) f48 sb_Wtp_WQ), (by omega)⟩
            · intro h51
              refine wp_al1 jF_186_76 rfl rfl (pc2 := 77) ?_
              refine wp_cV (as := []) (rest := []) (a := 16) (mx := 3) (ci := 3) jF_186_77 kd16 (by decide) rfl rfl rfl rfl rfl (by omega) (by omega) rfl (pc2 := 80) ?_
              have b54 := GI.b g26 16 5 kd16 (lo := 0) (hi := 6) rfl
              have q55 : (τ46.1 16 5) = (τ25.1 16 5) := (FR.at f48 16 5 rfl)
              refine wp_use (m_182_r16_d5 τ46 g47  (by omega) _ _ (by omega) (by omega)) ?_
              rintro _ τ57 ⟨z60, rfl, h61, g58, f59, p56⟩
              show WP 186 80 [(0, .ref 16), (1, iV chooser)] [iV z60] _ _ _ _
              refine wp_z_ne jF_186_80 (m_rgb h61 rfl) rfl (pc2 := 83) ?_ ?_
              · intro h62
                replace p56 := p56 (by omega)
                refine wp_al1 jF_186_85 rfl rfl (pc2 := 86) ?_
                refine wp_il1 jF_186_86 rfl rfl (pc2 := 87) ?_
                refine wp_cV (as := [iV chooser]) (rest := []) (a := 16) (mx := 2) (ci := 3) jF_186_87 kd16 (by decide) rfl rfl rfl rfl rfl (by omega) (by omega) rfl (pc2 := 90) ?_
                refine wp_use (m_180_r16 τ57 g58 chooser (by omega) (by omega)  _ _ (by omega) (by omega)) ?_
                rintro _ τ63 ⟨rfl, g64, f65⟩
                show WP 186 90 [(0, .ref 16), (1, iV chooser)] [] _ _ _ _
                refine wp_al1 jF_186_90 rfl rfl (pc2 := 91) ?_
                refine wp_gr (b := 10) jF_186_91 kd16 (by decide) (c := 110) rfl rfl rfl (pc2 := 94) ?_
                refine wp_bi jF_186_94 (by decide) rfl (pc2 := 96) ?_
                refine wp_cV (as := [iV 41]) (rest := []) (a := 10) (mx := 2) (ci := 6) jF_186_96 kd10 (by decide) rfl rfl rfl rfl rfl (by omega) (by omega) rfl (pc2 := 99) ?_
                refine wp_use (m_68_r10 τ63 g64 41 (by omega) (by omega)  _ _ (by omega) (by omega)) ?_
                rintro _ τ66 ⟨z69, rfl, h70, g67, f68⟩
                show WP 186 99 [(0, .ref 16), (1, iV chooser)] [iV z69] _ _ _ _
                refine wp_z_ne jF_186_99 (m_rgb h70 rfl) rfl (pc2 := 102) ?_ ?_
                · intro h71
                  refine wp_al1 jF_186_104 rfl rfl (pc2 := 105) ?_
                  refine wp_dup jF_186_105 rfl rfl (pc2 := 106) ?_
                  have b72 := GI.b g58 16 5 kd16 (lo := 0) (hi := 6) rfl
                  refine wp_gi jF_186_106 kd16 (by decide) rfl ((FR.at f68 16 5 rfl).trans (FR.at f65 16 5 rfl)) rfl (pc2 := 109) ?_
                  refine wp_ic jF_186_109 rfl (pc2 := 110) ?_
                  refine wp_sub jF_186_110 rfl (pc2 := 111) ?_
                  refine wp_pi jF_186_111 kd16 (by decide) rfl rfl rfl (pc2 := 114) g67 (lo := 0) (hi := 6) rfl (by omega) (by omega) ?_
                  intro τ73 g74 f75 e76
                  refine wp_ic jF_186_114 rfl (pc2 := 115) ?_
                  refine wp_ri jF_186_115 rfl ?_
                  have q77 : (τ73.1 16 5) = ((τ57.1 16 5) - 1) := e76
                  exact ⟨1, rfl, ⟨by omega, by omega⟩, g74, (FR.w (FR.up (FR.up (FR.up (FR.up (FR.up (FR.w (FR.w (FR.up FR.rf f8 sb_Wtp_WQ) f15 rfl) f21 rfl) f27 sb_WQ_WQ) f48 sb_Wtp_WQ) f59 sb_WQ_WQ) f65 sb_WQs_WQ) f68 sb_Wtp_WQ) f75 rfl), (by omega)⟩
                · intro h71
                  refine wp_ic jF_186_102 rfl (pc2 := 103) ?_
                  refine wp_ri jF_186_103 rfl ?_
                  have b78 := GI.b g58 16 5 kd16 (lo := 0) (hi := 6) rfl
                  have q79 : (τ66.1 16 5) = (τ57.1 16 5) := ((FR.at f68 16 5 rfl).trans (FR.at f65 16 5 rfl))
                  exact ⟨0, rfl, ⟨by omega, by omega⟩, g67, (FR.up (FR.up (FR.up (FR.up (FR.up (FR.w (FR.w (FR.up FR.rf f8 sb_Wtp_WQ) f15 rfl) f21 rfl) f27 sb_WQ_WQ) f48 sb_Wtp_WQ) f59 sb_WQ_WQ) f65 sb_WQs_WQ) f68 sb_Wtp_WQ), (by omega)⟩
              · intro h62
                clear p56
                refine wp_ic jF_186_83 rfl (pc2 := 84) ?_
                refine wp_ri jF_186_84 rfl ?_
                have b80 := GI.b g58 16 5 kd16 (lo := 0) (hi := 6) rfl
                exact ⟨0, rfl, ⟨by omega, by omega⟩, g58, (FR.up (FR.up (FR.up (FR.w (FR.w (FR.up FR.rf f8 sb_Wtp_WQ) f15 rfl) f21 rfl) f27 sb_WQ_WQ) f48 sb_Wtp_WQ) f59 sb_WQ_WQ), (by omega)⟩
        · intro h30
          clear p24
          refine wp_ic jF_186_57 rfl (pc2 := 58) ?_
          refine wp_ri jF_186_58 rfl ?_
          have b81 := GI.b g26 16 5 kd16 (lo := 0) (hi := 6) rfl
          exact ⟨0, rfl, ⟨by omega, by omega⟩, g26, (FR.up (FR.w (FR.w (FR.up FR.rf f8 sb_Wtp_WQ) f15 rfl) f21 rfl) f27 sb_WQ_WQ), (by omega)⟩
      · intro h17; exfalso; omega
    · intro h12; exfalso; omega
  · intro h11
    refine wp_al1 jF_186_12 rfl rfl (pc2 := 13) ?_
    refine wp_gr (b := 10) jF_186_13 kd16 (by decide) (c := 110) rfl rfl rfl (pc2 := 16) ?_
    refine wp_ic jF_186_16 rfl (pc2 := 17) ?_
    refine wp_al1 jF_186_17 rfl rfl (pc2 := 18) ?_
    refine wp_gr (b := 10) jF_186_18 kd16 (by decide) (c := 110) rfl rfl rfl (pc2 := 21) ?_
    have b82 := GI.b g7 10 2 kd10 (lo := 0) (hi := 1600) rfl
    refine wp_gi jF_186_21 kd10 (by decide) rfl rfl rfl (pc2 := 24) ?_
    refine wp_cV (as := [iV 1, iV (τ6.1 10 2)]) (rest := []) (a := 10) (mx := 3) (ci := 6) jF_186_24 kd10 (by decide) rfl rfl rfl rfl rfl (by omega) (by omega) rfl (pc2 := 27) ?_
    refine wp_use (m_42_r10 τ6 g7 1 (by omega) (by omega) (τ6.1 10 2) (by omega) (by omega)  _ _ (by omega) (by omega)) ?_
    rintro _ τ83 ⟨z86, rfl, h87, g84, f85⟩
    show WP 186 27 [(0, .ref 16), (1, iV chooser)] [iV z86] _ _ _ _
    refine wp_ri jF_186_27 (m_fitb (by omega) (by omega)) ?_
    have q88 : (τ83.1 16 5) = 4 := ((FR.at f85 16 5 rfl).trans ((FR.at f8 16 5 rfl).trans pre0))
    exact ⟨z86, rfl, ⟨by omega, by omega⟩, g84, (FR.up (FR.up FR.rf f8 sb_Wtp_WQ) f85 sb_Wtp_WQ), (by omega)⟩
set_option maxHeartbeats 4000000 in
set_option maxRecDepth 20000 in
/-- Question.takesPart -/
theorem m_184_r16_d4 (σ : jM) (hg : GI σ)  (pre0 : (σ.1 16 5) = 4) (fr lo : Nat) (hfr : 11 ≤ fr) (hlo : 238 ≤ lo) : WP 184 0 (lv_args 0 [.ref 16]) [] fr lo σ (fun v τ => ∃ z : Int, v = some (iV z) ∧ (0 ≤ z ∧ z ≤ 1) ∧ GI τ ∧ FR WQ σ τ ∧ (z = 1 → (τ.1 16 5) = 4)) := by
  show WP 184 0 [(0, .ref 16)] [] _ _ _ _
  refine wp_al1 jF_184_0 rfl rfl (pc2 := 1) ?_
  refine wp_gr (b := 10) jF_184_1 kd16 (by decide) (c := 110) rfl rfl rfl (pc2 := 4) ?_
  refine wp_cV (as := []) (rest := []) (a := 10) (mx := 1) (ci := 6) jF_184_4 kd10 (by decide) rfl rfl rfl rfl rfl (by omega) (by omega) rfl (pc2 := 7) ?_
  have b1 := GI.b hg 10 1 kd10 (lo := 0) (hi := 1600) rfl
  have b2 := GI.b hg 10 2 kd10 (lo := 0) (hi := 1600) rfl
  refine wp_use (m_35_r10_c σ hg   _ _ (by omega) (by omega)) ?_
  rintro _ τ6 ⟨z9, rfl, h10, g7, f8, p3, p4, p5⟩
  show WP 184 7 [(0, .ref 16)] [iV z9] _ _ _ _
  refine wp_is1 (lv2 := [(0, .ref 16), (1, iV z9)]) jF_184_7 rfl rfl rfl (pc2 := 8) ?_
  refine wp_il1 jF_184_8 rfl rfl (pc2 := 9) ?_
  refine wp_bi jF_184_9 (by decide) rfl (pc2 := 11) ?_
  refine wp_i_lt jF_184_11 (m_rgb h10 rfl) (m_rgl rfl) rfl (pc2 := 14) ?_ ?_
  · intro h11
    refine wp_il1 jF_184_25 rfl rfl (pc2 := 26) ?_
    refine wp_bi jF_184_26 (by decide) rfl (pc2 := 28) ?_
    refine wp_i_ne jF_184_28 ⟨by omega, by omega⟩ (m_rgl rfl) rfl (pc2 := 31) ?_ ?_
    · intro h12
      refine wp_al1 jF_184_37 rfl rfl (pc2 := 38) ?_
      refine wp_gr (b := 10) jF_184_38 kd16 (by decide) (c := 110) rfl rfl rfl (pc2 := 41) ?_
      refine wp_cV (as := []) (rest := []) (a := 10) (mx := 2) (ci := 6) jF_184_41 kd10 (by decide) rfl rfl rfl rfl rfl (by omega) (by omega) rfl (pc2 := 44) ?_
      have q13 : (τ6.1 10 1) = (σ.1 10 1) := (FR.at f8 10 1 rfl)
      have b14 := GI.b g7 10 2 kd10 (lo := 0) (hi := 1600) rfl
      refine wp_use (m_37_r10_c τ6 g7   _ _ (by omega) (by omega)) ?_
      rintro _ τ17 ⟨z20, rfl, h21, g18, f19, p15, p16⟩
      show WP 184 44 [(0, .ref 16), (1, iV z9)] [iV z20] _ _ _ _
      refine wp_z_eq jF_184_44 (m_rgb h21 rfl) rfl (pc2 := 47) ?_ ?_
      · intro h22
        clear p15
        refine wp_ic jF_184_61 rfl (pc2 := 62) ?_
        refine wp_is1 (lv2 := [(0, .ref 16), (1, iV z9), (2, iV (-1))]) jF_184_62 rfl rfl rfl (pc2 := 63) ?_
        refine wp_il1 jF_184_63 rfl rfl (pc2 := 64) ?_
        refine wp_bi jF_184_64 (by decide) rfl (pc2 := 66) ?_
        refine wp_i_ne jF_184_66 (m_rgl rfl) (m_rgl rfl) rfl (pc2 := 69) ?_ ?_
        · intro h23
          refine wp_il1 jF_184_74 rfl rfl (pc2 := 75) ?_
          refine wp_bi jF_184_75 (by decide) rfl (pc2 := 77) ?_
          refine wp_i_eq jF_184_77 (m_rgl rfl) (m_rgl rfl) rfl (pc2 := 80) ?_ ?_
          · intro h24; exfalso; omega
          · intro h24
            refine wp_il1 jF_184_80 rfl rfl (pc2 := 81) ?_
            refine wp_bi jF_184_81 (by decide) rfl (pc2 := 83) ?_
            refine wp_i_ne jF_184_83 (m_rgl rfl) (m_rgl rfl) rfl (pc2 := 86) ?_ ?_
            · intro h25
              refine wp_il1 jF_184_99 rfl rfl (pc2 := 100) ?_
              refine wp_bi jF_184_100 (by decide) rfl (pc2 := 102) ?_
              refine wp_i_lt jF_184_102 (m_rgl rfl) (m_rgl rfl) rfl (pc2 := 105) ?_ ?_
              · intro h26
                refine wp_al1 jF_184_111 rfl rfl (pc2 := 112) ?_
                refine wp_gr (b := 10) jF_184_112 kd16 (by decide) (c := 110) rfl rfl rfl (pc2 := 115) ?_
                refine wp_ic jF_184_115 rfl (pc2 := 116) ?_
                refine wp_al1 jF_184_116 rfl rfl (pc2 := 117) ?_
                refine wp_gr (b := 10) jF_184_117 kd16 (by decide) (c := 110) rfl rfl rfl (pc2 := 120) ?_
                have b27 := GI.b g18 10 2 kd10 (lo := 0) (hi := 1600) rfl
                refine wp_gi jF_184_120 kd10 (by decide) rfl rfl rfl (pc2 := 123) ?_
                refine wp_cV (as := [iV 1, iV (τ17.1 10 2)]) (rest := []) (a := 10) (mx := 3) (ci := 6) jF_184_123 kd10 (by decide) rfl rfl rfl rfl rfl (by omega) (by omega) rfl (pc2 := 126) ?_
                refine wp_use (m_42_r10 τ17 g18 1 (by omega) (by omega) (τ17.1 10 2) (by omega) (by omega)  _ _ (by omega) (by omega)) ?_
                rintro _ τ28 ⟨z31, rfl, h32, g29, f30⟩
                show WP 184 126 [(0, .ref 16), (1, iV z9), (2, iV (-1))] [iV z31] _ _ _ _
                refine wp_ri jF_184_126 (m_fitb (by omega) (by omega)) ?_
                have q33 : (τ28.1 16 5) = 4 := ((FR.at f30 16 5 rfl).trans ((FR.at f19 16 5 rfl).trans ((FR.at f8 16 5 rfl).trans pre0)))
                exact ⟨z31, rfl, ⟨by omega, by omega⟩, g29, (FR.up (FR.up (FR.up FR.rf f8 sb_Wtp_WQ) f19 sb_Wtp_WQ) f30 sb_Wtp_WQ), (by omega)⟩
              · intro h26; exfalso; omega
            · intro h25; exfalso; omega
        · intro h23; exfalso; omega
      · intro h22
        replace p15 := p15 (by omega)
        refine wp_al1 jF_184_47 rfl rfl (pc2 := 48) ?_
        refine wp_gr (b := 10) jF_184_48 kd16 (by decide) (c := 110) rfl rfl rfl (pc2 := 51) ?_
        refine wp_al1 jF_184_51 rfl rfl (pc2 := 52) ?_
        refine wp_gr (b := 17) jF_184_52 kd16 (by decide) (c := 117) rfl rfl rfl (pc2 := 55) ?_
        refine wp_cV (as := [.ref 17]) (rest := []) (a := 10) (mx := 3) (ci := 6) jF_184_55 kd10 (by decide) rfl rfl rfl rfl rfl (by omega) (by omega) rfl (pc2 := 58) ?_
        refine wp_use (m_41_r10_17 τ17 g18   _ _ (by omega) (by omega)) ?_
        rintro _ _ ⟨z36, rfl, h37, rfl⟩
        show WP 184 58 [(0, .ref 16), (1, iV z9)] [iV z36] _ _ _ _
        refine wp_go jF_184_58 ?_
        refine wp_is1 (lv2 := [(0, .ref 16), (1, iV z9), (2, iV z36)]) jF_184_62 rfl rfl rfl (pc2 := 63) ?_
        refine wp_il1 jF_184_63 rfl rfl (pc2 := 64) ?_
        refine wp_bi jF_184_64 (by decide) rfl (pc2 := 66) ?_
        refine wp_i_ne jF_184_66 (m_rgb h37 rfl) (m_rgl rfl) rfl (pc2 := 69) ?_ ?_
        · intro h38
          refine wp_il1 jF_184_74 rfl rfl (pc2 := 75) ?_
          refine wp_bi jF_184_75 (by decide) rfl (pc2 := 77) ?_
          refine wp_i_eq jF_184_77 (m_rgb h37 rfl) (m_rgl rfl) rfl (pc2 := 80) ?_ ?_
          · intro h39
            refine wp_al1 jF_184_86 rfl rfl (pc2 := 87) ?_
            refine wp_gr (b := 10) jF_184_87 kd16 (by decide) (c := 110) rfl rfl rfl (pc2 := 90) ?_
            refine wp_cV (as := []) (rest := []) (a := 10) (mx := 1) (ci := 6) jF_184_90 kd10 (by decide) rfl rfl rfl rfl rfl (by omega) (by omega) rfl (pc2 := 93) ?_
            have b40 := GI.b g18 10 5 kd10 (lo := 0) (hi := 1600) rfl
            have b41 := GI.b g18 10 6 kd10 (lo := 0) (hi := 1600) rfl
            refine wp_use (m_45_r10 τ17 g18  (by omega) _ _ (by omega) (by omega)) ?_
            rintro _ τ42 ⟨rfl, g43, f44⟩
            show WP 184 93 [(0, .ref 16), (1, iV z9), (2, iV z36)] [] _ _ _ _
            refine wp_al1 jF_184_93 rfl rfl (pc2 := 94) ?_
            refine wp_il1 jF_184_94 rfl rfl (pc2 := 95) ?_
            refine wp_cV (as := [iV z36]) (rest := []) (a := 16) (mx := 2) (ci := 3) jF_184_95 kd16 (by decide) rfl rfl rfl rfl rfl (by omega) (by omega) rfl (pc2 := 98) ?_
            have q45 : (τ42.1 16 5) = 4 := ((FR.at f44 16 5 rfl).trans ((FR.at f19 16 5 rfl).trans ((FR.at f8 16 5 rfl).trans pre0)))
            refine wp_use (m_186_r16_d4 τ42 g43 z36 (by omega) (by omega) (by omega) _ _ (by omega) (by omega)) ?_
            rintro _ τ47 ⟨z50, rfl, h51, g48, f49, p46⟩
            show WP 184 98 [(0, .ref 16), (1, iV z9), (2, iV z36)] [iV z50] _ _ _ _
            refine wp_ri jF_184_98 (m_fitb (by omega) (by omega)) ?_
            have b52 := GI.b g48 16 5 kd16 (lo := 0) (hi := 6) rfl
            exact ⟨z50, rfl, ⟨by omega, by omega⟩, g48, (FR.up (FR.up (FR.up (FR.up FR.rf f8 sb_Wtp_WQ) f19 sb_Wtp_WQ) f44 sb_Wtp_WQ) f49 sb_WQ_WQ), (by omega)⟩
          · intro h39
            refine wp_il1 jF_184_80 rfl rfl (pc2 := 81) ?_
            refine wp_bi jF_184_81 (by decide) rfl (pc2 := 83) ?_
            refine wp_i_ne jF_184_83 (m_rgb h37 rfl) (m_rgl rfl) rfl (pc2 := 86) ?_ ?_
            · intro h53
              refine wp_il1 jF_184_99 rfl rfl (pc2 := 100) ?_
              refine wp_bi jF_184_100 (by decide) rfl (pc2 := 102) ?_
              refine wp_i_lt jF_184_102 (m_rgb h37 rfl) (m_rgl rfl) rfl (pc2 := 105) ?_ ?_
              · intro h54
                refine wp_al1 jF_184_111 rfl rfl (pc2 := 112) ?_
                refine wp_gr (b := 10) jF_184_112 kd16 (by decide) (c := 110) rfl rfl rfl (pc2 := 115) ?_
                refine wp_ic jF_184_115 rfl (pc2 := 116) ?_
                refine wp_al1 jF_184_116 rfl rfl (pc2 := 117) ?_
                refine wp_gr (b := 10) jF_184_117 kd16 (by decide) (c := 110) rfl rfl rfl (pc2 := 120) ?_
                have b55 := GI.b g18 10 2 kd10 (lo := 0) (hi := 1600) rfl
                refine wp_gi jF_184_120 kd10 (by decide) rfl rfl rfl (pc2 := 123) ?_
                refine wp_cV (as := [iV 1, iV (τ17.1 10 2)]) (rest := []) (a := 10) (mx := 3) (ci := 6) jF_184_123 kd10 (by decide) rfl rfl rfl rfl rfl (by omega) (by omega) rfl (pc2 := 126) ?_
                refine wp_use (m_42_r10 τ17 g18 1 (by omega) (by omega) (τ17.1 10 2) (by omega) (by omega)  _ _ (by omega) (by omega)) ?_
                rintro _ τ56 ⟨z59, rfl, h60, g57, f58⟩
                show WP 184 126 [(0, .ref 16), (1, iV z9), (2, iV z36)] [iV z59] _ _ _ _
                refine wp_ri jF_184_126 (m_fitb (by omega) (by omega)) ?_
                have q61 : (τ56.1 16 5) = 4 := ((FR.at f58 16 5 rfl).trans ((FR.at f19 16 5 rfl).trans ((FR.at f8 16 5 rfl).trans pre0)))
                exact ⟨z59, rfl, ⟨by omega, by omega⟩, g57, (FR.up (FR.up (FR.up FR.rf f8 sb_Wtp_WQ) f19 sb_Wtp_WQ) f58 sb_Wtp_WQ), (by omega)⟩
              · intro h54
                refine wp_il1 jF_184_105 rfl rfl (pc2 := 106) ?_
                refine wp_bi jF_184_106 (by decide) rfl (pc2 := 108) ?_
                refine wp_i_le jF_184_108 ⟨by omega, by omega⟩ (m_rgl rfl) rfl (pc2 := 111) ?_ ?_
                · intro h62
                  refine wp_al1 jF_184_127 rfl rfl (pc2 := 128) ?_
                  refine wp_gr (b := 10) jF_184_128 kd16 (by decide) (c := 110) rfl rfl rfl (pc2 := 131) ?_
                  refine wp_cV (as := []) (rest := []) (a := 10) (mx := 1) (ci := 6) jF_184_131 kd10 (by decide) rfl rfl rfl rfl rfl (by omega) (by omega) rfl (pc2 := 134) ?_
                  have b63 := GI.b g18 10 5 kd10 (lo := 0) (hi := 1600) rfl
                  have b64 := GI.b g18 10 6 kd10 (lo := 0) (hi := 1600) rfl
                  refine wp_use (m_45_r10 τ17 g18  (by omega) _ _ (by omega) (by omega)) ?_
                  rintro _ τ65 ⟨rfl, g66, f67⟩
                  show WP 184 134 [(0, .ref 16), (1, iV z9), (2, iV z36)] [] _ _ _ _
                  refine wp_al1 jF_184_134 rfl rfl (pc2 := 135) ?_
                  refine wp_il1 jF_184_135 rfl rfl (pc2 := 136) ?_
                  refine wp_cV (as := [iV z36]) (rest := []) (a := 16) (mx := 2) (ci := 3) jF_184_136 kd16 (by decide) rfl rfl rfl rfl rfl (by omega) (by omega) rfl (pc2 := 139) ?_
                  refine wp_use (m_180_r16 τ65 g66 z36 (by omega) (by omega)  _ _ (by omega) (by omega)) ?_
                  rintro _ τ68 ⟨rfl, g69, f70⟩
                  show WP 184 139 [(0, .ref 16), (1, iV z9), (2, iV z36)] [] _ _ _ _
                  refine wp_ic jF_184_139 rfl (pc2 := 140) ?_
                  refine wp_ri jF_184_140 rfl ?_
                  have q71 : (τ68.1 16 5) = 4 := ((FR.at f70 16 5 rfl).trans ((FR.at f67 16 5 rfl).trans ((FR.at f19 16 5 rfl).trans ((FR.at f8 16 5 rfl).trans pre0))))
                  exact ⟨1, rfl, ⟨by omega, by omega⟩, g69, (FR.up (FR.up (FR.up (FR.up FR.rf f8 sb_Wtp_WQ) f19 sb_Wtp_WQ) f67 sb_Wtp_WQ) f70 sb_WQs_WQ), (by omega)⟩
                · intro h62
                  refine wp_al1 jF_184_111 rfl rfl (pc2 := 112) ?_
                  refine wp_gr (b := 10) jF_184_112 kd16 (by decide) (c := 110) rfl rfl rfl (pc2 := 115) ?_
                  refine wp_ic jF_184_115 rfl (pc2 := 116) ?_
                  refine wp_al1 jF_184_116 rfl rfl (pc2 := 117) ?_
                  refine wp_gr (b := 10) jF_184_117 kd16 (by decide) (c := 110) rfl rfl rfl (pc2 := 120) ?_
                  have b72 := GI.b g18 10 2 kd10 (lo := 0) (hi := 1600) rfl
                  refine wp_gi jF_184_120 kd10 (by decide) rfl rfl rfl (pc2 := 123) ?_
                  refine wp_cV (as := [iV 1, iV (τ17.1 10 2)]) (rest := []) (a := 10) (mx := 3) (ci := 6) jF_184_123 kd10 (by decide) rfl rfl rfl rfl rfl (by omega) (by omega) rfl (pc2 := 126) ?_
                  refine wp_use (m_42_r10 τ17 g18 1 (by omega) (by omega) (τ17.1 10 2) (by omega) (by omega)  _ _ (by omega) (by omega)) ?_
                  rintro _ τ73 ⟨z76, rfl, h77, g74, f75⟩
                  show WP 184 126 [(0, .ref 16), (1, iV z9), (2, iV z36)] [iV z76] _ _ _ _
                  refine wp_ri jF_184_126 (m_fitb (by omega) (by omega)) ?_
                  have q78 : (τ73.1 16 5) = 4 := ((FR.at f75 16 5 rfl).trans ((FR.at f19 16 5 rfl).trans ((FR.at f8 16 5 rfl).trans pre0)))
                  exact ⟨z76, rfl, ⟨by omega, by omega⟩, g74, (FR.up (FR.up (FR.up FR.rf f8 sb_Wtp_WQ) f19 sb_Wtp_WQ) f75 sb_Wtp_WQ), (by omega)⟩
            · intro h53
              refine wp_al1 jF_184_86 rfl rfl (pc2 := 87) ?_
              refine wp_gr (b := 10) jF_184_87 kd16 (by decide) (c := 110) rfl rfl rfl (pc2 := 90) ?_
              refine wp_cV (as := []) (rest := []) (a := 10) (mx := 1) (ci := 6) jF_184_90 kd10 (by decide) rfl rfl rfl rfl rfl (by omega) (by omega) rfl (pc2 := 93) ?_
              have b79 := GI.b g18 10 5 kd10 (lo := 0) (hi := 1600) rfl
              have b80 := GI.b g18 10 6 kd10 (lo := 0) (hi := 1600) rfl
              refine wp_use (m_45_r10 τ17 g18  (by omega) _ _ (by omega) (by omega)) ?_
              rintro _ τ81 ⟨rfl, g82, f83⟩
              show WP 184 93 [(0, .ref 16), (1, iV z9), (2, iV z36)] [] _ _ _ _
              refine wp_al1 jF_184_93 rfl rfl (pc2 := 94) ?_
              refine wp_il1 jF_184_94 rfl rfl (pc2 := 95) ?_
              refine wp_cV (as := [iV z36]) (rest := []) (a := 16) (mx := 2) (ci := 3) jF_184_95 kd16 (by decide) rfl rfl rfl rfl rfl (by omega) (by omega) rfl (pc2 := 98) ?_
              have q84 : (τ81.1 16 5) = 4 := ((FR.at f83 16 5 rfl).trans ((FR.at f19 16 5 rfl).trans ((FR.at f8 16 5 rfl).trans pre0)))
              refine wp_use (m_186_r16_d4 τ81 g82 z36 (by omega) (by omega) (by omega) _ _ (by omega) (by omega)) ?_
              rintro _ τ86 ⟨z89, rfl, h90, g87, f88, p85⟩
              show WP 184 98 [(0, .ref 16), (1, iV z9), (2, iV z36)] [iV z89] _ _ _ _
              refine wp_ri jF_184_98 (m_fitb (by omega) (by omega)) ?_
              have b91 := GI.b g87 16 5 kd16 (lo := 0) (hi := 6) rfl
              exact ⟨z89, rfl, ⟨by omega, by omega⟩, g87, (FR.up (FR.up (FR.up (FR.up FR.rf f8 sb_Wtp_WQ) f19 sb_Wtp_WQ) f83 sb_Wtp_WQ) f88 sb_WQ_WQ), (by omega)⟩
        · intro h38
          refine wp_al1 jF_184_69 rfl rfl (pc2 := 70) ?_
          refine wp_cV (as := []) (rest := []) (a := 16) (mx := 1) (ci := 3) jF_184_70 kd16 (by decide) rfl rfl rfl rfl rfl (by omega) (by omega) rfl (pc2 := 73) ?_
          have b92 := GI.b g18 10 5 kd10 (lo := 0) (hi := 1600) rfl
          have b93 := GI.b g18 10 6 kd10 (lo := 0) (hi := 1600) rfl
          have q94 : (τ17.1 16 5) = 4 := ((FR.at f19 16 5 rfl).trans ((FR.at f8 16 5 rfl).trans pre0))
          refine wp_use (m_187_r16_d4 τ17 g18  (by omega) (by omega) _ _ (by omega) (by omega)) ?_
          rintro _ τ96 ⟨z99, rfl, h100, g97, f98, p95⟩
          show WP 184 73 [(0, .ref 16), (1, iV z9), (2, iV z36)] [iV z99] _ _ _ _
          refine wp_ri jF_184_73 (m_fitb (by omega) (by omega)) ?_
          have b101 := GI.b g97 16 5 kd16 (lo := 0) (hi := 6) rfl
          exact ⟨z99, rfl, ⟨by omega, by omega⟩, g97, (FR.up (FR.up (FR.up FR.rf f8 sb_Wtp_WQ) f19 sb_Wtp_WQ) f98 sb_WQ_WQ), (by omega)⟩
    · intro h12
      replace p3 := p3 (by omega)
      replace p5 := p5 (by omega)
      refine wp_al1 jF_184_31 rfl rfl (pc2 := 32) ?_
      refine wp_ic jF_184_32 rfl (pc2 := 33) ?_
      refine wp_cV (as := [iV (-1)]) (rest := []) (a := 16) (mx := 2) (ci := 3) jF_184_33 kd16 (by decide) rfl rfl rfl rfl rfl (by omega) (by omega) rfl (pc2 := 36) ?_
      have q102 : (τ6.1 16 5) = 4 := ((FR.at f8 16 5 rfl).trans pre0)
      refine wp_use (m_186_r16_d4 τ6 g7 (-1) (by omega) (by omega) (by omega) _ _ (by omega) (by omega)) ?_
      rintro _ τ104 ⟨z107, rfl, h108, g105, f106, p103⟩
      show WP 184 36 [(0, .ref 16), (1, iV z9)] [iV z107] _ _ _ _
      refine wp_ri jF_184_36 (m_fitb (by omega) (by omega)) ?_
      have b109 := GI.b g105 16 5 kd16 (lo := 0) (hi := 6) rfl
      exact ⟨z107, rfl, ⟨by omega, by omega⟩, g105, (FR.up (FR.up FR.rf f8 sb_Wtp_WQ) f106 sb_WQ_WQ), (by omega)⟩
  · intro h11
    replace p3 := p3 (by omega)
    replace p5 := p5 (by omega)
    refine wp_il1 jF_184_14 rfl rfl (pc2 := 15) ?_
    refine wp_bi jF_184_15 (by decide) rfl (pc2 := 17) ?_
    refine wp_i_gt jF_184_17 ⟨by omega, by omega⟩ (m_rgl rfl) rfl (pc2 := 20) ?_ ?_
    · intro h110
      refine wp_il1 jF_184_25 rfl rfl (pc2 := 26) ?_
      refine wp_bi jF_184_26 (by decide) rfl (pc2 := 28) ?_
      refine wp_i_ne jF_184_28 ⟨by omega, by omega⟩ (m_rgl rfl) rfl (pc2 := 31) ?_ ?_
      · intro h111
        refine wp_al1 jF_184_37 rfl rfl (pc2 := 38) ?_
        refine wp_gr (b := 10) jF_184_38 kd16 (by decide) (c := 110) rfl rfl rfl (pc2 := 41) ?_
        refine wp_cV (as := []) (rest := []) (a := 10) (mx := 2) (ci := 6) jF_184_41 kd10 (by decide) rfl rfl rfl rfl rfl (by omega) (by omega) rfl (pc2 := 44) ?_
        have q112 : (τ6.1 10 1) = (σ.1 10 1) := (FR.at f8 10 1 rfl)
        have b113 := GI.b g7 10 2 kd10 (lo := 0) (hi := 1600) rfl
        refine wp_use (m_37_r10_c τ6 g7   _ _ (by omega) (by omega)) ?_
        rintro _ τ116 ⟨z119, rfl, h120, g117, f118, p114, p115⟩
        replace p115 := p115 (by omega)
        show WP 184 44 [(0, .ref 16), (1, iV z9)] [iV z119] _ _ _ _
        refine wp_z_eq jF_184_44 (m_rgb h120 rfl) rfl (pc2 := 47) ?_ ?_
        · intro h121
          clear p114
          refine wp_ic jF_184_61 rfl (pc2 := 62) ?_
          refine wp_is1 (lv2 := [(0, .ref 16), (1, iV z9), (2, iV (-1))]) jF_184_62 rfl rfl rfl (pc2 := 63) ?_
          refine wp_il1 jF_184_63 rfl rfl (pc2 := 64) ?_
          refine wp_bi jF_184_64 (by decide) rfl (pc2 := 66) ?_
          refine wp_i_ne jF_184_66 (m_rgl rfl) (m_rgl rfl) rfl (pc2 := 69) ?_ ?_
          · intro h122
            refine wp_il1 jF_184_74 rfl rfl (pc2 := 75) ?_
            refine wp_bi jF_184_75 (by decide) rfl (pc2 := 77) ?_
            refine wp_i_eq jF_184_77 (m_rgl rfl) (m_rgl rfl) rfl (pc2 := 80) ?_ ?_
            · intro h123; exfalso; omega
            · intro h123
              refine wp_il1 jF_184_80 rfl rfl (pc2 := 81) ?_
              refine wp_bi jF_184_81 (by decide) rfl (pc2 := 83) ?_
              refine wp_i_ne jF_184_83 (m_rgl rfl) (m_rgl rfl) rfl (pc2 := 86) ?_ ?_
              · intro h124
                refine wp_il1 jF_184_99 rfl rfl (pc2 := 100) ?_
                refine wp_bi jF_184_100 (by decide) rfl (pc2 := 102) ?_
                refine wp_i_lt jF_184_102 (m_rgl rfl) (m_rgl rfl) rfl (pc2 := 105) ?_ ?_
                · intro h125
                  refine wp_al1 jF_184_111 rfl rfl (pc2 := 112) ?_
                  refine wp_gr (b := 10) jF_184_112 kd16 (by decide) (c := 110) rfl rfl rfl (pc2 := 115) ?_
                  refine wp_ic jF_184_115 rfl (pc2 := 116) ?_
                  refine wp_al1 jF_184_116 rfl rfl (pc2 := 117) ?_
                  refine wp_gr (b := 10) jF_184_117 kd16 (by decide) (c := 110) rfl rfl rfl (pc2 := 120) ?_
                  have b126 := GI.b g117 10 2 kd10 (lo := 0) (hi := 1600) rfl
                  refine wp_gi jF_184_120 kd10 (by decide) rfl rfl rfl (pc2 := 123) ?_
                  refine wp_cV (as := [iV 1, iV (τ116.1 10 2)]) (rest := []) (a := 10) (mx := 3) (ci := 6) jF_184_123 kd10 (by decide) rfl rfl rfl rfl rfl (by omega) (by omega) rfl (pc2 := 126) ?_
                  refine wp_use (m_42_r10 τ116 g117 1 (by omega) (by omega) (τ116.1 10 2) (by omega) (by omega)  _ _ (by omega) (by omega)) ?_
                  rintro _ τ127 ⟨z130, rfl, h131, g128, f129⟩
                  show WP 184 126 [(0, .ref 16), (1, iV z9), (2, iV (-1))] [iV z130] _ _ _ _
                  refine wp_ri jF_184_126 (m_fitb (by omega) (by omega)) ?_
                  have q132 : (τ127.1 16 5) = 4 := ((FR.at f129 16 5 rfl).trans ((FR.at f118 16 5 rfl).trans ((FR.at f8 16 5 rfl).trans pre0)))
                  exact ⟨z130, rfl, ⟨by omega, by omega⟩, g128, (FR.up (FR.up (FR.up FR.rf f8 sb_Wtp_WQ) f118 sb_Wtp_WQ) f129 sb_Wtp_WQ), (by omega)⟩
                · intro h125; exfalso; omega
              · intro h124; exfalso; omega
          · intro h122; exfalso; omega
        · intro h121
          replace p114 := p114 (by omega)
          refine wp_al1 jF_184_47 rfl rfl (pc2 := 48) ?_
          refine wp_gr (b := 10) jF_184_48 kd16 (by decide) (c := 110) rfl rfl rfl (pc2 := 51) ?_
          refine wp_al1 jF_184_51 rfl rfl (pc2 := 52) ?_
          refine wp_gr (b := 17) jF_184_52 kd16 (by decide) (c := 117) rfl rfl rfl (pc2 := 55) ?_
          refine wp_cV (as := [.ref 17]) (rest := []) (a := 10) (mx := 3) (ci := 6) jF_184_55 kd10 (by decide) rfl rfl rfl rfl rfl (by omega) (by omega) rfl (pc2 := 58) ?_
          refine wp_use (m_41_r10_17 τ116 g117   _ _ (by omega) (by omega)) ?_
          rintro _ _ ⟨z135, rfl, h136, rfl⟩
          show WP 184 58 [(0, .ref 16), (1, iV z9)] [iV z135] _ _ _ _
          refine wp_go jF_184_58 ?_
          refine wp_is1 (lv2 := [(0, .ref 16), (1, iV z9), (2, iV z135)]) jF_184_62 rfl rfl rfl (pc2 := 63) ?_
          refine wp_il1 jF_184_63 rfl rfl (pc2 := 64) ?_
          refine wp_bi jF_184_64 (by decide) rfl (pc2 := 66) ?_
          refine wp_i_ne jF_184_66 (m_rgb h136 rfl) (m_rgl rfl) rfl (pc2 := 69) ?_ ?_
          · intro h137
            refine wp_il1 jF_184_74 rfl rfl (pc2 := 75) ?_
            refine wp_bi jF_184_75 (by decide) rfl (pc2 := 77) ?_
            refine wp_i_eq jF_184_77 (m_rgb h136 rfl) (m_rgl rfl) rfl (pc2 := 80) ?_ ?_
            · intro h138
              refine wp_al1 jF_184_86 rfl rfl (pc2 := 87) ?_
              refine wp_gr (b := 10) jF_184_87 kd16 (by decide) (c := 110) rfl rfl rfl (pc2 := 90) ?_
              refine wp_cV (as := []) (rest := []) (a := 10) (mx := 1) (ci := 6) jF_184_90 kd10 (by decide) rfl rfl rfl rfl rfl (by omega) (by omega) rfl (pc2 := 93) ?_
              have b139 := GI.b g117 10 5 kd10 (lo := 0) (hi := 1600) rfl
              have b140 := GI.b g117 10 6 kd10 (lo := 0) (hi := 1600) rfl
              refine wp_use (m_45_r10 τ116 g117  (by omega) _ _ (by omega) (by omega)) ?_
              rintro _ τ141 ⟨rfl, g142, f143⟩
              show WP 184 93 [(0, .ref 16), (1, iV z9), (2, iV z135)] [] _ _ _ _
              refine wp_al1 jF_184_93 rfl rfl (pc2 := 94) ?_
              refine wp_il1 jF_184_94 rfl rfl (pc2 := 95) ?_
              refine wp_cV (as := [iV z135]) (rest := []) (a := 16) (mx := 2) (ci := 3) jF_184_95 kd16 (by decide) rfl rfl rfl rfl rfl (by omega) (by omega) rfl (pc2 := 98) ?_
              have q144 : (τ141.1 16 5) = 4 := ((FR.at f143 16 5 rfl).trans ((FR.at f118 16 5 rfl).trans ((FR.at f8 16 5 rfl).trans pre0)))
              refine wp_use (m_186_r16_d4 τ141 g142 z135 (by omega) (by omega) (by omega) _ _ (by omega) (by omega)) ?_
              rintro _ τ146 ⟨z149, rfl, h150, g147, f148, p145⟩
              show WP 184 98 [(0, .ref 16), (1, iV z9), (2, iV z135)] [iV z149] _ _ _ _
              refine wp_ri jF_184_98 (m_fitb (by omega) (by omega)) ?_
              have b151 := GI.b g147 16 5 kd16 (lo := 0) (hi := 6) rfl
              exact ⟨z149, rfl, ⟨by omega, by omega⟩, g147, (FR.up (FR.up (FR.up (FR.up FR.rf f8 sb_Wtp_WQ) f118 sb_Wtp_WQ) f143 sb_Wtp_WQ) f148 sb_WQ_WQ), (by omega)⟩
            · intro h138
              refine wp_il1 jF_184_80 rfl rfl (pc2 := 81) ?_
              refine wp_bi jF_184_81 (by decide) rfl (pc2 := 83) ?_
              refine wp_i_ne jF_184_83 (m_rgb h136 rfl) (m_rgl rfl) rfl (pc2 := 86) ?_ ?_
              · intro h152
                refine wp_il1 jF_184_99 rfl rfl (pc2 := 100) ?_
                refine wp_bi jF_184_100 (by decide) rfl (pc2 := 102) ?_
                refine wp_i_lt jF_184_102 (m_rgb h136 rfl) (m_rgl rfl) rfl (pc2 := 105) ?_ ?_
                · intro h153
                  refine wp_al1 jF_184_111 rfl rfl (pc2 := 112) ?_
                  refine wp_gr (b := 10) jF_184_112 kd16 (by decide) (c := 110) rfl rfl rfl (pc2 := 115) ?_
                  refine wp_ic jF_184_115 rfl (pc2 := 116) ?_
                  refine wp_al1 jF_184_116 rfl rfl (pc2 := 117) ?_
                  refine wp_gr (b := 10) jF_184_117 kd16 (by decide) (c := 110) rfl rfl rfl (pc2 := 120) ?_
                  have b154 := GI.b g117 10 2 kd10 (lo := 0) (hi := 1600) rfl
                  refine wp_gi jF_184_120 kd10 (by decide) rfl rfl rfl (pc2 := 123) ?_
                  refine wp_cV (as := [iV 1, iV (τ116.1 10 2)]) (rest := []) (a := 10) (mx := 3) (ci := 6) jF_184_123 kd10 (by decide) rfl rfl rfl rfl rfl (by omega) (by omega) rfl (pc2 := 126) ?_
                  refine wp_use (m_42_r10 τ116 g117 1 (by omega) (by omega) (τ116.1 10 2) (by omega) (by omega)  _ _ (by omega) (by omega)) ?_
                  rintro _ τ155 ⟨z158, rfl, h159, g156, f157⟩
                  show WP 184 126 [(0, .ref 16), (1, iV z9), (2, iV z135)] [iV z158] _ _ _ _
                  refine wp_ri jF_184_126 (m_fitb (by omega) (by omega)) ?_
                  have q160 : (τ155.1 16 5) = 4 := ((FR.at f157 16 5 rfl).trans ((FR.at f118 16 5 rfl).trans ((FR.at f8 16 5 rfl).trans pre0)))
                  exact ⟨z158, rfl, ⟨by omega, by omega⟩, g156, (FR.up (FR.up (FR.up FR.rf f8 sb_Wtp_WQ) f118 sb_Wtp_WQ) f157 sb_Wtp_WQ), (by omega)⟩
                · intro h153
                  refine wp_il1 jF_184_105 rfl rfl (pc2 := 106) ?_
                  refine wp_bi jF_184_106 (by decide) rfl (pc2 := 108) ?_
                  refine wp_i_le jF_184_108 ⟨by omega, by omega⟩ (m_rgl rfl) rfl (pc2 := 111) ?_ ?_
                  · intro h161
                    refine wp_al1 jF_184_127 rfl rfl (pc2 := 128) ?_
                    refine wp_gr (b := 10) jF_184_128 kd16 (by decide) (c := 110) rfl rfl rfl (pc2 := 131) ?_
                    refine wp_cV (as := []) (rest := []) (a := 10) (mx := 1) (ci := 6) jF_184_131 kd10 (by decide) rfl rfl rfl rfl rfl (by omega) (by omega) rfl (pc2 := 134) ?_
                    have b162 := GI.b g117 10 5 kd10 (lo := 0) (hi := 1600) rfl
                    have b163 := GI.b g117 10 6 kd10 (lo := 0) (hi := 1600) rfl
                    refine wp_use (m_45_r10 τ116 g117  (by omega) _ _ (by omega) (by omega)) ?_
                    rintro _ τ164 ⟨rfl, g165, f166⟩
                    show WP 184 134 [(0, .ref 16), (1, iV z9), (2, iV z135)] [] _ _ _ _
                    refine wp_al1 jF_184_134 rfl rfl (pc2 := 135) ?_
                    refine wp_il1 jF_184_135 rfl rfl (pc2 := 136) ?_
                    refine wp_cV (as := [iV z135]) (rest := []) (a := 16) (mx := 2) (ci := 3) jF_184_136 kd16 (by decide) rfl rfl rfl rfl rfl (by omega) (by omega) rfl (pc2 := 139) ?_
                    refine wp_use (m_180_r16 τ164 g165 z135 (by omega) (by omega)  _ _ (by omega) (by omega)) ?_
                    rintro _ τ167 ⟨rfl, g168, f169⟩
                    show WP 184 139 [(0, .ref 16), (1, iV z9), (2, iV z135)] [] _ _ _ _
                    refine wp_ic jF_184_139 rfl (pc2 := 140) ?_
                    refine wp_ri jF_184_140 rfl ?_
                    have q170 : (τ167.1 16 5) = 4 := ((FR.at f169 16 5 rfl).trans ((FR.at f166 16 5 rfl).trans ((FR.at f118 16 5 rfl).trans ((FR.at f8 16 5 rfl).trans pre0))))
                    exact ⟨1, rfl, ⟨by omega, by omega⟩, g168, (FR.up (FR.up (FR.up (FR.up FR.rf f8 sb_Wtp_WQ) f118 sb_Wtp_WQ) f166 sb_Wtp_WQ) f169 sb_WQs_WQ), (by omega)⟩
                  · intro h161
                    refine wp_al1 jF_184_111 rfl rfl (pc2 := 112) ?_
                    refine wp_gr (b := 10) jF_184_112 kd16 (by decide) (c := 110) rfl rfl rfl (pc2 := 115) ?_
                    refine wp_ic jF_184_115 rfl (pc2 := 116) ?_
                    refine wp_al1 jF_184_116 rfl rfl (pc2 := 117) ?_
                    refine wp_gr (b := 10) jF_184_117 kd16 (by decide) (c := 110) rfl rfl rfl (pc2 := 120) ?_
                    have b171 := GI.b g117 10 2 kd10 (lo := 0) (hi := 1600) rfl
                    refine wp_gi jF_184_120 kd10 (by decide) rfl rfl rfl (pc2 := 123) ?_
                    refine wp_cV (as := [iV 1, iV (τ116.1 10 2)]) (rest := []) (a := 10) (mx := 3) (ci := 6) jF_184_123 kd10 (by decide) rfl rfl rfl rfl rfl (by omega) (by omega) rfl (pc2 := 126) ?_
                    refine wp_use (m_42_r10 τ116 g117 1 (by omega) (by omega) (τ116.1 10 2) (by omega) (by omega)  _ _ (by omega) (by omega)) ?_
                    rintro _ τ172 ⟨z175, rfl, h176, g173, f174⟩
                    show WP 184 126 [(0, .ref 16), (1, iV z9), (2, iV z135)] [iV z175] _ _ _ _
                    refine wp_ri jF_184_126 (m_fitb (by omega) (by omega)) ?_
                    have q177 : (τ172.1 16 5) = 4 := ((FR.at f174 16 5 rfl).trans ((FR.at f118 16 5 rfl).trans ((FR.at f8 16 5 rfl).trans pre0)))
                    exact ⟨z175, rfl, ⟨by omega, by omega⟩, g173, (FR.up (FR.up (FR.up FR.rf f8 sb_Wtp_WQ) f118 sb_Wtp_WQ) f174 sb_Wtp_WQ), (by omega)⟩
              · intro h152
                refine wp_al1 jF_184_86 rfl rfl (pc2 := 87) ?_
                refine wp_gr (b := 10) jF_184_87 kd16 (by decide) (c := 110) rfl rfl rfl (pc2 := 90) ?_
                refine wp_cV (as := []) (rest := []) (a := 10) (mx := 1) (ci := 6) jF_184_90 kd10 (by decide) rfl rfl rfl rfl rfl (by omega) (by omega) rfl (pc2 := 93) ?_
                have b178 := GI.b g117 10 5 kd10 (lo := 0) (hi := 1600) rfl
                have b179 := GI.b g117 10 6 kd10 (lo := 0) (hi := 1600) rfl
                refine wp_use (m_45_r10 τ116 g117  (by omega) _ _ (by omega) (by omega)) ?_
                rintro _ τ180 ⟨rfl, g181, f182⟩
                show WP 184 93 [(0, .ref 16), (1, iV z9), (2, iV z135)] [] _ _ _ _
                refine wp_al1 jF_184_93 rfl rfl (pc2 := 94) ?_
                refine wp_il1 jF_184_94 rfl rfl (pc2 := 95) ?_
                refine wp_cV (as := [iV z135]) (rest := []) (a := 16) (mx := 2) (ci := 3) jF_184_95 kd16 (by decide) rfl rfl rfl rfl rfl (by omega) (by omega) rfl (pc2 := 98) ?_
                have q183 : (τ180.1 16 5) = 4 := ((FR.at f182 16 5 rfl).trans ((FR.at f118 16 5 rfl).trans ((FR.at f8 16 5 rfl).trans pre0)))
                refine wp_use (m_186_r16_d4 τ180 g181 z135 (by omega) (by omega) (by omega) _ _ (by omega) (by omega)) ?_
                rintro _ τ185 ⟨z188, rfl, h189, g186, f187, p184⟩
                show WP 184 98 [(0, .ref 16), (1, iV z9), (2, iV z135)] [iV z188] _ _ _ _
                refine wp_ri jF_184_98 (m_fitb (by omega) (by omega)) ?_
                have b190 := GI.b g186 16 5 kd16 (lo := 0) (hi := 6) rfl
                exact ⟨z188, rfl, ⟨by omega, by omega⟩, g186, (FR.up (FR.up (FR.up (FR.up FR.rf f8 sb_Wtp_WQ) f118 sb_Wtp_WQ) f182 sb_Wtp_WQ) f187 sb_WQ_WQ), (by omega)⟩
          · intro h137
            refine wp_al1 jF_184_69 rfl rfl (pc2 := 70) ?_
            refine wp_cV (as := []) (rest := []) (a := 16) (mx := 1) (ci := 3) jF_184_70 kd16 (by decide) rfl rfl rfl rfl rfl (by omega) (by omega) rfl (pc2 := 73) ?_
            have b191 := GI.b g117 10 5 kd10 (lo := 0) (hi := 1600) rfl
            have b192 := GI.b g117 10 6 kd10 (lo := 0) (hi := 1600) rfl
            have q193 : (τ116.1 16 5) = 4 := ((FR.at f118 16 5 rfl).trans ((FR.at f8 16 5 rfl).trans pre0))
            refine wp_use (m_187_r16_d4 τ116 g117  (by omega) (by omega) _ _ (by omega) (by omega)) ?_
            rintro _ τ195 ⟨z198, rfl, h199, g196, f197, p194⟩
            show WP 184 73 [(0, .ref 16), (1, iV z9), (2, iV z135)] [iV z198] _ _ _ _
            refine wp_ri jF_184_73 (m_fitb (by omega) (by omega)) ?_
            have b200 := GI.b g196 16 5 kd16 (lo := 0) (hi := 6) rfl
            exact ⟨z198, rfl, ⟨by omega, by omega⟩, g196, (FR.up (FR.up (FR.up FR.rf f8 sb_Wtp_WQ) f118 sb_Wtp_WQ) f197 sb_WQ_WQ), (by omega)⟩
      · intro h111; exfalso; omega
    · intro h110
      refine wp_al1 jF_184_20 rfl rfl (pc2 := 21) ?_
      refine wp_cV (as := []) (rest := []) (a := 16) (mx := 1) (ci := 3) jF_184_21 kd16 (by decide) rfl rfl rfl rfl rfl (by omega) (by omega) rfl (pc2 := 24) ?_
      have q201 : (τ6.1 16 5) = 4 := ((FR.at f8 16 5 rfl).trans pre0)
      refine wp_use (m_185_r16 τ6 g7   _ _ (by omega) (by omega)) ?_
      rintro _ τ203 ⟨z206, rfl, h207, g204, f205, p202⟩
      show WP 184 24 [(0, .ref 16), (1, iV z9)] [iV z206] _ _ _ _
      refine wp_ri jF_184_24 (m_fitb (by omega) (by omega)) ?_
      have b208 := GI.b g204 16 5 kd16 (lo := 0) (hi := 6) rfl
      exact ⟨z206, rfl, ⟨by omega, by omega⟩, g204, (FR.up (FR.up FR.rf f8 sb_Wtp_WQ) f205 sb_WQ_WQ), (by omega)⟩
set_option maxHeartbeats 4000000 in
set_option maxRecDepth 20000 in
/-- Question.takesProduct -/
theorem m_183_r16_d4 (σ : jM) (hg : GI σ)  (pre0 : (σ.1 16 5) = 4) (fr lo : Nat) (hfr : 12 ≤ fr) (hlo : 260 ≤ lo) : WP 183 0 (lv_args 0 [.ref 16]) [] fr lo σ (fun v τ => ∃ z : Int, v = some (iV z) ∧ (0 ≤ z ∧ z ≤ 1) ∧ GI τ ∧ FR WQ σ τ ∧ (z = 1 → (τ.1 16 5) = 4)) := by
  show WP 183 0 [(0, .ref 16)] [] _ _ _ _
  refine wp_al1 jF_183_0 rfl rfl (pc2 := 1) ?_
  refine wp_cV (as := []) (rest := []) (a := 16) (mx := 3) (ci := 3) jF_183_1 kd16 (by decide) rfl rfl rfl rfl rfl (by omega) (by omega) rfl (pc2 := 4) ?_
  have q1 : (σ.1 16 5) = 4 := pre0
  refine wp_use (m_184_r16_d4 σ hg  (by omega) _ _ (by omega) (by omega)) ?_
  rintro _ τ3 ⟨z6, rfl, h7, g4, f5, p2⟩
  show WP 183 4 [(0, .ref 16)] [iV z6] _ _ _ _
  refine wp_z_ne jF_183_4 (m_rgb h7 rfl) rfl (pc2 := 7) ?_ ?_
  · intro h8
    replace p2 := p2 (by omega)
    refine wp_ic jF_183_9 rfl (pc2 := 10) ?_
    refine wp_is1 (lv2 := [(0, .ref 16), (1, iV 0)]) jF_183_10 rfl rfl rfl (pc2 := 11) ?_
    refine wp_loop (α := Int) (fun a => [(0, .ref 16), (1, iV (a))]) (fun a τ => (0 ≤ a ∧ a ≤ 1600) ∧ GI τ ∧ FR WQ τ3 τ ∧ ((τ.1 16 5) = 4)) (fun a τ => Int.toNat (1600 - (a))) (0) τ3 ?_ ?_
    · skip
      have b9 := GI.b g4 16 5 kd16 (lo := 0) (hi := 6) rfl
      exact ⟨⟨by omega, by omega⟩, g4, FR.rf, (by omega)⟩
    · rintro x10 τ12 ⟨h11, g13, f14, p15⟩ ih16
      have b17 := GI.b g13 16 5 kd16 (lo := 0) (hi := 6) rfl
      show WP 183 11 [(0, .ref 16), (1, iV x10)] [] _ _ _ _
      show WP 183 11 [(0, .ref 16), (1, iV x10)] [] _ _ _ _
      refine wp_il1 jF_183_11 rfl rfl (pc2 := 12) ?_
      refine wp_si jF_183_12 (by decide) rfl (pc2 := 15) ?_
      refine wp_i_ge jF_183_15 (m_rgb h11 rfl) (m_rgl rfl) rfl (pc2 := 18) ?_ ?_
      · intro h18
        refine wp_ic jF_183_83 rfl (pc2 := 84) ?_
        refine wp_ri jF_183_84 rfl ?_
        exact ⟨1, rfl, ⟨by omega, by omega⟩, g13, (FR.up f5 f14 sb_WQ_WQ), (by omega)⟩
      · intro h18
        refine wp_al1 jF_183_18 rfl rfl (pc2 := 19) ?_
        refine wp_gr (b := 10) jF_183_19 kd16 (by decide) (c := 110) rfl rfl rfl (pc2 := 22) ?_
        refine wp_cV (as := []) (rest := []) (a := 10) (mx := 1) (ci := 6) jF_183_22 kd10 (by decide) rfl rfl rfl rfl rfl (by omega) (by omega) rfl (pc2 := 25) ?_
        have b19 := GI.b hg 10 1 kd10 (lo := 0) (hi := 1600) rfl
        have q20 : (τ12.1 10 1) = (σ.1 10 1) := ((FR.at f14 10 1 rfl).trans (FR.at f5 10 1 rfl))
        have b21 := GI.b g13 10 2 kd10 (lo := 0) (hi := 1600) rfl
        refine wp_use (m_35_r10_c τ12 g13   _ _ (by omega) (by omega)) ?_
        rintro _ τ25 ⟨z28, rfl, h29, g26, f27, p22, p23, p24⟩
        show WP 183 25 [(0, .ref 16), (1, iV x10)] [iV z28] _ _ _ _
        refine wp_bi jF_183_25 (by decide) rfl (pc2 := 27) ?_
        refine wp_i_eq jF_183_27 (m_rgb h29 rfl) (m_rgl rfl) rfl (pc2 := 30) ?_ ?_
        · intro h30
          replace p22 := p22 (by omega)
          replace p24 := p24 (by omega)
          refine wp_al1 jF_183_42 rfl rfl (pc2 := 43) ?_
          refine wp_gr (b := 10) jF_183_43 kd16 (by decide) (c := 110) rfl rfl rfl (pc2 := 46) ?_
          refine wp_cV (as := []) (rest := []) (a := 10) (mx := 1) (ci := 6) jF_183_46 kd10 (by decide) rfl rfl rfl rfl rfl (by omega) (by omega) rfl (pc2 := 49) ?_
          have q31 : (τ25.1 10 1) = (σ.1 10 1) := ((FR.at f27 10 1 rfl).trans ((FR.at f14 10 1 rfl).trans (FR.at f5 10 1 rfl)))
          have b32 := GI.b g26 10 2 kd10 (lo := 0) (hi := 1600) rfl
          refine wp_use (m_35_r10_c τ25 g26   _ _ (by omega) (by omega)) ?_
          rintro _ τ36 ⟨z39, rfl, h40, g37, f38, p33, p34, p35⟩
          replace p34 := p34 (by omega)
          show WP 183 49 [(0, .ref 16), (1, iV x10)] [iV z39] _ _ _ _
          refine wp_is1 (lv2 := [(0, .ref 16), (1, iV x10), (2, iV z39)]) jF_183_49 rfl rfl rfl (pc2 := 50) ?_
          refine wp_al1 jF_183_50 rfl rfl (pc2 := 51) ?_
          refine wp_gr (b := 10) jF_183_51 kd16 (by decide) (c := 110) rfl rfl rfl (pc2 := 54) ?_
          refine wp_dup jF_183_54 rfl rfl (pc2 := 55) ?_
          have b41 := GI.b g37 10 2 kd10 (lo := 0) (hi := 1600) rfl
          refine wp_gi jF_183_55 kd10 (by decide) rfl rfl rfl (pc2 := 58) ?_
          refine wp_ic jF_183_58 rfl (pc2 := 59) ?_
          refine wp_add jF_183_59 rfl (pc2 := 60) ?_
          refine wp_pi jF_183_60 kd10 (by decide) rfl rfl rfl (pc2 := 63) g37 (lo := 0) (hi := 1600) rfl (by omega) (by omega) ?_
          intro τ42 g43 f44 e45
          refine wp_al1 jF_183_63 rfl rfl (pc2 := 64) ?_
          refine wp_cV (as := []) (rest := []) (a := 16) (mx := 3) (ci := 3) jF_183_64 kd16 (by decide) rfl rfl rfl rfl rfl (by omega) (by omega) rfl (pc2 := 67) ?_
          have q46 : (τ42.1 16 5) = (τ12.1 16 5) := ((FRw.na f44 (by decide)).trans ((FR.at f38 16 5 rfl).trans (FR.at f27 16 5 rfl)))
          refine wp_use (m_184_r16_d4 τ42 g43  (by omega) _ _ (by omega) (by omega)) ?_
          rintro _ τ48 ⟨z51, rfl, h52, g49, f50, p47⟩
          show WP 183 67 [(0, .ref 16), (1, iV x10), (2, iV z39)] [iV z51] _ _ _ _
          refine wp_z_ne jF_183_67 (m_rgb h52 rfl) rfl (pc2 := 70) ?_ ?_
          · intro h53
            replace p47 := p47 (by omega)
            refine wp_al1 jF_183_72 rfl rfl (pc2 := 73) ?_
            refine wp_il1 jF_183_73 rfl rfl (pc2 := 74) ?_
            refine wp_cV (as := [iV z39]) (rest := []) (a := 16) (mx := 2) (ci := 3) jF_183_74 kd16 (by decide) rfl rfl rfl rfl rfl (by omega) (by omega) rfl (pc2 := 77) ?_
            refine wp_use (m_180_r16 τ48 g49 z39 (by omega) (by omega)  _ _ (by omega) (by omega)) ?_
            rintro _ τ54 ⟨rfl, g55, f56⟩
            show WP 183 77 [(0, .ref 16), (1, iV x10), (2, iV z39)] [] _ _ _ _
            refine wp_inc (lv2 := [(0, .ref 16), (1, iV (x10 + 1)), (2, iV z39)]) jF_183_77 rfl rfl rfl rfl (pc2 := 80) ?_
            refine wp_go jF_183_80 ?_
            have b57 := GI.b g49 16 5 kd16 (lo := 0) (hi := 6) rfl
            have q58 : (τ54.1 16 5) = (τ48.1 16 5) := (FR.at f56 16 5 rfl)
            refine wp_less [0, 1] (lv2 := [(0, .ref 16), (1, iV (x10 + 1))]) rfl rfl ?_
            exact ih16 ((x10 + 1)) τ54 ⟨⟨by omega, by omega⟩, g55, (FR.up (FR.up (FR.w (FR.up (FR.up f14 f27 sb_Wtp_WQ) f38 sb_Wtp_WQ) f44 rfl) f50 sb_WQ_WQ) f56 sb_WQs_WQ), (by omega)⟩ (by show Int.toNat (1600 - (x10 + 1)) < Int.toNat (1600 - x10); omega)
          · intro h53
            clear p47
            refine wp_ic jF_183_70 rfl (pc2 := 71) ?_
            refine wp_ri jF_183_71 rfl ?_
            have b59 := GI.b g49 16 5 kd16 (lo := 0) (hi := 6) rfl
            exact ⟨0, rfl, ⟨by omega, by omega⟩, g49, (FR.up (FR.w (FR.up (FR.up (FR.up f5 f14 sb_WQ_WQ) f27 sb_Wtp_WQ) f38 sb_Wtp_WQ) f44 rfl) f50 sb_WQ_WQ), (by omega)⟩
        · intro h30
          refine wp_al1 jF_183_30 rfl rfl (pc2 := 31) ?_
          refine wp_gr (b := 10) jF_183_31 kd16 (by decide) (c := 110) rfl rfl rfl (pc2 := 34) ?_
          refine wp_cV (as := []) (rest := []) (a := 10) (mx := 1) (ci := 6) jF_183_34 kd10 (by decide) rfl rfl rfl rfl rfl (by omega) (by omega) rfl (pc2 := 37) ?_
          have q60 : (τ25.1 10 1) = (σ.1 10 1) := ((FR.at f27 10 1 rfl).trans ((FR.at f14 10 1 rfl).trans (FR.at f5 10 1 rfl)))
          have b61 := GI.b g26 10 2 kd10 (lo := 0) (hi := 1600) rfl
          refine wp_use (m_35_r10_c τ25 g26   _ _ (by omega) (by omega)) ?_
          rintro _ τ65 ⟨z68, rfl, h69, g66, f67, p62, p63, p64⟩
          show WP 183 37 [(0, .ref 16), (1, iV x10)] [iV z68] _ _ _ _
          refine wp_bi jF_183_37 (by decide) rfl (pc2 := 39) ?_
          refine wp_i_ne jF_183_39 (m_rgb h69 rfl) (m_rgl rfl) rfl (pc2 := 42) ?_ ?_
          · intro h70
            refine wp_ic jF_183_83 rfl (pc2 := 84) ?_
            refine wp_ri jF_183_84 rfl ?_
            have q71 : (τ65.1 16 5) = (τ12.1 16 5) := ((FR.at f67 16 5 rfl).trans (FR.at f27 16 5 rfl))
            exact ⟨1, rfl, ⟨by omega, by omega⟩, g66, (FR.up (FR.up (FR.up f5 f14 sb_WQ_WQ) f27 sb_Wtp_WQ) f67 sb_Wtp_WQ), (by omega)⟩
          · intro h70
            replace p62 := p62 (by omega)
            replace p64 := p64 (by omega)
            refine wp_al1 jF_183_42 rfl rfl (pc2 := 43) ?_
            refine wp_gr (b := 10) jF_183_43 kd16 (by decide) (c := 110) rfl rfl rfl (pc2 := 46) ?_
            refine wp_cV (as := []) (rest := []) (a := 10) (mx := 1) (ci := 6) jF_183_46 kd10 (by decide) rfl rfl rfl rfl rfl (by omega) (by omega) rfl (pc2 := 49) ?_
            have q72 : (τ65.1 10 1) = (σ.1 10 1) := ((FR.at f67 10 1 rfl).trans ((FR.at f27 10 1 rfl).trans ((FR.at f14 10 1 rfl).trans (FR.at f5 10 1 rfl))))
            have b73 := GI.b g66 10 2 kd10 (lo := 0) (hi := 1600) rfl
            refine wp_use (m_35_r10_c τ65 g66   _ _ (by omega) (by omega)) ?_
            rintro _ τ77 ⟨z80, rfl, h81, g78, f79, p74, p75, p76⟩
            replace p75 := p75 (by omega)
            show WP 183 49 [(0, .ref 16), (1, iV x10)] [iV z80] _ _ _ _
            refine wp_is1 (lv2 := [(0, .ref 16), (1, iV x10), (2, iV z80)]) jF_183_49 rfl rfl rfl (pc2 := 50) ?_
            refine wp_al1 jF_183_50 rfl rfl (pc2 := 51) ?_
            refine wp_gr (b := 10) jF_183_51 kd16 (by decide) (c := 110) rfl rfl rfl (pc2 := 54) ?_
            refine wp_dup jF_183_54 rfl rfl (pc2 := 55) ?_
            have b82 := GI.b g78 10 2 kd10 (lo := 0) (hi := 1600) rfl
            refine wp_gi jF_183_55 kd10 (by decide) rfl rfl rfl (pc2 := 58) ?_
            refine wp_ic jF_183_58 rfl (pc2 := 59) ?_
            refine wp_add jF_183_59 rfl (pc2 := 60) ?_
            refine wp_pi jF_183_60 kd10 (by decide) rfl rfl rfl (pc2 := 63) g78 (lo := 0) (hi := 1600) rfl (by omega) (by omega) ?_
            intro τ83 g84 f85 e86
            refine wp_al1 jF_183_63 rfl rfl (pc2 := 64) ?_
            refine wp_cV (as := []) (rest := []) (a := 16) (mx := 3) (ci := 3) jF_183_64 kd16 (by decide) rfl rfl rfl rfl rfl (by omega) (by omega) rfl (pc2 := 67) ?_
            have q87 : (τ83.1 16 5) = (τ12.1 16 5) := ((FRw.na f85 (by decide)).trans ((FR.at f79 16 5 rfl).trans ((FR.at f67 16 5 rfl).trans (FR.at f27 16 5 rfl))))
            refine wp_use (m_184_r16_d4 τ83 g84  (by omega) _ _ (by omega) (by omega)) ?_
            rintro _ τ89 ⟨z92, rfl, h93, g90, f91, p88⟩
            show WP 183 67 [(0, .ref 16), (1, iV x10), (2, iV z80)] [iV z92] _ _ _ _
            refine wp_z_ne jF_183_67 (m_rgb h93 rfl) rfl (pc2 := 70) ?_ ?_
            · intro h94
              replace p88 := p88 (by omega)
              refine wp_al1 jF_183_72 rfl rfl (pc2 := 73) ?_
              refine wp_il1 jF_183_73 rfl rfl (pc2 := 74) ?_
              refine wp_cV (as := [iV z80]) (rest := []) (a := 16) (mx := 2) (ci := 3) jF_183_74 kd16 (by decide) rfl rfl rfl rfl rfl (by omega) (by omega) rfl (pc2 := 77) ?_
              refine wp_use (m_180_r16 τ89 g90 z80 (by omega) (by omega)  _ _ (by omega) (by omega)) ?_
              rintro _ τ95 ⟨rfl, g96, f97⟩
              show WP 183 77 [(0, .ref 16), (1, iV x10), (2, iV z80)] [] _ _ _ _
              refine wp_inc (lv2 := [(0, .ref 16), (1, iV (x10 + 1)), (2, iV z80)]) jF_183_77 rfl rfl rfl rfl (pc2 := 80) ?_
              refine wp_go jF_183_80 ?_
              have b98 := GI.b g90 16 5 kd16 (lo := 0) (hi := 6) rfl
              have q99 : (τ95.1 16 5) = (τ89.1 16 5) := (FR.at f97 16 5 rfl)
              refine wp_less [0, 1] (lv2 := [(0, .ref 16), (1, iV (x10 + 1))]) rfl rfl ?_
              exact ih16 ((x10 + 1)) τ95 ⟨⟨by omega, by omega⟩, g96, (FR.up (FR.up (FR.w (FR.up (FR.up (FR.up f14 f27 sb_Wtp_WQ) f67 sb_Wtp_WQ) f79 sb_Wtp_WQ) f85 rfl) f91 sb_WQ_WQ) f97 sb_WQs_WQ), (by omega)⟩ (by show Int.toNat (1600 - (x10 + 1)) < Int.toNat (1600 - x10); omega)
            · intro h94
              clear p88
              refine wp_ic jF_183_70 rfl (pc2 := 71) ?_
              refine wp_ri jF_183_71 rfl ?_
              have b100 := GI.b g90 16 5 kd16 (lo := 0) (hi := 6) rfl
              exact ⟨0, rfl, ⟨by omega, by omega⟩, g90, (FR.up (FR.w (FR.up (FR.up (FR.up (FR.up f5 f14 sb_WQ_WQ) f27 sb_Wtp_WQ) f67 sb_Wtp_WQ) f79 sb_Wtp_WQ) f85 rfl) f91 sb_WQ_WQ), (by omega)⟩
  · intro h8
    clear p2
    refine wp_ic jF_183_7 rfl (pc2 := 8) ?_
    refine wp_ri jF_183_8 rfl ?_
    have b101 := GI.b g4 16 5 kd16 (lo := 0) (hi := 6) rfl
    exact ⟨0, rfl, ⟨by omega, by omega⟩, g4, f5, (by omega)⟩
