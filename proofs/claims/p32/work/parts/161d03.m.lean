set_option maxHeartbeats 4000000 in
set_option maxRecDepth 20000 in
/-- Tape.takesNumber -/
theorem m_54_r10 (σ : jM) (hg : GI σ) (least : Int) (hl_least : 0 ≤ least) (hu_least : least ≤ 1) (most : Int) (hl_most : 1 ≤ most) (hu_most : most ≤ 9999)  (fr lo : Nat) (hfr : 1 ≤ fr) (hlo : 22 ≤ lo) : WP 54 0 (lv_args 0 [.ref 10, iV least, iV most]) [] fr lo σ (fun v τ => ∃ z : Int, v = some (iV z) ∧ (0 ≤ z ∧ z ≤ 1) ∧ GI τ ∧ FR Wtp σ τ ∧ (z = 1 → (least ≤ (τ.1 10 8) ∧ (τ.1 10 8) ≤ most))) := by
  show WP 54 0 [(0, .ref 10), (1, iV least), (2, iV most)] [] _ _ _ _
  refine wp_al1 jF_54_0 rfl rfl (pc2 := 1) ?_
  refine wp_cV (as := []) (rest := []) (a := 10) (mx := 1) (ci := 6) jF_54_1 kd10 (by decide) rfl rfl rfl rfl rfl (by omega) (by omega) rfl (pc2 := 4) ?_
  have b1 := GI.b hg 10 1 kd10 (lo := 0) (hi := 1600) rfl
  refine wp_use (m_35_r10 σ hg   _ _ (by omega) (by omega)) ?_
  rintro _ τ3 ⟨z6, rfl, h7, g4, f5, p2⟩
  show WP 54 4 [(0, .ref 10), (1, iV least), (2, iV most)] [iV z6] _ _ _ _
  refine wp_cS (as := [iV z6]) (rest := []) (mx := 1) jF_54_4 rfl rfl rfl rfl (by omega) (by omega) rfl (pc2 := 7) ?_
  show WP 40 0 [(0, iV z6)] [] _ _ _ _
  refine wp_il1 jF_40_0 rfl rfl (pc2 := 1) ?_
  refine wp_bi jF_40_1 (by decide) rfl (pc2 := 3) ?_
  refine wp_i_lt jF_40_3 (m_rgb h7 rfl) (m_rgl rfl) rfl (pc2 := 6) ?_ ?_
  · intro h8
    refine wp_ic jF_40_16 rfl (pc2 := 17) ?_
    refine wp_ri jF_40_17 rfl ?_
    show WP 54 7 [(0, .ref 10), (1, iV least), (2, iV most)] [iV 0] _ _ _ _
    refine wp_z_eq jF_54_7 (m_rgl rfl) rfl (pc2 := 10) ?_ ?_
    · intro h9
      refine wp_al1 jF_54_26 rfl rfl (pc2 := 27) ?_
      refine wp_ic jF_54_27 rfl (pc2 := 28) ?_
      refine wp_al1 jF_54_28 rfl rfl (pc2 := 29) ?_
      have b10 := GI.b g4 10 2 kd10 (lo := 0) (hi := 1600) rfl
      refine wp_gi jF_54_29 kd10 (by decide) rfl rfl rfl (pc2 := 32) ?_
      refine wp_cV (as := [iV 1, iV (τ3.1 10 2)]) (rest := []) (a := 10) (mx := 3) (ci := 6) jF_54_32 kd10 (by decide) rfl rfl rfl rfl rfl (by omega) (by omega) rfl (pc2 := 35) ?_
      refine wp_use (m_42_r10 τ3 g4 1 (by omega) (by omega) (τ3.1 10 2) (by omega) (by omega)  _ _ (by omega) (by omega)) ?_
      rintro _ τ11 ⟨z14, rfl, h15, g12, f13⟩
      show WP 54 35 [(0, .ref 10), (1, iV least), (2, iV most)] [iV z14] _ _ _ _
      refine wp_ri jF_54_35 (m_fitb (by omega) (by omega)) ?_
      have b16 := GI.b g12 10 8 kd10 (lo := (-2147483648)) (hi := 2147483647) rfl
      exact ⟨z14, rfl, ⟨by omega, by omega⟩, g12, (FR.up f5 f13 sb_Wtp_Wtp), (by omega)⟩
    · intro h9; exfalso; omega
  · intro h8
    replace p2 := p2 (by omega)
    refine wp_il1 jF_40_6 rfl rfl (pc2 := 7) ?_
    refine wp_bi jF_40_7 (by decide) rfl (pc2 := 9) ?_
    refine wp_i_gt jF_40_9 ⟨by omega, by omega⟩ (m_rgl rfl) rfl (pc2 := 12) ?_ ?_
    · intro h17
      refine wp_ic jF_40_16 rfl (pc2 := 17) ?_
      refine wp_ri jF_40_17 rfl ?_
      show WP 54 7 [(0, .ref 10), (1, iV least), (2, iV most)] [iV 0] _ _ _ _
      refine wp_z_eq jF_54_7 (m_rgl rfl) rfl (pc2 := 10) ?_ ?_
      · intro h18
        refine wp_al1 jF_54_26 rfl rfl (pc2 := 27) ?_
        refine wp_ic jF_54_27 rfl (pc2 := 28) ?_
        refine wp_al1 jF_54_28 rfl rfl (pc2 := 29) ?_
        have b19 := GI.b g4 10 2 kd10 (lo := 0) (hi := 1600) rfl
        refine wp_gi jF_54_29 kd10 (by decide) rfl rfl rfl (pc2 := 32) ?_
        refine wp_cV (as := [iV 1, iV (τ3.1 10 2)]) (rest := []) (a := 10) (mx := 3) (ci := 6) jF_54_32 kd10 (by decide) rfl rfl rfl rfl rfl (by omega) (by omega) rfl (pc2 := 35) ?_
        refine wp_use (m_42_r10 τ3 g4 1 (by omega) (by omega) (τ3.1 10 2) (by omega) (by omega)  _ _ (by omega) (by omega)) ?_
        rintro _ τ20 ⟨z23, rfl, h24, g21, f22⟩
        show WP 54 35 [(0, .ref 10), (1, iV least), (2, iV most)] [iV z23] _ _ _ _
        refine wp_ri jF_54_35 (m_fitb (by omega) (by omega)) ?_
        have b25 := GI.b g21 10 8 kd10 (lo := (-2147483648)) (hi := 2147483647) rfl
        exact ⟨z23, rfl, ⟨by omega, by omega⟩, g21, (FR.up f5 f22 sb_Wtp_Wtp), (by omega)⟩
      · intro h18; exfalso; omega
    · intro h17
      refine wp_ic jF_40_12 rfl (pc2 := 13) ?_
      refine wp_go jF_40_13 ?_
      refine wp_ri jF_40_17 rfl ?_
      show WP 54 7 [(0, .ref 10), (1, iV least), (2, iV most)] [iV 1] _ _ _ _
      refine wp_z_eq jF_54_7 (m_rgl rfl) rfl (pc2 := 10) ?_ ?_
      · intro h26; exfalso; omega
      · intro h26
        refine wp_al1 jF_54_10 rfl rfl (pc2 := 11) ?_
        refine wp_al1 jF_54_11 rfl rfl (pc2 := 12) ?_
        have b27 := GI.b g4 10 2 kd10 (lo := 0) (hi := 1600) rfl
        refine wp_gi jF_54_12 kd10 (by decide) rfl rfl rfl (pc2 := 15) ?_
        refine wp_ic jF_54_15 rfl (pc2 := 16) ?_
        refine wp_sub jF_54_16 rfl (pc2 := 17) ?_
        refine wp_cV (as := [iV ((τ3.1 10 2) - 1)]) (rest := []) (a := 10) (mx := 2) (ci := 6) jF_54_17 kd10 (by decide) rfl rfl rfl rfl rfl (by omega) (by omega) rfl (pc2 := 20) ?_
        have q28 : (τ3.1 10 1) = (σ.1 10 1) := (FR.at f5 10 1 rfl)
        refine wp_use (m_39_r10 τ3 g4 ((τ3.1 10 2) - 1) (by omega) (by omega)  _ _ (by omega) (by omega)) ?_
        rintro _ _ ⟨z33, rfl, h34, rfl, p29, p30⟩
        show WP 54 20 [(0, .ref 10), (1, iV least), (2, iV most)] [iV z33] _ _ _ _
        refine wp_cS (as := [iV z33]) (rest := []) (mx := 1) jF_54_20 rfl rfl rfl rfl (by omega) (by omega) rfl (pc2 := 23) ?_
        show WP 38 0 [(0, iV z33)] [] _ _ _ _
        refine wp_il1 jF_38_0 rfl rfl (pc2 := 1) ?_
        refine wp_bi jF_38_1 (by decide) rfl (pc2 := 3) ?_
        refine wp_i_lt jF_38_3 (m_rgb h34 rfl) (m_rgl rfl) rfl (pc2 := 6) ?_ ?_
        · intro h35
          refine wp_ic jF_38_16 rfl (pc2 := 17) ?_
          refine wp_ri jF_38_17 rfl ?_
          show WP 54 23 [(0, .ref 10), (1, iV least), (2, iV most)] [iV 0] _ _ _ _
          refine wp_z_eq jF_54_23 (m_rgl rfl) rfl (pc2 := 26) ?_ ?_
          · intro h36
            refine wp_al1 jF_54_36 rfl rfl (pc2 := 37) ?_
            refine wp_al1 jF_54_37 rfl rfl (pc2 := 38) ?_
            refine wp_gi jF_54_38 kd10 (by decide) rfl rfl rfl (pc2 := 41) ?_
            refine wp_pi jF_54_41 kd10 (by decide) rfl rfl rfl (pc2 := 44) g4 (lo := 0) (hi := 1600) rfl (by omega) (by omega) ?_
            intro τ37 g38 f39 e40
            refine wp_al1 jF_54_44 rfl rfl (pc2 := 45) ?_
            refine wp_ic jF_54_45 rfl (pc2 := 46) ?_
            refine wp_pi jF_54_46 kd10 (by decide) rfl rfl rfl (pc2 := 49) g38 (lo := (-2147483648)) (hi := 2147483647) rfl (by omega) (by omega) ?_
            intro τ41 g42 f43 e44
            refine wp_al1 jF_54_49 rfl rfl (pc2 := 50) ?_
            refine wp_ic jF_54_50 rfl (pc2 := 51) ?_
            refine wp_pi jF_54_51 kd10 (by decide) rfl rfl rfl (pc2 := 54) g42 (lo := 0) (hi := 1600) rfl (by omega) (by omega) ?_
            intro τ45 g46 f47 e48
            have q49 : (τ45.1 10 1) = (σ.1 10 1) := ((FRw.nj f47 (by decide)).trans ((FRw.nj f43 (by decide)).trans ((FRw.nj f39 (by decide)).trans (FR.at f5 10 1 rfl))))
            refine wp_loop (α := Unit) (fun a => [(0, .ref 10), (1, iV least), (2, iV most)]) (fun a τ => GI τ ∧ FR Wtp τ45 τ ∧ ((τ.1 10 5) + (τ.1 10 6) ≤ (τ45.1 10 1)) ∧ ((τ.1 10 6) ≤ 5)) (fun a τ => Int.toNat (6 - (τ.1 10 6))) () τ45 ?_ ?_
            · skip
              have q50 : (τ45.1 10 5) = (τ3.1 10 2) := ((FRw.nj f47 (by decide)).trans ((FRw.nj f43 (by decide)).trans e40))
              have q51 : (τ45.1 10 6) = 0 := e48
              exact ⟨g46, FR.rf, (by omega), (by omega)⟩
            · rintro ⟨⟩ τ52 ⟨g53, f54, p55, p56⟩ ih57
              have b58 := GI.b g53 10 5 kd10 (lo := 0) (hi := 1600) rfl
              have b59 := GI.b g53 10 6 kd10 (lo := 0) (hi := 1600) rfl
              show WP 54 54 [(0, .ref 10), (1, iV least), (2, iV most)] [] _ _ _ _
              show WP 54 54 [(0, .ref 10), (1, iV least), (2, iV most)] [] _ _ _ _
              refine wp_al1 jF_54_54 rfl rfl (pc2 := 55) ?_
              refine wp_gi jF_54_55 kd10 (by decide) rfl rfl rfl (pc2 := 58) ?_
              refine wp_ic jF_54_58 rfl (pc2 := 59) ?_
              refine wp_i_gt jF_54_59 (m_rgb b59 rfl) (m_rgl rfl) rfl (pc2 := 62) ?_ ?_
              · intro h60
                refine wp_al1 jF_54_122 rfl rfl (pc2 := 123) ?_
                refine wp_gi jF_54_123 kd10 (by decide) rfl rfl rfl (pc2 := 126) ?_
                refine wp_ic jF_54_126 rfl (pc2 := 127) ?_
                refine wp_i_le jF_54_127 (m_rgb b59 rfl) (m_rgl rfl) rfl (pc2 := 130) ?_ ?_
                · intro h61
                  refine wp_al1 jF_54_142 rfl rfl (pc2 := 143) ?_
                  refine wp_cV (as := []) (rest := []) (a := 10) (mx := 1) (ci := 6) jF_54_143 kd10 (by decide) rfl rfl rfl rfl rfl (by omega) (by omega) rfl (pc2 := 146) ?_
                  refine wp_use (m_45_r10 τ52 g53  (by omega) _ _ (by omega) (by omega)) ?_
                  rintro _ τ62 ⟨rfl, g63, f64⟩
                  show WP 54 146 [(0, .ref 10), (1, iV least), (2, iV most)] [] _ _ _ _
                  refine wp_al1 jF_54_146 rfl rfl (pc2 := 147) ?_
                  have b65 := GI.b g63 10 8 kd10 (lo := (-2147483648)) (hi := 2147483647) rfl
                  refine wp_gi jF_54_147 kd10 (by decide) rfl rfl rfl (pc2 := 150) ?_
                  refine wp_il1 jF_54_150 rfl rfl (pc2 := 151) ?_
                  refine wp_i_lt jF_54_151 (m_rgb b65 rfl) ⟨by omega, by omega⟩ rfl (pc2 := 154) ?_ ?_
                  · intro h66
                    refine wp_al1 jF_54_162 rfl rfl (pc2 := 163) ?_
                    refine wp_ic jF_54_163 rfl (pc2 := 164) ?_
                    refine wp_al1 jF_54_164 rfl rfl (pc2 := 165) ?_
                    have b67 := GI.b g63 10 5 kd10 (lo := 0) (hi := 1600) rfl
                    refine wp_gi jF_54_165 kd10 (by decide) rfl rfl rfl (pc2 := 168) ?_
                    refine wp_cV (as := [iV 2, iV (τ62.1 10 5)]) (rest := []) (a := 10) (mx := 3) (ci := 6) jF_54_168 kd10 (by decide) rfl rfl rfl rfl rfl (by omega) (by omega) rfl (pc2 := 171) ?_
                    refine wp_use (m_42_r10 τ62 g63 2 (by omega) (by omega) (τ62.1 10 5) (by omega) (by omega)  _ _ (by omega) (by omega)) ?_
                    rintro _ τ68 ⟨z71, rfl, h72, g69, f70⟩
                    show WP 54 171 [(0, .ref 10), (1, iV least), (2, iV most)] [iV z71] _ _ _ _
                    refine wp_z_eq jF_54_171 (m_rgb h72 rfl) rfl (pc2 := 174) ?_ ?_
                    · intro h73
                      refine wp_ic jF_54_178 rfl (pc2 := 179) ?_
                      refine wp_ri jF_54_179 rfl ?_
                      have b74 := GI.b g69 10 8 kd10 (lo := (-2147483648)) (hi := 2147483647) rfl
                      exact ⟨0, rfl, ⟨by omega, by omega⟩, g69, (FR.up (FR.up (FR.up (FR.w (FR.w (FR.w f5 f39 rfl) f43 rfl) f47 rfl) f54 sb_Wtp_Wtp) f64 sb_Wtp_Wtp) f70 sb_Wtp_Wtp), (by omega)⟩
                    · intro h73; exfalso; omega
                  · intro h66
                    refine wp_al1 jF_54_154 rfl rfl (pc2 := 155) ?_
                    refine wp_gi jF_54_155 kd10 (by decide) rfl rfl rfl (pc2 := 158) ?_
                    refine wp_il1 jF_54_158 rfl rfl (pc2 := 159) ?_
                    refine wp_i_le jF_54_159 (m_rgb b65 rfl) ⟨by omega, by omega⟩ rfl (pc2 := 162) ?_ ?_
                    · intro h75
                      refine wp_ic jF_54_174 rfl (pc2 := 175) ?_
                      refine wp_go jF_54_175 ?_
                      refine wp_ri jF_54_179 rfl ?_
                      exact ⟨1, rfl, ⟨by omega, by omega⟩, g63, (FR.up (FR.up (FR.w (FR.w (FR.w f5 f39 rfl) f43 rfl) f47 rfl) f54 sb_Wtp_Wtp) f64 sb_Wtp_Wtp), (by omega)⟩
                    · intro h75
                      refine wp_al1 jF_54_162 rfl rfl (pc2 := 163) ?_
                      refine wp_ic jF_54_163 rfl (pc2 := 164) ?_
                      refine wp_al1 jF_54_164 rfl rfl (pc2 := 165) ?_
                      have b76 := GI.b g63 10 5 kd10 (lo := 0) (hi := 1600) rfl
                      refine wp_gi jF_54_165 kd10 (by decide) rfl rfl rfl (pc2 := 168) ?_
                      refine wp_cV (as := [iV 2, iV (τ62.1 10 5)]) (rest := []) (a := 10) (mx := 3) (ci := 6) jF_54_168 kd10 (by decide) rfl rfl rfl rfl rfl (by omega) (by omega) rfl (pc2 := 171) ?_
                      refine wp_use (m_42_r10 τ62 g63 2 (by omega) (by omega) (τ62.1 10 5) (by omega) (by omega)  _ _ (by omega) (by omega)) ?_
                      rintro _ τ77 ⟨z80, rfl, h81, g78, f79⟩
                      show WP 54 171 [(0, .ref 10), (1, iV least), (2, iV most)] [iV z80] _ _ _ _
                      refine wp_z_eq jF_54_171 (m_rgb h81 rfl) rfl (pc2 := 174) ?_ ?_
                      · intro h82
                        refine wp_ic jF_54_178 rfl (pc2 := 179) ?_
                        refine wp_ri jF_54_179 rfl ?_
                        have b83 := GI.b g78 10 8 kd10 (lo := (-2147483648)) (hi := 2147483647) rfl
                        exact ⟨0, rfl, ⟨by omega, by omega⟩, g78, (FR.up (FR.up (FR.up (FR.w (FR.w (FR.w f5 f39 rfl) f43 rfl) f47 rfl) f54 sb_Wtp_Wtp) f64 sb_Wtp_Wtp) f79 sb_Wtp_Wtp), (by omega)⟩
                      · intro h82; exfalso; omega
                · intro h61
                  refine wp_al1 jF_54_130 rfl rfl (pc2 := 131) ?_
                  refine wp_ic jF_54_131 rfl (pc2 := 132) ?_
                  refine wp_al1 jF_54_132 rfl rfl (pc2 := 133) ?_
                  refine wp_gi jF_54_133 kd10 (by decide) rfl rfl rfl (pc2 := 136) ?_
                  refine wp_ic jF_54_136 rfl (pc2 := 137) ?_
                  refine wp_add jF_54_137 rfl (pc2 := 138) ?_
                  refine wp_cV (as := [iV 1, iV ((τ52.1 10 5) + 4)]) (rest := []) (a := 10) (mx := 3) (ci := 6) jF_54_138 kd10 (by decide) rfl rfl rfl rfl rfl (by omega) (by omega) rfl (pc2 := 141) ?_
                  refine wp_use (m_42_r10 τ52 g53 1 (by omega) (by omega) ((τ52.1 10 5) + 4) (by omega) (by omega)  _ _ (by omega) (by omega)) ?_
                  rintro _ τ84 ⟨z87, rfl, h88, g85, f86⟩
                  show WP 54 141 [(0, .ref 10), (1, iV least), (2, iV most)] [iV z87] _ _ _ _
                  refine wp_ri jF_54_141 (m_fitb (by omega) (by omega)) ?_
                  have b89 := GI.b g85 10 8 kd10 (lo := (-2147483648)) (hi := 2147483647) rfl
                  exact ⟨z87, rfl, ⟨by omega, by omega⟩, g85, (FR.up (FR.up (FR.w (FR.w (FR.w f5 f39 rfl) f43 rfl) f47 rfl) f54 sb_Wtp_Wtp) f86 sb_Wtp_Wtp), (by omega)⟩
              · intro h60
                refine wp_al1 jF_54_62 rfl rfl (pc2 := 63) ?_
                refine wp_al1 jF_54_63 rfl rfl (pc2 := 64) ?_
                refine wp_gi jF_54_64 kd10 (by decide) rfl rfl rfl (pc2 := 67) ?_
                refine wp_al1 jF_54_67 rfl rfl (pc2 := 68) ?_
                refine wp_gi jF_54_68 kd10 (by decide) rfl rfl rfl (pc2 := 71) ?_
                refine wp_add jF_54_71 rfl (pc2 := 72) ?_
                refine wp_cV (as := [iV ((τ52.1 10 5) + (τ52.1 10 6))]) (rest := []) (a := 10) (mx := 2) (ci := 6) jF_54_72 kd10 (by decide) rfl rfl rfl rfl rfl (by omega) (by omega) rfl (pc2 := 75) ?_
                have q90 : (τ52.1 10 1) = (σ.1 10 1) := ((FR.at f54 10 1 rfl).trans ((FRw.nj f47 (by decide)).trans ((FRw.nj f43 (by decide)).trans ((FRw.nj f39 (by decide)).trans (FR.at f5 10 1 rfl)))))
                refine wp_use (m_39_r10 τ52 g53 ((τ52.1 10 5) + (τ52.1 10 6)) (by omega) (by omega)  _ _ (by omega) (by omega)) ?_
                rintro _ _ ⟨z95, rfl, h96, rfl, p91, p92⟩
                show WP 54 75 [(0, .ref 10), (1, iV least), (2, iV most)] [iV z95] _ _ _ _
                refine wp_cS (as := [iV z95]) (rest := []) (mx := 1) jF_54_75 rfl rfl rfl rfl (by omega) (by omega) rfl (pc2 := 78) ?_
                show WP 40 0 [(0, iV z95)] [] _ _ _ _
                refine wp_il1 jF_40_0 rfl rfl (pc2 := 1) ?_
                refine wp_bi jF_40_1 (by decide) rfl (pc2 := 3) ?_
                refine wp_i_lt jF_40_3 (m_rgb h96 rfl) (m_rgl rfl) rfl (pc2 := 6) ?_ ?_
                · intro h97
                  refine wp_ic jF_40_16 rfl (pc2 := 17) ?_
                  refine wp_ri jF_40_17 rfl ?_
                  show WP 54 78 [(0, .ref 10), (1, iV least), (2, iV most)] [iV 0] _ _ _ _
                  refine wp_z_eq jF_54_78 (m_rgl rfl) rfl (pc2 := 81) ?_ ?_
                  · intro h98
                    refine wp_al1 jF_54_122 rfl rfl (pc2 := 123) ?_
                    refine wp_gi jF_54_123 kd10 (by decide) rfl rfl rfl (pc2 := 126) ?_
                    refine wp_ic jF_54_126 rfl (pc2 := 127) ?_
                    refine wp_i_le jF_54_127 (m_rgb b59 rfl) (m_rgl rfl) rfl (pc2 := 130) ?_ ?_
                    · intro h99
                      refine wp_al1 jF_54_142 rfl rfl (pc2 := 143) ?_
                      refine wp_cV (as := []) (rest := []) (a := 10) (mx := 1) (ci := 6) jF_54_143 kd10 (by decide) rfl rfl rfl rfl rfl (by omega) (by omega) rfl (pc2 := 146) ?_
                      refine wp_use (m_45_r10 τ52 g53  (by omega) _ _ (by omega) (by omega)) ?_
                      rintro _ τ100 ⟨rfl, g101, f102⟩
                      show WP 54 146 [(0, .ref 10), (1, iV least), (2, iV most)] [] _ _ _ _
                      refine wp_al1 jF_54_146 rfl rfl (pc2 := 147) ?_
                      have b103 := GI.b g101 10 8 kd10 (lo := (-2147483648)) (hi := 2147483647) rfl
                      refine wp_gi jF_54_147 kd10 (by decide) rfl rfl rfl (pc2 := 150) ?_
                      refine wp_il1 jF_54_150 rfl rfl (pc2 := 151) ?_
                      refine wp_i_lt jF_54_151 (m_rgb b103 rfl) ⟨by omega, by omega⟩ rfl (pc2 := 154) ?_ ?_
                      · intro h104
                        refine wp_al1 jF_54_162 rfl rfl (pc2 := 163) ?_
                        refine wp_ic jF_54_163 rfl (pc2 := 164) ?_
                        refine wp_al1 jF_54_164 rfl rfl (pc2 := 165) ?_
                        have b105 := GI.b g101 10 5 kd10 (lo := 0) (hi := 1600) rfl
                        refine wp_gi jF_54_165 kd10 (by decide) rfl rfl rfl (pc2 := 168) ?_
                        refine wp_cV (as := [iV 2, iV (τ100.1 10 5)]) (rest := []) (a := 10) (mx := 3) (ci := 6) jF_54_168 kd10 (by decide) rfl rfl rfl rfl rfl (by omega) (by omega) rfl (pc2 := 171) ?_
                        refine wp_use (m_42_r10 τ100 g101 2 (by omega) (by omega) (τ100.1 10 5) (by omega) (by omega)  _ _ (by omega) (by omega)) ?_
                        rintro _ τ106 ⟨z109, rfl, h110, g107, f108⟩
                        show WP 54 171 [(0, .ref 10), (1, iV least), (2, iV most)] [iV z109] _ _ _ _
                        refine wp_z_eq jF_54_171 (m_rgb h110 rfl) rfl (pc2 := 174) ?_ ?_
                        · intro h111
                          refine wp_ic jF_54_178 rfl (pc2 := 179) ?_
                          refine wp_ri jF_54_179 rfl ?_
                          have b112 := GI.b g107 10 8 kd10 (lo := (-2147483648)) (hi := 2147483647) rfl
                          exact ⟨0, rfl, ⟨by omega, by omega⟩, g107, (FR.up (FR.up (FR.up (FR.w (FR.w (FR.w f5 f39 rfl) f43 rfl) f47 rfl) f54 sb_Wtp_Wtp) f102 sb_Wtp_Wtp) f108 sb_Wtp_Wtp), (by omega)⟩
                        · intro h111; exfalso; omega
                      · intro h104
                        refine wp_al1 jF_54_154 rfl rfl (pc2 := 155) ?_
                        refine wp_gi jF_54_155 kd10 (by decide) rfl rfl rfl (pc2 := 158) ?_
                        refine wp_il1 jF_54_158 rfl rfl (pc2 := 159) ?_
                        refine wp_i_le jF_54_159 (m_rgb b103 rfl) ⟨by omega, by omega⟩ rfl (pc2 := 162) ?_ ?_
                        · intro h113
                          refine wp_ic jF_54_174 rfl (pc2 := 175) ?_
                          refine wp_go jF_54_175 ?_
                          refine wp_ri jF_54_179 rfl ?_
                          exact ⟨1, rfl, ⟨by omega, by omega⟩, g101, (FR.up (FR.up (FR.w (FR.w (FR.w f5 f39 rfl) f43 rfl) f47 rfl) f54 sb_Wtp_Wtp) f102 sb_Wtp_Wtp), (by omega)⟩
                        · intro h113
                          refine wp_al1 jF_54_162 rfl rfl (pc2 := 163) ?_
                          refine wp_ic jF_54_163 rfl (pc2 := 164) ?_
                          refine wp_al1 jF_54_164 rfl rfl (pc2 := 165) ?_
                          have b114 := GI.b g101 10 5 kd10 (lo := 0) (hi := 1600) rfl
                          refine wp_gi jF_54_165 kd10 (by decide) rfl rfl rfl (pc2 := 168) ?_
                          refine wp_cV (as := [iV 2, iV (τ100.1 10 5)]) (rest := []) (a := 10) (mx := 3) (ci := 6) jF_54_168 kd10 (by decide) rfl rfl rfl rfl rfl (by omega) (by omega) rfl (pc2 := 171) ?_
                          refine wp_use (m_42_r10 τ100 g101 2 (by omega) (by omega) (τ100.1 10 5) (by omega) (by omega)  _ _ (by omega) (by omega)) ?_
                          rintro _ τ115 ⟨z118, rfl, h119, g116, f117⟩
                          show WP 54 171 [(0, .ref 10), (1, iV least), (2, iV most)] [iV z118] _ _ _ _
                          refine wp_z_eq jF_54_171 (m_rgb h119 rfl) rfl (pc2 := 174) ?_ ?_
                          · intro h120
                            refine wp_ic jF_54_178 rfl (pc2 := 179) ?_
                            refine wp_ri jF_54_179 rfl ?_
                            have b121 := GI.b g116 10 8 kd10 (lo := (-2147483648)) (hi := 2147483647) rfl
                            exact ⟨0, rfl, ⟨by omega, by omega⟩, g116, (FR.up (FR.up (FR.up (FR.w (FR.w (FR.w f5 f39 rfl) f43 rfl) f47 rfl) f54 sb_Wtp_Wtp) f102 sb_Wtp_Wtp) f117 sb_Wtp_Wtp), (by omega)⟩
                          · intro h120; exfalso; omega
                    · intro h99
                      refine wp_al1 jF_54_130 rfl rfl (pc2 := 131) ?_
                      refine wp_ic jF_54_131 rfl (pc2 := 132) ?_
                      refine wp_al1 jF_54_132 rfl rfl (pc2 := 133) ?_
                      refine wp_gi jF_54_133 kd10 (by decide) rfl rfl rfl (pc2 := 136) ?_
                      refine wp_ic jF_54_136 rfl (pc2 := 137) ?_
                      refine wp_add jF_54_137 rfl (pc2 := 138) ?_
                      refine wp_cV (as := [iV 1, iV ((τ52.1 10 5) + 4)]) (rest := []) (a := 10) (mx := 3) (ci := 6) jF_54_138 kd10 (by decide) rfl rfl rfl rfl rfl (by omega) (by omega) rfl (pc2 := 141) ?_
                      refine wp_use (m_42_r10 τ52 g53 1 (by omega) (by omega) ((τ52.1 10 5) + 4) (by omega) (by omega)  _ _ (by omega) (by omega)) ?_
                      rintro _ τ122 ⟨z125, rfl, h126, g123, f124⟩
                      show WP 54 141 [(0, .ref 10), (1, iV least), (2, iV most)] [iV z125] _ _ _ _
                      refine wp_ri jF_54_141 (m_fitb (by omega) (by omega)) ?_
                      have b127 := GI.b g123 10 8 kd10 (lo := (-2147483648)) (hi := 2147483647) rfl
                      exact ⟨z125, rfl, ⟨by omega, by omega⟩, g123, (FR.up (FR.up (FR.w (FR.w (FR.w f5 f39 rfl) f43 rfl) f47 rfl) f54 sb_Wtp_Wtp) f124 sb_Wtp_Wtp), (by omega)⟩
                  · intro h98; exfalso; omega
                · intro h97
                  replace p91 := p91 (by omega)
                  refine wp_il1 jF_40_6 rfl rfl (pc2 := 7) ?_
                  refine wp_bi jF_40_7 (by decide) rfl (pc2 := 9) ?_
                  refine wp_i_gt jF_40_9 ⟨by omega, by omega⟩ (m_rgl rfl) rfl (pc2 := 12) ?_ ?_
                  · intro h128
                    refine wp_ic jF_40_16 rfl (pc2 := 17) ?_
                    refine wp_ri jF_40_17 rfl ?_
                    show WP 54 78 [(0, .ref 10), (1, iV least), (2, iV most)] [iV 0] _ _ _ _
                    refine wp_z_eq jF_54_78 (m_rgl rfl) rfl (pc2 := 81) ?_ ?_
                    · intro h129
                      refine wp_al1 jF_54_122 rfl rfl (pc2 := 123) ?_
                      refine wp_gi jF_54_123 kd10 (by decide) rfl rfl rfl (pc2 := 126) ?_
                      refine wp_ic jF_54_126 rfl (pc2 := 127) ?_
                      refine wp_i_le jF_54_127 (m_rgb b59 rfl) (m_rgl rfl) rfl (pc2 := 130) ?_ ?_
                      · intro h130
                        refine wp_al1 jF_54_142 rfl rfl (pc2 := 143) ?_
                        refine wp_cV (as := []) (rest := []) (a := 10) (mx := 1) (ci := 6) jF_54_143 kd10 (by decide) rfl rfl rfl rfl rfl (by omega) (by omega) rfl (pc2 := 146) ?_
                        refine wp_use (m_45_r10 τ52 g53  (by omega) _ _ (by omega) (by omega)) ?_
                        rintro _ τ131 ⟨rfl, g132, f133⟩
                        show WP 54 146 [(0, .ref 10), (1, iV least), (2, iV most)] [] _ _ _ _
                        refine wp_al1 jF_54_146 rfl rfl (pc2 := 147) ?_
                        have b134 := GI.b g132 10 8 kd10 (lo := (-2147483648)) (hi := 2147483647) rfl
                        refine wp_gi jF_54_147 kd10 (by decide) rfl rfl rfl (pc2 := 150) ?_
                        refine wp_il1 jF_54_150 rfl rfl (pc2 := 151) ?_
                        refine wp_i_lt jF_54_151 (m_rgb b134 rfl) ⟨by omega, by omega⟩ rfl (pc2 := 154) ?_ ?_
                        · intro h135
                          refine wp_al1 jF_54_162 rfl rfl (pc2 := 163) ?_
                          refine wp_ic jF_54_163 rfl (pc2 := 164) ?_
                          refine wp_al1 jF_54_164 rfl rfl (pc2 := 165) ?_
                          have b136 := GI.b g132 10 5 kd10 (lo := 0) (hi := 1600) rfl
                          refine wp_gi jF_54_165 kd10 (by decide) rfl rfl rfl (pc2 := 168) ?_
                          refine wp_cV (as := [iV 2, iV (τ131.1 10 5)]) (rest := []) (a := 10) (mx := 3) (ci := 6) jF_54_168 kd10 (by decide) rfl rfl rfl rfl rfl (by omega) (by omega) rfl (pc2 := 171) ?_
                          refine wp_use (m_42_r10 τ131 g132 2 (by omega) (by omega) (τ131.1 10 5) (by omega) (by omega)  _ _ (by omega) (by omega)) ?_
                          rintro _ τ137 ⟨z140, rfl, h141, g138, f139⟩
                          show WP 54 171 [(0, .ref 10), (1, iV least), (2, iV most)] [iV z140] _ _ _ _
                          refine wp_z_eq jF_54_171 (m_rgb h141 rfl) rfl (pc2 := 174) ?_ ?_
                          · intro h142
                            refine wp_ic jF_54_178 rfl (pc2 := 179) ?_
                            refine wp_ri jF_54_179 rfl ?_
                            have b143 := GI.b g138 10 8 kd10 (lo := (-2147483648)) (hi := 2147483647) rfl
                            exact ⟨0, rfl, ⟨by omega, by omega⟩, g138, (FR.up (FR.up (FR.up (FR.w (FR.w (FR.w f5 f39 rfl) f43 rfl) f47 rfl) f54 sb_Wtp_Wtp) f133 sb_Wtp_Wtp) f139 sb_Wtp_Wtp), (by omega)⟩
                          · intro h142; exfalso; omega
                        · intro h135
                          refine wp_al1 jF_54_154 rfl rfl (pc2 := 155) ?_
                          refine wp_gi jF_54_155 kd10 (by decide) rfl rfl rfl (pc2 := 158) ?_
                          refine wp_il1 jF_54_158 rfl rfl (pc2 := 159) ?_
                          refine wp_i_le jF_54_159 (m_rgb b134 rfl) ⟨by omega, by omega⟩ rfl (pc2 := 162) ?_ ?_
                          · intro h144
                            refine wp_ic jF_54_174 rfl (pc2 := 175) ?_
                            refine wp_go jF_54_175 ?_
                            refine wp_ri jF_54_179 rfl ?_
                            exact ⟨1, rfl, ⟨by omega, by omega⟩, g132, (FR.up (FR.up (FR.w (FR.w (FR.w f5 f39 rfl) f43 rfl) f47 rfl) f54 sb_Wtp_Wtp) f133 sb_Wtp_Wtp), (by omega)⟩
                          · intro h144
                            refine wp_al1 jF_54_162 rfl rfl (pc2 := 163) ?_
                            refine wp_ic jF_54_163 rfl (pc2 := 164) ?_
                            refine wp_al1 jF_54_164 rfl rfl (pc2 := 165) ?_
                            have b145 := GI.b g132 10 5 kd10 (lo := 0) (hi := 1600) rfl
                            refine wp_gi jF_54_165 kd10 (by decide) rfl rfl rfl (pc2 := 168) ?_
                            refine wp_cV (as := [iV 2, iV (τ131.1 10 5)]) (rest := []) (a := 10) (mx := 3) (ci := 6) jF_54_168 kd10 (by decide) rfl rfl rfl rfl rfl (by omega) (by omega) rfl (pc2 := 171) ?_
                            refine wp_use (m_42_r10 τ131 g132 2 (by omega) (by omega) (τ131.1 10 5) (by omega) (by omega)  _ _ (by omega) (by omega)) ?_
                            rintro _ τ146 ⟨z149, rfl, h150, g147, f148⟩
                            show WP 54 171 [(0, .ref 10), (1, iV least), (2, iV most)] [iV z149] _ _ _ _
                            refine wp_z_eq jF_54_171 (m_rgb h150 rfl) rfl (pc2 := 174) ?_ ?_
                            · intro h151
                              refine wp_ic jF_54_178 rfl (pc2 := 179) ?_
                              refine wp_ri jF_54_179 rfl ?_
                              have b152 := GI.b g147 10 8 kd10 (lo := (-2147483648)) (hi := 2147483647) rfl
                              exact ⟨0, rfl, ⟨by omega, by omega⟩, g147, (FR.up (FR.up (FR.up (FR.w (FR.w (FR.w f5 f39 rfl) f43 rfl) f47 rfl) f54 sb_Wtp_Wtp) f133 sb_Wtp_Wtp) f148 sb_Wtp_Wtp), (by omega)⟩
                            · intro h151; exfalso; omega
                      · intro h130
                        refine wp_al1 jF_54_130 rfl rfl (pc2 := 131) ?_
                        refine wp_ic jF_54_131 rfl (pc2 := 132) ?_
                        refine wp_al1 jF_54_132 rfl rfl (pc2 := 133) ?_
                        refine wp_gi jF_54_133 kd10 (by decide) rfl rfl rfl (pc2 := 136) ?_
                        refine wp_ic jF_54_136 rfl (pc2 := 137) ?_
                        refine wp_add jF_54_137 rfl (pc2 := 138) ?_
                        refine wp_cV (as := [iV 1, iV ((τ52.1 10 5) + 4)]) (rest := []) (a := 10) (mx := 3) (ci := 6) jF_54_138 kd10 (by decide) rfl rfl rfl rfl rfl (by omega) (by omega) rfl (pc2 := 141) ?_
                        refine wp_use (m_42_r10 τ52 g53 1 (by omega) (by omega) ((τ52.1 10 5) + 4) (by omega) (by omega)  _ _ (by omega) (by omega)) ?_
                        rintro _ τ153 ⟨z156, rfl, h157, g154, f155⟩
                        show WP 54 141 [(0, .ref 10), (1, iV least), (2, iV most)] [iV z156] _ _ _ _
                        refine wp_ri jF_54_141 (m_fitb (by omega) (by omega)) ?_
                        have b158 := GI.b g154 10 8 kd10 (lo := (-2147483648)) (hi := 2147483647) rfl
                        exact ⟨z156, rfl, ⟨by omega, by omega⟩, g154, (FR.up (FR.up (FR.w (FR.w (FR.w f5 f39 rfl) f43 rfl) f47 rfl) f54 sb_Wtp_Wtp) f155 sb_Wtp_Wtp), (by omega)⟩
                    · intro h129; exfalso; omega
                  · intro h128
                    refine wp_ic jF_40_12 rfl (pc2 := 13) ?_
                    refine wp_go jF_40_13 ?_
                    refine wp_ri jF_40_17 rfl ?_
                    show WP 54 78 [(0, .ref 10), (1, iV least), (2, iV most)] [iV 1] _ _ _ _
                    refine wp_z_eq jF_54_78 (m_rgl rfl) rfl (pc2 := 81) ?_ ?_
                    · intro h159; exfalso; omega
                    · intro h159
                      refine wp_al1 jF_54_81 rfl rfl (pc2 := 82) ?_
                      refine wp_al1 jF_54_82 rfl rfl (pc2 := 83) ?_
                      have b160 := GI.b g53 10 8 kd10 (lo := (-2147483648)) (hi := 2147483647) rfl
                      refine wp_gi jF_54_83 kd10 (by decide) rfl rfl rfl (pc2 := 86) ?_
                      refine wp_bi jF_54_86 (by decide) rfl (pc2 := 88) ?_
                      refine wp_any2 (pc2 := 89) jF_54_88 rfl rfl ?_
                      intro z161 h162
                      refine wp_al1 jF_54_89 rfl rfl (pc2 := 90) ?_
                      refine wp_al1 jF_54_90 rfl rfl (pc2 := 91) ?_
                      refine wp_gi jF_54_91 kd10 (by decide) rfl rfl rfl (pc2 := 94) ?_
                      refine wp_al1 jF_54_94 rfl rfl (pc2 := 95) ?_
                      refine wp_gi jF_54_95 kd10 (by decide) rfl rfl rfl (pc2 := 98) ?_
                      refine wp_add jF_54_98 rfl (pc2 := 99) ?_
                      refine wp_cV (as := [iV ((τ52.1 10 5) + (τ52.1 10 6))]) (rest := [iV z161, .ref 10]) (a := 10) (mx := 2) (ci := 6) jF_54_99 kd10 (by decide) rfl rfl rfl rfl rfl (by omega) (by omega) rfl (pc2 := 102) ?_
                      refine wp_use (m_39_r10 τ52 g53 ((τ52.1 10 5) + (τ52.1 10 6)) (by omega) (by omega)  _ _ (by omega) (by omega)) ?_
                      rintro _ _ ⟨z167, rfl, h168, rfl, p163, p164⟩
                      show WP 54 102 [(0, .ref 10), (1, iV least), (2, iV most)] [iV z167, iV z161, .ref 10] _ _ _ _
                      refine wp_any2 (pc2 := 103) jF_54_102 rfl rfl ?_
                      intro z169 h170
                      refine wp_bi jF_54_103 (by decide) rfl (pc2 := 105) ?_
                      refine wp_any2 (pc2 := 106) jF_54_105 rfl rfl ?_
                      intro z171 h172
                      refine wp_pi jF_54_106 kd10 (by decide) rfl rfl rfl (pc2 := 109) g53 (lo := (-2147483648)) (hi := 2147483647) rfl (by omega) (by omega) ?_
                      intro τ173 g174 f175 e176
                      refine wp_al1 jF_54_109 rfl rfl (pc2 := 110) ?_
                      refine wp_dup jF_54_110 rfl rfl (pc2 := 111) ?_
                      refine wp_gi jF_54_111 kd10 (by decide) rfl (FRw.nj f175 (by decide)) rfl (pc2 := 114) ?_
                      refine wp_ic jF_54_114 rfl (pc2 := 115) ?_
                      refine wp_add jF_54_115 rfl (pc2 := 116) ?_
                      refine wp_pi jF_54_116 kd10 (by decide) rfl rfl rfl (pc2 := 119) g174 (lo := 0) (hi := 1600) rfl (by omega) (by omega) ?_
                      intro τ177 g178 f179 e180
                      refine wp_go jF_54_119 ?_
                      have q181 : (τ177.1 10 5) = (τ52.1 10 5) := ((FRw.nj f179 (by decide)).trans (FRw.nj f175 (by decide)))
                      have q182 : (τ177.1 10 6) = ((τ52.1 10 6) + 1) := e180
                      exact ih57 () τ177 ⟨g178, (FR.w (FR.w f54 f175 rfl) f179 rfl), (by omega), (by omega)⟩ (by show Int.toNat (6 - (τ177.1 10 6)) < Int.toNat (6 - (τ52.1 10 6)); omega)
          · intro h36; exfalso; omega
        · intro h35
          replace p29 := p29 (by omega)
          refine wp_il1 jF_38_6 rfl rfl (pc2 := 7) ?_
          refine wp_bi jF_38_7 (by decide) rfl (pc2 := 9) ?_
          refine wp_i_gt jF_38_9 ⟨by omega, by omega⟩ (m_rgl rfl) rfl (pc2 := 12) ?_ ?_
          · intro h183
            refine wp_ic jF_38_16 rfl (pc2 := 17) ?_
            refine wp_ri jF_38_17 rfl ?_
            show WP 54 23 [(0, .ref 10), (1, iV least), (2, iV most)] [iV 0] _ _ _ _
            refine wp_z_eq jF_54_23 (m_rgl rfl) rfl (pc2 := 26) ?_ ?_
            · intro h184
              refine wp_al1 jF_54_36 rfl rfl (pc2 := 37) ?_
              refine wp_al1 jF_54_37 rfl rfl (pc2 := 38) ?_
              refine wp_gi jF_54_38 kd10 (by decide) rfl rfl rfl (pc2 := 41) ?_
              refine wp_pi jF_54_41 kd10 (by decide) rfl rfl rfl (pc2 := 44) g4 (lo := 0) (hi := 1600) rfl (by omega) (by omega) ?_
              intro τ185 g186 f187 e188
              refine wp_al1 jF_54_44 rfl rfl (pc2 := 45) ?_
              refine wp_ic jF_54_45 rfl (pc2 := 46) ?_
              refine wp_pi jF_54_46 kd10 (by decide) rfl rfl rfl (pc2 := 49) g186 (lo := (-2147483648)) (hi := 2147483647) rfl (by omega) (by omega) ?_
              intro τ189 g190 f191 e192
              refine wp_al1 jF_54_49 rfl rfl (pc2 := 50) ?_
              refine wp_ic jF_54_50 rfl (pc2 := 51) ?_
              refine wp_pi jF_54_51 kd10 (by decide) rfl rfl rfl (pc2 := 54) g190 (lo := 0) (hi := 1600) rfl (by omega) (by omega) ?_
              intro τ193 g194 f195 e196
              have q197 : (τ193.1 10 1) = (σ.1 10 1) := ((FRw.nj f195 (by decide)).trans ((FRw.nj f191 (by decide)).trans ((FRw.nj f187 (by decide)).trans (FR.at f5 10 1 rfl))))
              refine wp_loop (α := Unit) (fun a => [(0, .ref 10), (1, iV least), (2, iV most)]) (fun a τ => GI τ ∧ FR Wtp τ193 τ ∧ ((τ.1 10 5) + (τ.1 10 6) ≤ (τ193.1 10 1)) ∧ ((τ.1 10 6) ≤ 5)) (fun a τ => Int.toNat (6 - (τ.1 10 6))) () τ193 ?_ ?_
              · skip
                have q198 : (τ193.1 10 5) = (τ3.1 10 2) := ((FRw.nj f195 (by decide)).trans ((FRw.nj f191 (by decide)).trans e188))
                have q199 : (τ193.1 10 6) = 0 := e196
                exact ⟨g194, FR.rf, (by omega), (by omega)⟩
              · rintro ⟨⟩ τ200 ⟨g201, f202, p203, p204⟩ ih205
                have b206 := GI.b g201 10 5 kd10 (lo := 0) (hi := 1600) rfl
                have b207 := GI.b g201 10 6 kd10 (lo := 0) (hi := 1600) rfl
                show WP 54 54 [(0, .ref 10), (1, iV least), (2, iV most)] [] _ _ _ _
                show WP 54 54 [(0, .ref 10), (1, iV least), (2, iV most)] [] _ _ _ _
                refine wp_al1 jF_54_54 rfl rfl (pc2 := 55) ?_
                refine wp_gi jF_54_55 kd10 (by decide) rfl rfl rfl (pc2 := 58) ?_
                refine wp_ic jF_54_58 rfl (pc2 := 59) ?_
                refine wp_i_gt jF_54_59 (m_rgb b207 rfl) (m_rgl rfl) rfl (pc2 := 62) ?_ ?_
                · intro h208
                  refine wp_al1 jF_54_122 rfl rfl (pc2 := 123) ?_
                  refine wp_gi jF_54_123 kd10 (by decide) rfl rfl rfl (pc2 := 126) ?_
                  refine wp_ic jF_54_126 rfl (pc2 := 127) ?_
                  refine wp_i_le jF_54_127 (m_rgb b207 rfl) (m_rgl rfl) rfl (pc2 := 130) ?_ ?_
                  · intro h209
                    refine wp_al1 jF_54_142 rfl rfl (pc2 := 143) ?_
                    refine wp_cV (as := []) (rest := []) (a := 10) (mx := 1) (ci := 6) jF_54_143 kd10 (by decide) rfl rfl rfl rfl rfl (by omega) (by omega) rfl (pc2 := 146) ?_
                    refine wp_use (m_45_r10 τ200 g201  (by omega) _ _ (by omega) (by omega)) ?_
                    rintro _ τ210 ⟨rfl, g211, f212⟩
                    show WP 54 146 [(0, .ref 10), (1, iV least), (2, iV most)] [] _ _ _ _
                    refine wp_al1 jF_54_146 rfl rfl (pc2 := 147) ?_
                    have b213 := GI.b g211 10 8 kd10 (lo := (-2147483648)) (hi := 2147483647) rfl
                    refine wp_gi jF_54_147 kd10 (by decide) rfl rfl rfl (pc2 := 150) ?_
                    refine wp_il1 jF_54_150 rfl rfl (pc2 := 151) ?_
                    refine wp_i_lt jF_54_151 (m_rgb b213 rfl) ⟨by omega, by omega⟩ rfl (pc2 := 154) ?_ ?_
                    · intro h214
                      refine wp_al1 jF_54_162 rfl rfl (pc2 := 163) ?_
                      refine wp_ic jF_54_163 rfl (pc2 := 164) ?_
                      refine wp_al1 jF_54_164 rfl rfl (pc2 := 165) ?_
                      have b215 := GI.b g211 10 5 kd10 (lo := 0) (hi := 1600) rfl
                      refine wp_gi jF_54_165 kd10 (by decide) rfl rfl rfl (pc2 := 168) ?_
                      refine wp_cV (as := [iV 2, iV (τ210.1 10 5)]) (rest := []) (a := 10) (mx := 3) (ci := 6) jF_54_168 kd10 (by decide) rfl rfl rfl rfl rfl (by omega) (by omega) rfl (pc2 := 171) ?_
                      refine wp_use (m_42_r10 τ210 g211 2 (by omega) (by omega) (τ210.1 10 5) (by omega) (by omega)  _ _ (by omega) (by omega)) ?_
                      rintro _ τ216 ⟨z219, rfl, h220, g217, f218⟩
                      show WP 54 171 [(0, .ref 10), (1, iV least), (2, iV most)] [iV z219] _ _ _ _
                      refine wp_z_eq jF_54_171 (m_rgb h220 rfl) rfl (pc2 := 174) ?_ ?_
                      · intro h221
                        refine wp_ic jF_54_178 rfl (pc2 := 179) ?_
                        refine wp_ri jF_54_179 rfl ?_
                        have b222 := GI.b g217 10 8 kd10 (lo := (-2147483648)) (hi := 2147483647) rfl
                        exact ⟨0, rfl, ⟨by omega, by omega⟩, g217, (FR.up (FR.up (FR.up (FR.w (FR.w (FR.w f5 f187 rfl) f191 rfl) f195 rfl) f202 sb_Wtp_Wtp) f212 sb_Wtp_Wtp) f218 sb_Wtp_Wtp), (by omega)⟩
                      · intro h221; exfalso; omega
                    · intro h214
                      refine wp_al1 jF_54_154 rfl rfl (pc2 := 155) ?_
                      refine wp_gi jF_54_155 kd10 (by decide) rfl rfl rfl (pc2 := 158) ?_
                      refine wp_il1 jF_54_158 rfl rfl (pc2 := 159) ?_
                      refine wp_i_le jF_54_159 (m_rgb b213 rfl) ⟨by omega, by omega⟩ rfl (pc2 := 162) ?_ ?_
                      · intro h223
                        refine wp_ic jF_54_174 rfl (pc2 := 175) ?_
                        refine wp_go jF_54_175 ?_
                        refine wp_ri jF_54_179 rfl ?_
                        exact ⟨1, rfl, ⟨by omega, by omega⟩, g211, (FR.up (FR.up (FR.w (FR.w (FR.w f5 f187 rfl) f191 rfl) f195 rfl) f202 sb_Wtp_Wtp) f212 sb_Wtp_Wtp), (by omega)⟩
                      · intro h223
                        refine wp_al1 jF_54_162 rfl rfl (pc2 := 163) ?_
                        refine wp_ic jF_54_163 rfl (pc2 := 164) ?_
                        refine wp_al1 jF_54_164 rfl rfl (pc2 := 165) ?_
                        have b224 := GI.b g211 10 5 kd10 (lo := 0) (hi := 1600) rfl
                        refine wp_gi jF_54_165 kd10 (by decide) rfl rfl rfl (pc2 := 168) ?_
                        refine wp_cV (as := [iV 2, iV (τ210.1 10 5)]) (rest := []) (a := 10) (mx := 3) (ci := 6) jF_54_168 kd10 (by decide) rfl rfl rfl rfl rfl (by omega) (by omega) rfl (pc2 := 171) ?_
                        refine wp_use (m_42_r10 τ210 g211 2 (by omega) (by omega) (τ210.1 10 5) (by omega) (by omega)  _ _ (by omega) (by omega)) ?_
                        rintro _ τ225 ⟨z228, rfl, h229, g226, f227⟩
                        show WP 54 171 [(0, .ref 10), (1, iV least), (2, iV most)] [iV z228] _ _ _ _
                        refine wp_z_eq jF_54_171 (m_rgb h229 rfl) rfl (pc2 := 174) ?_ ?_
                        · intro h230
                          refine wp_ic jF_54_178 rfl (pc2 := 179) ?_
                          refine wp_ri jF_54_179 rfl ?_
                          have b231 := GI.b g226 10 8 kd10 (lo := (-2147483648)) (hi := 2147483647) rfl
                          exact ⟨0, rfl, ⟨by omega, by omega⟩, g226, (FR.up (FR.up (FR.up (FR.w (FR.w (FR.w f5 f187 rfl) f191 rfl) f195 rfl) f202 sb_Wtp_Wtp) f212 sb_Wtp_Wtp) f227 sb_Wtp_Wtp), (by omega)⟩
                        · intro h230; exfalso; omega
                  · intro h209
                    refine wp_al1 jF_54_130 rfl rfl (pc2 := 131) ?_
                    refine wp_ic jF_54_131 rfl (pc2 := 132) ?_
                    refine wp_al1 jF_54_132 rfl rfl (pc2 := 133) ?_
                    refine wp_gi jF_54_133 kd10 (by decide) rfl rfl rfl (pc2 := 136) ?_
                    refine wp_ic jF_54_136 rfl (pc2 := 137) ?_
                    refine wp_add jF_54_137 rfl (pc2 := 138) ?_
                    refine wp_cV (as := [iV 1, iV ((τ200.1 10 5) + 4)]) (rest := []) (a := 10) (mx := 3) (ci := 6) jF_54_138 kd10 (by decide) rfl rfl rfl rfl rfl (by omega) (by omega) rfl (pc2 := 141) ?_
                    refine wp_use (m_42_r10 τ200 g201 1 (by omega) (by omega) ((τ200.1 10 5) + 4) (by omega) (by omega)  _ _ (by omega) (by omega)) ?_
                    rintro _ τ232 ⟨z235, rfl, h236, g233, f234⟩
                    show WP 54 141 [(0, .ref 10), (1, iV least), (2, iV most)] [iV z235] _ _ _ _
                    refine wp_ri jF_54_141 (m_fitb (by omega) (by omega)) ?_
                    have b237 := GI.b g233 10 8 kd10 (lo := (-2147483648)) (hi := 2147483647) rfl
                    exact ⟨z235, rfl, ⟨by omega, by omega⟩, g233, (FR.up (FR.up (FR.w (FR.w (FR.w f5 f187 rfl) f191 rfl) f195 rfl) f202 sb_Wtp_Wtp) f234 sb_Wtp_Wtp), (by omega)⟩
                · intro h208
                  refine wp_al1 jF_54_62 rfl rfl (pc2 := 63) ?_
                  refine wp_al1 jF_54_63 rfl rfl (pc2 := 64) ?_
                  refine wp_gi jF_54_64 kd10 (by decide) rfl rfl rfl (pc2 := 67) ?_
                  refine wp_al1 jF_54_67 rfl rfl (pc2 := 68) ?_
                  refine wp_gi jF_54_68 kd10 (by decide) rfl rfl rfl (pc2 := 71) ?_
                  refine wp_add jF_54_71 rfl (pc2 := 72) ?_
                  refine wp_cV (as := [iV ((τ200.1 10 5) + (τ200.1 10 6))]) (rest := []) (a := 10) (mx := 2) (ci := 6) jF_54_72 kd10 (by decide) rfl rfl rfl rfl rfl (by omega) (by omega) rfl (pc2 := 75) ?_
                  have q238 : (τ200.1 10 1) = (σ.1 10 1) := ((FR.at f202 10 1 rfl).trans ((FRw.nj f195 (by decide)).trans ((FRw.nj f191 (by decide)).trans ((FRw.nj f187 (by decide)).trans (FR.at f5 10 1 rfl)))))
                  refine wp_use (m_39_r10 τ200 g201 ((τ200.1 10 5) + (τ200.1 10 6)) (by omega) (by omega)  _ _ (by omega) (by omega)) ?_
                  rintro _ _ ⟨z243, rfl, h244, rfl, p239, p240⟩
                  show WP 54 75 [(0, .ref 10), (1, iV least), (2, iV most)] [iV z243] _ _ _ _
                  refine wp_cS (as := [iV z243]) (rest := []) (mx := 1) jF_54_75 rfl rfl rfl rfl (by omega) (by omega) rfl (pc2 := 78) ?_
                  show WP 40 0 [(0, iV z243)] [] _ _ _ _
                  refine wp_il1 jF_40_0 rfl rfl (pc2 := 1) ?_
                  refine wp_bi jF_40_1 (by decide) rfl (pc2 := 3) ?_
                  refine wp_i_lt jF_40_3 (m_rgb h244 rfl) (m_rgl rfl) rfl (pc2 := 6) ?_ ?_
                  · intro h245
                    refine wp_ic jF_40_16 rfl (pc2 := 17) ?_
                    refine wp_ri jF_40_17 rfl ?_
                    show WP 54 78 [(0, .ref 10), (1, iV least), (2, iV most)] [iV 0] _ _ _ _
                    refine wp_z_eq jF_54_78 (m_rgl rfl) rfl (pc2 := 81) ?_ ?_
                    · intro h246
                      refine wp_al1 jF_54_122 rfl rfl (pc2 := 123) ?_
                      refine wp_gi jF_54_123 kd10 (by decide) rfl rfl rfl (pc2 := 126) ?_
                      refine wp_ic jF_54_126 rfl (pc2 := 127) ?_
                      refine wp_i_le jF_54_127 (m_rgb b207 rfl) (m_rgl rfl) rfl (pc2 := 130) ?_ ?_
                      · intro h247
                        refine wp_al1 jF_54_142 rfl rfl (pc2 := 143) ?_
                        refine wp_cV (as := []) (rest := []) (a := 10) (mx := 1) (ci := 6) jF_54_143 kd10 (by decide) rfl rfl rfl rfl rfl (by omega) (by omega) rfl (pc2 := 146) ?_
                        refine wp_use (m_45_r10 τ200 g201  (by omega) _ _ (by omega) (by omega)) ?_
                        rintro _ τ248 ⟨rfl, g249, f250⟩
                        show WP 54 146 [(0, .ref 10), (1, iV least), (2, iV most)] [] _ _ _ _
                        refine wp_al1 jF_54_146 rfl rfl (pc2 := 147) ?_
                        have b251 := GI.b g249 10 8 kd10 (lo := (-2147483648)) (hi := 2147483647) rfl
                        refine wp_gi jF_54_147 kd10 (by decide) rfl rfl rfl (pc2 := 150) ?_
                        refine wp_il1 jF_54_150 rfl rfl (pc2 := 151) ?_
                        refine wp_i_lt jF_54_151 (m_rgb b251 rfl) ⟨by omega, by omega⟩ rfl (pc2 := 154) ?_ ?_
                        · intro h252
                          refine wp_al1 jF_54_162 rfl rfl (pc2 := 163) ?_
                          refine wp_ic jF_54_163 rfl (pc2 := 164) ?_
                          refine wp_al1 jF_54_164 rfl rfl (pc2 := 165) ?_
                          have b253 := GI.b g249 10 5 kd10 (lo := 0) (hi := 1600) rfl
                          refine wp_gi jF_54_165 kd10 (by decide) rfl rfl rfl (pc2 := 168) ?_
                          refine wp_cV (as := [iV 2, iV (τ248.1 10 5)]) (rest := []) (a := 10) (mx := 3) (ci := 6) jF_54_168 kd10 (by decide) rfl rfl rfl rfl rfl (by omega) (by omega) rfl (pc2 := 171) ?_
                          refine wp_use (m_42_r10 τ248 g249 2 (by omega) (by omega) (τ248.1 10 5) (by omega) (by omega)  _ _ (by omega) (by omega)) ?_
                          rintro _ τ254 ⟨z257, rfl, h258, g255, f256⟩
                          show WP 54 171 [(0, .ref 10), (1, iV least), (2, iV most)] [iV z257] _ _ _ _
                          refine wp_z_eq jF_54_171 (m_rgb h258 rfl) rfl (pc2 := 174) ?_ ?_
                          · intro h259
                            refine wp_ic jF_54_178 rfl (pc2 := 179) ?_
                            refine wp_ri jF_54_179 rfl ?_
                            have b260 := GI.b g255 10 8 kd10 (lo := (-2147483648)) (hi := 2147483647) rfl
                            exact ⟨0, rfl, ⟨by omega, by omega⟩, g255, (FR.up (FR.up (FR.up (FR.w (FR.w (FR.w f5 f187 rfl) f191 rfl) f195 rfl) f202 sb_Wtp_Wtp) f250 sb_Wtp_Wtp) f256 sb_Wtp_Wtp), (by omega)⟩
                          · intro h259; exfalso; omega
                        · intro h252
                          refine wp_al1 jF_54_154 rfl rfl (pc2 := 155) ?_
                          refine wp_gi jF_54_155 kd10 (by decide) rfl rfl rfl (pc2 := 158) ?_
                          refine wp_il1 jF_54_158 rfl rfl (pc2 := 159) ?_
                          refine wp_i_le jF_54_159 (m_rgb b251 rfl) ⟨by omega, by omega⟩ rfl (pc2 := 162) ?_ ?_
                          · intro h261
                            refine wp_ic jF_54_174 rfl (pc2 := 175) ?_
                            refine wp_go jF_54_175 ?_
                            refine wp_ri jF_54_179 rfl ?_
                            exact ⟨1, rfl, ⟨by omega, by omega⟩, g249, (FR.up (FR.up (FR.w (FR.w (FR.w f5 f187 rfl) f191 rfl) f195 rfl) f202 sb_Wtp_Wtp) f250 sb_Wtp_Wtp), (by omega)⟩
                          · intro h261
                            refine wp_al1 jF_54_162 rfl rfl (pc2 := 163) ?_
                            refine wp_ic jF_54_163 rfl (pc2 := 164) ?_
                            refine wp_al1 jF_54_164 rfl rfl (pc2 := 165) ?_
                            have b262 := GI.b g249 10 5 kd10 (lo := 0) (hi := 1600) rfl
                            refine wp_gi jF_54_165 kd10 (by decide) rfl rfl rfl (pc2 := 168) ?_
                            refine wp_cV (as := [iV 2, iV (τ248.1 10 5)]) (rest := []) (a := 10) (mx := 3) (ci := 6) jF_54_168 kd10 (by decide) rfl rfl rfl rfl rfl (by omega) (by omega) rfl (pc2 := 171) ?_
                            refine wp_use (m_42_r10 τ248 g249 2 (by omega) (by omega) (τ248.1 10 5) (by omega) (by omega)  _ _ (by omega) (by omega)) ?_
                            rintro _ τ263 ⟨z266, rfl, h267, g264, f265⟩
                            show WP 54 171 [(0, .ref 10), (1, iV least), (2, iV most)] [iV z266] _ _ _ _
                            refine wp_z_eq jF_54_171 (m_rgb h267 rfl) rfl (pc2 := 174) ?_ ?_
                            · intro h268
                              refine wp_ic jF_54_178 rfl (pc2 := 179) ?_
                              refine wp_ri jF_54_179 rfl ?_
                              have b269 := GI.b g264 10 8 kd10 (lo := (-2147483648)) (hi := 2147483647) rfl
                              exact ⟨0, rfl, ⟨by omega, by omega⟩, g264, (FR.up (FR.up (FR.up (FR.w (FR.w (FR.w f5 f187 rfl) f191 rfl) f195 rfl) f202 sb_Wtp_Wtp) f250 sb_Wtp_Wtp) f265 sb_Wtp_Wtp), (by omega)⟩
                            · intro h268; exfalso; omega
                      · intro h247
                        refine wp_al1 jF_54_130 rfl rfl (pc2 := 131) ?_
                        refine wp_ic jF_54_131 rfl (pc2 := 132) ?_
                        refine wp_al1 jF_54_132 rfl rfl (pc2 := 133) ?_
                        refine wp_gi jF_54_133 kd10 (by decide) rfl rfl rfl (pc2 := 136) ?_
                        refine wp_ic jF_54_136 rfl (pc2 := 137) ?_
                        refine wp_add jF_54_137 rfl (pc2 := 138) ?_
                        refine wp_cV (as := [iV 1, iV ((τ200.1 10 5) + 4)]) (rest := []) (a := 10) (mx := 3) (ci := 6) jF_54_138 kd10 (by decide) rfl rfl rfl rfl rfl (by omega) (by omega) rfl (pc2 := 141) ?_
                        refine wp_use (m_42_r10 τ200 g201 1 (by omega) (by omega) ((τ200.1 10 5) + 4) (by omega) (by omega)  _ _ (by omega) (by omega)) ?_
                        rintro _ τ270 ⟨z273, rfl, h274, g271, f272⟩
                        show WP 54 141 [(0, .ref 10), (1, iV least), (2, iV most)] [iV z273] _ _ _ _
                        refine wp_ri jF_54_141 (m_fitb (by omega) (by omega)) ?_
                        have b275 := GI.b g271 10 8 kd10 (lo := (-2147483648)) (hi := 2147483647) rfl
                        exact ⟨z273, rfl, ⟨by omega, by omega⟩, g271, (FR.up (FR.up (FR.w (FR.w (FR.w f5 f187 rfl) f191 rfl) f195 rfl) f202 sb_Wtp_Wtp) f272 sb_Wtp_Wtp), (by omega)⟩
                    · intro h246; exfalso; omega
                  · intro h245
                    replace p239 := p239 (by omega)
                    refine wp_il1 jF_40_6 rfl rfl (pc2 := 7) ?_
                    refine wp_bi jF_40_7 (by decide) rfl (pc2 := 9) ?_
                    refine wp_i_gt jF_40_9 ⟨by omega, by omega⟩ (m_rgl rfl) rfl (pc2 := 12) ?_ ?_
                    · intro h276
                      refine wp_ic jF_40_16 rfl (pc2 := 17) ?_
                      refine wp_ri jF_40_17 rfl ?_
                      show WP 54 78 [(0, .ref 10), (1, iV least), (2, iV most)] [iV 0] _ _ _ _
                      refine wp_z_eq jF_54_78 (m_rgl rfl) rfl (pc2 := 81) ?_ ?_
                      · intro h277
                        refine wp_al1 jF_54_122 rfl rfl (pc2 := 123) ?_
                        refine wp_gi jF_54_123 kd10 (by decide) rfl rfl rfl (pc2 := 126) ?_
                        refine wp_ic jF_54_126 rfl (pc2 := 127) ?_
                        refine wp_i_le jF_54_127 (m_rgb b207 rfl) (m_rgl rfl) rfl (pc2 := 130) ?_ ?_
                        · intro h278
                          refine wp_al1 jF_54_142 rfl rfl (pc2 := 143) ?_
                          refine wp_cV (as := []) (rest := []) (a := 10) (mx := 1) (ci := 6) jF_54_143 kd10 (by decide) rfl rfl rfl rfl rfl (by omega) (by omega) rfl (pc2 := 146) ?_
                          refine wp_use (m_45_r10 τ200 g201  (by omega) _ _ (by omega) (by omega)) ?_
                          rintro _ τ279 ⟨rfl, g280, f281⟩
                          show WP 54 146 [(0, .ref 10), (1, iV least), (2, iV most)] [] _ _ _ _
                          refine wp_al1 jF_54_146 rfl rfl (pc2 := 147) ?_
                          have b282 := GI.b g280 10 8 kd10 (lo := (-2147483648)) (hi := 2147483647) rfl
                          refine wp_gi jF_54_147 kd10 (by decide) rfl rfl rfl (pc2 := 150) ?_
                          refine wp_il1 jF_54_150 rfl rfl (pc2 := 151) ?_
                          refine wp_i_lt jF_54_151 (m_rgb b282 rfl) ⟨by omega, by omega⟩ rfl (pc2 := 154) ?_ ?_
                          · intro h283
                            refine wp_al1 jF_54_162 rfl rfl (pc2 := 163) ?_
                            refine wp_ic jF_54_163 rfl (pc2 := 164) ?_
                            refine wp_al1 jF_54_164 rfl rfl (pc2 := 165) ?_
                            have b284 := GI.b g280 10 5 kd10 (lo := 0) (hi := 1600) rfl
                            refine wp_gi jF_54_165 kd10 (by decide) rfl rfl rfl (pc2 := 168) ?_
                            refine wp_cV (as := [iV 2, iV (τ279.1 10 5)]) (rest := []) (a := 10) (mx := 3) (ci := 6) jF_54_168 kd10 (by decide) rfl rfl rfl rfl rfl (by omega) (by omega) rfl (pc2 := 171) ?_
                            refine wp_use (m_42_r10 τ279 g280 2 (by omega) (by omega) (τ279.1 10 5) (by omega) (by omega)  _ _ (by omega) (by omega)) ?_
                            rintro _ τ285 ⟨z288, rfl, h289, g286, f287⟩
                            show WP 54 171 [(0, .ref 10), (1, iV least), (2, iV most)] [iV z288] _ _ _ _
                            refine wp_z_eq jF_54_171 (m_rgb h289 rfl) rfl (pc2 := 174) ?_ ?_
                            · intro h290
                              refine wp_ic jF_54_178 rfl (pc2 := 179) ?_
                              refine wp_ri jF_54_179 rfl ?_
                              have b291 := GI.b g286 10 8 kd10 (lo := (-2147483648)) (hi := 2147483647) rfl
                              exact ⟨0, rfl, ⟨by omega, by omega⟩, g286, (FR.up (FR.up (FR.up (FR.w (FR.w (FR.w f5 f187 rfl) f191 rfl) f195 rfl) f202 sb_Wtp_Wtp) f281 sb_Wtp_Wtp) f287 sb_Wtp_Wtp), (by omega)⟩
                            · intro h290; exfalso; omega
                          · intro h283
                            refine wp_al1 jF_54_154 rfl rfl (pc2 := 155) ?_
                            refine wp_gi jF_54_155 kd10 (by decide) rfl rfl rfl (pc2 := 158) ?_
                            refine wp_il1 jF_54_158 rfl rfl (pc2 := 159) ?_
                            refine wp_i_le jF_54_159 (m_rgb b282 rfl) ⟨by omega, by omega⟩ rfl (pc2 := 162) ?_ ?_
                            · intro h292
                              refine wp_ic jF_54_174 rfl (pc2 := 175) ?_
                              refine wp_go jF_54_175 ?_
                              refine wp_ri jF_54_179 rfl ?_
                              exact ⟨1, rfl, ⟨by omega, by omega⟩, g280, (FR.up (FR.up (FR.w (FR.w (FR.w f5 f187 rfl) f191 rfl) f195 rfl) f202 sb_Wtp_Wtp) f281 sb_Wtp_Wtp), (by omega)⟩
                            · intro h292
                              refine wp_al1 jF_54_162 rfl rfl (pc2 := 163) ?_
                              refine wp_ic jF_54_163 rfl (pc2 := 164) ?_
                              refine wp_al1 jF_54_164 rfl rfl (pc2 := 165) ?_
                              have b293 := GI.b g280 10 5 kd10 (lo := 0) (hi := 1600) rfl
                              refine wp_gi jF_54_165 kd10 (by decide) rfl rfl rfl (pc2 := 168) ?_
                              refine wp_cV (as := [iV 2, iV (τ279.1 10 5)]) (rest := []) (a := 10) (mx := 3) (ci := 6) jF_54_168 kd10 (by decide) rfl rfl rfl rfl rfl (by omega) (by omega) rfl (pc2 := 171) ?_
                              refine wp_use (m_42_r10 τ279 g280 2 (by omega) (by omega) (τ279.1 10 5) (by omega) (by omega)  _ _ (by omega) (by omega)) ?_
                              rintro _ τ294 ⟨z297, rfl, h298, g295, f296⟩
                              show WP 54 171 [(0, .ref 10), (1, iV least), (2, iV most)] [iV z297] _ _ _ _
                              refine wp_z_eq jF_54_171 (m_rgb h298 rfl) rfl (pc2 := 174) ?_ ?_
                              · intro h299
                                refine wp_ic jF_54_178 rfl (pc2 := 179) ?_
                                refine wp_ri jF_54_179 rfl ?_
                                have b300 := GI.b g295 10 8 kd10 (lo := (-2147483648)) (hi := 2147483647) rfl
                                exact ⟨0, rfl, ⟨by omega, by omega⟩, g295, (FR.up (FR.up (FR.up (FR.w (FR.w (FR.w f5 f187 rfl) f191 rfl) f195 rfl) f202 sb_Wtp_Wtp) f281 sb_Wtp_Wtp) f296 sb_Wtp_Wtp), (by omega)⟩
                              · intro h299; exfalso; omega
                        · intro h278
                          refine wp_al1 jF_54_130 rfl rfl (pc2 := 131) ?_
                          refine wp_ic jF_54_131 rfl (pc2 := 132) ?_
                          refine wp_al1 jF_54_132 rfl rfl (pc2 := 133) ?_
                          refine wp_gi jF_54_133 kd10 (by decide) rfl rfl rfl (pc2 := 136) ?_
                          refine wp_ic jF_54_136 rfl (pc2 := 137) ?_
                          refine wp_add jF_54_137 rfl (pc2 := 138) ?_
                          refine wp_cV (as := [iV 1, iV ((τ200.1 10 5) + 4)]) (rest := []) (a := 10) (mx := 3) (ci := 6) jF_54_138 kd10 (by decide) rfl rfl rfl rfl rfl (by omega) (by omega) rfl (pc2 := 141) ?_
                          refine wp_use (m_42_r10 τ200 g201 1 (by omega) (by omega) ((τ200.1 10 5) + 4) (by omega) (by omega)  _ _ (by omega) (by omega)) ?_
                          rintro _ τ301 ⟨z304, rfl, h305, g302, f303⟩
                          show WP 54 141 [(0, .ref 10), (1, iV least), (2, iV most)] [iV z304] _ _ _ _
                          refine wp_ri jF_54_141 (m_fitb (by omega) (by omega)) ?_
                          have b306 := GI.b g302 10 8 kd10 (lo := (-2147483648)) (hi := 2147483647) rfl
                          exact ⟨z304, rfl, ⟨by omega, by omega⟩, g302, (FR.up (FR.up (FR.w (FR.w (FR.w f5 f187 rfl) f191 rfl) f195 rfl) f202 sb_Wtp_Wtp) f303 sb_Wtp_Wtp), (by omega)⟩
                      · intro h277; exfalso; omega
                    · intro h276
                      refine wp_ic jF_40_12 rfl (pc2 := 13) ?_
                      refine wp_go jF_40_13 ?_
                      refine wp_ri jF_40_17 rfl ?_
                      show WP 54 78 [(0, .ref 10), (1, iV least), (2, iV most)] [iV 1] _ _ _ _
                      refine wp_z_eq jF_54_78 (m_rgl rfl) rfl (pc2 := 81) ?_ ?_
                      · intro h307; exfalso; omega
                      · intro h307
                        refine wp_al1 jF_54_81 rfl rfl (pc2 := 82) ?_
                        refine wp_al1 jF_54_82 rfl rfl (pc2 := 83) ?_
                        have b308 := GI.b g201 10 8 kd10 (lo := (-2147483648)) (hi := 2147483647) rfl
                        refine wp_gi jF_54_83 kd10 (by decide) rfl rfl rfl (pc2 := 86) ?_
                        refine wp_bi jF_54_86 (by decide) rfl (pc2 := 88) ?_
                        refine wp_any2 (pc2 := 89) jF_54_88 rfl rfl ?_
                        intro z309 h310
                        refine wp_al1 jF_54_89 rfl rfl (pc2 := 90) ?_
                        refine wp_al1 jF_54_90 rfl rfl (pc2 := 91) ?_
                        refine wp_gi jF_54_91 kd10 (by decide) rfl rfl rfl (pc2 := 94) ?_
                        refine wp_al1 jF_54_94 rfl rfl (pc2 := 95) ?_
                        refine wp_gi jF_54_95 kd10 (by decide) rfl rfl rfl (pc2 := 98) ?_
                        refine wp_add jF_54_98 rfl (pc2 := 99) ?_
                        refine wp_cV (as := [iV ((τ200.1 10 5) + (τ200.1 10 6))]) (rest := [iV z309, .ref 10]) (a := 10) (mx := 2) (ci := 6) jF_54_99 kd10 (by decide) rfl rfl rfl rfl rfl (by omega) (by omega) rfl (pc2 := 102) ?_
                        refine wp_use (m_39_r10 τ200 g201 ((τ200.1 10 5) + (τ200.1 10 6)) (by omega) (by omega)  _ _ (by omega) (by omega)) ?_
                        rintro _ _ ⟨z315, rfl, h316, rfl, p311, p312⟩
                        show WP 54 102 [(0, .ref 10), (1, iV least), (2, iV most)] [iV z315, iV z309, .ref 10] _ _ _ _
                        refine wp_any2 (pc2 := 103) jF_54_102 rfl rfl ?_
                        intro z317 h318
                        refine wp_bi jF_54_103 (by decide) rfl (pc2 := 105) ?_
                        refine wp_any2 (pc2 := 106) jF_54_105 rfl rfl ?_
                        intro z319 h320
                        refine wp_pi jF_54_106 kd10 (by decide) rfl rfl rfl (pc2 := 109) g201 (lo := (-2147483648)) (hi := 2147483647) rfl (by omega) (by omega) ?_
                        intro τ321 g322 f323 e324
                        refine wp_al1 jF_54_109 rfl rfl (pc2 := 110) ?_
                        refine wp_dup jF_54_110 rfl rfl (pc2 := 111) ?_
                        refine wp_gi jF_54_111 kd10 (by decide) rfl (FRw.nj f323 (by decide)) rfl (pc2 := 114) ?_
                        refine wp_ic jF_54_114 rfl (pc2 := 115) ?_
                        refine wp_add jF_54_115 rfl (pc2 := 116) ?_
                        refine wp_pi jF_54_116 kd10 (by decide) rfl rfl rfl (pc2 := 119) g322 (lo := 0) (hi := 1600) rfl (by omega) (by omega) ?_
                        intro τ325 g326 f327 e328
                        refine wp_go jF_54_119 ?_
                        have q329 : (τ325.1 10 5) = (τ200.1 10 5) := ((FRw.nj f327 (by decide)).trans (FRw.nj f323 (by decide)))
                        have q330 : (τ325.1 10 6) = ((τ200.1 10 6) + 1) := e328
                        exact ih205 () τ325 ⟨g326, (FR.w (FR.w f202 f323 rfl) f327 rfl), (by omega), (by omega)⟩ (by show Int.toNat (6 - (τ325.1 10 6)) < Int.toNat (6 - (τ200.1 10 6)); omega)
            · intro h184; exfalso; omega
          · intro h183
            refine wp_ic jF_38_12 rfl (pc2 := 13) ?_
            refine wp_go jF_38_13 ?_
            refine wp_ri jF_38_17 rfl ?_
            show WP 54 23 [(0, .ref 10), (1, iV least), (2, iV most)] [iV 1] _ _ _ _
            refine wp_z_eq jF_54_23 (m_rgl rfl) rfl (pc2 := 26) ?_ ?_
            · intro h331; exfalso; omega
            · intro h331
              refine wp_al1 jF_54_26 rfl rfl (pc2 := 27) ?_
              refine wp_ic jF_54_27 rfl (pc2 := 28) ?_
              refine wp_al1 jF_54_28 rfl rfl (pc2 := 29) ?_
              refine wp_gi jF_54_29 kd10 (by decide) rfl rfl rfl (pc2 := 32) ?_
              refine wp_cV (as := [iV 1, iV (τ3.1 10 2)]) (rest := []) (a := 10) (mx := 3) (ci := 6) jF_54_32 kd10 (by decide) rfl rfl rfl rfl rfl (by omega) (by omega) rfl (pc2 := 35) ?_
              refine wp_use (m_42_r10 τ3 g4 1 (by omega) (by omega) (τ3.1 10 2) (by omega) (by omega)  _ _ (by omega) (by omega)) ?_
              rintro _ τ332 ⟨z335, rfl, h336, g333, f334⟩
              show WP 54 35 [(0, .ref 10), (1, iV least), (2, iV most)] [iV z335] _ _ _ _
              refine wp_ri jF_54_35 (m_fitb (by omega) (by omega)) ?_
              have b337 := GI.b g333 10 8 kd10 (lo := (-2147483648)) (hi := 2147483647) rfl
              exact ⟨z335, rfl, ⟨by omega, by omega⟩, g333, (FR.up f5 f334 sb_Wtp_Wtp), (by omega)⟩
