set_option maxHeartbeats 4000000 in
set_option maxRecDepth 20000 in
/-- M.number -/
theorem m_230 (σ : jM) (hg : GI σ) (least : Int) (hl_least : 0 ≤ least) (hu_least : least ≤ 1) (most : Int) (hl_most : 1 ≤ most) (hu_most : most ≤ 9999)  (fr lo : Nat) (hfr : 1 ≤ fr) (hlo : 25 ≤ lo) : WP 230 0 (lv_args 0 [.ref 117, iV least, iV most]) [] fr lo σ (fun v τ => ∃ z : Int, v = some (iV z) ∧ ((-2147483648) ≤ z ∧ z ≤ 2147483647) ∧ GI τ ∧ FR Wask σ τ ∧ ((σ.1 117 2) ≤ (τ.1 117 2)) ∧ ((σ.1 117 5) ≠ 0 → (τ.1 117 5) = (σ.1 117 5)) ∧ ((τ.1 117 5) = 0 → ((σ.1 117 5) = 0 ∧ (σ.1 117 2) < (τ.1 117 2) ∧ (τ.1 117 2) ≤ (σ.1 117 3) ∧ least ≤ z ∧ z ≤ most))) := by
  show WP 230 0 [(0, .ref 117), (1, iV least), (2, iV most)] [] _ _ _ _
  refine wp_al1 jF_230_0 rfl rfl (pc2 := 1) ?_
  have b1 := GI.b hg 117 5 kd117 (lo := (-2147483648)) (hi := 2147483647) rfl
  refine wp_gi jF_230_1 kd117 (by decide) rfl rfl rfl (pc2 := 4) ?_
  refine wp_z_eq jF_230_4 (m_rgb b1 rfl) rfl (pc2 := 7) ?_ ?_
  · intro h2
    refine wp_al1 jF_230_9 rfl rfl (pc2 := 10) ?_
    refine wp_cV (as := []) (rest := []) (a := 117) (mx := 1) (ci := 12) jF_230_10 kd117 (by decide) rfl rfl rfl rfl rfl (by omega) (by omega) rfl (pc2 := 13) ?_
    have b3 := GI.b hg 117 2 kd117 (lo := 0) (hi := 1601) rfl
    have b4 := GI.b hg 117 3 kd117 (lo := 0) (hi := 1600) rfl
    refine wp_use (m_216 σ hg   _ _ (by omega) (by omega)) ?_
    rintro _ τ11 ⟨z14, rfl, h15, g12, f13, p5, p6, p7, p8, p9, p10⟩
    have b16 := GI.b hg 118 (τ11.1 117 2).toNat kd118 (lo := 0) (hi := 255) rfl
    show WP 230 13 [(0, .ref 117), (1, iV least), (2, iV most)] [iV z14] _ _ _ _
    refine wp_cS (as := [iV z14]) (rest := []) (mx := 1) jF_230_13 rfl rfl rfl rfl (by omega) (by omega) rfl (pc2 := 16) ?_
    show WP 231 0 [(0, iV z14)] [] _ _ _ _
    refine wp_il1 jF_231_0 rfl rfl (pc2 := 1) ?_
    refine wp_bi jF_231_1 (by decide) rfl (pc2 := 3) ?_
    refine wp_i_lt jF_231_3 (m_rgb h15 rfl) (m_rgl rfl) rfl (pc2 := 6) ?_ ?_
    · intro h17
      refine wp_ic jF_231_16 rfl (pc2 := 17) ?_
      refine wp_ri jF_231_17 rfl ?_
      show WP 230 16 [(0, .ref 117), (1, iV least), (2, iV most)] [iV 0] _ _ _ _
      refine wp_z_eq jF_230_16 (m_rgl rfl) rfl (pc2 := 19) ?_ ?_
      · intro h18
        refine wp_al1 jF_230_30 rfl rfl (pc2 := 31) ?_
        refine wp_ic jF_230_31 rfl (pc2 := 32) ?_
        refine wp_al1 jF_230_32 rfl rfl (pc2 := 33) ?_
        have b19 := GI.b g12 117 2 kd117 (lo := 0) (hi := 1601) rfl
        refine wp_gi jF_230_33 kd117 (by decide) rfl rfl rfl (pc2 := 36) ?_
        refine wp_cV (as := [iV 1, iV (τ11.1 117 2)]) (rest := []) (a := 117) (mx := 3) (ci := 12) jF_230_36 kd117 (by decide) rfl rfl rfl rfl rfl (by omega) (by omega) rfl (pc2 := 39) ?_
        have q20 : (τ11.1 117 5) = (σ.1 117 5) := (FR.at f13 117 5 rfl)
        refine wp_use (m_218 τ11 g12 1 (by omega) (by omega) (τ11.1 117 2) (by omega) (by omega)  _ _ (by omega) (by omega)) ?_
        rintro _ τ23 ⟨rfl, g24, f25, p21, p22⟩
        clear p21
        replace p22 := p22 (by omega)
        show WP 230 39 [(0, .ref 117), (1, iV least), (2, iV most)] [] _ _ _ _
        refine wp_ic jF_230_39 rfl (pc2 := 40) ?_
        refine wp_ri jF_230_40 rfl ?_
        have q26 : (τ23.1 117 2) = (τ11.1 117 2) := (FR.at f25 117 2 rfl)
        have b27 := GI.b g24 117 5 kd117 (lo := (-2147483648)) (hi := 2147483647) rfl
        exact ⟨0, rfl, ⟨by omega, by omega⟩, g24, (FR.up (FR.up FR.rf f13 sb_Wat_Wask) f25 sb_Wbad_Wask), (by omega), (by omega), (by omega)⟩
      · intro h18; exfalso; omega
    · intro h17
      replace p5 := p5 (by omega)
      replace p10 := p10 (by omega)
      refine wp_il1 jF_231_6 rfl rfl (pc2 := 7) ?_
      refine wp_bi jF_231_7 (by decide) rfl (pc2 := 9) ?_
      refine wp_i_gt jF_231_9 ⟨by omega, by omega⟩ (m_rgl rfl) rfl (pc2 := 12) ?_ ?_
      · intro h28
        refine wp_ic jF_231_16 rfl (pc2 := 17) ?_
        refine wp_ri jF_231_17 rfl ?_
        show WP 230 16 [(0, .ref 117), (1, iV least), (2, iV most)] [iV 0] _ _ _ _
        refine wp_z_eq jF_230_16 (m_rgl rfl) rfl (pc2 := 19) ?_ ?_
        · intro h29
          refine wp_al1 jF_230_30 rfl rfl (pc2 := 31) ?_
          refine wp_ic jF_230_31 rfl (pc2 := 32) ?_
          refine wp_al1 jF_230_32 rfl rfl (pc2 := 33) ?_
          have b30 := GI.b g12 117 2 kd117 (lo := 0) (hi := 1601) rfl
          refine wp_gi jF_230_33 kd117 (by decide) rfl rfl rfl (pc2 := 36) ?_
          refine wp_cV (as := [iV 1, iV (τ11.1 117 2)]) (rest := []) (a := 117) (mx := 3) (ci := 12) jF_230_36 kd117 (by decide) rfl rfl rfl rfl rfl (by omega) (by omega) rfl (pc2 := 39) ?_
          have q31 : (τ11.1 117 5) = (σ.1 117 5) := (FR.at f13 117 5 rfl)
          refine wp_use (m_218 τ11 g12 1 (by omega) (by omega) (τ11.1 117 2) (by omega) (by omega)  _ _ (by omega) (by omega)) ?_
          rintro _ τ34 ⟨rfl, g35, f36, p32, p33⟩
          clear p32
          replace p33 := p33 (by omega)
          show WP 230 39 [(0, .ref 117), (1, iV least), (2, iV most)] [] _ _ _ _
          refine wp_ic jF_230_39 rfl (pc2 := 40) ?_
          refine wp_ri jF_230_40 rfl ?_
          have q37 : (τ34.1 117 2) = (τ11.1 117 2) := (FR.at f36 117 2 rfl)
          have b38 := GI.b g35 117 5 kd117 (lo := (-2147483648)) (hi := 2147483647) rfl
          exact ⟨0, rfl, ⟨by omega, by omega⟩, g35, (FR.up (FR.up FR.rf f13 sb_Wat_Wask) f36 sb_Wbad_Wask), (by omega), (by omega), (by omega)⟩
        · intro h29; exfalso; omega
      · intro h28
        refine wp_ic jF_231_12 rfl (pc2 := 13) ?_
        refine wp_go jF_231_13 ?_
        refine wp_ri jF_231_17 rfl ?_
        show WP 230 16 [(0, .ref 117), (1, iV least), (2, iV most)] [iV 1] _ _ _ _
        refine wp_z_eq jF_230_16 (m_rgl rfl) rfl (pc2 := 19) ?_ ?_
        · intro h39; exfalso; omega
        · intro h39
          refine wp_al1 jF_230_19 rfl rfl (pc2 := 20) ?_
          have b40 := GI.b g12 117 2 kd117 (lo := 0) (hi := 1601) rfl
          refine wp_gi jF_230_20 kd117 (by decide) rfl rfl rfl (pc2 := 23) ?_
          refine wp_al1 jF_230_23 rfl rfl (pc2 := 24) ?_
          have b41 := GI.b hg 117 4 kd117 (lo := (-2147483648)) (hi := 2147483647) rfl
          refine wp_gi jF_230_24 kd117 (by decide) rfl (FR.at f13 117 4 rfl) rfl (pc2 := 27) ?_
          refine wp_i_ne jF_230_27 (m_rgb b40 rfl) (m_rgb b41 rfl) rfl (pc2 := 30) ?_ ?_
          · intro h42
            refine wp_al1 jF_230_41 rfl rfl (pc2 := 42) ?_
            refine wp_gi jF_230_42 kd117 (by decide) rfl rfl rfl (pc2 := 45) ?_
            refine wp_is1 (lv2 := [(0, .ref 117), (1, iV least), (2, iV most), (3, iV (τ11.1 117 2))]) jF_230_45 rfl rfl rfl (pc2 := 46) ?_
            refine wp_ic jF_230_46 rfl (pc2 := 47) ?_
            refine wp_is2 (lv2 := [(0, .ref 117), (1, iV least), (2, iV most), (3, iV (τ11.1 117 2)), (4, iV 0)]) jF_230_47 rfl rfl rfl (pc2 := 49) ?_
            refine wp_al1 jF_230_49 rfl rfl (pc2 := 50) ?_
            refine wp_gi jF_230_50 kd117 (by decide) rfl rfl rfl (pc2 := 53) ?_
            refine wp_al1 jF_230_53 rfl rfl (pc2 := 54) ?_
            refine wp_gi jF_230_54 kd117 (by decide) rfl (FR.at f13 117 3 rfl) rfl (pc2 := 57) ?_
            refine wp_i_ge jF_230_57 (m_rgb b40 rfl) (m_rgb b4 rfl) rfl (pc2 := 60) ?_ ?_
            · intro h43
              refine wp_al1 jF_230_129 rfl rfl (pc2 := 130) ?_
              refine wp_al1 jF_230_130 rfl rfl (pc2 := 131) ?_
              refine wp_gi jF_230_131 kd117 (by decide) rfl rfl rfl (pc2 := 134) ?_
              refine wp_pi jF_230_134 kd117 (by decide) rfl rfl rfl (pc2 := 137) g12 (lo := (-2147483648)) (hi := 2147483647) rfl (by omega) (by omega) ?_
              intro τ44 g45 f46 e47
              refine wp_il2 jF_230_137 rfl rfl (pc2 := 139) ?_
              refine wp_i2l jF_230_139 rfl (pc2 := 140) ?_
              refine wp_il1 jF_230_140 rfl rfl (pc2 := 141) ?_
              refine wp_i2l jF_230_141 rfl (pc2 := 142) ?_
              refine wp_il1 jF_230_142 rfl rfl (pc2 := 143) ?_
              refine wp_i2l jF_230_143 rfl (pc2 := 144) ?_
              refine wp_cS (as := [.long (Int32.toInt64 (Int32.ofInt 0)), .long (Int32.toInt64 (Int32.ofInt least)), .long (Int32.toInt64 (Int32.ofInt most))]) (rest := []) (mx := 6) jF_230_144 rfl rfl rfl rfl (by omega) (by omega) rfl (pc2 := 147) ?_
              show WP 232 0 [(0, .long (Int32.toInt64 (Int32.ofInt 0))), (2, .long (Int32.toInt64 (Int32.ofInt least))), (4, .long (Int32.toInt64 (Int32.ofInt most)))] [] _ _ _ _
              refine wp_ll1 jF_232_0 rfl rfl (pc2 := 1) ?_
              refine wp_ll1 jF_232_1 rfl rfl (pc2 := 2) ?_
              refine wp_lcmp2 (a := 0) (b := least) jF_232_2 (m_i2lt (m_rgl rfl)) (m_i2lt ⟨by omega, by omega⟩) rfl (pc2 := 3) ?_
              intro z48 h49
              refine wp_z_lt jF_232_3 ⟨by omega, by omega⟩ rfl (pc2 := 6) ?_ ?_
              · intro h50
                refine wp_ic jF_232_17 rfl (pc2 := 18) ?_
                refine wp_ri jF_232_18 rfl ?_
                show WP 230 147 [(0, .ref 117), (1, iV least), (2, iV most), (3, iV (τ11.1 117 2)), (4, iV 0)] [iV 0] _ _ _ _
                refine wp_z_ne jF_230_147 (m_rgl rfl) rfl (pc2 := 150) ?_ ?_
                · intro h51; exfalso; omega
                · intro h51
                  refine wp_al1 jF_230_150 rfl rfl (pc2 := 151) ?_
                  refine wp_ic jF_230_151 rfl (pc2 := 152) ?_
                  refine wp_il1 jF_230_152 rfl rfl (pc2 := 153) ?_
                  refine wp_cV (as := [iV 2, iV (τ11.1 117 2)]) (rest := []) (a := 117) (mx := 3) (ci := 12) jF_230_153 kd117 (by decide) rfl rfl rfl rfl rfl (by omega) (by omega) rfl (pc2 := 156) ?_
                  have q52 : (τ44.1 117 5) = (σ.1 117 5) := ((FRw.nj f46 (by decide)).trans (FR.at f13 117 5 rfl))
                  refine wp_use (m_218 τ44 g45 2 (by omega) (by omega) (τ11.1 117 2) (by omega) (by omega)  _ _ (by omega) (by omega)) ?_
                  rintro _ τ55 ⟨rfl, g56, f57, p53, p54⟩
                  clear p53
                  replace p54 := p54 (by omega)
                  show WP 230 156 [(0, .ref 117), (1, iV least), (2, iV most), (3, iV (τ11.1 117 2)), (4, iV 0)] [] _ _ _ _
                  refine wp_il2 jF_230_156 rfl rfl (pc2 := 158) ?_
                  refine wp_ri jF_230_158 rfl ?_
                  have q58 : (τ55.1 117 2) = (τ11.1 117 2) := ((FR.at f57 117 2 rfl).trans (FRw.nj f46 (by decide)))
                  have b59 := GI.b g56 117 5 kd117 (lo := (-2147483648)) (hi := 2147483647) rfl
                  exact ⟨0, rfl, ⟨by omega, by omega⟩, g56, (FR.up (FR.w (FR.up FR.rf f13 sb_Wat_Wask) f46 rfl) f57 sb_Wbad_Wask), (by omega), (by omega), (by omega)⟩
              · intro h50
                refine wp_ll1 jF_232_6 rfl rfl (pc2 := 7) ?_
                refine wp_ll2 jF_232_7 rfl rfl (pc2 := 9) ?_
                refine wp_lcmp2 (a := 0) (b := most) jF_232_9 (m_i2lt (m_rgl rfl)) (m_i2lt ⟨by omega, by omega⟩) rfl (pc2 := 10) ?_
                intro z60 h61
                refine wp_z_gt jF_232_10 ⟨by omega, by omega⟩ rfl (pc2 := 13) ?_ ?_
                · intro h62; exfalso; omega
                · intro h62
                  refine wp_ic jF_232_13 rfl (pc2 := 14) ?_
                  refine wp_go jF_232_14 ?_
                  refine wp_ri jF_232_18 rfl ?_
                  show WP 230 147 [(0, .ref 117), (1, iV least), (2, iV most), (3, iV (τ11.1 117 2)), (4, iV 0)] [iV 1] _ _ _ _
                  refine wp_z_ne jF_230_147 (m_rgl rfl) rfl (pc2 := 150) ?_ ?_
                  · intro h63
                    refine wp_il2 jF_230_156 rfl rfl (pc2 := 158) ?_
                    refine wp_ri jF_230_158 rfl ?_
                    have q64 : (τ44.1 117 2) = (τ11.1 117 2) := (FRw.nj f46 (by decide))
                    have q65 : (τ44.1 117 5) = (σ.1 117 5) := ((FRw.nj f46 (by decide)).trans (FR.at f13 117 5 rfl))
                    exact ⟨0, rfl, ⟨by omega, by omega⟩, g45, (FR.w (FR.up FR.rf f13 sb_Wat_Wask) f46 rfl), (by omega), (by omega), (by omega)⟩
                  · intro h63; exfalso; omega
            · intro h43
              refine wp_al1 jF_230_60 rfl rfl (pc2 := 61) ?_
              refine wp_gr (b := 118) jF_230_61 kd117 (by decide) (c := 218) rfl rfl rfl (pc2 := 64) ?_
              refine wp_al1 jF_230_64 rfl rfl (pc2 := 65) ?_
              refine wp_gi jF_230_65 kd117 (by decide) rfl rfl rfl (pc2 := 68) ?_
              have b66 := GI.b hg 118 (τ11.1 117 2).toNat kd118 (lo := 0) (hi := 255) rfl
              refine wp_iald (n := 1600) jF_230_68 kd118 (by decide) rfl rfl (by omega) (by omega) (FR.at f13 118 (τ11.1 117 2).toNat rfl) rfl (pc2 := 69) ?_
              refine wp_cS (as := [iV (σ.1 118 (τ11.1 117 2).toNat)]) (rest := []) (mx := 1) jF_230_69 rfl rfl rfl rfl (by omega) (by omega) rfl (pc2 := 72) ?_
              show WP 231 0 [(0, iV (σ.1 118 (τ11.1 117 2).toNat))] [] _ _ _ _
              refine wp_il1 jF_231_0 rfl rfl (pc2 := 1) ?_
              refine wp_bi jF_231_1 (by decide) rfl (pc2 := 3) ?_
              refine wp_i_lt jF_231_3 (m_rgb b66 rfl) (m_rgl rfl) rfl (pc2 := 6) ?_ ?_
              · intro h67
                refine wp_ic jF_231_16 rfl (pc2 := 17) ?_
                refine wp_ri jF_231_17 rfl ?_
                show WP 230 72 [(0, .ref 117), (1, iV least), (2, iV most), (3, iV (τ11.1 117 2)), (4, iV 0)] [iV 0] _ _ _ _
                refine wp_z_eq jF_230_72 (m_rgl rfl) rfl (pc2 := 75) ?_ ?_
                · intro h68
                  refine wp_al1 jF_230_129 rfl rfl (pc2 := 130) ?_
                  refine wp_al1 jF_230_130 rfl rfl (pc2 := 131) ?_
                  refine wp_gi jF_230_131 kd117 (by decide) rfl rfl rfl (pc2 := 134) ?_
                  refine wp_pi jF_230_134 kd117 (by decide) rfl rfl rfl (pc2 := 137) g12 (lo := (-2147483648)) (hi := 2147483647) rfl (by omega) (by omega) ?_
                  intro τ69 g70 f71 e72
                  refine wp_il2 jF_230_137 rfl rfl (pc2 := 139) ?_
                  refine wp_i2l jF_230_139 rfl (pc2 := 140) ?_
                  refine wp_il1 jF_230_140 rfl rfl (pc2 := 141) ?_
                  refine wp_i2l jF_230_141 rfl (pc2 := 142) ?_
                  refine wp_il1 jF_230_142 rfl rfl (pc2 := 143) ?_
                  refine wp_i2l jF_230_143 rfl (pc2 := 144) ?_
                  refine wp_cS (as := [.long (Int32.toInt64 (Int32.ofInt 0)), .long (Int32.toInt64 (Int32.ofInt least)), .long (Int32.toInt64 (Int32.ofInt most))]) (rest := []) (mx := 6) jF_230_144 rfl rfl rfl rfl (by omega) (by omega) rfl (pc2 := 147) ?_
                  show WP 232 0 [(0, .long (Int32.toInt64 (Int32.ofInt 0))), (2, .long (Int32.toInt64 (Int32.ofInt least))), (4, .long (Int32.toInt64 (Int32.ofInt most)))] [] _ _ _ _
                  refine wp_ll1 jF_232_0 rfl rfl (pc2 := 1) ?_
                  refine wp_ll1 jF_232_1 rfl rfl (pc2 := 2) ?_
                  refine wp_lcmp2 (a := 0) (b := least) jF_232_2 (m_i2lt (m_rgl rfl)) (m_i2lt ⟨by omega, by omega⟩) rfl (pc2 := 3) ?_
                  intro z73 h74
                  refine wp_z_lt jF_232_3 ⟨by omega, by omega⟩ rfl (pc2 := 6) ?_ ?_
                  · intro h75
                    refine wp_ic jF_232_17 rfl (pc2 := 18) ?_
                    refine wp_ri jF_232_18 rfl ?_
                    show WP 230 147 [(0, .ref 117), (1, iV least), (2, iV most), (3, iV (τ11.1 117 2)), (4, iV 0)] [iV 0] _ _ _ _
                    refine wp_z_ne jF_230_147 (m_rgl rfl) rfl (pc2 := 150) ?_ ?_
                    · intro h76; exfalso; omega
                    · intro h76
                      refine wp_al1 jF_230_150 rfl rfl (pc2 := 151) ?_
                      refine wp_ic jF_230_151 rfl (pc2 := 152) ?_
                      refine wp_il1 jF_230_152 rfl rfl (pc2 := 153) ?_
                      refine wp_cV (as := [iV 2, iV (τ11.1 117 2)]) (rest := []) (a := 117) (mx := 3) (ci := 12) jF_230_153 kd117 (by decide) rfl rfl rfl rfl rfl (by omega) (by omega) rfl (pc2 := 156) ?_
                      have q77 : (τ69.1 117 5) = (σ.1 117 5) := ((FRw.nj f71 (by decide)).trans (FR.at f13 117 5 rfl))
                      refine wp_use (m_218 τ69 g70 2 (by omega) (by omega) (τ11.1 117 2) (by omega) (by omega)  _ _ (by omega) (by omega)) ?_
                      rintro _ τ80 ⟨rfl, g81, f82, p78, p79⟩
                      clear p78
                      replace p79 := p79 (by omega)
                      show WP 230 156 [(0, .ref 117), (1, iV least), (2, iV most), (3, iV (τ11.1 117 2)), (4, iV 0)] [] _ _ _ _
                      refine wp_il2 jF_230_156 rfl rfl (pc2 := 158) ?_
                      refine wp_ri jF_230_158 rfl ?_
                      have q83 : (τ80.1 117 2) = (τ11.1 117 2) := ((FR.at f82 117 2 rfl).trans (FRw.nj f71 (by decide)))
                      have b84 := GI.b g81 117 5 kd117 (lo := (-2147483648)) (hi := 2147483647) rfl
                      exact ⟨0, rfl, ⟨by omega, by omega⟩, g81, (FR.up (FR.w (FR.up FR.rf f13 sb_Wat_Wask) f71 rfl) f82 sb_Wbad_Wask), (by omega), (by omega), (by omega)⟩
                  · intro h75
                    refine wp_ll1 jF_232_6 rfl rfl (pc2 := 7) ?_
                    refine wp_ll2 jF_232_7 rfl rfl (pc2 := 9) ?_
                    refine wp_lcmp2 (a := 0) (b := most) jF_232_9 (m_i2lt (m_rgl rfl)) (m_i2lt ⟨by omega, by omega⟩) rfl (pc2 := 10) ?_
                    intro z85 h86
                    refine wp_z_gt jF_232_10 ⟨by omega, by omega⟩ rfl (pc2 := 13) ?_ ?_
                    · intro h87; exfalso; omega
                    · intro h87
                      refine wp_ic jF_232_13 rfl (pc2 := 14) ?_
                      refine wp_go jF_232_14 ?_
                      refine wp_ri jF_232_18 rfl ?_
                      show WP 230 147 [(0, .ref 117), (1, iV least), (2, iV most), (3, iV (τ11.1 117 2)), (4, iV 0)] [iV 1] _ _ _ _
                      refine wp_z_ne jF_230_147 (m_rgl rfl) rfl (pc2 := 150) ?_ ?_
                      · intro h88
                        refine wp_il2 jF_230_156 rfl rfl (pc2 := 158) ?_
                        refine wp_ri jF_230_158 rfl ?_
                        have q89 : (τ69.1 117 2) = (τ11.1 117 2) := (FRw.nj f71 (by decide))
                        have q90 : (τ69.1 117 5) = (σ.1 117 5) := ((FRw.nj f71 (by decide)).trans (FR.at f13 117 5 rfl))
                        exact ⟨0, rfl, ⟨by omega, by omega⟩, g70, (FR.w (FR.up FR.rf f13 sb_Wat_Wask) f71 rfl), (by omega), (by omega), (by omega)⟩
                      · intro h88; exfalso; omega
                · intro h68; exfalso; omega
              · intro h67
                refine wp_il1 jF_231_6 rfl rfl (pc2 := 7) ?_
                refine wp_bi jF_231_7 (by decide) rfl (pc2 := 9) ?_
                refine wp_i_gt jF_231_9 ⟨by omega, by omega⟩ (m_rgl rfl) rfl (pc2 := 12) ?_ ?_
                · intro h91
                  refine wp_ic jF_231_16 rfl (pc2 := 17) ?_
                  refine wp_ri jF_231_17 rfl ?_
                  show WP 230 72 [(0, .ref 117), (1, iV least), (2, iV most), (3, iV (τ11.1 117 2)), (4, iV 0)] [iV 0] _ _ _ _
                  refine wp_z_eq jF_230_72 (m_rgl rfl) rfl (pc2 := 75) ?_ ?_
                  · intro h92
                    refine wp_al1 jF_230_129 rfl rfl (pc2 := 130) ?_
                    refine wp_al1 jF_230_130 rfl rfl (pc2 := 131) ?_
                    refine wp_gi jF_230_131 kd117 (by decide) rfl rfl rfl (pc2 := 134) ?_
                    refine wp_pi jF_230_134 kd117 (by decide) rfl rfl rfl (pc2 := 137) g12 (lo := (-2147483648)) (hi := 2147483647) rfl (by omega) (by omega) ?_
                    intro τ93 g94 f95 e96
                    refine wp_il2 jF_230_137 rfl rfl (pc2 := 139) ?_
                    refine wp_i2l jF_230_139 rfl (pc2 := 140) ?_
                    refine wp_il1 jF_230_140 rfl rfl (pc2 := 141) ?_
                    refine wp_i2l jF_230_141 rfl (pc2 := 142) ?_
                    refine wp_il1 jF_230_142 rfl rfl (pc2 := 143) ?_
                    refine wp_i2l jF_230_143 rfl (pc2 := 144) ?_
                    refine wp_cS (as := [.long (Int32.toInt64 (Int32.ofInt 0)), .long (Int32.toInt64 (Int32.ofInt least)), .long (Int32.toInt64 (Int32.ofInt most))]) (rest := []) (mx := 6) jF_230_144 rfl rfl rfl rfl (by omega) (by omega) rfl (pc2 := 147) ?_
                    show WP 232 0 [(0, .long (Int32.toInt64 (Int32.ofInt 0))), (2, .long (Int32.toInt64 (Int32.ofInt least))), (4, .long (Int32.toInt64 (Int32.ofInt most)))] [] _ _ _ _
                    refine wp_ll1 jF_232_0 rfl rfl (pc2 := 1) ?_
                    refine wp_ll1 jF_232_1 rfl rfl (pc2 := 2) ?_
                    refine wp_lcmp2 (a := 0) (b := least) jF_232_2 (m_i2lt (m_rgl rfl)) (m_i2lt ⟨by omega, by omega⟩) rfl (pc2 := 3) ?_
                    intro z97 h98
                    refine wp_z_lt jF_232_3 ⟨by omega, by omega⟩ rfl (pc2 := 6) ?_ ?_
                    · intro h99
                      refine wp_ic jF_232_17 rfl (pc2 := 18) ?_
                      refine wp_ri jF_232_18 rfl ?_
                      show WP 230 147 [(0, .ref 117), (1, iV least), (2, iV most), (3, iV (τ11.1 117 2)), (4, iV 0)] [iV 0] _ _ _ _
                      refine wp_z_ne jF_230_147 (m_rgl rfl) rfl (pc2 := 150) ?_ ?_
                      · intro h100; exfalso; omega
                      · intro h100
                        refine wp_al1 jF_230_150 rfl rfl (pc2 := 151) ?_
                        refine wp_ic jF_230_151 rfl (pc2 := 152) ?_
                        refine wp_il1 jF_230_152 rfl rfl (pc2 := 153) ?_
                        refine wp_cV (as := [iV 2, iV (τ11.1 117 2)]) (rest := []) (a := 117) (mx := 3) (ci := 12) jF_230_153 kd117 (by decide) rfl rfl rfl rfl rfl (by omega) (by omega) rfl (pc2 := 156) ?_
                        have q101 : (τ93.1 117 5) = (σ.1 117 5) := ((FRw.nj f95 (by decide)).trans (FR.at f13 117 5 rfl))
                        refine wp_use (m_218 τ93 g94 2 (by omega) (by omega) (τ11.1 117 2) (by omega) (by omega)  _ _ (by omega) (by omega)) ?_
                        rintro _ τ104 ⟨rfl, g105, f106, p102, p103⟩
                        clear p102
                        replace p103 := p103 (by omega)
                        show WP 230 156 [(0, .ref 117), (1, iV least), (2, iV most), (3, iV (τ11.1 117 2)), (4, iV 0)] [] _ _ _ _
                        refine wp_il2 jF_230_156 rfl rfl (pc2 := 158) ?_
                        refine wp_ri jF_230_158 rfl ?_
                        have q107 : (τ104.1 117 2) = (τ11.1 117 2) := ((FR.at f106 117 2 rfl).trans (FRw.nj f95 (by decide)))
                        have b108 := GI.b g105 117 5 kd117 (lo := (-2147483648)) (hi := 2147483647) rfl
                        exact ⟨0, rfl, ⟨by omega, by omega⟩, g105, (FR.up (FR.w (FR.up FR.rf f13 sb_Wat_Wask) f95 rfl) f106 sb_Wbad_Wask), (by omega), (by omega), (by omega)⟩
                    · intro h99
                      refine wp_ll1 jF_232_6 rfl rfl (pc2 := 7) ?_
                      refine wp_ll2 jF_232_7 rfl rfl (pc2 := 9) ?_
                      refine wp_lcmp2 (a := 0) (b := most) jF_232_9 (m_i2lt (m_rgl rfl)) (m_i2lt ⟨by omega, by omega⟩) rfl (pc2 := 10) ?_
                      intro z109 h110
                      refine wp_z_gt jF_232_10 ⟨by omega, by omega⟩ rfl (pc2 := 13) ?_ ?_
                      · intro h111; exfalso; omega
                      · intro h111
                        refine wp_ic jF_232_13 rfl (pc2 := 14) ?_
                        refine wp_go jF_232_14 ?_
                        refine wp_ri jF_232_18 rfl ?_
                        show WP 230 147 [(0, .ref 117), (1, iV least), (2, iV most), (3, iV (τ11.1 117 2)), (4, iV 0)] [iV 1] _ _ _ _
                        refine wp_z_ne jF_230_147 (m_rgl rfl) rfl (pc2 := 150) ?_ ?_
                        · intro h112
                          refine wp_il2 jF_230_156 rfl rfl (pc2 := 158) ?_
                          refine wp_ri jF_230_158 rfl ?_
                          have q113 : (τ93.1 117 2) = (τ11.1 117 2) := (FRw.nj f95 (by decide))
                          have q114 : (τ93.1 117 5) = (σ.1 117 5) := ((FRw.nj f95 (by decide)).trans (FR.at f13 117 5 rfl))
                          exact ⟨0, rfl, ⟨by omega, by omega⟩, g94, (FR.w (FR.up FR.rf f13 sb_Wat_Wask) f95 rfl), (by omega), (by omega), (by omega)⟩
                        · intro h112; exfalso; omega
                  · intro h92; exfalso; omega
                · intro h91
                  refine wp_ic jF_231_12 rfl (pc2 := 13) ?_
                  refine wp_go jF_231_13 ?_
                  refine wp_ri jF_231_17 rfl ?_
                  show WP 230 72 [(0, .ref 117), (1, iV least), (2, iV most), (3, iV (τ11.1 117 2)), (4, iV 0)] [iV 1] _ _ _ _
                  refine wp_z_eq jF_230_72 (m_rgl rfl) rfl (pc2 := 75) ?_ ?_
                  · intro h115; exfalso; omega
                  · intro h115
                    refine wp_al1 jF_230_75 rfl rfl (pc2 := 76) ?_
                    refine wp_gi jF_230_76 kd117 (by decide) rfl rfl rfl (pc2 := 79) ?_
                    refine wp_il1 jF_230_79 rfl rfl (pc2 := 80) ?_
                    refine wp_sub jF_230_80 rfl (pc2 := 81) ?_
                    refine wp_ic jF_230_81 rfl (pc2 := 82) ?_
                    refine wp_i_ne jF_230_82 ⟨by omega, by omega⟩ (m_rgl rfl) rfl (pc2 := 85) ?_ ?_
                    · intro h116
                      refine wp_bi jF_230_96 (by decide) rfl (pc2 := 98) ?_
                      refine wp_il2 jF_230_98 rfl rfl (pc2 := 100) ?_
                      refine wp_mul jF_230_100 rfl (pc2 := 101) ?_
                      refine wp_al1 jF_230_101 rfl rfl (pc2 := 102) ?_
                      refine wp_gr (b := 118) jF_230_102 kd117 (by decide) (c := 218) rfl rfl rfl (pc2 := 105) ?_
                      refine wp_al1 jF_230_105 rfl rfl (pc2 := 106) ?_
                      refine wp_gi jF_230_106 kd117 (by decide) rfl rfl rfl (pc2 := 109) ?_
                      refine wp_iald (n := 1600) jF_230_109 kd118 (by decide) rfl rfl (by omega) (by omega) (FR.at f13 118 (τ11.1 117 2).toNat rfl) rfl (pc2 := 110) ?_
                      refine wp_add jF_230_110 rfl (pc2 := 111) ?_
                      refine wp_bi jF_230_111 (by decide) rfl (pc2 := 113) ?_
                      refine wp_sub jF_230_113 rfl (pc2 := 114) ?_
                      refine wp_is2 (lv2 := [(0, .ref 117), (1, iV least), (2, iV most), (3, iV (τ11.1 117 2)), (4, iV (((10 * 0) + (σ.1 118 (τ11.1 117 2).toNat)) - 48))]) jF_230_114 rfl rfl rfl (pc2 := 116) ?_
                      refine wp_al1 jF_230_116 rfl rfl (pc2 := 117) ?_
                      refine wp_dup jF_230_117 rfl rfl (pc2 := 118) ?_
                      refine wp_gi jF_230_118 kd117 (by decide) rfl rfl rfl (pc2 := 121) ?_
                      refine wp_ic jF_230_121 rfl (pc2 := 122) ?_
                      refine wp_add jF_230_122 rfl (pc2 := 123) ?_
                      refine wp_pi jF_230_123 kd117 (by decide) rfl rfl rfl (pc2 := 126) g12 (lo := 0) (hi := 1601) rfl (by omega) (by omega) ?_
                      intro τ117 g118 f119 e120
                      refine wp_go jF_230_126 ?_
                      have q121 : (τ117.1 117 3) = (σ.1 117 3) := ((FRw.nj f119 (by decide)).trans (FR.at f13 117 3 rfl))
                      refine wp_loop (α := Int) (fun a => [(0, .ref 117), (1, iV least), (2, iV most), (3, iV (τ11.1 117 2)), (4, iV (a))]) (fun a τ => (0 ≤ a ∧ a ≤ 9999) ∧ GI τ ∧ FR Wat τ117 τ ∧ ((τ11.1 117 2) < (τ.1 117 2)) ∧ ((τ.1 117 2) ≤ (τ117.1 117 3)) ∧ (((τ.1 117 2) = (τ11.1 117 2) + 1 ∧ (a) ≤ 9) ∨ ((τ.1 117 2) = (τ11.1 117 2) + 2 ∧ (a) ≤ 99) ∨ ((τ.1 117 2) = (τ11.1 117 2) + 3 ∧ (a) ≤ 999) ∨ ((τ.1 117 2) = (τ11.1 117 2) + 4 ∧ (a) ≤ 9999))) (fun a τ => Int.toNat (1700 - (τ.1 117 2))) ((((10 * 0) + (σ.1 118 (τ11.1 117 2).toNat)) - 48)) τ117 ?_ ?_
                      · skip
                        have q122 : (τ117.1 117 2) = ((τ11.1 117 2) + 1) := e120
                        exact ⟨⟨by omega, by omega⟩, g118, FR.rf, (by omega), (by omega), (by omega)⟩
                      · rintro x123 τ125 ⟨h124, g126, f127, p128, p129, p130⟩ ih131
                        have b132 := GI.b g126 117 2 kd117 (lo := 0) (hi := 1601) rfl
                        show WP 230 49 [(0, .ref 117), (1, iV least), (2, iV most), (3, iV (τ11.1 117 2)), (4, iV x123)] [] _ _ _ _
                        refine wp_al1 jF_230_49 rfl rfl (pc2 := 50) ?_
                        refine wp_gi jF_230_50 kd117 (by decide) rfl rfl rfl (pc2 := 53) ?_
                        refine wp_al1 jF_230_53 rfl rfl (pc2 := 54) ?_
                        refine wp_gi jF_230_54 kd117 (by decide) rfl ((FR.at f127 117 3 rfl).trans ((FRw.nj f119 (by decide)).trans (FR.at f13 117 3 rfl))) rfl (pc2 := 57) ?_
                        refine wp_i_ge jF_230_57 (m_rgb b132 rfl) (m_rgb b4 rfl) rfl (pc2 := 60) ?_ ?_
                        · intro h133
                          refine wp_al1 jF_230_129 rfl rfl (pc2 := 130) ?_
                          refine wp_al1 jF_230_130 rfl rfl (pc2 := 131) ?_
                          refine wp_gi jF_230_131 kd117 (by decide) rfl rfl rfl (pc2 := 134) ?_
                          refine wp_pi jF_230_134 kd117 (by decide) rfl rfl rfl (pc2 := 137) g126 (lo := (-2147483648)) (hi := 2147483647) rfl (by omega) (by omega) ?_
                          intro τ134 g135 f136 e137
                          refine wp_il2 jF_230_137 rfl rfl (pc2 := 139) ?_
                          refine wp_i2l jF_230_139 rfl (pc2 := 140) ?_
                          refine wp_il1 jF_230_140 rfl rfl (pc2 := 141) ?_
                          refine wp_i2l jF_230_141 rfl (pc2 := 142) ?_
                          refine wp_il1 jF_230_142 rfl rfl (pc2 := 143) ?_
                          refine wp_i2l jF_230_143 rfl (pc2 := 144) ?_
                          refine wp_cS (as := [.long (Int32.toInt64 (Int32.ofInt x123)), .long (Int32.toInt64 (Int32.ofInt least)), .long (Int32.toInt64 (Int32.ofInt most))]) (rest := []) (mx := 6) jF_230_144 rfl rfl rfl rfl (by omega) (by omega) rfl (pc2 := 147) ?_
                          show WP 232 0 [(0, .long (Int32.toInt64 (Int32.ofInt x123))), (2, .long (Int32.toInt64 (Int32.ofInt least))), (4, .long (Int32.toInt64 (Int32.ofInt most)))] [] _ _ _ _
                          refine wp_ll1 jF_232_0 rfl rfl (pc2 := 1) ?_
                          refine wp_ll1 jF_232_1 rfl rfl (pc2 := 2) ?_
                          refine wp_lcmp2 (a := x123) (b := least) jF_232_2 (m_i2lt (m_rgb h124 rfl)) (m_i2lt ⟨by omega, by omega⟩) rfl (pc2 := 3) ?_
                          intro z138 h139
                          refine wp_z_lt jF_232_3 ⟨by omega, by omega⟩ rfl (pc2 := 6) ?_ ?_
                          · intro h140
                            refine wp_ic jF_232_17 rfl (pc2 := 18) ?_
                            refine wp_ri jF_232_18 rfl ?_
                            show WP 230 147 [(0, .ref 117), (1, iV least), (2, iV most), (3, iV (τ11.1 117 2)), (4, iV x123)] [iV 0] _ _ _ _
                            refine wp_z_ne jF_230_147 (m_rgl rfl) rfl (pc2 := 150) ?_ ?_
                            · intro h141; exfalso; omega
                            · intro h141
                              refine wp_al1 jF_230_150 rfl rfl (pc2 := 151) ?_
                              refine wp_ic jF_230_151 rfl (pc2 := 152) ?_
                              refine wp_il1 jF_230_152 rfl rfl (pc2 := 153) ?_
                              refine wp_cV (as := [iV 2, iV (τ11.1 117 2)]) (rest := []) (a := 117) (mx := 3) (ci := 12) jF_230_153 kd117 (by decide) rfl rfl rfl rfl rfl (by omega) (by omega) rfl (pc2 := 156) ?_
                              have q142 : (τ134.1 117 5) = (σ.1 117 5) := ((FRw.nj f136 (by decide)).trans ((FR.at f127 117 5 rfl).trans ((FRw.nj f119 (by decide)).trans (FR.at f13 117 5 rfl))))
                              refine wp_use (m_218 τ134 g135 2 (by omega) (by omega) (τ11.1 117 2) (by omega) (by omega)  _ _ (by omega) (by omega)) ?_
                              rintro _ τ145 ⟨rfl, g146, f147, p143, p144⟩
                              clear p143
                              replace p144 := p144 (by omega)
                              show WP 230 156 [(0, .ref 117), (1, iV least), (2, iV most), (3, iV (τ11.1 117 2)), (4, iV x123)] [] _ _ _ _
                              refine wp_il2 jF_230_156 rfl rfl (pc2 := 158) ?_
                              refine wp_ri jF_230_158 rfl ?_
                              have q148 : (τ145.1 117 2) = (τ125.1 117 2) := ((FR.at f147 117 2 rfl).trans (FRw.nj f136 (by decide)))
                              have b149 := GI.b g146 117 5 kd117 (lo := (-2147483648)) (hi := 2147483647) rfl
                              exact ⟨x123, rfl, ⟨by omega, by omega⟩, g146, (FR.up (FR.w (FR.up (FR.w (FR.up FR.rf f13 sb_Wat_Wask) f119 rfl) f127 sb_Wat_Wask) f136 rfl) f147 sb_Wbad_Wask), (by omega), (by omega), (by omega)⟩
                          · intro h140
                            refine wp_ll1 jF_232_6 rfl rfl (pc2 := 7) ?_
                            refine wp_ll2 jF_232_7 rfl rfl (pc2 := 9) ?_
                            refine wp_lcmp2 (a := x123) (b := most) jF_232_9 (m_i2lt (m_rgb h124 rfl)) (m_i2lt ⟨by omega, by omega⟩) rfl (pc2 := 10) ?_
                            intro z150 h151
                            refine wp_z_gt jF_232_10 ⟨by omega, by omega⟩ rfl (pc2 := 13) ?_ ?_
                            · intro h152
                              refine wp_ic jF_232_17 rfl (pc2 := 18) ?_
                              refine wp_ri jF_232_18 rfl ?_
                              show WP 230 147 [(0, .ref 117), (1, iV least), (2, iV most), (3, iV (τ11.1 117 2)), (4, iV x123)] [iV 0] _ _ _ _
                              refine wp_z_ne jF_230_147 (m_rgl rfl) rfl (pc2 := 150) ?_ ?_
                              · intro h153; exfalso; omega
                              · intro h153
                                refine wp_al1 jF_230_150 rfl rfl (pc2 := 151) ?_
                                refine wp_ic jF_230_151 rfl (pc2 := 152) ?_
                                refine wp_il1 jF_230_152 rfl rfl (pc2 := 153) ?_
                                refine wp_cV (as := [iV 2, iV (τ11.1 117 2)]) (rest := []) (a := 117) (mx := 3) (ci := 12) jF_230_153 kd117 (by decide) rfl rfl rfl rfl rfl (by omega) (by omega) rfl (pc2 := 156) ?_
                                have q154 : (τ134.1 117 5) = (σ.1 117 5) := ((FRw.nj f136 (by decide)).trans ((FR.at f127 117 5 rfl).trans ((FRw.nj f119 (by decide)).trans (FR.at f13 117 5 rfl))))
                                refine wp_use (m_218 τ134 g135 2 (by omega) (by omega) (τ11.1 117 2) (by omega) (by omega)  _ _ (by omega) (by omega)) ?_
                                rintro _ τ157 ⟨rfl, g158, f159, p155, p156⟩
                                clear p155
                                replace p156 := p156 (by omega)
                                show WP 230 156 [(0, .ref 117), (1, iV least), (2, iV most), (3, iV (τ11.1 117 2)), (4, iV x123)] [] _ _ _ _
                                refine wp_il2 jF_230_156 rfl rfl (pc2 := 158) ?_
                                refine wp_ri jF_230_158 rfl ?_
                                have q160 : (τ157.1 117 2) = (τ125.1 117 2) := ((FR.at f159 117 2 rfl).trans (FRw.nj f136 (by decide)))
                                have b161 := GI.b g158 117 5 kd117 (lo := (-2147483648)) (hi := 2147483647) rfl
                                exact ⟨x123, rfl, ⟨by omega, by omega⟩, g158, (FR.up (FR.w (FR.up (FR.w (FR.up FR.rf f13 sb_Wat_Wask) f119 rfl) f127 sb_Wat_Wask) f136 rfl) f159 sb_Wbad_Wask), (by omega), (by omega), (by omega)⟩
                            · intro h152
                              refine wp_ic jF_232_13 rfl (pc2 := 14) ?_
                              refine wp_go jF_232_14 ?_
                              refine wp_ri jF_232_18 rfl ?_
                              show WP 230 147 [(0, .ref 117), (1, iV least), (2, iV most), (3, iV (τ11.1 117 2)), (4, iV x123)] [iV 1] _ _ _ _
                              refine wp_z_ne jF_230_147 (m_rgl rfl) rfl (pc2 := 150) ?_ ?_
                              · intro h162
                                refine wp_il2 jF_230_156 rfl rfl (pc2 := 158) ?_
                                refine wp_ri jF_230_158 rfl ?_
                                have q163 : (τ134.1 117 2) = (τ125.1 117 2) := (FRw.nj f136 (by decide))
                                have q164 : (τ134.1 117 5) = (σ.1 117 5) := ((FRw.nj f136 (by decide)).trans ((FR.at f127 117 5 rfl).trans ((FRw.nj f119 (by decide)).trans (FR.at f13 117 5 rfl))))
                                exact ⟨x123, rfl, ⟨by omega, by omega⟩, g135, (FR.w (FR.up (FR.w (FR.up FR.rf f13 sb_Wat_Wask) f119 rfl) f127 sb_Wat_Wask) f136 rfl), (by omega), (by omega), (by omega)⟩
                              · intro h162; exfalso; omega
                        · intro h133
                          refine wp_al1 jF_230_60 rfl rfl (pc2 := 61) ?_
                          refine wp_gr (b := 118) jF_230_61 kd117 (by decide) (c := 218) rfl rfl rfl (pc2 := 64) ?_
                          refine wp_al1 jF_230_64 rfl rfl (pc2 := 65) ?_
                          refine wp_gi jF_230_65 kd117 (by decide) rfl rfl rfl (pc2 := 68) ?_
                          have b165 := GI.b hg 118 (τ125.1 117 2).toNat kd118 (lo := 0) (hi := 255) rfl
                          refine wp_iald (n := 1600) jF_230_68 kd118 (by decide) rfl rfl (by omega) (by omega) ((FR.at f127 118 (τ125.1 117 2).toNat rfl).trans ((FRw.na f119 (by decide)).trans (FR.at f13 118 (τ125.1 117 2).toNat rfl))) rfl (pc2 := 69) ?_
                          refine wp_cS (as := [iV (σ.1 118 (τ125.1 117 2).toNat)]) (rest := []) (mx := 1) jF_230_69 rfl rfl rfl rfl (by omega) (by omega) rfl (pc2 := 72) ?_
                          show WP 231 0 [(0, iV (σ.1 118 (τ125.1 117 2).toNat))] [] _ _ _ _
                          refine wp_il1 jF_231_0 rfl rfl (pc2 := 1) ?_
                          refine wp_bi jF_231_1 (by decide) rfl (pc2 := 3) ?_
                          refine wp_i_lt jF_231_3 (m_rgb b165 rfl) (m_rgl rfl) rfl (pc2 := 6) ?_ ?_
                          · intro h166
                            refine wp_ic jF_231_16 rfl (pc2 := 17) ?_
                            refine wp_ri jF_231_17 rfl ?_
                            show WP 230 72 [(0, .ref 117), (1, iV least), (2, iV most), (3, iV (τ11.1 117 2)), (4, iV x123)] [iV 0] _ _ _ _
                            refine wp_z_eq jF_230_72 (m_rgl rfl) rfl (pc2 := 75) ?_ ?_
                            · intro h167
                              refine wp_al1 jF_230_129 rfl rfl (pc2 := 130) ?_
                              refine wp_al1 jF_230_130 rfl rfl (pc2 := 131) ?_
                              refine wp_gi jF_230_131 kd117 (by decide) rfl rfl rfl (pc2 := 134) ?_
                              refine wp_pi jF_230_134 kd117 (by decide) rfl rfl rfl (pc2 := 137) g126 (lo := (-2147483648)) (hi := 2147483647) rfl (by omega) (by omega) ?_
                              intro τ168 g169 f170 e171
                              refine wp_il2 jF_230_137 rfl rfl (pc2 := 139) ?_
                              refine wp_i2l jF_230_139 rfl (pc2 := 140) ?_
                              refine wp_il1 jF_230_140 rfl rfl (pc2 := 141) ?_
                              refine wp_i2l jF_230_141 rfl (pc2 := 142) ?_
                              refine wp_il1 jF_230_142 rfl rfl (pc2 := 143) ?_
                              refine wp_i2l jF_230_143 rfl (pc2 := 144) ?_
                              refine wp_cS (as := [.long (Int32.toInt64 (Int32.ofInt x123)), .long (Int32.toInt64 (Int32.ofInt least)), .long (Int32.toInt64 (Int32.ofInt most))]) (rest := []) (mx := 6) jF_230_144 rfl rfl rfl rfl (by omega) (by omega) rfl (pc2 := 147) ?_
                              show WP 232 0 [(0, .long (Int32.toInt64 (Int32.ofInt x123))), (2, .long (Int32.toInt64 (Int32.ofInt least))), (4, .long (Int32.toInt64 (Int32.ofInt most)))] [] _ _ _ _
                              refine wp_ll1 jF_232_0 rfl rfl (pc2 := 1) ?_
                              refine wp_ll1 jF_232_1 rfl rfl (pc2 := 2) ?_
                              refine wp_lcmp2 (a := x123) (b := least) jF_232_2 (m_i2lt (m_rgb h124 rfl)) (m_i2lt ⟨by omega, by omega⟩) rfl (pc2 := 3) ?_
                              intro z172 h173
                              refine wp_z_lt jF_232_3 ⟨by omega, by omega⟩ rfl (pc2 := 6) ?_ ?_
                              · intro h174
                                refine wp_ic jF_232_17 rfl (pc2 := 18) ?_
                                refine wp_ri jF_232_18 rfl ?_
                                show WP 230 147 [(0, .ref 117), (1, iV least), (2, iV most), (3, iV (τ11.1 117 2)), (4, iV x123)] [iV 0] _ _ _ _
                                refine wp_z_ne jF_230_147 (m_rgl rfl) rfl (pc2 := 150) ?_ ?_
                                · intro h175; exfalso; omega
                                · intro h175
                                  refine wp_al1 jF_230_150 rfl rfl (pc2 := 151) ?_
                                  refine wp_ic jF_230_151 rfl (pc2 := 152) ?_
                                  refine wp_il1 jF_230_152 rfl rfl (pc2 := 153) ?_
                                  refine wp_cV (as := [iV 2, iV (τ11.1 117 2)]) (rest := []) (a := 117) (mx := 3) (ci := 12) jF_230_153 kd117 (by decide) rfl rfl rfl rfl rfl (by omega) (by omega) rfl (pc2 := 156) ?_
                                  have q176 : (τ168.1 117 5) = (σ.1 117 5) := ((FRw.nj f170 (by decide)).trans ((FR.at f127 117 5 rfl).trans ((FRw.nj f119 (by decide)).trans (FR.at f13 117 5 rfl))))
                                  refine wp_use (m_218 τ168 g169 2 (by omega) (by omega) (τ11.1 117 2) (by omega) (by omega)  _ _ (by omega) (by omega)) ?_
                                  rintro _ τ179 ⟨rfl, g180, f181, p177, p178⟩
                                  clear p177
                                  replace p178 := p178 (by omega)
                                  show WP 230 156 [(0, .ref 117), (1, iV least), (2, iV most), (3, iV (τ11.1 117 2)), (4, iV x123)] [] _ _ _ _
                                  refine wp_il2 jF_230_156 rfl rfl (pc2 := 158) ?_
                                  refine wp_ri jF_230_158 rfl ?_
                                  have q182 : (τ179.1 117 2) = (τ125.1 117 2) := ((FR.at f181 117 2 rfl).trans (FRw.nj f170 (by decide)))
                                  have b183 := GI.b g180 117 5 kd117 (lo := (-2147483648)) (hi := 2147483647) rfl
                                  exact ⟨x123, rfl, ⟨by omega, by omega⟩, g180, (FR.up (FR.w (FR.up (FR.w (FR.up FR.rf f13 sb_Wat_Wask) f119 rfl) f127 sb_Wat_Wask) f170 rfl) f181 sb_Wbad_Wask), (by omega), (by omega), (by omega)⟩
                              · intro h174
                                refine wp_ll1 jF_232_6 rfl rfl (pc2 := 7) ?_
                                refine wp_ll2 jF_232_7 rfl rfl (pc2 := 9) ?_
                                refine wp_lcmp2 (a := x123) (b := most) jF_232_9 (m_i2lt (m_rgb h124 rfl)) (m_i2lt ⟨by omega, by omega⟩) rfl (pc2 := 10) ?_
                                intro z184 h185
                                refine wp_z_gt jF_232_10 ⟨by omega, by omega⟩ rfl (pc2 := 13) ?_ ?_
                                · intro h186
                                  refine wp_ic jF_232_17 rfl (pc2 := 18) ?_
                                  refine wp_ri jF_232_18 rfl ?_
                                  show WP 230 147 [(0, .ref 117), (1, iV least), (2, iV most), (3, iV (τ11.1 117 2)), (4, iV x123)] [iV 0] _ _ _ _
                                  refine wp_z_ne jF_230_147 (m_rgl rfl) rfl (pc2 := 150) ?_ ?_
                                  · intro h187; exfalso; omega
                                  · intro h187
                                    refine wp_al1 jF_230_150 rfl rfl (pc2 := 151) ?_
                                    refine wp_ic jF_230_151 rfl (pc2 := 152) ?_
                                    refine wp_il1 jF_230_152 rfl rfl (pc2 := 153) ?_
                                    refine wp_cV (as := [iV 2, iV (τ11.1 117 2)]) (rest := []) (a := 117) (mx := 3) (ci := 12) jF_230_153 kd117 (by decide) rfl rfl rfl rfl rfl (by omega) (by omega) rfl (pc2 := 156) ?_
                                    have q188 : (τ168.1 117 5) = (σ.1 117 5) := ((FRw.nj f170 (by decide)).trans ((FR.at f127 117 5 rfl).trans ((FRw.nj f119 (by decide)).trans (FR.at f13 117 5 rfl))))
                                    refine wp_use (m_218 τ168 g169 2 (by omega) (by omega) (τ11.1 117 2) (by omega) (by omega)  _ _ (by omega) (by omega)) ?_
                                    rintro _ τ191 ⟨rfl, g192, f193, p189, p190⟩
                                    clear p189
                                    replace p190 := p190 (by omega)
                                    show WP 230 156 [(0, .ref 117), (1, iV least), (2, iV most), (3, iV (τ11.1 117 2)), (4, iV x123)] [] _ _ _ _
                                    refine wp_il2 jF_230_156 rfl rfl (pc2 := 158) ?_
                                    refine wp_ri jF_230_158 rfl ?_
                                    have q194 : (τ191.1 117 2) = (τ125.1 117 2) := ((FR.at f193 117 2 rfl).trans (FRw.nj f170 (by decide)))
                                    have b195 := GI.b g192 117 5 kd117 (lo := (-2147483648)) (hi := 2147483647) rfl
                                    exact ⟨x123, rfl, ⟨by omega, by omega⟩, g192, (FR.up (FR.w (FR.up (FR.w (FR.up FR.rf f13 sb_Wat_Wask) f119 rfl) f127 sb_Wat_Wask) f170 rfl) f193 sb_Wbad_Wask), (by omega), (by omega), (by omega)⟩
                                · intro h186
                                  refine wp_ic jF_232_13 rfl (pc2 := 14) ?_
                                  refine wp_go jF_232_14 ?_
                                  refine wp_ri jF_232_18 rfl ?_
                                  show WP 230 147 [(0, .ref 117), (1, iV least), (2, iV most), (3, iV (τ11.1 117 2)), (4, iV x123)] [iV 1] _ _ _ _
                                  refine wp_z_ne jF_230_147 (m_rgl rfl) rfl (pc2 := 150) ?_ ?_
                                  · intro h196
                                    refine wp_il2 jF_230_156 rfl rfl (pc2 := 158) ?_
                                    refine wp_ri jF_230_158 rfl ?_
                                    have q197 : (τ168.1 117 2) = (τ125.1 117 2) := (FRw.nj f170 (by decide))
                                    have q198 : (τ168.1 117 5) = (σ.1 117 5) := ((FRw.nj f170 (by decide)).trans ((FR.at f127 117 5 rfl).trans ((FRw.nj f119 (by decide)).trans (FR.at f13 117 5 rfl))))
                                    exact ⟨x123, rfl, ⟨by omega, by omega⟩, g169, (FR.w (FR.up (FR.w (FR.up FR.rf f13 sb_Wat_Wask) f119 rfl) f127 sb_Wat_Wask) f170 rfl), (by omega), (by omega), (by omega)⟩
                                  · intro h196; exfalso; omega
                            · intro h167; exfalso; omega
                          · intro h166
                            refine wp_il1 jF_231_6 rfl rfl (pc2 := 7) ?_
                            refine wp_bi jF_231_7 (by decide) rfl (pc2 := 9) ?_
                            refine wp_i_gt jF_231_9 ⟨by omega, by omega⟩ (m_rgl rfl) rfl (pc2 := 12) ?_ ?_
                            · intro h199
                              refine wp_ic jF_231_16 rfl (pc2 := 17) ?_
                              refine wp_ri jF_231_17 rfl ?_
                              show WP 230 72 [(0, .ref 117), (1, iV least), (2, iV most), (3, iV (τ11.1 117 2)), (4, iV x123)] [iV 0] _ _ _ _
                              refine wp_z_eq jF_230_72 (m_rgl rfl) rfl (pc2 := 75) ?_ ?_
                              · intro h200
                                refine wp_al1 jF_230_129 rfl rfl (pc2 := 130) ?_
                                refine wp_al1 jF_230_130 rfl rfl (pc2 := 131) ?_
                                refine wp_gi jF_230_131 kd117 (by decide) rfl rfl rfl (pc2 := 134) ?_
                                refine wp_pi jF_230_134 kd117 (by decide) rfl rfl rfl (pc2 := 137) g126 (lo := (-2147483648)) (hi := 2147483647) rfl (by omega) (by omega) ?_
                                intro τ201 g202 f203 e204
                                refine wp_il2 jF_230_137 rfl rfl (pc2 := 139) ?_
                                refine wp_i2l jF_230_139 rfl (pc2 := 140) ?_
                                refine wp_il1 jF_230_140 rfl rfl (pc2 := 141) ?_
                                refine wp_i2l jF_230_141 rfl (pc2 := 142) ?_
                                refine wp_il1 jF_230_142 rfl rfl (pc2 := 143) ?_
                                refine wp_i2l jF_230_143 rfl (pc2 := 144) ?_
                                refine wp_cS (as := [.long (Int32.toInt64 (Int32.ofInt x123)), .long (Int32.toInt64 (Int32.ofInt least)), .long (Int32.toInt64 (Int32.ofInt most))]) (rest := []) (mx := 6) jF_230_144 rfl rfl rfl rfl (by omega) (by omega) rfl (pc2 := 147) ?_
                                show WP 232 0 [(0, .long (Int32.toInt64 (Int32.ofInt x123))), (2, .long (Int32.toInt64 (Int32.ofInt least))), (4, .long (Int32.toInt64 (Int32.ofInt most)))] [] _ _ _ _
                                refine wp_ll1 jF_232_0 rfl rfl (pc2 := 1) ?_
                                refine wp_ll1 jF_232_1 rfl rfl (pc2 := 2) ?_
                                refine wp_lcmp2 (a := x123) (b := least) jF_232_2 (m_i2lt (m_rgb h124 rfl)) (m_i2lt ⟨by omega, by omega⟩) rfl (pc2 := 3) ?_
                                intro z205 h206
                                refine wp_z_lt jF_232_3 ⟨by omega, by omega⟩ rfl (pc2 := 6) ?_ ?_
                                · intro h207
                                  refine wp_ic jF_232_17 rfl (pc2 := 18) ?_
                                  refine wp_ri jF_232_18 rfl ?_
                                  show WP 230 147 [(0, .ref 117), (1, iV least), (2, iV most), (3, iV (τ11.1 117 2)), (4, iV x123)] [iV 0] _ _ _ _
                                  refine wp_z_ne jF_230_147 (m_rgl rfl) rfl (pc2 := 150) ?_ ?_
                                  · intro h208; exfalso; omega
                                  · intro h208
                                    refine wp_al1 jF_230_150 rfl rfl (pc2 := 151) ?_
                                    refine wp_ic jF_230_151 rfl (pc2 := 152) ?_
                                    refine wp_il1 jF_230_152 rfl rfl (pc2 := 153) ?_
                                    refine wp_cV (as := [iV 2, iV (τ11.1 117 2)]) (rest := []) (a := 117) (mx := 3) (ci := 12) jF_230_153 kd117 (by decide) rfl rfl rfl rfl rfl (by omega) (by omega) rfl (pc2 := 156) ?_
                                    have q209 : (τ201.1 117 5) = (σ.1 117 5) := ((FRw.nj f203 (by decide)).trans ((FR.at f127 117 5 rfl).trans ((FRw.nj f119 (by decide)).trans (FR.at f13 117 5 rfl))))
                                    refine wp_use (m_218 τ201 g202 2 (by omega) (by omega) (τ11.1 117 2) (by omega) (by omega)  _ _ (by omega) (by omega)) ?_
                                    rintro _ τ212 ⟨rfl, g213, f214, p210, p211⟩
                                    clear p210
                                    replace p211 := p211 (by omega)
                                    show WP 230 156 [(0, .ref 117), (1, iV least), (2, iV most), (3, iV (τ11.1 117 2)), (4, iV x123)] [] _ _ _ _
                                    refine wp_il2 jF_230_156 rfl rfl (pc2 := 158) ?_
                                    refine wp_ri jF_230_158 rfl ?_
                                    have q215 : (τ212.1 117 2) = (τ125.1 117 2) := ((FR.at f214 117 2 rfl).trans (FRw.nj f203 (by decide)))
                                    have b216 := GI.b g213 117 5 kd117 (lo := (-2147483648)) (hi := 2147483647) rfl
                                    exact ⟨x123, rfl, ⟨by omega, by omega⟩, g213, (FR.up (FR.w (FR.up (FR.w (FR.up FR.rf f13 sb_Wat_Wask) f119 rfl) f127 sb_Wat_Wask) f203 rfl) f214 sb_Wbad_Wask), (by omega), (by omega), (by omega)⟩
                                · intro h207
                                  refine wp_ll1 jF_232_6 rfl rfl (pc2 := 7) ?_
                                  refine wp_ll2 jF_232_7 rfl rfl (pc2 := 9) ?_
                                  refine wp_lcmp2 (a := x123) (b := most) jF_232_9 (m_i2lt (m_rgb h124 rfl)) (m_i2lt ⟨by omega, by omega⟩) rfl (pc2 := 10) ?_
                                  intro z217 h218
                                  refine wp_z_gt jF_232_10 ⟨by omega, by omega⟩ rfl (pc2 := 13) ?_ ?_
                                  · intro h219
                                    refine wp_ic jF_232_17 rfl (pc2 := 18) ?_
                                    refine wp_ri jF_232_18 rfl ?_
                                    show WP 230 147 [(0, .ref 117), (1, iV least), (2, iV most), (3, iV (τ11.1 117 2)), (4, iV x123)] [iV 0] _ _ _ _
                                    refine wp_z_ne jF_230_147 (m_rgl rfl) rfl (pc2 := 150) ?_ ?_
                                    · intro h220; exfalso; omega
                                    · intro h220
                                      refine wp_al1 jF_230_150 rfl rfl (pc2 := 151) ?_
                                      refine wp_ic jF_230_151 rfl (pc2 := 152) ?_
                                      refine wp_il1 jF_230_152 rfl rfl (pc2 := 153) ?_
                                      refine wp_cV (as := [iV 2, iV (τ11.1 117 2)]) (rest := []) (a := 117) (mx := 3) (ci := 12) jF_230_153 kd117 (by decide) rfl rfl rfl rfl rfl (by omega) (by omega) rfl (pc2 := 156) ?_
                                      have q221 : (τ201.1 117 5) = (σ.1 117 5) := ((FRw.nj f203 (by decide)).trans ((FR.at f127 117 5 rfl).trans ((FRw.nj f119 (by decide)).trans (FR.at f13 117 5 rfl))))
                                      refine wp_use (m_218 τ201 g202 2 (by omega) (by omega) (τ11.1 117 2) (by omega) (by omega)  _ _ (by omega) (by omega)) ?_
                                      rintro _ τ224 ⟨rfl, g225, f226, p222, p223⟩
                                      clear p222
                                      replace p223 := p223 (by omega)
                                      show WP 230 156 [(0, .ref 117), (1, iV least), (2, iV most), (3, iV (τ11.1 117 2)), (4, iV x123)] [] _ _ _ _
                                      refine wp_il2 jF_230_156 rfl rfl (pc2 := 158) ?_
                                      refine wp_ri jF_230_158 rfl ?_
                                      have q227 : (τ224.1 117 2) = (τ125.1 117 2) := ((FR.at f226 117 2 rfl).trans (FRw.nj f203 (by decide)))
                                      have b228 := GI.b g225 117 5 kd117 (lo := (-2147483648)) (hi := 2147483647) rfl
                                      exact ⟨x123, rfl, ⟨by omega, by omega⟩, g225, (FR.up (FR.w (FR.up (FR.w (FR.up FR.rf f13 sb_Wat_Wask) f119 rfl) f127 sb_Wat_Wask) f203 rfl) f226 sb_Wbad_Wask), (by omega), (by omega), (by omega)⟩
                                  · intro h219
                                    refine wp_ic jF_232_13 rfl (pc2 := 14) ?_
                                    refine wp_go jF_232_14 ?_
                                    refine wp_ri jF_232_18 rfl ?_
                                    show WP 230 147 [(0, .ref 117), (1, iV least), (2, iV most), (3, iV (τ11.1 117 2)), (4, iV x123)] [iV 1] _ _ _ _
                                    refine wp_z_ne jF_230_147 (m_rgl rfl) rfl (pc2 := 150) ?_ ?_
                                    · intro h229
                                      refine wp_il2 jF_230_156 rfl rfl (pc2 := 158) ?_
                                      refine wp_ri jF_230_158 rfl ?_
                                      have q230 : (τ201.1 117 2) = (τ125.1 117 2) := (FRw.nj f203 (by decide))
                                      have q231 : (τ201.1 117 5) = (σ.1 117 5) := ((FRw.nj f203 (by decide)).trans ((FR.at f127 117 5 rfl).trans ((FRw.nj f119 (by decide)).trans (FR.at f13 117 5 rfl))))
                                      exact ⟨x123, rfl, ⟨by omega, by omega⟩, g202, (FR.w (FR.up (FR.w (FR.up FR.rf f13 sb_Wat_Wask) f119 rfl) f127 sb_Wat_Wask) f203 rfl), (by omega), (by omega), (by omega)⟩
                                    · intro h229; exfalso; omega
                              · intro h200; exfalso; omega
                            · intro h199
                              refine wp_ic jF_231_12 rfl (pc2 := 13) ?_
                              refine wp_go jF_231_13 ?_
                              refine wp_ri jF_231_17 rfl ?_
                              show WP 230 72 [(0, .ref 117), (1, iV least), (2, iV most), (3, iV (τ11.1 117 2)), (4, iV x123)] [iV 1] _ _ _ _
                              refine wp_z_eq jF_230_72 (m_rgl rfl) rfl (pc2 := 75) ?_ ?_
                              · intro h232; exfalso; omega
                              · intro h232
                                refine wp_al1 jF_230_75 rfl rfl (pc2 := 76) ?_
                                refine wp_gi jF_230_76 kd117 (by decide) rfl rfl rfl (pc2 := 79) ?_
                                refine wp_il1 jF_230_79 rfl rfl (pc2 := 80) ?_
                                refine wp_sub jF_230_80 rfl (pc2 := 81) ?_
                                refine wp_ic jF_230_81 rfl (pc2 := 82) ?_
                                refine wp_i_ne jF_230_82 ⟨by omega, by omega⟩ (m_rgl rfl) rfl (pc2 := 85) ?_ ?_
                                · intro h233
                                  refine wp_bi jF_230_96 (by decide) rfl (pc2 := 98) ?_
                                  refine wp_il2 jF_230_98 rfl rfl (pc2 := 100) ?_
                                  refine wp_mul jF_230_100 rfl (pc2 := 101) ?_
                                  refine wp_al1 jF_230_101 rfl rfl (pc2 := 102) ?_
                                  refine wp_gr (b := 118) jF_230_102 kd117 (by decide) (c := 218) rfl rfl rfl (pc2 := 105) ?_
                                  refine wp_al1 jF_230_105 rfl rfl (pc2 := 106) ?_
                                  refine wp_gi jF_230_106 kd117 (by decide) rfl rfl rfl (pc2 := 109) ?_
                                  refine wp_iald (n := 1600) jF_230_109 kd118 (by decide) rfl rfl (by omega) (by omega) ((FR.at f127 118 (τ125.1 117 2).toNat rfl).trans ((FRw.na f119 (by decide)).trans (FR.at f13 118 (τ125.1 117 2).toNat rfl))) rfl (pc2 := 110) ?_
                                  refine wp_add jF_230_110 rfl (pc2 := 111) ?_
                                  refine wp_bi jF_230_111 (by decide) rfl (pc2 := 113) ?_
                                  refine wp_sub jF_230_113 rfl (pc2 := 114) ?_
                                  refine wp_is2 (lv2 := [(0, .ref 117), (1, iV least), (2, iV most), (3, iV (τ11.1 117 2)), (4, iV (((10 * x123) + (σ.1 118 (τ125.1 117 2).toNat)) - 48))]) jF_230_114 rfl rfl rfl (pc2 := 116) ?_
                                  refine wp_al1 jF_230_116 rfl rfl (pc2 := 117) ?_
                                  refine wp_dup jF_230_117 rfl rfl (pc2 := 118) ?_
                                  refine wp_gi jF_230_118 kd117 (by decide) rfl rfl rfl (pc2 := 121) ?_
                                  refine wp_ic jF_230_121 rfl (pc2 := 122) ?_
                                  refine wp_add jF_230_122 rfl (pc2 := 123) ?_
                                  refine wp_pi jF_230_123 kd117 (by decide) rfl rfl rfl (pc2 := 126) g126 (lo := 0) (hi := 1601) rfl (by omega) (by omega) ?_
                                  intro τ234 g235 f236 e237
                                  refine wp_go jF_230_126 ?_
                                  have q238 : (τ234.1 117 2) = ((τ125.1 117 2) + 1) := e237
                                  exact ih131 ((((10 * x123) + (σ.1 118 (τ125.1 117 2).toNat)) - 48)) τ234 ⟨⟨by omega, by omega⟩, g235, (FR.w f127 f236 rfl), (by omega), (by omega), (by omega)⟩ (by show Int.toNat (1700 - (τ234.1 117 2)) < Int.toNat (1700 - (τ125.1 117 2)); omega)
                                · intro h233
                                  refine wp_al1 jF_230_85 rfl rfl (pc2 := 86) ?_
                                  refine wp_ic jF_230_86 rfl (pc2 := 87) ?_
                                  refine wp_al1 jF_230_87 rfl rfl (pc2 := 88) ?_
                                  refine wp_gi jF_230_88 kd117 (by decide) rfl rfl rfl (pc2 := 91) ?_
                                  refine wp_cV (as := [iV 1, iV (τ125.1 117 2)]) (rest := []) (a := 117) (mx := 3) (ci := 12) jF_230_91 kd117 (by decide) rfl rfl rfl rfl rfl (by omega) (by omega) rfl (pc2 := 94) ?_
                                  have q239 : (τ125.1 117 5) = (σ.1 117 5) := ((FR.at f127 117 5 rfl).trans ((FRw.nj f119 (by decide)).trans (FR.at f13 117 5 rfl)))
                                  refine wp_use (m_218 τ125 g126 1 (by omega) (by omega) (τ125.1 117 2) (by omega) (by omega)  _ _ (by omega) (by omega)) ?_
                                  rintro _ τ242 ⟨rfl, g243, f244, p240, p241⟩
                                  clear p240
                                  replace p241 := p241 (by omega)
                                  show WP 230 94 [(0, .ref 117), (1, iV least), (2, iV most), (3, iV (τ11.1 117 2)), (4, iV x123)] [] _ _ _ _
                                  refine wp_ic jF_230_94 rfl (pc2 := 95) ?_
                                  refine wp_ri jF_230_95 rfl ?_
                                  have q245 : (τ242.1 117 2) = (τ125.1 117 2) := (FR.at f244 117 2 rfl)
                                  have b246 := GI.b g243 117 5 kd117 (lo := (-2147483648)) (hi := 2147483647) rfl
                                  exact ⟨0, rfl, ⟨by omega, by omega⟩, g243, (FR.up (FR.up (FR.w (FR.up FR.rf f13 sb_Wat_Wask) f119 rfl) f127 sb_Wat_Wask) f244 sb_Wbad_Wask), (by omega), (by omega), (by omega)⟩
                    · intro h116
                      refine wp_al1 jF_230_85 rfl rfl (pc2 := 86) ?_
                      refine wp_ic jF_230_86 rfl (pc2 := 87) ?_
                      refine wp_al1 jF_230_87 rfl rfl (pc2 := 88) ?_
                      refine wp_gi jF_230_88 kd117 (by decide) rfl rfl rfl (pc2 := 91) ?_
                      refine wp_cV (as := [iV 1, iV (τ11.1 117 2)]) (rest := []) (a := 117) (mx := 3) (ci := 12) jF_230_91 kd117 (by decide) rfl rfl rfl rfl rfl (by omega) (by omega) rfl (pc2 := 94) ?_
                      have q247 : (τ11.1 117 5) = (σ.1 117 5) := (FR.at f13 117 5 rfl)
                      refine wp_use (m_218 τ11 g12 1 (by omega) (by omega) (τ11.1 117 2) (by omega) (by omega)  _ _ (by omega) (by omega)) ?_
                      rintro _ τ250 ⟨rfl, g251, f252, p248, p249⟩
                      clear p248
                      replace p249 := p249 (by omega)
                      show WP 230 94 [(0, .ref 117), (1, iV least), (2, iV most), (3, iV (τ11.1 117 2)), (4, iV 0)] [] _ _ _ _
                      refine wp_ic jF_230_94 rfl (pc2 := 95) ?_
                      refine wp_ri jF_230_95 rfl ?_
                      have q253 : (τ250.1 117 2) = (τ11.1 117 2) := (FR.at f252 117 2 rfl)
                      have b254 := GI.b g251 117 5 kd117 (lo := (-2147483648)) (hi := 2147483647) rfl
                      exact ⟨0, rfl, ⟨by omega, by omega⟩, g251, (FR.up (FR.up FR.rf f13 sb_Wat_Wask) f252 sb_Wbad_Wask), (by omega), (by omega), (by omega)⟩
          · intro h42
            refine wp_al1 jF_230_30 rfl rfl (pc2 := 31) ?_
            refine wp_ic jF_230_31 rfl (pc2 := 32) ?_
            refine wp_al1 jF_230_32 rfl rfl (pc2 := 33) ?_
            refine wp_gi jF_230_33 kd117 (by decide) rfl rfl rfl (pc2 := 36) ?_
            refine wp_cV (as := [iV 1, iV (τ11.1 117 2)]) (rest := []) (a := 117) (mx := 3) (ci := 12) jF_230_36 kd117 (by decide) rfl rfl rfl rfl rfl (by omega) (by omega) rfl (pc2 := 39) ?_
            have q255 : (τ11.1 117 5) = (σ.1 117 5) := (FR.at f13 117 5 rfl)
            refine wp_use (m_218 τ11 g12 1 (by omega) (by omega) (τ11.1 117 2) (by omega) (by omega)  _ _ (by omega) (by omega)) ?_
            rintro _ τ258 ⟨rfl, g259, f260, p256, p257⟩
            clear p256
            replace p257 := p257 (by omega)
            show WP 230 39 [(0, .ref 117), (1, iV least), (2, iV most)] [] _ _ _ _
            refine wp_ic jF_230_39 rfl (pc2 := 40) ?_
            refine wp_ri jF_230_40 rfl ?_
            have q261 : (τ258.1 117 2) = (τ11.1 117 2) := (FR.at f260 117 2 rfl)
            have b262 := GI.b g259 117 5 kd117 (lo := (-2147483648)) (hi := 2147483647) rfl
            exact ⟨0, rfl, ⟨by omega, by omega⟩, g259, (FR.up (FR.up FR.rf f13 sb_Wat_Wask) f260 sb_Wbad_Wask), (by omega), (by omega), (by omega)⟩
  · intro h2
    refine wp_ic jF_230_7 rfl (pc2 := 8) ?_
    refine wp_ri jF_230_8 rfl ?_
    have b263 := GI.b hg 117 2 kd117 (lo := 0) (hi := 1601) rfl
    have b264 := GI.b hg 117 3 kd117 (lo := 0) (hi := 1600) rfl
    exact ⟨0, rfl, ⟨by omega, by omega⟩, hg, FR.rf, (by omega), (by omega), (by omega)⟩
