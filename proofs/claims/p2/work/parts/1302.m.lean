set_option maxHeartbeats 4000000 in
set_option maxRecDepth 20000 in
/-- M.number -/
theorem m_230 (σ : jM) (hg : GI σ) (least : Int) (hl_least : 0 ≤ least) (hu_least : least ≤ 1) (most : Int) (hl_most : 1 ≤ most) (hu_most : most ≤ 9999)  (fr lo : Nat) (hfr : 1 ≤ fr) (hlo : 25 ≤ lo) : WP 230 0 (lv_args 0 [.ref 117, iV least, iV most]) [] fr lo σ (fun v τ => ∃ z : Int, v = some (iV z) ∧ ((-2147483648) ≤ z ∧ z ≤ 2147483647) ∧ GI τ ∧ FR Wask σ τ ∧ ((σ.1 117 2) ≤ (τ.1 117 2)) ∧ ((σ.1 117 5) ≠ 0 → (τ.1 117 5) = (σ.1 117 5)) ∧ ((τ.1 117 5) = 0 → ((σ.1 117 5) = 0 ∧ (σ.1 117 2) < (τ.1 117 2) ∧ (τ.1 117 2) ≤ (σ.1 117 3) ∧ least ≤ z ∧ z ≤ most))) := by
  show WP 230 0 [(0, .ref 117), (1, iV least), (2, iV most)] [] _ _ _ _
  refine wp_al1 jF_230_0 rfl rfl (pc2 := 1) ?_
  have b1 := GI.b hg 117 5 kd117 (lo := (-2147483648)) (hi := 2147483647) rfl
  refine wp_gi jF_230_1 kd117 (by decide) rfl rfl rfl (pc2 := 4) ?_
  refine wp_z_eq jF_230_4 (m_rgb b1 rfl) rfl (pc2 := 7) ?_ ?_
  · intro h2
    refine wp_al1 jF_230_9 rfl rfl (pc2 := 10) ?_
    refine wp_cV (as := []) (rest := []) (a := 117) (mx := 1) (ci := 12) jF_230_10 kd117 (by decide) rfl rfl rfl rfl rfl (by omega) (by omega) rfl (pc2 := 13) ?_
    have b3 := GI.b hg 117 2 kd117 (lo := 0) (hi := 1601) rfl
    have b4 := GI.b hg 117 3 kd117 (lo := 0) (hi := 1600) rfl
    refine wp_use (m_216 σ hg   _ _ (by omega) (by omega)) ?_
    rintro _ τ8 ⟨z11, rfl, h12, g9, f10, p5, p6, p7⟩
    have b13 := GI.b hg 118 (τ8.1 117 2).toNat kd118 (lo := 0) (hi := 255) rfl
    show WP 230 13 [(0, .ref 117), (1, iV least), (2, iV most)] [iV z11] _ _ _ _
    refine wp_cS (as := [iV z11]) (rest := []) (mx := 1) jF_230_13 rfl rfl rfl rfl (by omega) (by omega) rfl (pc2 := 16) ?_
    show WP 231 0 [(0, iV z11)] [] _ _ _ _
    refine wp_il1 jF_231_0 rfl rfl (pc2 := 1) ?_
    refine wp_bi jF_231_1 (by decide) rfl (pc2 := 3) ?_
    refine wp_i_lt jF_231_3 (m_rgb h12 rfl) (m_rgl rfl) rfl (pc2 := 6) ?_ ?_
    · intro h14
      refine wp_ic jF_231_16 rfl (pc2 := 17) ?_
      refine wp_ri jF_231_17 rfl ?_
      show WP 230 16 [(0, .ref 117), (1, iV least), (2, iV most)] [iV 0] _ _ _ _
      refine wp_z_eq jF_230_16 (m_rgl rfl) rfl (pc2 := 19) ?_ ?_
      · intro h15
        refine wp_al1 jF_230_30 rfl rfl (pc2 := 31) ?_
        refine wp_ic jF_230_31 rfl (pc2 := 32) ?_
        refine wp_al1 jF_230_32 rfl rfl (pc2 := 33) ?_
        have b16 := GI.b g9 117 2 kd117 (lo := 0) (hi := 1601) rfl
        refine wp_gi jF_230_33 kd117 (by decide) rfl rfl rfl (pc2 := 36) ?_
        refine wp_cV (as := [iV 1, iV (τ8.1 117 2)]) (rest := []) (a := 117) (mx := 3) (ci := 12) jF_230_36 kd117 (by decide) rfl rfl rfl rfl rfl (by omega) (by omega) rfl (pc2 := 39) ?_
        have q17 : (τ8.1 117 5) = (σ.1 117 5) := (FR.at f10 117 5 rfl)
        refine wp_use (m_218 τ8 g9 1 (by omega) (by omega) (τ8.1 117 2) (by omega) (by omega)  _ _ (by omega) (by omega)) ?_
        rintro _ τ20 ⟨rfl, g21, f22, p18, p19⟩
        clear p18
        replace p19 := p19 (by omega)
        show WP 230 39 [(0, .ref 117), (1, iV least), (2, iV most)] [] _ _ _ _
        refine wp_ic jF_230_39 rfl (pc2 := 40) ?_
        refine wp_ri jF_230_40 rfl ?_
        have q23 : (τ20.1 117 2) = (τ8.1 117 2) := (FR.at f22 117 2 rfl)
        have b24 := GI.b g21 117 5 kd117 (lo := (-2147483648)) (hi := 2147483647) rfl
        exact ⟨0, rfl, ⟨by omega, by omega⟩, g21, (FR.up (FR.up FR.rf f10 sb_Wat_Wask) f22 sb_Wbad_Wask), (by omega), (by omega), (by omega)⟩
      · intro h15; exfalso; omega
    · intro h14
      replace p5 := p5 (by omega)
      replace p7 := p7 (by omega)
      refine wp_il1 jF_231_6 rfl rfl (pc2 := 7) ?_
      refine wp_bi jF_231_7 (by decide) rfl (pc2 := 9) ?_
      refine wp_i_gt jF_231_9 ⟨by omega, by omega⟩ (m_rgl rfl) rfl (pc2 := 12) ?_ ?_
      · intro h25
        refine wp_ic jF_231_16 rfl (pc2 := 17) ?_
        refine wp_ri jF_231_17 rfl ?_
        show WP 230 16 [(0, .ref 117), (1, iV least), (2, iV most)] [iV 0] _ _ _ _
        refine wp_z_eq jF_230_16 (m_rgl rfl) rfl (pc2 := 19) ?_ ?_
        · intro h26
          refine wp_al1 jF_230_30 rfl rfl (pc2 := 31) ?_
          refine wp_ic jF_230_31 rfl (pc2 := 32) ?_
          refine wp_al1 jF_230_32 rfl rfl (pc2 := 33) ?_
          have b27 := GI.b g9 117 2 kd117 (lo := 0) (hi := 1601) rfl
          refine wp_gi jF_230_33 kd117 (by decide) rfl rfl rfl (pc2 := 36) ?_
          refine wp_cV (as := [iV 1, iV (τ8.1 117 2)]) (rest := []) (a := 117) (mx := 3) (ci := 12) jF_230_36 kd117 (by decide) rfl rfl rfl rfl rfl (by omega) (by omega) rfl (pc2 := 39) ?_
          have q28 : (τ8.1 117 5) = (σ.1 117 5) := (FR.at f10 117 5 rfl)
          refine wp_use (m_218 τ8 g9 1 (by omega) (by omega) (τ8.1 117 2) (by omega) (by omega)  _ _ (by omega) (by omega)) ?_
          rintro _ τ31 ⟨rfl, g32, f33, p29, p30⟩
          clear p29
          replace p30 := p30 (by omega)
          show WP 230 39 [(0, .ref 117), (1, iV least), (2, iV most)] [] _ _ _ _
          refine wp_ic jF_230_39 rfl (pc2 := 40) ?_
          refine wp_ri jF_230_40 rfl ?_
          have q34 : (τ31.1 117 2) = (τ8.1 117 2) := (FR.at f33 117 2 rfl)
          have b35 := GI.b g32 117 5 kd117 (lo := (-2147483648)) (hi := 2147483647) rfl
          exact ⟨0, rfl, ⟨by omega, by omega⟩, g32, (FR.up (FR.up FR.rf f10 sb_Wat_Wask) f33 sb_Wbad_Wask), (by omega), (by omega), (by omega)⟩
        · intro h26; exfalso; omega
      · intro h25
        refine wp_ic jF_231_12 rfl (pc2 := 13) ?_
        refine wp_go jF_231_13 ?_
        refine wp_ri jF_231_17 rfl ?_
        show WP 230 16 [(0, .ref 117), (1, iV least), (2, iV most)] [iV 1] _ _ _ _
        refine wp_z_eq jF_230_16 (m_rgl rfl) rfl (pc2 := 19) ?_ ?_
        · intro h36; exfalso; omega
        · intro h36
          refine wp_al1 jF_230_19 rfl rfl (pc2 := 20) ?_
          have b37 := GI.b g9 117 2 kd117 (lo := 0) (hi := 1601) rfl
          refine wp_gi jF_230_20 kd117 (by decide) rfl rfl rfl (pc2 := 23) ?_
          refine wp_al1 jF_230_23 rfl rfl (pc2 := 24) ?_
          have b38 := GI.b hg 117 4 kd117 (lo := (-2147483648)) (hi := 2147483647) rfl
          refine wp_gi jF_230_24 kd117 (by decide) rfl (FR.at f10 117 4 rfl) rfl (pc2 := 27) ?_
          refine wp_i_ne jF_230_27 (m_rgb b37 rfl) (m_rgb b38 rfl) rfl (pc2 := 30) ?_ ?_
          · intro h39
            refine wp_al1 jF_230_41 rfl rfl (pc2 := 42) ?_
            refine wp_gi jF_230_42 kd117 (by decide) rfl rfl rfl (pc2 := 45) ?_
            refine wp_is1 (lv2 := [(0, .ref 117), (1, iV least), (2, iV most), (3, iV (τ8.1 117 2))]) jF_230_45 rfl rfl rfl (pc2 := 46) ?_
            refine wp_ic jF_230_46 rfl (pc2 := 47) ?_
            refine wp_is2 (lv2 := [(0, .ref 117), (1, iV least), (2, iV most), (3, iV (τ8.1 117 2)), (4, iV 0)]) jF_230_47 rfl rfl rfl (pc2 := 49) ?_
            refine wp_al1 jF_230_49 rfl rfl (pc2 := 50) ?_
            refine wp_gi jF_230_50 kd117 (by decide) rfl rfl rfl (pc2 := 53) ?_
            refine wp_al1 jF_230_53 rfl rfl (pc2 := 54) ?_
            refine wp_gi jF_230_54 kd117 (by decide) rfl (FR.at f10 117 3 rfl) rfl (pc2 := 57) ?_
            refine wp_i_ge jF_230_57 (m_rgb b37 rfl) (m_rgb b4 rfl) rfl (pc2 := 60) ?_ ?_
            · intro h40
              refine wp_al1 jF_230_129 rfl rfl (pc2 := 130) ?_
              refine wp_al1 jF_230_130 rfl rfl (pc2 := 131) ?_
              refine wp_gi jF_230_131 kd117 (by decide) rfl rfl rfl (pc2 := 134) ?_
              refine wp_pi jF_230_134 kd117 (by decide) rfl rfl rfl (pc2 := 137) g9 (lo := (-2147483648)) (hi := 2147483647) rfl (by omega) (by omega) ?_
              intro τ41 g42 f43 e44
              refine wp_il2 jF_230_137 rfl rfl (pc2 := 139) ?_
              refine wp_i2l jF_230_139 rfl (pc2 := 140) ?_
              refine wp_il1 jF_230_140 rfl rfl (pc2 := 141) ?_
              refine wp_i2l jF_230_141 rfl (pc2 := 142) ?_
              refine wp_il1 jF_230_142 rfl rfl (pc2 := 143) ?_
              refine wp_i2l jF_230_143 rfl (pc2 := 144) ?_
              refine wp_cS (as := [.long (Int32.toInt64 (Int32.ofInt 0)), .long (Int32.toInt64 (Int32.ofInt least)), .long (Int32.toInt64 (Int32.ofInt most))]) (rest := []) (mx := 6) jF_230_144 rfl rfl rfl rfl (by omega) (by omega) rfl (pc2 := 147) ?_
              show WP 232 0 [(0, .long (Int32.toInt64 (Int32.ofInt 0))), (2, .long (Int32.toInt64 (Int32.ofInt least))), (4, .long (Int32.toInt64 (Int32.ofInt most)))] [] _ _ _ _
              refine wp_ll1 jF_232_0 rfl rfl (pc2 := 1) ?_
              refine wp_ll1 jF_232_1 rfl rfl (pc2 := 2) ?_
              refine wp_lcmp2 (a := 0) (b := least) jF_232_2 (m_i2lt (m_rgl rfl)) (m_i2lt ⟨by omega, by omega⟩) rfl (pc2 := 3) ?_
              intro z45 h46
              refine wp_z_lt jF_232_3 ⟨by omega, by omega⟩ rfl (pc2 := 6) ?_ ?_
              · intro h47
                refine wp_ic jF_232_17 rfl (pc2 := 18) ?_
                refine wp_ri jF_232_18 rfl ?_
                show WP 230 147 [(0, .ref 117), (1, iV least), (2, iV most), (3, iV (τ8.1 117 2)), (4, iV 0)] [iV 0] _ _ _ _
                refine wp_z_ne jF_230_147 (m_rgl rfl) rfl (pc2 := 150) ?_ ?_
                · intro h48; exfalso; omega
                · intro h48
                  refine wp_al1 jF_230_150 rfl rfl (pc2 := 151) ?_
                  refine wp_ic jF_230_151 rfl (pc2 := 152) ?_
                  refine wp_il1 jF_230_152 rfl rfl (pc2 := 153) ?_
                  refine wp_cV (as := [iV 2, iV (τ8.1 117 2)]) (rest := []) (a := 117) (mx := 3) (ci := 12) jF_230_153 kd117 (by decide) rfl rfl rfl rfl rfl (by omega) (by omega) rfl (pc2 := 156) ?_
                  have q49 : (τ41.1 117 5) = (σ.1 117 5) := ((FRw.nj f43 (by decide)).trans (FR.at f10 117 5 rfl))
                  refine wp_use (m_218 τ41 g42 2 (by omega) (by omega) (τ8.1 117 2) (by omega) (by omega)  _ _ (by omega) (by omega)) ?_
                  rintro _ τ52 ⟨rfl, g53, f54, p50, p51⟩
                  clear p50
                  replace p51 := p51 (by omega)
                  show WP 230 156 [(0, .ref 117), (1, iV least), (2, iV most), (3, iV (τ8.1 117 2)), (4, iV 0)] [] _ _ _ _
                  refine wp_il2 jF_230_156 rfl rfl (pc2 := 158) ?_
                  refine wp_ri jF_230_158 rfl ?_
                  have q55 : (τ52.1 117 2) = (τ8.1 117 2) := ((FR.at f54 117 2 rfl).trans (FRw.nj f43 (by decide)))
                  have b56 := GI.b g53 117 5 kd117 (lo := (-2147483648)) (hi := 2147483647) rfl
                  exact ⟨0, rfl, ⟨by omega, by omega⟩, g53, (FR.up (FR.w (FR.up FR.rf f10 sb_Wat_Wask) f43 rfl) f54 sb_Wbad_Wask), (by omega), (by omega), (by omega)⟩
              · intro h47
                refine wp_ll1 jF_232_6 rfl rfl (pc2 := 7) ?_
                refine wp_ll2 jF_232_7 rfl rfl (pc2 := 9) ?_
                refine wp_lcmp2 (a := 0) (b := most) jF_232_9 (m_i2lt (m_rgl rfl)) (m_i2lt ⟨by omega, by omega⟩) rfl (pc2 := 10) ?_
                intro z57 h58
                refine wp_z_gt jF_232_10 ⟨by omega, by omega⟩ rfl (pc2 := 13) ?_ ?_
                · intro h59; exfalso; omega
                · intro h59
                  refine wp_ic jF_232_13 rfl (pc2 := 14) ?_
                  refine wp_go jF_232_14 ?_
                  refine wp_ri jF_232_18 rfl ?_
                  show WP 230 147 [(0, .ref 117), (1, iV least), (2, iV most), (3, iV (τ8.1 117 2)), (4, iV 0)] [iV 1] _ _ _ _
                  refine wp_z_ne jF_230_147 (m_rgl rfl) rfl (pc2 := 150) ?_ ?_
                  · intro h60
                    refine wp_il2 jF_230_156 rfl rfl (pc2 := 158) ?_
                    refine wp_ri jF_230_158 rfl ?_
                    have q61 : (τ41.1 117 2) = (τ8.1 117 2) := (FRw.nj f43 (by decide))
                    have q62 : (τ41.1 117 5) = (σ.1 117 5) := ((FRw.nj f43 (by decide)).trans (FR.at f10 117 5 rfl))
                    exact ⟨0, rfl, ⟨by omega, by omega⟩, g42, (FR.w (FR.up FR.rf f10 sb_Wat_Wask) f43 rfl), (by omega), (by omega), (by omega)⟩
                  · intro h60; exfalso; omega
            · intro h40
              refine wp_al1 jF_230_60 rfl rfl (pc2 := 61) ?_
              refine wp_gr (b := 118) jF_230_61 kd117 (by decide) (c := 218) rfl rfl rfl (pc2 := 64) ?_
              refine wp_al1 jF_230_64 rfl rfl (pc2 := 65) ?_
              refine wp_gi jF_230_65 kd117 (by decide) rfl rfl rfl (pc2 := 68) ?_
              have b63 := GI.b hg 118 (τ8.1 117 2).toNat kd118 (lo := 0) (hi := 255) rfl
              refine wp_iald (n := 1600) jF_230_68 kd118 (by decide) rfl rfl (by omega) (by omega) (FR.at f10 118 (τ8.1 117 2).toNat rfl) rfl (pc2 := 69) ?_
              refine wp_cS (as := [iV (σ.1 118 (τ8.1 117 2).toNat)]) (rest := []) (mx := 1) jF_230_69 rfl rfl rfl rfl (by omega) (by omega) rfl (pc2 := 72) ?_
              show WP 231 0 [(0, iV (σ.1 118 (τ8.1 117 2).toNat))] [] _ _ _ _
              refine wp_il1 jF_231_0 rfl rfl (pc2 := 1) ?_
              refine wp_bi jF_231_1 (by decide) rfl (pc2 := 3) ?_
              refine wp_i_lt jF_231_3 (m_rgb b63 rfl) (m_rgl rfl) rfl (pc2 := 6) ?_ ?_
              · intro h64
                refine wp_ic jF_231_16 rfl (pc2 := 17) ?_
                refine wp_ri jF_231_17 rfl ?_
                show WP 230 72 [(0, .ref 117), (1, iV least), (2, iV most), (3, iV (τ8.1 117 2)), (4, iV 0)] [iV 0] _ _ _ _
                refine wp_z_eq jF_230_72 (m_rgl rfl) rfl (pc2 := 75) ?_ ?_
                · intro h65
                  refine wp_al1 jF_230_129 rfl rfl (pc2 := 130) ?_
                  refine wp_al1 jF_230_130 rfl rfl (pc2 := 131) ?_
                  refine wp_gi jF_230_131 kd117 (by decide) rfl rfl rfl (pc2 := 134) ?_
                  refine wp_pi jF_230_134 kd117 (by decide) rfl rfl rfl (pc2 := 137) g9 (lo := (-2147483648)) (hi := 2147483647) rfl (by omega) (by omega) ?_
                  intro τ66 g67 f68 e69
                  refine wp_il2 jF_230_137 rfl rfl (pc2 := 139) ?_
                  refine wp_i2l jF_230_139 rfl (pc2 := 140) ?_
                  refine wp_il1 jF_230_140 rfl rfl (pc2 := 141) ?_
                  refine wp_i2l jF_230_141 rfl (pc2 := 142) ?_
                  refine wp_il1 jF_230_142 rfl rfl (pc2 := 143) ?_
                  refine wp_i2l jF_230_143 rfl (pc2 := 144) ?_
                  refine wp_cS (as := [.long (Int32.toInt64 (Int32.ofInt 0)), .long (Int32.toInt64 (Int32.ofInt least)), .long (Int32.toInt64 (Int32.ofInt most))]) (rest := []) (mx := 6) jF_230_144 rfl rfl rfl rfl (by omega) (by omega) rfl (pc2 := 147) ?_
                  show WP 232 0 [(0, .long (Int32.toInt64 (Int32.ofInt 0))), (2, .long (Int32.toInt64 (Int32.ofInt least))), (4, .long (Int32.toInt64 (Int32.ofInt most)))] [] _ _ _ _
                  refine wp_ll1 jF_232_0 rfl rfl (pc2 := 1) ?_
                  refine wp_ll1 jF_232_1 rfl rfl (pc2 := 2) ?_
                  refine wp_lcmp2 (a := 0) (b := least) jF_232_2 (m_i2lt (m_rgl rfl)) (m_i2lt ⟨by omega, by omega⟩) rfl (pc2 := 3) ?_
                  intro z70 h71
                  refine wp_z_lt jF_232_3 ⟨by omega, by omega⟩ rfl (pc2 := 6) ?_ ?_
                  · intro h72
                    refine wp_ic jF_232_17 rfl (pc2 := 18) ?_
                    refine wp_ri jF_232_18 rfl ?_
                    show WP 230 147 [(0, .ref 117), (1, iV least), (2, iV most), (3, iV (τ8.1 117 2)), (4, iV 0)] [iV 0] _ _ _ _
                    refine wp_z_ne jF_230_147 (m_rgl rfl) rfl (pc2 := 150) ?_ ?_
                    · intro h73; exfalso; omega
                    · intro h73
                      refine wp_al1 jF_230_150 rfl rfl (pc2 := 151) ?_
                      refine wp_ic jF_230_151 rfl (pc2 := 152) ?_
                      refine wp_il1 jF_230_152 rfl rfl (pc2 := 153) ?_
                      refine wp_cV (as := [iV 2, iV (τ8.1 117 2)]) (rest := []) (a := 117) (mx := 3) (ci := 12) jF_230_153 kd117 (by decide) rfl rfl rfl rfl rfl (by omega) (by omega) rfl (pc2 := 156) ?_
                      have q74 : (τ66.1 117 5) = (σ.1 117 5) := ((FRw.nj f68 (by decide)).trans (FR.at f10 117 5 rfl))
                      refine wp_use (m_218 τ66 g67 2 (by omega) (by omega) (τ8.1 117 2) (by omega) (by omega)  _ _ (by omega) (by omega)) ?_
                      rintro _ τ77 ⟨rfl, g78, f79, p75, p76⟩
                      clear p75
                      replace p76 := p76 (by omega)
                      show WP 230 156 [(0, .ref 117), (1, iV least), (2, iV most), (3, iV (τ8.1 117 2)), (4, iV 0)] [] _ _ _ _
                      refine wp_il2 jF_230_156 rfl rfl (pc2 := 158) ?_
                      refine wp_ri jF_230_158 rfl ?_
                      have q80 : (τ77.1 117 2) = (τ8.1 117 2) := ((FR.at f79 117 2 rfl).trans (FRw.nj f68 (by decide)))
                      have b81 := GI.b g78 117 5 kd117 (lo := (-2147483648)) (hi := 2147483647) rfl
                      exact ⟨0, rfl, ⟨by omega, by omega⟩, g78, (FR.up (FR.w (FR.up FR.rf f10 sb_Wat_Wask) f68 rfl) f79 sb_Wbad_Wask), (by omega), (by omega), (by omega)⟩
                  · intro h72
                    refine wp_ll1 jF_232_6 rfl rfl (pc2 := 7) ?_
                    refine wp_ll2 jF_232_7 rfl rfl (pc2 := 9) ?_
                    refine wp_lcmp2 (a := 0) (b := most) jF_232_9 (m_i2lt (m_rgl rfl)) (m_i2lt ⟨by omega, by omega⟩) rfl (pc2 := 10) ?_
                    intro z82 h83
                    refine wp_z_gt jF_232_10 ⟨by omega, by omega⟩ rfl (pc2 := 13) ?_ ?_
                    · intro h84; exfalso; omega
                    · intro h84
                      refine wp_ic jF_232_13 rfl (pc2 := 14) ?_
                      refine wp_go jF_232_14 ?_
                      refine wp_ri jF_232_18 rfl ?_
                      show WP 230 147 [(0, .ref 117), (1, iV least), (2, iV most), (3, iV (τ8.1 117 2)), (4, iV 0)] [iV 1] _ _ _ _
                      refine wp_z_ne jF_230_147 (m_rgl rfl) rfl (pc2 := 150) ?_ ?_
                      · intro h85
                        refine wp_il2 jF_230_156 rfl rfl (pc2 := 158) ?_
                        refine wp_ri jF_230_158 rfl ?_
                        have q86 : (τ66.1 117 2) = (τ8.1 117 2) := (FRw.nj f68 (by decide))
                        have q87 : (τ66.1 117 5) = (σ.1 117 5) := ((FRw.nj f68 (by decide)).trans (FR.at f10 117 5 rfl))
                        exact ⟨0, rfl, ⟨by omega, by omega⟩, g67, (FR.w (FR.up FR.rf f10 sb_Wat_Wask) f68 rfl), (by omega), (by omega), (by omega)⟩
                      · intro h85; exfalso; omega
                · intro h65; exfalso; omega
              · intro h64
                refine wp_il1 jF_231_6 rfl rfl (pc2 := 7) ?_
                refine wp_bi jF_231_7 (by decide) rfl (pc2 := 9) ?_
                refine wp_i_gt jF_231_9 ⟨by omega, by omega⟩ (m_rgl rfl) rfl (pc2 := 12) ?_ ?_
                · intro h88
                  refine wp_ic jF_231_16 rfl (pc2 := 17) ?_
                  refine wp_ri jF_231_17 rfl ?_
                  show WP 230 72 [(0, .ref 117), (1, iV least), (2, iV most), (3, iV (τ8.1 117 2)), (4, iV 0)] [iV 0] _ _ _ _
                  refine wp_z_eq jF_230_72 (m_rgl rfl) rfl (pc2 := 75) ?_ ?_
                  · intro h89
                    refine wp_al1 jF_230_129 rfl rfl (pc2 := 130) ?_
                    refine wp_al1 jF_230_130 rfl rfl (pc2 := 131) ?_
                    refine wp_gi jF_230_131 kd117 (by decide) rfl rfl rfl (pc2 := 134) ?_
                    refine wp_pi jF_230_134 kd117 (by decide) rfl rfl rfl (pc2 := 137) g9 (lo := (-2147483648)) (hi := 2147483647) rfl (by omega) (by omega) ?_
                    intro τ90 g91 f92 e93
                    refine wp_il2 jF_230_137 rfl rfl (pc2 := 139) ?_
                    refine wp_i2l jF_230_139 rfl (pc2 := 140) ?_
                    refine wp_il1 jF_230_140 rfl rfl (pc2 := 141) ?_
                    refine wp_i2l jF_230_141 rfl (pc2 := 142) ?_
                    refine wp_il1 jF_230_142 rfl rfl (pc2 := 143) ?_
                    refine wp_i2l jF_230_143 rfl (pc2 := 144) ?_
                    refine wp_cS (as := [.long (Int32.toInt64 (Int32.ofInt 0)), .long (Int32.toInt64 (Int32.ofInt least)), .long (Int32.toInt64 (Int32.ofInt most))]) (rest := []) (mx := 6) jF_230_144 rfl rfl rfl rfl (by omega) (by omega) rfl (pc2 := 147) ?_
                    show WP 232 0 [(0, .long (Int32.toInt64 (Int32.ofInt 0))), (2, .long (Int32.toInt64 (Int32.ofInt least))), (4, .long (Int32.toInt64 (Int32.ofInt most)))] [] _ _ _ _
                    refine wp_ll1 jF_232_0 rfl rfl (pc2 := 1) ?_
                    refine wp_ll1 jF_232_1 rfl rfl (pc2 := 2) ?_
                    refine wp_lcmp2 (a := 0) (b := least) jF_232_2 (m_i2lt (m_rgl rfl)) (m_i2lt ⟨by omega, by omega⟩) rfl (pc2 := 3) ?_
                    intro z94 h95
                    refine wp_z_lt jF_232_3 ⟨by omega, by omega⟩ rfl (pc2 := 6) ?_ ?_
                    · intro h96
                      refine wp_ic jF_232_17 rfl (pc2 := 18) ?_
                      refine wp_ri jF_232_18 rfl ?_
                      show WP 230 147 [(0, .ref 117), (1, iV least), (2, iV most), (3, iV (τ8.1 117 2)), (4, iV 0)] [iV 0] _ _ _ _
                      refine wp_z_ne jF_230_147 (m_rgl rfl) rfl (pc2 := 150) ?_ ?_
                      · intro h97; exfalso; omega
                      · intro h97
                        refine wp_al1 jF_230_150 rfl rfl (pc2 := 151) ?_
                        refine wp_ic jF_230_151 rfl (pc2 := 152) ?_
                        refine wp_il1 jF_230_152 rfl rfl (pc2 := 153) ?_
                        refine wp_cV (as := [iV 2, iV (τ8.1 117 2)]) (rest := []) (a := 117) (mx := 3) (ci := 12) jF_230_153 kd117 (by decide) rfl rfl rfl rfl rfl (by omega) (by omega) rfl (pc2 := 156) ?_
                        have q98 : (τ90.1 117 5) = (σ.1 117 5) := ((FRw.nj f92 (by decide)).trans (FR.at f10 117 5 rfl))
                        refine wp_use (m_218 τ90 g91 2 (by omega) (by omega) (τ8.1 117 2) (by omega) (by omega)  _ _ (by omega) (by omega)) ?_
                        rintro _ τ101 ⟨rfl, g102, f103, p99, p100⟩
                        clear p99
                        replace p100 := p100 (by omega)
                        show WP 230 156 [(0, .ref 117), (1, iV least), (2, iV most), (3, iV (τ8.1 117 2)), (4, iV 0)] [] _ _ _ _
                        refine wp_il2 jF_230_156 rfl rfl (pc2 := 158) ?_
                        refine wp_ri jF_230_158 rfl ?_
                        have q104 : (τ101.1 117 2) = (τ8.1 117 2) := ((FR.at f103 117 2 rfl).trans (FRw.nj f92 (by decide)))
                        have b105 := GI.b g102 117 5 kd117 (lo := (-2147483648)) (hi := 2147483647) rfl
                        exact ⟨0, rfl, ⟨by omega, by omega⟩, g102, (FR.up (FR.w (FR.up FR.rf f10 sb_Wat_Wask) f92 rfl) f103 sb_Wbad_Wask), (by omega), (by omega), (by omega)⟩
                    · intro h96
                      refine wp_ll1 jF_232_6 rfl rfl (pc2 := 7) ?_
                      refine wp_ll2 jF_232_7 rfl rfl (pc2 := 9) ?_
                      refine wp_lcmp2 (a := 0) (b := most) jF_232_9 (m_i2lt (m_rgl rfl)) (m_i2lt ⟨by omega, by omega⟩) rfl (pc2 := 10) ?_
                      intro z106 h107
                      refine wp_z_gt jF_232_10 ⟨by omega, by omega⟩ rfl (pc2 := 13) ?_ ?_
                      · intro h108; exfalso; omega
                      · intro h108
                        refine wp_ic jF_232_13 rfl (pc2 := 14) ?_
                        refine wp_go jF_232_14 ?_
                        refine wp_ri jF_232_18 rfl ?_
                        show WP 230 147 [(0, .ref 117), (1, iV least), (2, iV most), (3, iV (τ8.1 117 2)), (4, iV 0)] [iV 1] _ _ _ _
                        refine wp_z_ne jF_230_147 (m_rgl rfl) rfl (pc2 := 150) ?_ ?_
                        · intro h109
                          refine wp_il2 jF_230_156 rfl rfl (pc2 := 158) ?_
                          refine wp_ri jF_230_158 rfl ?_
                          have q110 : (τ90.1 117 2) = (τ8.1 117 2) := (FRw.nj f92 (by decide))
                          have q111 : (τ90.1 117 5) = (σ.1 117 5) := ((FRw.nj f92 (by decide)).trans (FR.at f10 117 5 rfl))
                          exact ⟨0, rfl, ⟨by omega, by omega⟩, g91, (FR.w (FR.up FR.rf f10 sb_Wat_Wask) f92 rfl), (by omega), (by omega), (by omega)⟩
                        · intro h109; exfalso; omega
                  · intro h89; exfalso; omega
                · intro h88
                  refine wp_ic jF_231_12 rfl (pc2 := 13) ?_
                  refine wp_go jF_231_13 ?_
                  refine wp_ri jF_231_17 rfl ?_
                  show WP 230 72 [(0, .ref 117), (1, iV least), (2, iV most), (3, iV (τ8.1 117 2)), (4, iV 0)] [iV 1] _ _ _ _
                  refine wp_z_eq jF_230_72 (m_rgl rfl) rfl (pc2 := 75) ?_ ?_
                  · intro h112; exfalso; omega
                  · intro h112
                    refine wp_al1 jF_230_75 rfl rfl (pc2 := 76) ?_
                    refine wp_gi jF_230_76 kd117 (by decide) rfl rfl rfl (pc2 := 79) ?_
                    refine wp_il1 jF_230_79 rfl rfl (pc2 := 80) ?_
                    refine wp_sub jF_230_80 rfl (pc2 := 81) ?_
                    refine wp_ic jF_230_81 rfl (pc2 := 82) ?_
                    refine wp_i_ne jF_230_82 ⟨by omega, by omega⟩ (m_rgl rfl) rfl (pc2 := 85) ?_ ?_
                    · intro h113
                      refine wp_bi jF_230_96 (by decide) rfl (pc2 := 98) ?_
                      refine wp_il2 jF_230_98 rfl rfl (pc2 := 100) ?_
                      refine wp_mul jF_230_100 rfl (pc2 := 101) ?_
                      refine wp_al1 jF_230_101 rfl rfl (pc2 := 102) ?_
                      refine wp_gr (b := 118) jF_230_102 kd117 (by decide) (c := 218) rfl rfl rfl (pc2 := 105) ?_
                      refine wp_al1 jF_230_105 rfl rfl (pc2 := 106) ?_
                      refine wp_gi jF_230_106 kd117 (by decide) rfl rfl rfl (pc2 := 109) ?_
                      refine wp_iald (n := 1600) jF_230_109 kd118 (by decide) rfl rfl (by omega) (by omega) (FR.at f10 118 (τ8.1 117 2).toNat rfl) rfl (pc2 := 110) ?_
                      refine wp_add jF_230_110 rfl (pc2 := 111) ?_
                      refine wp_bi jF_230_111 (by decide) rfl (pc2 := 113) ?_
                      refine wp_sub jF_230_113 rfl (pc2 := 114) ?_
                      refine wp_is2 (lv2 := [(0, .ref 117), (1, iV least), (2, iV most), (3, iV (τ8.1 117 2)), (4, iV (((10 * 0) + (σ.1 118 (τ8.1 117 2).toNat)) - 48))]) jF_230_114 rfl rfl rfl (pc2 := 116) ?_
                      refine wp_al1 jF_230_116 rfl rfl (pc2 := 117) ?_
                      refine wp_dup jF_230_117 rfl rfl (pc2 := 118) ?_
                      refine wp_gi jF_230_118 kd117 (by decide) rfl rfl rfl (pc2 := 121) ?_
                      refine wp_ic jF_230_121 rfl (pc2 := 122) ?_
                      refine wp_add jF_230_122 rfl (pc2 := 123) ?_
                      refine wp_pi jF_230_123 kd117 (by decide) rfl rfl rfl (pc2 := 126) g9 (lo := 0) (hi := 1601) rfl (by omega) (by omega) ?_
                      intro τ114 g115 f116 e117
                      refine wp_go jF_230_126 ?_
                      have q118 : (τ114.1 117 3) = (σ.1 117 3) := ((FRw.nj f116 (by decide)).trans (FR.at f10 117 3 rfl))
                      refine wp_loop (α := Int) (fun a => [(0, .ref 117), (1, iV least), (2, iV most), (3, iV (τ8.1 117 2)), (4, iV (a))]) (fun a τ => (0 ≤ a ∧ a ≤ 9999) ∧ GI τ ∧ FR Wat τ114 τ ∧ ((τ8.1 117 2) < (τ.1 117 2)) ∧ ((τ.1 117 2) ≤ (τ114.1 117 3)) ∧ (((τ.1 117 2) = (τ8.1 117 2) + 1 ∧ (a) ≤ 9) ∨ ((τ.1 117 2) = (τ8.1 117 2) + 2 ∧ (a) ≤ 99) ∨ ((τ.1 117 2) = (τ8.1 117 2) + 3 ∧ (a) ≤ 999) ∨ ((τ.1 117 2) = (τ8.1 117 2) + 4 ∧ (a) ≤ 9999))) (fun a τ => Int.toNat (1700 - (τ.1 117 2))) ((((10 * 0) + (σ.1 118 (τ8.1 117 2).toNat)) - 48)) τ114 ?_ ?_
                      · skip
                        have q119 : (τ114.1 117 2) = ((τ8.1 117 2) + 1) := e117
                        exact ⟨⟨by omega, by omega⟩, g115, FR.rf, (by omega), (by omega), (by omega)⟩
                      · rintro x120 τ122 ⟨h121, g123, f124, p125, p126, p127⟩ ih128
                        show WP 230 49 [(0, .ref 117), (1, iV least), (2, iV most), (3, iV (τ8.1 117 2)), (4, iV x120)] [] _ _ _ _
                        refine wp_al1 jF_230_49 rfl rfl (pc2 := 50) ?_
                        have b129 := GI.b g123 117 2 kd117 (lo := 0) (hi := 1601) rfl
                        refine wp_gi jF_230_50 kd117 (by decide) rfl rfl rfl (pc2 := 53) ?_
                        refine wp_al1 jF_230_53 rfl rfl (pc2 := 54) ?_
                        refine wp_gi jF_230_54 kd117 (by decide) rfl ((FR.at f124 117 3 rfl).trans ((FRw.nj f116 (by decide)).trans (FR.at f10 117 3 rfl))) rfl (pc2 := 57) ?_
                        refine wp_i_ge jF_230_57 (m_rgb b129 rfl) (m_rgb b4 rfl) rfl (pc2 := 60) ?_ ?_
                        · intro h130
                          refine wp_al1 jF_230_129 rfl rfl (pc2 := 130) ?_
                          refine wp_al1 jF_230_130 rfl rfl (pc2 := 131) ?_
                          refine wp_gi jF_230_131 kd117 (by decide) rfl rfl rfl (pc2 := 134) ?_
                          refine wp_pi jF_230_134 kd117 (by decide) rfl rfl rfl (pc2 := 137) g123 (lo := (-2147483648)) (hi := 2147483647) rfl (by omega) (by omega) ?_
                          intro τ131 g132 f133 e134
                          refine wp_il2 jF_230_137 rfl rfl (pc2 := 139) ?_
                          refine wp_i2l jF_230_139 rfl (pc2 := 140) ?_
                          refine wp_il1 jF_230_140 rfl rfl (pc2 := 141) ?_
                          refine wp_i2l jF_230_141 rfl (pc2 := 142) ?_
                          refine wp_il1 jF_230_142 rfl rfl (pc2 := 143) ?_
                          refine wp_i2l jF_230_143 rfl (pc2 := 144) ?_
                          refine wp_cS (as := [.long (Int32.toInt64 (Int32.ofInt x120)), .long (Int32.toInt64 (Int32.ofInt least)), .long (Int32.toInt64 (Int32.ofInt most))]) (rest := []) (mx := 6) jF_230_144 rfl rfl rfl rfl (by omega) (by omega) rfl (pc2 := 147) ?_
                          show WP 232 0 [(0, .long (Int32.toInt64 (Int32.ofInt x120))), (2, .long (Int32.toInt64 (Int32.ofInt least))), (4, .long (Int32.toInt64 (Int32.ofInt most)))] [] _ _ _ _
                          refine wp_ll1 jF_232_0 rfl rfl (pc2 := 1) ?_
                          refine wp_ll1 jF_232_1 rfl rfl (pc2 := 2) ?_
                          refine wp_lcmp2 (a := x120) (b := least) jF_232_2 (m_i2lt (m_rgb h121 rfl)) (m_i2lt ⟨by omega, by omega⟩) rfl (pc2 := 3) ?_
                          intro z135 h136
                          refine wp_z_lt jF_232_3 ⟨by omega, by omega⟩ rfl (pc2 := 6) ?_ ?_
                          · intro h137
                            refine wp_ic jF_232_17 rfl (pc2 := 18) ?_
                            refine wp_ri jF_232_18 rfl ?_
                            show WP 230 147 [(0, .ref 117), (1, iV least), (2, iV most), (3, iV (τ8.1 117 2)), (4, iV x120)] [iV 0] _ _ _ _
                            refine wp_z_ne jF_230_147 (m_rgl rfl) rfl (pc2 := 150) ?_ ?_
                            · intro h138; exfalso; omega
                            · intro h138
                              refine wp_al1 jF_230_150 rfl rfl (pc2 := 151) ?_
                              refine wp_ic jF_230_151 rfl (pc2 := 152) ?_
                              refine wp_il1 jF_230_152 rfl rfl (pc2 := 153) ?_
                              refine wp_cV (as := [iV 2, iV (τ8.1 117 2)]) (rest := []) (a := 117) (mx := 3) (ci := 12) jF_230_153 kd117 (by decide) rfl rfl rfl rfl rfl (by omega) (by omega) rfl (pc2 := 156) ?_
                              have q139 : (τ131.1 117 5) = (σ.1 117 5) := ((FRw.nj f133 (by decide)).trans ((FR.at f124 117 5 rfl).trans ((FRw.nj f116 (by decide)).trans (FR.at f10 117 5 rfl))))
                              refine wp_use (m_218 τ131 g132 2 (by omega) (by omega) (τ8.1 117 2) (by omega) (by omega)  _ _ (by omega) (by omega)) ?_
                              rintro _ τ142 ⟨rfl, g143, f144, p140, p141⟩
                              clear p140
                              replace p141 := p141 (by omega)
                              show WP 230 156 [(0, .ref 117), (1, iV least), (2, iV most), (3, iV (τ8.1 117 2)), (4, iV x120)] [] _ _ _ _
                              refine wp_il2 jF_230_156 rfl rfl (pc2 := 158) ?_
                              refine wp_ri jF_230_158 rfl ?_
                              have q145 : (τ142.1 117 2) = (τ122.1 117 2) := ((FR.at f144 117 2 rfl).trans (FRw.nj f133 (by decide)))
                              have b146 := GI.b g143 117 5 kd117 (lo := (-2147483648)) (hi := 2147483647) rfl
                              exact ⟨x120, rfl, ⟨by omega, by omega⟩, g143, (FR.up (FR.w (FR.up (FR.w (FR.up FR.rf f10 sb_Wat_Wask) f116 rfl) f124 sb_Wat_Wask) f133 rfl) f144 sb_Wbad_Wask), (by omega), (by omega), (by omega)⟩
                          · intro h137
                            refine wp_ll1 jF_232_6 rfl rfl (pc2 := 7) ?_
                            refine wp_ll2 jF_232_7 rfl rfl (pc2 := 9) ?_
                            refine wp_lcmp2 (a := x120) (b := most) jF_232_9 (m_i2lt (m_rgb h121 rfl)) (m_i2lt ⟨by omega, by omega⟩) rfl (pc2 := 10) ?_
                            intro z147 h148
                            refine wp_z_gt jF_232_10 ⟨by omega, by omega⟩ rfl (pc2 := 13) ?_ ?_
                            · intro h149
                              refine wp_ic jF_232_17 rfl (pc2 := 18) ?_
                              refine wp_ri jF_232_18 rfl ?_
                              show WP 230 147 [(0, .ref 117), (1, iV least), (2, iV most), (3, iV (τ8.1 117 2)), (4, iV x120)] [iV 0] _ _ _ _
                              refine wp_z_ne jF_230_147 (m_rgl rfl) rfl (pc2 := 150) ?_ ?_
                              · intro h150; exfalso; omega
                              · intro h150
                                refine wp_al1 jF_230_150 rfl rfl (pc2 := 151) ?_
                                refine wp_ic jF_230_151 rfl (pc2 := 152) ?_
                                refine wp_il1 jF_230_152 rfl rfl (pc2 := 153) ?_
                                refine wp_cV (as := [iV 2, iV (τ8.1 117 2)]) (rest := []) (a := 117) (mx := 3) (ci := 12) jF_230_153 kd117 (by decide) rfl rfl rfl rfl rfl (by omega) (by omega) rfl (pc2 := 156) ?_
                                have q151 : (τ131.1 117 5) = (σ.1 117 5) := ((FRw.nj f133 (by decide)).trans ((FR.at f124 117 5 rfl).trans ((FRw.nj f116 (by decide)).trans (FR.at f10 117 5 rfl))))
                                refine wp_use (m_218 τ131 g132 2 (by omega) (by omega) (τ8.1 117 2) (by omega) (by omega)  _ _ (by omega) (by omega)) ?_
                                rintro _ τ154 ⟨rfl, g155, f156, p152, p153⟩
                                clear p152
                                replace p153 := p153 (by omega)
                                show WP 230 156 [(0, .ref 117), (1, iV least), (2, iV most), (3, iV (τ8.1 117 2)), (4, iV x120)] [] _ _ _ _
                                refine wp_il2 jF_230_156 rfl rfl (pc2 := 158) ?_
                                refine wp_ri jF_230_158 rfl ?_
                                have q157 : (τ154.1 117 2) = (τ122.1 117 2) := ((FR.at f156 117 2 rfl).trans (FRw.nj f133 (by decide)))
                                have b158 := GI.b g155 117 5 kd117 (lo := (-2147483648)) (hi := 2147483647) rfl
                                exact ⟨x120, rfl, ⟨by omega, by omega⟩, g155, (FR.up (FR.w (FR.up (FR.w (FR.up FR.rf f10 sb_Wat_Wask) f116 rfl) f124 sb_Wat_Wask) f133 rfl) f156 sb_Wbad_Wask), (by omega), (by omega), (by omega)⟩
                            · intro h149
                              refine wp_ic jF_232_13 rfl (pc2 := 14) ?_
                              refine wp_go jF_232_14 ?_
                              refine wp_ri jF_232_18 rfl ?_
                              show WP 230 147 [(0, .ref 117), (1, iV least), (2, iV most), (3, iV (τ8.1 117 2)), (4, iV x120)] [iV 1] _ _ _ _
                              refine wp_z_ne jF_230_147 (m_rgl rfl) rfl (pc2 := 150) ?_ ?_
                              · intro h159
                                refine wp_il2 jF_230_156 rfl rfl (pc2 := 158) ?_
                                refine wp_ri jF_230_158 rfl ?_
                                have q160 : (τ131.1 117 2) = (τ122.1 117 2) := (FRw.nj f133 (by decide))
                                have q161 : (τ131.1 117 5) = (σ.1 117 5) := ((FRw.nj f133 (by decide)).trans ((FR.at f124 117 5 rfl).trans ((FRw.nj f116 (by decide)).trans (FR.at f10 117 5 rfl))))
                                exact ⟨x120, rfl, ⟨by omega, by omega⟩, g132, (FR.w (FR.up (FR.w (FR.up FR.rf f10 sb_Wat_Wask) f116 rfl) f124 sb_Wat_Wask) f133 rfl), (by omega), (by omega), (by omega)⟩
                              · intro h159; exfalso; omega
                        · intro h130
                          refine wp_al1 jF_230_60 rfl rfl (pc2 := 61) ?_
                          refine wp_gr (b := 118) jF_230_61 kd117 (by decide) (c := 218) rfl rfl rfl (pc2 := 64) ?_
                          refine wp_al1 jF_230_64 rfl rfl (pc2 := 65) ?_
                          refine wp_gi jF_230_65 kd117 (by decide) rfl rfl rfl (pc2 := 68) ?_
                          have b162 := GI.b hg 118 (τ122.1 117 2).toNat kd118 (lo := 0) (hi := 255) rfl
                          refine wp_iald (n := 1600) jF_230_68 kd118 (by decide) rfl rfl (by omega) (by omega) ((FR.at f124 118 (τ122.1 117 2).toNat rfl).trans ((FRw.na f116 (by decide)).trans (FR.at f10 118 (τ122.1 117 2).toNat rfl))) rfl (pc2 := 69) ?_
                          refine wp_cS (as := [iV (σ.1 118 (τ122.1 117 2).toNat)]) (rest := []) (mx := 1) jF_230_69 rfl rfl rfl rfl (by omega) (by omega) rfl (pc2 := 72) ?_
                          show WP 231 0 [(0, iV (σ.1 118 (τ122.1 117 2).toNat))] [] _ _ _ _
                          refine wp_il1 jF_231_0 rfl rfl (pc2 := 1) ?_
                          refine wp_bi jF_231_1 (by decide) rfl (pc2 := 3) ?_
                          refine wp_i_lt jF_231_3 (m_rgb b162 rfl) (m_rgl rfl) rfl (pc2 := 6) ?_ ?_
                          · intro h163
                            refine wp_ic jF_231_16 rfl (pc2 := 17) ?_
                            refine wp_ri jF_231_17 rfl ?_
                            show WP 230 72 [(0, .ref 117), (1, iV least), (2, iV most), (3, iV (τ8.1 117 2)), (4, iV x120)] [iV 0] _ _ _ _
                            refine wp_z_eq jF_230_72 (m_rgl rfl) rfl (pc2 := 75) ?_ ?_
                            · intro h164
                              refine wp_al1 jF_230_129 rfl rfl (pc2 := 130) ?_
                              refine wp_al1 jF_230_130 rfl rfl (pc2 := 131) ?_
                              refine wp_gi jF_230_131 kd117 (by decide) rfl rfl rfl (pc2 := 134) ?_
                              refine wp_pi jF_230_134 kd117 (by decide) rfl rfl rfl (pc2 := 137) g123 (lo := (-2147483648)) (hi := 2147483647) rfl (by omega) (by omega) ?_
                              intro τ165 g166 f167 e168
                              refine wp_il2 jF_230_137 rfl rfl (pc2 := 139) ?_
                              refine wp_i2l jF_230_139 rfl (pc2 := 140) ?_
                              refine wp_il1 jF_230_140 rfl rfl (pc2 := 141) ?_
                              refine wp_i2l jF_230_141 rfl (pc2 := 142) ?_
                              refine wp_il1 jF_230_142 rfl rfl (pc2 := 143) ?_
                              refine wp_i2l jF_230_143 rfl (pc2 := 144) ?_
                              refine wp_cS (as := [.long (Int32.toInt64 (Int32.ofInt x120)), .long (Int32.toInt64 (Int32.ofInt least)), .long (Int32.toInt64 (Int32.ofInt most))]) (rest := []) (mx := 6) jF_230_144 rfl rfl rfl rfl (by omega) (by omega) rfl (pc2 := 147) ?_
                              show WP 232 0 [(0, .long (Int32.toInt64 (Int32.ofInt x120))), (2, .long (Int32.toInt64 (Int32.ofInt least))), (4, .long (Int32.toInt64 (Int32.ofInt most)))] [] _ _ _ _
                              refine wp_ll1 jF_232_0 rfl rfl (pc2 := 1) ?_
                              refine wp_ll1 jF_232_1 rfl rfl (pc2 := 2) ?_
                              refine wp_lcmp2 (a := x120) (b := least) jF_232_2 (m_i2lt (m_rgb h121 rfl)) (m_i2lt ⟨by omega, by omega⟩) rfl (pc2 := 3) ?_
                              intro z169 h170
                              refine wp_z_lt jF_232_3 ⟨by omega, by omega⟩ rfl (pc2 := 6) ?_ ?_
                              · intro h171
                                refine wp_ic jF_232_17 rfl (pc2 := 18) ?_
                                refine wp_ri jF_232_18 rfl ?_
                                show WP 230 147 [(0, .ref 117), (1, iV least), (2, iV most), (3, iV (τ8.1 117 2)), (4, iV x120)] [iV 0] _ _ _ _
                                refine wp_z_ne jF_230_147 (m_rgl rfl) rfl (pc2 := 150) ?_ ?_
                                · intro h172; exfalso; omega
                                · intro h172
                                  refine wp_al1 jF_230_150 rfl rfl (pc2 := 151) ?_
                                  refine wp_ic jF_230_151 rfl (pc2 := 152) ?_
                                  refine wp_il1 jF_230_152 rfl rfl (pc2 := 153) ?_
                                  refine wp_cV (as := [iV 2, iV (τ8.1 117 2)]) (rest := []) (a := 117) (mx := 3) (ci := 12) jF_230_153 kd117 (by decide) rfl rfl rfl rfl rfl (by omega) (by omega) rfl (pc2 := 156) ?_
                                  have q173 : (τ165.1 117 5) = (σ.1 117 5) := ((FRw.nj f167 (by decide)).trans ((FR.at f124 117 5 rfl).trans ((FRw.nj f116 (by decide)).trans (FR.at f10 117 5 rfl))))
                                  refine wp_use (m_218 τ165 g166 2 (by omega) (by omega) (τ8.1 117 2) (by omega) (by omega)  _ _ (by omega) (by omega)) ?_
                                  rintro _ τ176 ⟨rfl, g177, f178, p174, p175⟩
                                  clear p174
                                  replace p175 := p175 (by omega)
                                  show WP 230 156 [(0, .ref 117), (1, iV least), (2, iV most), (3, iV (τ8.1 117 2)), (4, iV x120)] [] _ _ _ _
                                  refine wp_il2 jF_230_156 rfl rfl (pc2 := 158) ?_
                                  refine wp_ri jF_230_158 rfl ?_
                                  have q179 : (τ176.1 117 2) = (τ122.1 117 2) := ((FR.at f178 117 2 rfl).trans (FRw.nj f167 (by decide)))
                                  have b180 := GI.b g177 117 5 kd117 (lo := (-2147483648)) (hi := 2147483647) rfl
                                  exact ⟨x120, rfl, ⟨by omega, by omega⟩, g177, (FR.up (FR.w (FR.up (FR.w (FR.up FR.rf f10 sb_Wat_Wask) f116 rfl) f124 sb_Wat_Wask) f167 rfl) f178 sb_Wbad_Wask), (by omega), (by omega), (by omega)⟩
                              · intro h171
                                refine wp_ll1 jF_232_6 rfl rfl (pc2 := 7) ?_
                                refine wp_ll2 jF_232_7 rfl rfl (pc2 := 9) ?_
                                refine wp_lcmp2 (a := x120) (b := most) jF_232_9 (m_i2lt (m_rgb h121 rfl)) (m_i2lt ⟨by omega, by omega⟩) rfl (pc2 := 10) ?_
                                intro z181 h182
                                refine wp_z_gt jF_232_10 ⟨by omega, by omega⟩ rfl (pc2 := 13) ?_ ?_
                                · intro h183
                                  refine wp_ic jF_232_17 rfl (pc2 := 18) ?_
                                  refine wp_ri jF_232_18 rfl ?_
                                  show WP 230 147 [(0, .ref 117), (1, iV least), (2, iV most), (3, iV (τ8.1 117 2)), (4, iV x120)] [iV 0] _ _ _ _
                                  refine wp_z_ne jF_230_147 (m_rgl rfl) rfl (pc2 := 150) ?_ ?_
                                  · intro h184; exfalso; omega
                                  · intro h184
                                    refine wp_al1 jF_230_150 rfl rfl (pc2 := 151) ?_
                                    refine wp_ic jF_230_151 rfl (pc2 := 152) ?_
                                    refine wp_il1 jF_230_152 rfl rfl (pc2 := 153) ?_
                                    refine wp_cV (as := [iV 2, iV (τ8.1 117 2)]) (rest := []) (a := 117) (mx := 3) (ci := 12) jF_230_153 kd117 (by decide) rfl rfl rfl rfl rfl (by omega) (by omega) rfl (pc2 := 156) ?_
                                    have q185 : (τ165.1 117 5) = (σ.1 117 5) := ((FRw.nj f167 (by decide)).trans ((FR.at f124 117 5 rfl).trans ((FRw.nj f116 (by decide)).trans (FR.at f10 117 5 rfl))))
                                    refine wp_use (m_218 τ165 g166 2 (by omega) (by omega) (τ8.1 117 2) (by omega) (by omega)  _ _ (by omega) (by omega)) ?_
                                    rintro _ τ188 ⟨rfl, g189, f190, p186, p187⟩
                                    clear p186
                                    replace p187 := p187 (by omega)
                                    show WP 230 156 [(0, .ref 117), (1, iV least), (2, iV most), (3, iV (τ8.1 117 2)), (4, iV x120)] [] _ _ _ _
                                    refine wp_il2 jF_230_156 rfl rfl (pc2 := 158) ?_
                                    refine wp_ri jF_230_158 rfl ?_
                                    have q191 : (τ188.1 117 2) = (τ122.1 117 2) := ((FR.at f190 117 2 rfl).trans (FRw.nj f167 (by decide)))
                                    have b192 := GI.b g189 117 5 kd117 (lo := (-2147483648)) (hi := 2147483647) rfl
                                    exact ⟨x120, rfl, ⟨by omega, by omega⟩, g189, (FR.up (FR.w (FR.up (FR.w (FR.up FR.rf f10 sb_Wat_Wask) f116 rfl) f124 sb_Wat_Wask) f167 rfl) f190 sb_Wbad_Wask), (by omega), (by omega), (by omega)⟩
                                · intro h183
                                  refine wp_ic jF_232_13 rfl (pc2 := 14) ?_
                                  refine wp_go jF_232_14 ?_
                                  refine wp_ri jF_232_18 rfl ?_
                                  show WP 230 147 [(0, .ref 117), (1, iV least), (2, iV most), (3, iV (τ8.1 117 2)), (4, iV x120)] [iV 1] _ _ _ _
                                  refine wp_z_ne jF_230_147 (m_rgl rfl) rfl (pc2 := 150) ?_ ?_
                                  · intro h193
                                    refine wp_il2 jF_230_156 rfl rfl (pc2 := 158) ?_
                                    refine wp_ri jF_230_158 rfl ?_
                                    have q194 : (τ165.1 117 2) = (τ122.1 117 2) := (FRw.nj f167 (by decide))
                                    have q195 : (τ165.1 117 5) = (σ.1 117 5) := ((FRw.nj f167 (by decide)).trans ((FR.at f124 117 5 rfl).trans ((FRw.nj f116 (by decide)).trans (FR.at f10 117 5 rfl))))
                                    exact ⟨x120, rfl, ⟨by omega, by omega⟩, g166, (FR.w (FR.up (FR.w (FR.up FR.rf f10 sb_Wat_Wask) f116 rfl) f124 sb_Wat_Wask) f167 rfl), (by omega), (by omega), (by omega)⟩
                                  · intro h193; exfalso; omega
                            · intro h164; exfalso; omega
                          · intro h163
                            refine wp_il1 jF_231_6 rfl rfl (pc2 := 7) ?_
                            refine wp_bi jF_231_7 (by decide) rfl (pc2 := 9) ?_
                            refine wp_i_gt jF_231_9 ⟨by omega, by omega⟩ (m_rgl rfl) rfl (pc2 := 12) ?_ ?_
                            · intro h196
                              refine wp_ic jF_231_16 rfl (pc2 := 17) ?_
                              refine wp_ri jF_231_17 rfl ?_
                              show WP 230 72 [(0, .ref 117), (1, iV least), (2, iV most), (3, iV (τ8.1 117 2)), (4, iV x120)] [iV 0] _ _ _ _
                              refine wp_z_eq jF_230_72 (m_rgl rfl) rfl (pc2 := 75) ?_ ?_
                              · intro h197
                                refine wp_al1 jF_230_129 rfl rfl (pc2 := 130) ?_
                                refine wp_al1 jF_230_130 rfl rfl (pc2 := 131) ?_
                                refine wp_gi jF_230_131 kd117 (by decide) rfl rfl rfl (pc2 := 134) ?_
                                refine wp_pi jF_230_134 kd117 (by decide) rfl rfl rfl (pc2 := 137) g123 (lo := (-2147483648)) (hi := 2147483647) rfl (by omega) (by omega) ?_
                                intro τ198 g199 f200 e201
                                refine wp_il2 jF_230_137 rfl rfl (pc2 := 139) ?_
                                refine wp_i2l jF_230_139 rfl (pc2 := 140) ?_
                                refine wp_il1 jF_230_140 rfl rfl (pc2 := 141) ?_
                                refine wp_i2l jF_230_141 rfl (pc2 := 142) ?_
                                refine wp_il1 jF_230_142 rfl rfl (pc2 := 143) ?_
                                refine wp_i2l jF_230_143 rfl (pc2 := 144) ?_
                                refine wp_cS (as := [.long (Int32.toInt64 (Int32.ofInt x120)), .long (Int32.toInt64 (Int32.ofInt least)), .long (Int32.toInt64 (Int32.ofInt most))]) (rest := []) (mx := 6) jF_230_144 rfl rfl rfl rfl (by omega) (by omega) rfl (pc2 := 147) ?_
                                show WP 232 0 [(0, .long (Int32.toInt64 (Int32.ofInt x120))), (2, .long (Int32.toInt64 (Int32.ofInt least))), (4, .long (Int32.toInt64 (Int32.ofInt most)))] [] _ _ _ _
                                refine wp_ll1 jF_232_0 rfl rfl (pc2 := 1) ?_
                                refine wp_ll1 jF_232_1 rfl rfl (pc2 := 2) ?_
                                refine wp_lcmp2 (a := x120) (b := least) jF_232_2 (m_i2lt (m_rgb h121 rfl)) (m_i2lt ⟨by omega, by omega⟩) rfl (pc2 := 3) ?_
                                intro z202 h203
                                refine wp_z_lt jF_232_3 ⟨by omega, by omega⟩ rfl (pc2 := 6) ?_ ?_
                                · intro h204
                                  refine wp_ic jF_232_17 rfl (pc2 := 18) ?_
                                  refine wp_ri jF_232_18 rfl ?_
                                  show WP 230 147 [(0, .ref 117), (1, iV least), (2, iV most), (3, iV (τ8.1 117 2)), (4, iV x120)] [iV 0] _ _ _ _
                                  refine wp_z_ne jF_230_147 (m_rgl rfl) rfl (pc2 := 150) ?_ ?_
                                  · intro h205; exfalso; omega
                                  · intro h205
                                    refine wp_al1 jF_230_150 rfl rfl (pc2 := 151) ?_
                                    refine wp_ic jF_230_151 rfl (pc2 := 152) ?_
                                    refine wp_il1 jF_230_152 rfl rfl (pc2 := 153) ?_
                                    refine wp_cV (as := [iV 2, iV (τ8.1 117 2)]) (rest := []) (a := 117) (mx := 3) (ci := 12) jF_230_153 kd117 (by decide) rfl rfl rfl rfl rfl (by omega) (by omega) rfl (pc2 := 156) ?_
                                    have q206 : (τ198.1 117 5) = (σ.1 117 5) := ((FRw.nj f200 (by decide)).trans ((FR.at f124 117 5 rfl).trans ((FRw.nj f116 (by decide)).trans (FR.at f10 117 5 rfl))))
                                    refine wp_use (m_218 τ198 g199 2 (by omega) (by omega) (τ8.1 117 2) (by omega) (by omega)  _ _ (by omega) (by omega)) ?_
                                    rintro _ τ209 ⟨rfl, g210, f211, p207, p208⟩
                                    clear p207
                                    replace p208 := p208 (by omega)
                                    show WP 230 156 [(0, .ref 117), (1, iV least), (2, iV most), (3, iV (τ8.1 117 2)), (4, iV x120)] [] _ _ _ _
                                    refine wp_il2 jF_230_156 rfl rfl (pc2 := 158) ?_
                                    refine wp_ri jF_230_158 rfl ?_
                                    have q212 : (τ209.1 117 2) = (τ122.1 117 2) := ((FR.at f211 117 2 rfl).trans (FRw.nj f200 (by decide)))
                                    have b213 := GI.b g210 117 5 kd117 (lo := (-2147483648)) (hi := 2147483647) rfl
                                    exact ⟨x120, rfl, ⟨by omega, by omega⟩, g210, (FR.up (FR.w (FR.up (FR.w (FR.up FR.rf f10 sb_Wat_Wask) f116 rfl) f124 sb_Wat_Wask) f200 rfl) f211 sb_Wbad_Wask), (by omega), (by omega), (by omega)⟩
                                · intro h204
                                  refine wp_ll1 jF_232_6 rfl rfl (pc2 := 7) ?_
                                  refine wp_ll2 jF_232_7 rfl rfl (pc2 := 9) ?_
                                  refine wp_lcmp2 (a := x120) (b := most) jF_232_9 (m_i2lt (m_rgb h121 rfl)) (m_i2lt ⟨by omega, by omega⟩) rfl (pc2 := 10) ?_
                                  intro z214 h215
                                  refine wp_z_gt jF_232_10 ⟨by omega, by omega⟩ rfl (pc2 := 13) ?_ ?_
                                  · intro h216
                                    refine wp_ic jF_232_17 rfl (pc2 := 18) ?_
                                    refine wp_ri jF_232_18 rfl ?_
                                    show WP 230 147 [(0, .ref 117), (1, iV least), (2, iV most), (3, iV (τ8.1 117 2)), (4, iV x120)] [iV 0] _ _ _ _
                                    refine wp_z_ne jF_230_147 (m_rgl rfl) rfl (pc2 := 150) ?_ ?_
                                    · intro h217; exfalso; omega
                                    · intro h217
                                      refine wp_al1 jF_230_150 rfl rfl (pc2 := 151) ?_
                                      refine wp_ic jF_230_151 rfl (pc2 := 152) ?_
                                      refine wp_il1 jF_230_152 rfl rfl (pc2 := 153) ?_
                                      refine wp_cV (as := [iV 2, iV (τ8.1 117 2)]) (rest := []) (a := 117) (mx := 3) (ci := 12) jF_230_153 kd117 (by decide) rfl rfl rfl rfl rfl (by omega) (by omega) rfl (pc2 := 156) ?_
                                      have q218 : (τ198.1 117 5) = (σ.1 117 5) := ((FRw.nj f200 (by decide)).trans ((FR.at f124 117 5 rfl).trans ((FRw.nj f116 (by decide)).trans (FR.at f10 117 5 rfl))))
                                      refine wp_use (m_218 τ198 g199 2 (by omega) (by omega) (τ8.1 117 2) (by omega) (by omega)  _ _ (by omega) (by omega)) ?_
                                      rintro _ τ221 ⟨rfl, g222, f223, p219, p220⟩
                                      clear p219
                                      replace p220 := p220 (by omega)
                                      show WP 230 156 [(0, .ref 117), (1, iV least), (2, iV most), (3, iV (τ8.1 117 2)), (4, iV x120)] [] _ _ _ _
                                      refine wp_il2 jF_230_156 rfl rfl (pc2 := 158) ?_
                                      refine wp_ri jF_230_158 rfl ?_
                                      have q224 : (τ221.1 117 2) = (τ122.1 117 2) := ((FR.at f223 117 2 rfl).trans (FRw.nj f200 (by decide)))
                                      have b225 := GI.b g222 117 5 kd117 (lo := (-2147483648)) (hi := 2147483647) rfl
                                      exact ⟨x120, rfl, ⟨by omega, by omega⟩, g222, (FR.up (FR.w (FR.up (FR.w (FR.up FR.rf f10 sb_Wat_Wask) f116 rfl) f124 sb_Wat_Wask) f200 rfl) f223 sb_Wbad_Wask), (by omega), (by omega), (by omega)⟩
                                  · intro h216
                                    refine wp_ic jF_232_13 rfl (pc2 := 14) ?_
                                    refine wp_go jF_232_14 ?_
                                    refine wp_ri jF_232_18 rfl ?_
                                    show WP 230 147 [(0, .ref 117), (1, iV least), (2, iV most), (3, iV (τ8.1 117 2)), (4, iV x120)] [iV 1] _ _ _ _
                                    refine wp_z_ne jF_230_147 (m_rgl rfl) rfl (pc2 := 150) ?_ ?_
                                    · intro h226
                                      refine wp_il2 jF_230_156 rfl rfl (pc2 := 158) ?_
                                      refine wp_ri jF_230_158 rfl ?_
                                      have q227 : (τ198.1 117 2) = (τ122.1 117 2) := (FRw.nj f200 (by decide))
                                      have q228 : (τ198.1 117 5) = (σ.1 117 5) := ((FRw.nj f200 (by decide)).trans ((FR.at f124 117 5 rfl).trans ((FRw.nj f116 (by decide)).trans (FR.at f10 117 5 rfl))))
                                      exact ⟨x120, rfl, ⟨by omega, by omega⟩, g199, (FR.w (FR.up (FR.w (FR.up FR.rf f10 sb_Wat_Wask) f116 rfl) f124 sb_Wat_Wask) f200 rfl), (by omega), (by omega), (by omega)⟩
                                    · intro h226; exfalso; omega
                              · intro h197; exfalso; omega
                            · intro h196
                              refine wp_ic jF_231_12 rfl (pc2 := 13) ?_
                              refine wp_go jF_231_13 ?_
                              refine wp_ri jF_231_17 rfl ?_
                              show WP 230 72 [(0, .ref 117), (1, iV least), (2, iV most), (3, iV (τ8.1 117 2)), (4, iV x120)] [iV 1] _ _ _ _
                              refine wp_z_eq jF_230_72 (m_rgl rfl) rfl (pc2 := 75) ?_ ?_
                              · intro h229; exfalso; omega
                              · intro h229
                                refine wp_al1 jF_230_75 rfl rfl (pc2 := 76) ?_
                                refine wp_gi jF_230_76 kd117 (by decide) rfl rfl rfl (pc2 := 79) ?_
                                refine wp_il1 jF_230_79 rfl rfl (pc2 := 80) ?_
                                refine wp_sub jF_230_80 rfl (pc2 := 81) ?_
                                refine wp_ic jF_230_81 rfl (pc2 := 82) ?_
                                refine wp_i_ne jF_230_82 ⟨by omega, by omega⟩ (m_rgl rfl) rfl (pc2 := 85) ?_ ?_
                                · intro h230
                                  refine wp_bi jF_230_96 (by decide) rfl (pc2 := 98) ?_
                                  refine wp_il2 jF_230_98 rfl rfl (pc2 := 100) ?_
                                  refine wp_mul jF_230_100 rfl (pc2 := 101) ?_
                                  refine wp_al1 jF_230_101 rfl rfl (pc2 := 102) ?_
                                  refine wp_gr (b := 118) jF_230_102 kd117 (by decide) (c := 218) rfl rfl rfl (pc2 := 105) ?_
                                  refine wp_al1 jF_230_105 rfl rfl (pc2 := 106) ?_
                                  refine wp_gi jF_230_106 kd117 (by decide) rfl rfl rfl (pc2 := 109) ?_
                                  refine wp_iald (n := 1600) jF_230_109 kd118 (by decide) rfl rfl (by omega) (by omega) ((FR.at f124 118 (τ122.1 117 2).toNat rfl).trans ((FRw.na f116 (by decide)).trans (FR.at f10 118 (τ122.1 117 2).toNat rfl))) rfl (pc2 := 110) ?_
                                  refine wp_add jF_230_110 rfl (pc2 := 111) ?_
                                  refine wp_bi jF_230_111 (by decide) rfl (pc2 := 113) ?_
                                  refine wp_sub jF_230_113 rfl (pc2 := 114) ?_
                                  refine wp_is2 (lv2 := [(0, .ref 117), (1, iV least), (2, iV most), (3, iV (τ8.1 117 2)), (4, iV (((10 * x120) + (σ.1 118 (τ122.1 117 2).toNat)) - 48))]) jF_230_114 rfl rfl rfl (pc2 := 116) ?_
                                  refine wp_al1 jF_230_116 rfl rfl (pc2 := 117) ?_
                                  refine wp_dup jF_230_117 rfl rfl (pc2 := 118) ?_
                                  refine wp_gi jF_230_118 kd117 (by decide) rfl rfl rfl (pc2 := 121) ?_
                                  refine wp_ic jF_230_121 rfl (pc2 := 122) ?_
                                  refine wp_add jF_230_122 rfl (pc2 := 123) ?_
                                  refine wp_pi jF_230_123 kd117 (by decide) rfl rfl rfl (pc2 := 126) g123 (lo := 0) (hi := 1601) rfl (by omega) (by omega) ?_
                                  intro τ231 g232 f233 e234
                                  refine wp_go jF_230_126 ?_
                                  have q235 : (τ231.1 117 2) = ((τ122.1 117 2) + 1) := e234
                                  exact ih128 ((((10 * x120) + (σ.1 118 (τ122.1 117 2).toNat)) - 48)) τ231 ⟨⟨by omega, by omega⟩, g232, (FR.w f124 f233 rfl), (by omega), (by omega), (by omega)⟩ (by show Int.toNat (1700 - (τ231.1 117 2)) < Int.toNat (1700 - (τ122.1 117 2)); omega)
                                · intro h230
                                  refine wp_al1 jF_230_85 rfl rfl (pc2 := 86) ?_
                                  refine wp_ic jF_230_86 rfl (pc2 := 87) ?_
                                  refine wp_al1 jF_230_87 rfl rfl (pc2 := 88) ?_
                                  refine wp_gi jF_230_88 kd117 (by decide) rfl rfl rfl (pc2 := 91) ?_
                                  refine wp_cV (as := [iV 1, iV (τ122.1 117 2)]) (rest := []) (a := 117) (mx := 3) (ci := 12) jF_230_91 kd117 (by decide) rfl rfl rfl rfl rfl (by omega) (by omega) rfl (pc2 := 94) ?_
                                  have q236 : (τ122.1 117 5) = (σ.1 117 5) := ((FR.at f124 117 5 rfl).trans ((FRw.nj f116 (by decide)).trans (FR.at f10 117 5 rfl)))
                                  refine wp_use (m_218 τ122 g123 1 (by omega) (by omega) (τ122.1 117 2) (by omega) (by omega)  _ _ (by omega) (by omega)) ?_
                                  rintro _ τ239 ⟨rfl, g240, f241, p237, p238⟩
                                  clear p237
                                  replace p238 := p238 (by omega)
                                  show WP 230 94 [(0, .ref 117), (1, iV least), (2, iV most), (3, iV (τ8.1 117 2)), (4, iV x120)] [] _ _ _ _
                                  refine wp_ic jF_230_94 rfl (pc2 := 95) ?_
                                  refine wp_ri jF_230_95 rfl ?_
                                  have q242 : (τ239.1 117 2) = (τ122.1 117 2) := (FR.at f241 117 2 rfl)
                                  have b243 := GI.b g240 117 5 kd117 (lo := (-2147483648)) (hi := 2147483647) rfl
                                  exact ⟨0, rfl, ⟨by omega, by omega⟩, g240, (FR.up (FR.up (FR.w (FR.up FR.rf f10 sb_Wat_Wask) f116 rfl) f124 sb_Wat_Wask) f241 sb_Wbad_Wask), (by omega), (by omega), (by omega)⟩
                    · intro h113
                      refine wp_al1 jF_230_85 rfl rfl (pc2 := 86) ?_
                      refine wp_ic jF_230_86 rfl (pc2 := 87) ?_
                      refine wp_al1 jF_230_87 rfl rfl (pc2 := 88) ?_
                      refine wp_gi jF_230_88 kd117 (by decide) rfl rfl rfl (pc2 := 91) ?_
                      refine wp_cV (as := [iV 1, iV (τ8.1 117 2)]) (rest := []) (a := 117) (mx := 3) (ci := 12) jF_230_91 kd117 (by decide) rfl rfl rfl rfl rfl (by omega) (by omega) rfl (pc2 := 94) ?_
                      have q244 : (τ8.1 117 5) = (σ.1 117 5) := (FR.at f10 117 5 rfl)
                      refine wp_use (m_218 τ8 g9 1 (by omega) (by omega) (τ8.1 117 2) (by omega) (by omega)  _ _ (by omega) (by omega)) ?_
                      rintro _ τ247 ⟨rfl, g248, f249, p245, p246⟩
                      clear p245
                      replace p246 := p246 (by omega)
                      show WP 230 94 [(0, .ref 117), (1, iV least), (2, iV most), (3, iV (τ8.1 117 2)), (4, iV 0)] [] _ _ _ _
                      refine wp_ic jF_230_94 rfl (pc2 := 95) ?_
                      refine wp_ri jF_230_95 rfl ?_
                      have q250 : (τ247.1 117 2) = (τ8.1 117 2) := (FR.at f249 117 2 rfl)
                      have b251 := GI.b g248 117 5 kd117 (lo := (-2147483648)) (hi := 2147483647) rfl
                      exact ⟨0, rfl, ⟨by omega, by omega⟩, g248, (FR.up (FR.up FR.rf f10 sb_Wat_Wask) f249 sb_Wbad_Wask), (by omega), (by omega), (by omega)⟩
          · intro h39
            refine wp_al1 jF_230_30 rfl rfl (pc2 := 31) ?_
            refine wp_ic jF_230_31 rfl (pc2 := 32) ?_
            refine wp_al1 jF_230_32 rfl rfl (pc2 := 33) ?_
            refine wp_gi jF_230_33 kd117 (by decide) rfl rfl rfl (pc2 := 36) ?_
            refine wp_cV (as := [iV 1, iV (τ8.1 117 2)]) (rest := []) (a := 117) (mx := 3) (ci := 12) jF_230_36 kd117 (by decide) rfl rfl rfl rfl rfl (by omega) (by omega) rfl (pc2 := 39) ?_
            have q252 : (τ8.1 117 5) = (σ.1 117 5) := (FR.at f10 117 5 rfl)
            refine wp_use (m_218 τ8 g9 1 (by omega) (by omega) (τ8.1 117 2) (by omega) (by omega)  _ _ (by omega) (by omega)) ?_
            rintro _ τ255 ⟨rfl, g256, f257, p253, p254⟩
            clear p253
            replace p254 := p254 (by omega)
            show WP 230 39 [(0, .ref 117), (1, iV least), (2, iV most)] [] _ _ _ _
            refine wp_ic jF_230_39 rfl (pc2 := 40) ?_
            refine wp_ri jF_230_40 rfl ?_
            have q258 : (τ255.1 117 2) = (τ8.1 117 2) := (FR.at f257 117 2 rfl)
            have b259 := GI.b g256 117 5 kd117 (lo := (-2147483648)) (hi := 2147483647) rfl
            exact ⟨0, rfl, ⟨by omega, by omega⟩, g256, (FR.up (FR.up FR.rf f10 sb_Wat_Wask) f257 sb_Wbad_Wask), (by omega), (by omega), (by omega)⟩
  · intro h2
    refine wp_ic jF_230_7 rfl (pc2 := 8) ?_
    refine wp_ri jF_230_8 rfl ?_
    have b260 := GI.b hg 117 2 kd117 (lo := 0) (hi := 1601) rfl
    have b261 := GI.b hg 117 3 kd117 (lo := 0) (hi := 1600) rfl
    exact ⟨0, rfl, ⟨by omega, by omega⟩, hg, FR.rf, (by omega), (by omega), (by omega)⟩
