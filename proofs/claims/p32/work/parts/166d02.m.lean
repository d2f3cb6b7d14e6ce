set_option maxHeartbeats 4000000 in
set_option maxRecDepth 20000 in
/-- Way.isNear -/
theorem m_147_r70_75_n2 (σ : jM) (hg : GI σ) (i0 : Int) (hl_i0 : 0 ≤ i0) (hu_i0 : i0 ≤ 61) (j0 : Int) (hl_j0 : 0 ≤ j0) (hu_j0 : j0 ≤ 61) (pre0 : i0 ≤ (σ.1 70 1)) (pre1 : j0 ≤ (σ.1 75 1)) (fr lo : Nat) (hfr : 3 ≤ fr) (hlo : 96 ≤ lo) : WP 147 0 (lv_args 0 [.ref 70, iV i0, .ref 75, iV j0, iV 2]) [] fr lo σ (fun v τ => ∃ z : Int, v = some (iV z) ∧ (0 ≤ z ∧ z ≤ 1) ∧ σ = τ) := by
  show WP 147 0 [(0, .ref 70), (1, iV i0), (2, .ref 75), (3, iV j0), (4, iV 2)] [] _ _ _ _
  refine wp_il1 jF_147_0 rfl rfl (pc2 := 1) ?_
  refine wp_is2 (lv2 := [(0, .ref 70), (1, iV i0), (2, .ref 75), (3, iV j0), (4, iV 2), (5, iV i0)]) jF_147_1 rfl rfl rfl (pc2 := 3) ?_
  refine wp_il1 jF_147_3 rfl rfl (pc2 := 4) ?_
  refine wp_is2 (lv2 := [(0, .ref 70), (1, iV i0), (2, .ref 75), (3, iV j0), (4, iV 2), (5, iV i0), (6, iV j0)]) jF_147_4 rfl rfl rfl (pc2 := 6) ?_
  have b1 := GI.b hg 70 1 kd70 (lo := 0) (hi := 60) rfl
  have b2 := GI.b hg 75 1 kd75 (lo := 0) (hi := 60) rfl
  refine wp_loop (α := Int × Int) (fun a => [(0, .ref 70), (1, iV i0), (2, .ref 75), (3, iV j0), (4, iV 2), (5, iV (a.1)), (6, iV (a.2))]) (fun a τ => (0 ≤ a.1 ∧ a.1 ≤ 61) ∧ (0 ≤ a.2 ∧ a.2 ≤ 61) ∧ σ = τ ∧ ((a.1) ≤ (σ.1 70 1)) ∧ ((a.2) ≤ (σ.1 75 1))) (fun a τ => Int.toNat (61 - (a.1))) (i0, j0) σ ?_ ?_
  · skip
    exact ⟨⟨by (try dsimp only); omega, by (try dsimp only); omega⟩, ⟨by (try dsimp only); omega, by (try dsimp only); omega⟩, rfl, (by (try dsimp only); omega), (by (try dsimp only); omega)⟩
  · rintro ⟨x3, x4⟩ _ ⟨h5, h6, rfl, p10, p11⟩ ih12
    try dsimp only at h5 h6 p10 p11
    show WP 147 6 [(0, .ref 70), (1, iV i0), (2, .ref 75), (3, iV j0), (4, iV 2), (5, iV x3), (6, iV x4)] [] _ _ _ _
    show WP 147 6 [(0, .ref 70), (1, iV i0), (2, .ref 75), (3, iV j0), (4, iV 2), (5, iV x3), (6, iV x4)] [] _ _ _ _
    refine wp_il2 jF_147_6 rfl rfl (pc2 := 8) ?_
    refine wp_al1 jF_147_8 rfl rfl (pc2 := 9) ?_
    refine wp_gi jF_147_9 kd70 (by decide) rfl rfl rfl (pc2 := 12) ?_
    refine wp_i_ge jF_147_12 (m_rgb h5 rfl) (m_rgb b1 rfl) rfl (pc2 := 15) ?_ ?_
    · intro h13
      refine wp_al1 jF_147_50 rfl rfl (pc2 := 51) ?_
      refine wp_gi jF_147_51 kd70 (by decide) rfl rfl rfl (pc2 := 54) ?_
      refine wp_il2 jF_147_54 rfl rfl (pc2 := 56) ?_
      refine wp_sub jF_147_56 rfl (pc2 := 57) ?_
      refine wp_is2 (lv2 := [(0, .ref 70), (1, iV i0), (2, .ref 75), (3, iV j0), (4, iV 2), (5, iV x3), (6, iV x4), (7, iV ((σ.1 70 1) - x3))]) jF_147_57 rfl rfl rfl (pc2 := 59) ?_
      refine wp_al1 jF_147_59 rfl rfl (pc2 := 60) ?_
      refine wp_gi jF_147_60 kd75 (by decide) rfl rfl rfl (pc2 := 63) ?_
      refine wp_il2 jF_147_63 rfl rfl (pc2 := 65) ?_
      refine wp_sub jF_147_65 rfl (pc2 := 66) ?_
      refine wp_is2 (lv2 := [(0, .ref 70), (1, iV i0), (2, .ref 75), (3, iV j0), (4, iV 2), (5, iV x3), (6, iV x4), (7, iV ((σ.1 70 1) - x3)), (8, iV ((σ.1 75 1) - x4))]) jF_147_66 rfl rfl rfl (pc2 := 68) ?_
      refine wp_il2 jF_147_68 rfl rfl (pc2 := 70) ?_
      refine wp_z_eq jF_147_70 ⟨by omega, by omega⟩ rfl (pc2 := 73) ?_ ?_
      · intro h14
        refine wp_il2 jF_147_83 rfl rfl (pc2 := 85) ?_
        refine wp_il2 jF_147_85 rfl rfl (pc2 := 87) ?_
        refine wp_cS (as := [iV ((σ.1 70 1) - x3), iV ((σ.1 75 1) - x4)]) (rest := []) (mx := 2) jF_147_87 rfl rfl rfl rfl (by omega) (by omega) rfl (pc2 := 90) ?_
        refine wp_use (m_139_r σ hg ((σ.1 70 1) - x3) (by omega) (by omega) ((σ.1 75 1) - x4) (by omega) (by omega)  _ _ (by omega) (by omega)) ?_
        rintro _ _ ⟨z20, rfl, h21, rfl, p15, p16, p17⟩
        show WP 147 90 [(0, .ref 70), (1, iV i0), (2, .ref 75), (3, iV j0), (4, iV 2), (5, iV x3), (6, iV x4), (7, iV ((σ.1 70 1) - x3)), (8, iV ((σ.1 75 1) - x4))] [iV z20] _ _ _ _
        refine wp_il2 jF_147_90 rfl rfl (pc2 := 92) ?_
        refine wp_i_gt jF_147_92 (m_rgb h21 rfl) (m_rgl rfl) rfl (pc2 := 95) ?_ ?_
        · intro h22
          refine wp_ic jF_147_99 rfl (pc2 := 100) ?_
          refine wp_ri jF_147_100 rfl ?_
          exact ⟨0, rfl, ⟨by omega, by omega⟩, rfl⟩
        · intro h22
          refine wp_ic jF_147_95 rfl (pc2 := 96) ?_
          refine wp_go jF_147_96 ?_
          refine wp_ri jF_147_100 rfl ?_
          exact ⟨1, rfl, ⟨by omega, by omega⟩, rfl⟩
      · intro h14
        refine wp_il2 jF_147_73 rfl rfl (pc2 := 75) ?_
        refine wp_z_eq jF_147_75 ⟨by omega, by omega⟩ rfl (pc2 := 78) ?_ ?_
        · intro h23
          refine wp_il2 jF_147_83 rfl rfl (pc2 := 85) ?_
          refine wp_il2 jF_147_85 rfl rfl (pc2 := 87) ?_
          refine wp_cS (as := [iV ((σ.1 70 1) - x3), iV ((σ.1 75 1) - x4)]) (rest := []) (mx := 2) jF_147_87 rfl rfl rfl rfl (by omega) (by omega) rfl (pc2 := 90) ?_
          refine wp_use (m_139_r σ hg ((σ.1 70 1) - x3) (by omega) (by omega) ((σ.1 75 1) - x4) (by omega) (by omega)  _ _ (by omega) (by omega)) ?_
          rintro _ _ ⟨z29, rfl, h30, rfl, p24, p25, p26⟩
          show WP 147 90 [(0, .ref 70), (1, iV i0), (2, .ref 75), (3, iV j0), (4, iV 2), (5, iV x3), (6, iV x4), (7, iV ((σ.1 70 1) - x3)), (8, iV ((σ.1 75 1) - x4))] [iV z29] _ _ _ _
          refine wp_il2 jF_147_90 rfl rfl (pc2 := 92) ?_
          refine wp_i_gt jF_147_92 (m_rgb h30 rfl) (m_rgl rfl) rfl (pc2 := 95) ?_ ?_
          · intro h31
            refine wp_ic jF_147_99 rfl (pc2 := 100) ?_
            refine wp_ri jF_147_100 rfl ?_
            exact ⟨0, rfl, ⟨by omega, by omega⟩, rfl⟩
          · intro h31
            refine wp_ic jF_147_95 rfl (pc2 := 96) ?_
            refine wp_go jF_147_96 ?_
            refine wp_ri jF_147_100 rfl ?_
            exact ⟨1, rfl, ⟨by omega, by omega⟩, rfl⟩
        · intro h23
          refine wp_il2 jF_147_78 rfl rfl (pc2 := 80) ?_
          refine wp_z_ne jF_147_80 (m_rgl rfl) rfl (pc2 := 83) ?_ ?_
          · intro h32
            refine wp_il2 jF_147_101 rfl rfl (pc2 := 103) ?_
            refine wp_il2 jF_147_103 rfl rfl (pc2 := 105) ?_
            refine wp_sub jF_147_105 rfl (pc2 := 106) ?_
            refine wp_cS (as := [iV (((σ.1 70 1) - x3) - ((σ.1 75 1) - x4))]) (rest := []) (mx := 1) jF_147_106 rfl rfl rfl rfl (by omega) (by omega) rfl (pc2 := 109) ?_
            show WP 148 0 [(0, iV (((σ.1 70 1) - x3) - ((σ.1 75 1) - x4)))] [] _ _ _ _
            refine wp_il1 jF_148_0 rfl rfl (pc2 := 1) ?_
            refine wp_z_ge jF_148_1 ⟨by omega, by omega⟩ rfl (pc2 := 4) ?_ ?_
            · intro h33
              refine wp_il1 jF_148_9 rfl rfl (pc2 := 10) ?_
              refine wp_ri jF_148_10 rfl ?_
              show WP 147 109 [(0, .ref 70), (1, iV i0), (2, .ref 75), (3, iV j0), (4, iV 2), (5, iV x3), (6, iV x4), (7, iV ((σ.1 70 1) - x3)), (8, iV ((σ.1 75 1) - x4))] [iV (((σ.1 70 1) - x3) - ((σ.1 75 1) - x4))] _ _ _ _
              refine wp_il2 jF_147_109 rfl rfl (pc2 := 111) ?_
              refine wp_i_le jF_147_111 ⟨by omega, by omega⟩ (m_rgl rfl) rfl (pc2 := 114) ?_ ?_
              · intro h34
                refine wp_al1 jF_147_116 rfl rfl (pc2 := 117) ?_
                refine wp_il2 jF_147_117 rfl rfl (pc2 := 119) ?_
                refine wp_ic jF_147_119 rfl (pc2 := 120) ?_
                refine wp_add jF_147_120 rfl (pc2 := 121) ?_
                refine wp_al1 jF_147_121 rfl rfl (pc2 := 122) ?_
                refine wp_il2 jF_147_122 rfl rfl (pc2 := 124) ?_
                refine wp_ic jF_147_124 rfl (pc2 := 125) ?_
                refine wp_add jF_147_125 rfl (pc2 := 126) ?_
                refine wp_il2 jF_147_126 rfl rfl (pc2 := 128) ?_
                refine wp_ic jF_147_128 rfl (pc2 := 129) ?_
                refine wp_subx (c := 1) jF_147_129 rfl rfl (pc2 := 130) ?_
                refine wp_cS (as := [.ref 70, iV (x3 + 1), .ref 75, iV (x4 + 1), iV 1]) (rest := []) (mx := 9) jF_147_130 rfl rfl rfl rfl (by omega) (by omega) rfl (pc2 := 133) ?_
                refine wp_use (m_147_r70_75_n1 σ hg (x3 + 1) (by omega) (by omega) (x4 + 1) (by omega) (by omega) (by omega) (by omega) _ _ (by omega) (by omega)) ?_
                rintro _ _ ⟨z37, rfl, h38, rfl⟩
                show WP 147 133 [(0, .ref 70), (1, iV i0), (2, .ref 75), (3, iV j0), (4, iV 2), (5, iV x3), (6, iV x4), (7, iV ((σ.1 70 1) - x3)), (8, iV ((σ.1 75 1) - x4))] [iV z37] _ _ _ _
                refine wp_z_ne jF_147_133 (m_rgb h38 rfl) rfl (pc2 := 136) ?_ ?_
                · intro h39
                  refine wp_ic jF_147_172 rfl (pc2 := 173) ?_
                  refine wp_go jF_147_173 ?_
                  refine wp_ri jF_147_177 rfl ?_
                  exact ⟨1, rfl, ⟨by omega, by omega⟩, rfl⟩
                · intro h39
                  refine wp_al1 jF_147_136 rfl rfl (pc2 := 137) ?_
                  refine wp_il2 jF_147_137 rfl rfl (pc2 := 139) ?_
                  refine wp_ic jF_147_139 rfl (pc2 := 140) ?_
                  refine wp_add jF_147_140 rfl (pc2 := 141) ?_
                  refine wp_al1 jF_147_141 rfl rfl (pc2 := 142) ?_
                  refine wp_il2 jF_147_142 rfl rfl (pc2 := 144) ?_
                  refine wp_il2 jF_147_144 rfl rfl (pc2 := 146) ?_
                  refine wp_ic jF_147_146 rfl (pc2 := 147) ?_
                  refine wp_subx (c := 1) jF_147_147 rfl rfl (pc2 := 148) ?_
                  refine wp_cS (as := [.ref 70, iV (x3 + 1), .ref 75, iV x4, iV 1]) (rest := []) (mx := 9) jF_147_148 rfl rfl rfl rfl (by omega) (by omega) rfl (pc2 := 151) ?_
                  refine wp_use (m_147_r70_75_n1 σ hg (x3 + 1) (by omega) (by omega) x4 (by omega) (by omega) (by omega) (by omega) _ _ (by omega) (by omega)) ?_
                  rintro _ _ ⟨z42, rfl, h43, rfl⟩
                  show WP 147 151 [(0, .ref 70), (1, iV i0), (2, .ref 75), (3, iV j0), (4, iV 2), (5, iV x3), (6, iV x4), (7, iV ((σ.1 70 1) - x3)), (8, iV ((σ.1 75 1) - x4))] [iV z42] _ _ _ _
                  refine wp_z_ne jF_147_151 (m_rgb h43 rfl) rfl (pc2 := 154) ?_ ?_
                  · intro h44
                    refine wp_ic jF_147_172 rfl (pc2 := 173) ?_
                    refine wp_go jF_147_173 ?_
                    refine wp_ri jF_147_177 rfl ?_
                    exact ⟨1, rfl, ⟨by omega, by omega⟩, rfl⟩
                  · intro h44
                    refine wp_al1 jF_147_154 rfl rfl (pc2 := 155) ?_
                    refine wp_il2 jF_147_155 rfl rfl (pc2 := 157) ?_
                    refine wp_al1 jF_147_157 rfl rfl (pc2 := 158) ?_
                    refine wp_il2 jF_147_158 rfl rfl (pc2 := 160) ?_
                    refine wp_ic jF_147_160 rfl (pc2 := 161) ?_
                    refine wp_add jF_147_161 rfl (pc2 := 162) ?_
                    refine wp_il2 jF_147_162 rfl rfl (pc2 := 164) ?_
                    refine wp_ic jF_147_164 rfl (pc2 := 165) ?_
                    refine wp_subx (c := 1) jF_147_165 rfl rfl (pc2 := 166) ?_
                    refine wp_cS (as := [.ref 70, iV x3, .ref 75, iV (x4 + 1), iV 1]) (rest := []) (mx := 9) jF_147_166 rfl rfl rfl rfl (by omega) (by omega) rfl (pc2 := 169) ?_
                    refine wp_use (m_147_r70_75_n1 σ hg x3 (by omega) (by omega) (x4 + 1) (by omega) (by omega) (by omega) (by omega) _ _ (by omega) (by omega)) ?_
                    rintro _ _ ⟨z47, rfl, h48, rfl⟩
                    show WP 147 169 [(0, .ref 70), (1, iV i0), (2, .ref 75), (3, iV j0), (4, iV 2), (5, iV x3), (6, iV x4), (7, iV ((σ.1 70 1) - x3)), (8, iV ((σ.1 75 1) - x4))] [iV z47] _ _ _ _
                    refine wp_z_eq jF_147_169 (m_rgb h48 rfl) rfl (pc2 := 172) ?_ ?_
                    · intro h49
                      refine wp_ic jF_147_176 rfl (pc2 := 177) ?_
                      refine wp_ri jF_147_177 rfl ?_
                      exact ⟨0, rfl, ⟨by omega, by omega⟩, rfl⟩
                    · intro h49
                      refine wp_ic jF_147_172 rfl (pc2 := 173) ?_
                      refine wp_go jF_147_173 ?_
                      refine wp_ri jF_147_177 rfl ?_
                      exact ⟨1, rfl, ⟨by omega, by omega⟩, rfl⟩
              · intro h34
                refine wp_ic jF_147_114 rfl (pc2 := 115) ?_
                refine wp_ri jF_147_115 rfl ?_
                exact ⟨0, rfl, ⟨by omega, by omega⟩, rfl⟩
            · intro h33
              refine wp_il1 jF_148_4 rfl rfl (pc2 := 5) ?_
              refine wp_neg jF_148_5 rfl (pc2 := 6) ?_
              refine wp_go jF_148_6 ?_
              refine wp_ri jF_148_10 rfl ?_
              show WP 147 109 [(0, .ref 70), (1, iV i0), (2, .ref 75), (3, iV j0), (4, iV 2), (5, iV x3), (6, iV x4), (7, iV ((σ.1 70 1) - x3)), (8, iV ((σ.1 75 1) - x4))] [iV (-(((σ.1 70 1) - x3) - ((σ.1 75 1) - x4)))] _ _ _ _
              refine wp_il2 jF_147_109 rfl rfl (pc2 := 111) ?_
              refine wp_i_le jF_147_111 ⟨by omega, by omega⟩ (m_rgl rfl) rfl (pc2 := 114) ?_ ?_
              · intro h50
                refine wp_al1 jF_147_116 rfl rfl (pc2 := 117) ?_
                refine wp_il2 jF_147_117 rfl rfl (pc2 := 119) ?_
                refine wp_ic jF_147_119 rfl (pc2 := 120) ?_
                refine wp_add jF_147_120 rfl (pc2 := 121) ?_
                refine wp_al1 jF_147_121 rfl rfl (pc2 := 122) ?_
                refine wp_il2 jF_147_122 rfl rfl (pc2 := 124) ?_
                refine wp_ic jF_147_124 rfl (pc2 := 125) ?_
                refine wp_add jF_147_125 rfl (pc2 := 126) ?_
                refine wp_il2 jF_147_126 rfl rfl (pc2 := 128) ?_
                refine wp_ic jF_147_128 rfl (pc2 := 129) ?_
                refine wp_subx (c := 1) jF_147_129 rfl rfl (pc2 := 130) ?_
                refine wp_cS (as := [.ref 70, iV (x3 + 1), .ref 75, iV (x4 + 1), iV 1]) (rest := []) (mx := 9) jF_147_130 rfl rfl rfl rfl (by omega) (by omega) rfl (pc2 := 133) ?_
                refine wp_use (m_147_r70_75_n1 σ hg (x3 + 1) (by omega) (by omega) (x4 + 1) (by omega) (by omega) (by omega) (by omega) _ _ (by omega) (by omega)) ?_
                rintro _ _ ⟨z53, rfl, h54, rfl⟩
                show WP 147 133 [(0, .ref 70), (1, iV i0), (2, .ref 75), (3, iV j0), (4, iV 2), (5, iV x3), (6, iV x4), (7, iV ((σ.1 70 1) - x3)), (8, iV ((σ.1 75 1) - x4))] [iV z53] _ _ _ _
                refine wp_z_ne jF_147_133 (m_rgb h54 rfl) rfl (pc2 := 136) ?_ ?_
                · intro h55
                  refine wp_ic jF_147_172 rfl (pc2 := 173) ?_
                  refine wp_go jF_147_173 ?_
                  refine wp_ri jF_147_177 rfl ?_
                  exact ⟨1, rfl, ⟨by omega, by omega⟩, rfl⟩
                · intro h55
                  refine wp_al1 jF_147_136 rfl rfl (pc2 := 137) ?_
                  refine wp_il2 jF_147_137 rfl rfl (pc2 := 139) ?_
                  refine wp_ic jF_147_139 rfl (pc2 := 140) ?_
                  refine wp_add jF_147_140 rfl (pc2 := 141) ?_
                  refine wp_al1 jF_147_141 rfl rfl (pc2 := 142) ?_
                  refine wp_il2 jF_147_142 rfl rfl (pc2 := 144) ?_
                  refine wp_il2 jF_147_144 rfl rfl (pc2 := 146) ?_
                  refine wp_ic jF_147_146 rfl (pc2 := 147) ?_
                  refine wp_subx (c := 1) jF_147_147 rfl rfl (pc2 := 148) ?_
                  refine wp_cS (as := [.ref 70, iV (x3 + 1), .ref 75, iV x4, iV 1]) (rest := []) (mx := 9) jF_147_148 rfl rfl rfl rfl (by omega) (by omega) rfl (pc2 := 151) ?_
                  refine wp_use (m_147_r70_75_n1 σ hg (x3 + 1) (by omega) (by omega) x4 (by omega) (by omega) (by omega) (by omega) _ _ (by omega) (by omega)) ?_
                  rintro _ _ ⟨z58, rfl, h59, rfl⟩
                  show WP 147 151 [(0, .ref 70), (1, iV i0), (2, .ref 75), (3, iV j0), (4, iV 2), (5, iV x3), (6, iV x4), (7, iV ((σ.1 70 1) - x3)), (8, iV ((σ.1 75 1) - x4))] [iV z58] _ _ _ _
                  refine wp_z_ne jF_147_151 (m_rgb h59 rfl) rfl (pc2 := 154) ?_ ?_
                  · intro h60
                    refine wp_ic jF_147_172 rfl (pc2 := 173) ?_
                    refine wp_go jF_147_173 ?_
                    refine wp_ri jF_147_177 rfl ?_
                    exact ⟨1, rfl, ⟨by omega, by omega⟩, rfl⟩
                  · intro h60
                    refine wp_al1 jF_147_154 rfl rfl (pc2 := 155) ?_
                    refine wp_il2 jF_147_155 rfl rfl (pc2 := 157) ?_
                    refine wp_al1 jF_147_157 rfl rfl (pc2 := 158) ?_
                    refine wp_il2 jF_147_158 rfl rfl (pc2 := 160) ?_
                    refine wp_ic jF_147_160 rfl (pc2 := 161) ?_
                    refine wp_add jF_147_161 rfl (pc2 := 162) ?_
                    refine wp_il2 jF_147_162 rfl rfl (pc2 := 164) ?_
                    refine wp_ic jF_147_164 rfl (pc2 := 165) ?_
                    refine wp_subx (c := 1) jF_147_165 rfl rfl (pc2 := 166) ?_
                    refine wp_cS (as := [.ref 70, iV x3, .ref 75, iV (x4 + 1), iV 1]) (rest := []) (mx := 9) jF_147_166 rfl rfl rfl rfl (by omega) (by omega) rfl (pc2 := 169) ?_
                    refine wp_use (m_147_r70_75_n1 σ hg x3 (by omega) (by omega) (x4 + 1) (by omega) (by omega) (by omega) (by omega) _ _ (by omega) (by omega)) ?_
                    rintro _ _ ⟨z63, rfl, h64, rfl⟩
                    show WP 147 169 [(0, .ref 70), (1, iV i0), (2, .ref 75), (3, iV j0), (4, iV 2), (5, iV x3), (6, iV x4), (7, iV ((σ.1 70 1) - x3)), (8, iV ((σ.1 75 1) - x4))] [iV z63] _ _ _ _
                    refine wp_z_eq jF_147_169 (m_rgb h64 rfl) rfl (pc2 := 172) ?_ ?_
                    · intro h65
                      refine wp_ic jF_147_176 rfl (pc2 := 177) ?_
                      refine wp_ri jF_147_177 rfl ?_
                      exact ⟨0, rfl, ⟨by omega, by omega⟩, rfl⟩
                    · intro h65
                      refine wp_ic jF_147_172 rfl (pc2 := 173) ?_
                      refine wp_go jF_147_173 ?_
                      refine wp_ri jF_147_177 rfl ?_
                      exact ⟨1, rfl, ⟨by omega, by omega⟩, rfl⟩
              · intro h50
                refine wp_ic jF_147_114 rfl (pc2 := 115) ?_
                refine wp_ri jF_147_115 rfl ?_
                exact ⟨0, rfl, ⟨by omega, by omega⟩, rfl⟩
          · intro h32; exfalso; omega
    · intro h13
      refine wp_il2 jF_147_15 rfl rfl (pc2 := 17) ?_
      refine wp_al1 jF_147_17 rfl rfl (pc2 := 18) ?_
      refine wp_gi jF_147_18 kd75 (by decide) rfl rfl rfl (pc2 := 21) ?_
      refine wp_i_ge jF_147_21 (m_rgb h6 rfl) (m_rgb b2 rfl) rfl (pc2 := 24) ?_ ?_
      · intro h66
        refine wp_al1 jF_147_50 rfl rfl (pc2 := 51) ?_
        refine wp_gi jF_147_51 kd70 (by decide) rfl rfl rfl (pc2 := 54) ?_
        refine wp_il2 jF_147_54 rfl rfl (pc2 := 56) ?_
        refine wp_sub jF_147_56 rfl (pc2 := 57) ?_
        refine wp_is2 (lv2 := [(0, .ref 70), (1, iV i0), (2, .ref 75), (3, iV j0), (4, iV 2), (5, iV x3), (6, iV x4), (7, iV ((σ.1 70 1) - x3))]) jF_147_57 rfl rfl rfl (pc2 := 59) ?_
        refine wp_al1 jF_147_59 rfl rfl (pc2 := 60) ?_
        refine wp_gi jF_147_60 kd75 (by decide) rfl rfl rfl (pc2 := 63) ?_
        refine wp_il2 jF_147_63 rfl rfl (pc2 := 65) ?_
        refine wp_sub jF_147_65 rfl (pc2 := 66) ?_
        refine wp_is2 (lv2 := [(0, .ref 70), (1, iV i0), (2, .ref 75), (3, iV j0), (4, iV 2), (5, iV x3), (6, iV x4), (7, iV ((σ.1 70 1) - x3)), (8, iV ((σ.1 75 1) - x4))]) jF_147_66 rfl rfl rfl (pc2 := 68) ?_
        refine wp_il2 jF_147_68 rfl rfl (pc2 := 70) ?_
        refine wp_z_eq jF_147_70 ⟨by omega, by omega⟩ rfl (pc2 := 73) ?_ ?_
        · intro h67
          refine wp_il2 jF_147_83 rfl rfl (pc2 := 85) ?_
          refine wp_il2 jF_147_85 rfl rfl (pc2 := 87) ?_
          refine wp_cS (as := [iV ((σ.1 70 1) - x3), iV ((σ.1 75 1) - x4)]) (rest := []) (mx := 2) jF_147_87 rfl rfl rfl rfl (by omega) (by omega) rfl (pc2 := 90) ?_
          refine wp_use (m_139_r σ hg ((σ.1 70 1) - x3) (by omega) (by omega) ((σ.1 75 1) - x4) (by omega) (by omega)  _ _ (by omega) (by omega)) ?_
          rintro _ _ ⟨z73, rfl, h74, rfl, p68, p69, p70⟩
          show WP 147 90 [(0, .ref 70), (1, iV i0), (2, .ref 75), (3, iV j0), (4, iV 2), (5, iV x3), (6, iV x4), (7, iV ((σ.1 70 1) - x3)), (8, iV ((σ.1 75 1) - x4))] [iV z73] _ _ _ _
          refine wp_il2 jF_147_90 rfl rfl (pc2 := 92) ?_
          refine wp_i_gt jF_147_92 (m_rgb h74 rfl) (m_rgl rfl) rfl (pc2 := 95) ?_ ?_
          · intro h75
            refine wp_ic jF_147_99 rfl (pc2 := 100) ?_
            refine wp_ri jF_147_100 rfl ?_
            exact ⟨0, rfl, ⟨by omega, by omega⟩, rfl⟩
          · intro h75
            refine wp_ic jF_147_95 rfl (pc2 := 96) ?_
            refine wp_go jF_147_96 ?_
            refine wp_ri jF_147_100 rfl ?_
            exact ⟨1, rfl, ⟨by omega, by omega⟩, rfl⟩
        · intro h67
          refine wp_il2 jF_147_73 rfl rfl (pc2 := 75) ?_
          refine wp_z_eq jF_147_75 ⟨by omega, by omega⟩ rfl (pc2 := 78) ?_ ?_
          · intro h76
            refine wp_il2 jF_147_83 rfl rfl (pc2 := 85) ?_
            refine wp_il2 jF_147_85 rfl rfl (pc2 := 87) ?_
            refine wp_cS (as := [iV ((σ.1 70 1) - x3), iV ((σ.1 75 1) - x4)]) (rest := []) (mx := 2) jF_147_87 rfl rfl rfl rfl (by omega) (by omega) rfl (pc2 := 90) ?_
            refine wp_use (m_139_r σ hg ((σ.1 70 1) - x3) (by omega) (by omega) ((σ.1 75 1) - x4) (by omega) (by omega)  _ _ (by omega) (by omega)) ?_
            rintro _ _ ⟨z82, rfl, h83, rfl, p77, p78, p79⟩
            show WP 147 90 [(0, .ref 70), (1, iV i0), (2, .ref 75), (3, iV j0), (4, iV 2), (5, iV x3), (6, iV x4), (7, iV ((σ.1 70 1) - x3)), (8, iV ((σ.1 75 1) - x4))] [iV z82] _ _ _ _
            refine wp_il2 jF_147_90 rfl rfl (pc2 := 92) ?_
            refine wp_i_gt jF_147_92 (m_rgb h83 rfl) (m_rgl rfl) rfl (pc2 := 95) ?_ ?_
            · intro h84
              refine wp_ic jF_147_99 rfl (pc2 := 100) ?_
              refine wp_ri jF_147_100 rfl ?_
              exact ⟨0, rfl, ⟨by omega, by omega⟩, rfl⟩
            · intro h84
              refine wp_ic jF_147_95 rfl (pc2 := 96) ?_
              refine wp_go jF_147_96 ?_
              refine wp_ri jF_147_100 rfl ?_
              exact ⟨1, rfl, ⟨by omega, by omega⟩, rfl⟩
          · intro h76
            refine wp_il2 jF_147_78 rfl rfl (pc2 := 80) ?_
            refine wp_z_ne jF_147_80 (m_rgl rfl) rfl (pc2 := 83) ?_ ?_
            · intro h85
              refine wp_il2 jF_147_101 rfl rfl (pc2 := 103) ?_
              refine wp_il2 jF_147_103 rfl rfl (pc2 := 105) ?_
              refine wp_sub jF_147_105 rfl (pc2 := 106) ?_
              refine wp_cS (as := [iV (((σ.1 70 1) - x3) - ((σ.1 75 1) - x4))]) (rest := []) (mx := 1) jF_147_106 rfl rfl rfl rfl (by omega) (by omega) rfl (pc2 := 109) ?_
              show WP 148 0 [(0, iV (((σ.1 70 1) - x3) - ((σ.1 75 1) - x4)))] [] _ _ _ _
              refine wp_il1 jF_148_0 rfl rfl (pc2 := 1) ?_
              refine wp_z_ge jF_148_1 ⟨by omega, by omega⟩ rfl (pc2 := 4) ?_ ?_
              · intro h86
                refine wp_il1 jF_148_9 rfl rfl (pc2 := 10) ?_
                refine wp_ri jF_148_10 rfl ?_
                show WP 147 109 [(0, .ref 70), (1, iV i0), (2, .ref 75), (3, iV j0), (4, iV 2), (5, iV x3), (6, iV x4), (7, iV ((σ.1 70 1) - x3)), (8, iV ((σ.1 75 1) - x4))] [iV (((σ.1 70 1) - x3) - ((σ.1 75 1) - x4))] _ _ _ _
                refine wp_il2 jF_147_109 rfl rfl (pc2 := 111) ?_
                refine wp_i_le jF_147_111 ⟨by omega, by omega⟩ (m_rgl rfl) rfl (pc2 := 114) ?_ ?_
                · intro h87
                  refine wp_al1 jF_147_116 rfl rfl (pc2 := 117) ?_
                  refine wp_il2 jF_147_117 rfl rfl (pc2 := 119) ?_
                  refine wp_ic jF_147_119 rfl (pc2 := 120) ?_
                  refine wp_add jF_147_120 rfl (pc2 := 121) ?_
                  refine wp_al1 jF_147_121 rfl rfl (pc2 := 122) ?_
                  refine wp_il2 jF_147_122 rfl rfl (pc2 := 124) ?_
                  refine wp_ic jF_147_124 rfl (pc2 := 125) ?_
                  refine wp_add jF_147_125 rfl (pc2 := 126) ?_
                  refine wp_il2 jF_147_126 rfl rfl (pc2 := 128) ?_
                  refine wp_ic jF_147_128 rfl (pc2 := 129) ?_
                  refine wp_subx (c := 1) jF_147_129 rfl rfl (pc2 := 130) ?_
                  refine wp_cS (as := [.ref 70, iV (x3 + 1), .ref 75, iV (x4 + 1), iV 1]) (rest := []) (mx := 9) jF_147_130 rfl rfl rfl rfl (by omega) (by omega) rfl (pc2 := 133) ?_
                  refine wp_use (m_147_r70_75_n1 σ hg (x3 + 1) (by omega) (by omega) (x4 + 1) (by omega) (by omega) (by omega) (by omega) _ _ (by omega) (by omega)) ?_
                  rintro _ _ ⟨z90, rfl, h91, rfl⟩
                  show WP 147 133 [(0, .ref 70), (1, iV i0), (2, .ref 75), (3, iV j0), (4, iV 2), (5, iV x3), (6, iV x4), (7, iV ((σ.1 70 1) - x3)), (8, iV ((σ.1 75 1) - x4))] [iV z90] _ _ _ _
                  refine wp_z_ne jF_147_133 (m_rgb h91 rfl) rfl (pc2 := 136) ?_ ?_
                  · intro h92
                    refine wp_ic jF_147_172 rfl (pc2 := 173) ?_
                    refine wp_go jF_147_173 ?_
                    refine wp_ri jF_147_177 rfl ?_
                    exact ⟨1, rfl, ⟨by omega, by omega⟩, rfl⟩
                  · intro h92
                    refine wp_al1 jF_147_136 rfl rfl (pc2 := 137) ?_
                    refine wp_il2 jF_147_137 rfl rfl (pc2 := 139) ?_
                    refine wp_ic jF_147_139 rfl (pc2 := 140) ?_
                    refine wp_add jF_147_140 rfl (pc2 := 141) ?_
                    refine wp_al1 jF_147_141 rfl rfl (pc2 := 142) ?_
                    refine wp_il2 jF_147_142 rfl rfl (pc2 := 144) ?_
                    refine wp_il2 jF_147_144 rfl rfl (pc2 := 146) ?_
                    refine wp_ic jF_147_146 rfl (pc2 := 147) ?_
                    refine wp_subx (c := 1) jF_147_147 rfl rfl (pc2 := 148) ?_
                    refine wp_cS (as := [.ref 70, iV (x3 + 1), .ref 75, iV x4, iV 1]) (rest := []) (mx := 9) jF_147_148 rfl rfl rfl rfl (by omega) (by omega) rfl (pc2 := 151) ?_
                    refine wp_use (m_147_r70_75_n1 σ hg (x3 + 1) (by omega) (by omega) x4 (by omega) (by omega) (by omega) (by omega) _ _ (by omega) (by omega)) ?_
                    rintro _ _ ⟨z95, rfl, h96, rfl⟩
                    show WP 147 151 [(0, .ref 70), (1, iV i0), (2, .ref 75), (3, iV j0), (4, iV 2), (5, iV x3), (6, iV x4), (7, iV ((σ.1 70 1) - x3)), (8, iV ((σ.1 75 1) - x4))] [iV z95] _ _ _ _
                    refine wp_z_ne jF_147_151 (m_rgb h96 rfl) rfl (pc2 := 154) ?_ ?_
                    · intro h97
                      refine wp_ic jF_147_172 rfl (pc2 := 173) ?_
                      refine wp_go jF_147_173 ?_
                      refine wp_ri jF_147_177 rfl ?_
                      exact ⟨1, rfl, ⟨by omega, by omega⟩, rfl⟩
                    · intro h97
                      refine wp_al1 jF_147_154 rfl rfl (pc2 := 155) ?_
                      refine wp_il2 jF_147_155 rfl rfl (pc2 := 157) ?_
                      refine wp_al1 jF_147_157 rfl rfl (pc2 := 158) ?_
                      refine wp_il2 jF_147_158 rfl rfl (pc2 := 160) ?_
                      refine wp_ic jF_147_160 rfl (pc2 := 161) ?_
                      refine wp_add jF_147_161 rfl (pc2 := 162) ?_
                      refine wp_il2 jF_147_162 rfl rfl (pc2 := 164) ?_
                      refine wp_ic jF_147_164 rfl (pc2 := 165) ?_
                      refine wp_subx (c := 1) jF_147_165 rfl rfl (pc2 := 166) ?_
                      refine wp_cS (as := [.ref 70, iV x3, .ref 75, iV (x4 + 1), iV 1]) (rest := []) (mx := 9) jF_147_166 rfl rfl rfl rfl (by omega) (by omega) rfl (pc2 := 169) ?_
                      refine wp_use (m_147_r70_75_n1 σ hg x3 (by omega) (by omega) (x4 + 1) (by omega) (by omega) (by omega) (by omega) _ _ (by omega) (by omega)) ?_
                      rintro _ _ ⟨z100, rfl, h101, rfl⟩
                      show WP 147 169 [(0, .ref 70), (1, iV i0), (2, .ref 75), (3, iV j0), (4, iV 2), (5, iV x3), (6, iV x4), (7, iV ((σ.1 70 1) - x3)), (8, iV ((σ.1 75 1) - x4))] [iV z100] _ _ _ _
                      refine wp_z_eq jF_147_169 (m_rgb h101 rfl) rfl (pc2 := 172) ?_ ?_
                      · intro h102
                        refine wp_ic jF_147_176 rfl (pc2 := 177) ?_
                        refine wp_ri jF_147_177 rfl ?_
                        exact ⟨0, rfl, ⟨by omega, by omega⟩, rfl⟩
                      · intro h102
                        refine wp_ic jF_147_172 rfl (pc2 := 173) ?_
                        refine wp_go jF_147_173 ?_
                        refine wp_ri jF_147_177 rfl ?_
                        exact ⟨1, rfl, ⟨by omega, by omega⟩, rfl⟩
                · intro h87
                  refine wp_ic jF_147_114 rfl (pc2 := 115) ?_
                  refine wp_ri jF_147_115 rfl ?_
                  exact ⟨0, rfl, ⟨by omega, by omega⟩, rfl⟩
              · intro h86
                refine wp_il1 jF_148_4 rfl rfl (pc2 := 5) ?_
                refine wp_neg jF_148_5 rfl (pc2 := 6) ?_
                refine wp_go jF_148_6 ?_
                refine wp_ri jF_148_10 rfl ?_
                show WP 147 109 [(0, .ref 70), (1, iV i0), (2, .ref 75), (3, iV j0), (4, iV 2), (5, iV x3), (6, iV x4), (7, iV ((σ.1 70 1) - x3)), (8, iV ((σ.1 75 1) - x4))] [iV (-(((σ.1 70 1) - x3) - ((σ.1 75 1) - x4)))] _ _ _ _
                refine wp_il2 jF_147_109 rfl rfl (pc2 := 111) ?_
                refine wp_i_le jF_147_111 ⟨by omega, by omega⟩ (m_rgl rfl) rfl (pc2 := 114) ?_ ?_
                · intro h103
                  refine wp_al1 jF_147_116 rfl rfl (pc2 := 117) ?_
                  refine wp_il2 jF_147_117 rfl rfl (pc2 := 119) ?_
                  refine wp_ic jF_147_119 rfl (pc2 := 120) ?_
                  refine wp_add jF_147_120 rfl (pc2 := 121) ?_
                  refine wp_al1 jF_147_121 rfl rfl (pc2 := 122) ?_
                  refine wp_il2 jF_147_122 rfl rfl (pc2 := 124) ?_
                  refine wp_ic jF_147_124 rfl (pc2 := 125) ?_
                  refine wp_add jF_147_125 rfl (pc2 := 126) ?_
                  refine wp_il2 jF_147_126 rfl rfl (pc2 := 128) ?_
                  refine wp_ic jF_147_128 rfl (pc2 := 129) ?_
                  refine wp_subx (c := 1) jF_147_129 rfl rfl (pc2 := 130) ?_
                  refine wp_cS (as := [.ref 70, iV (x3 + 1), .ref 75, iV (x4 + 1), iV 1]) (rest := []) (mx := 9) jF_147_130 rfl rfl rfl rfl (by omega) (by omega) rfl (pc2 := 133) ?_
                  refine wp_use (m_147_r70_75_n1 σ hg (x3 + 1) (by omega) (by omega) (x4 + 1) (by omega) (by omega) (by omega) (by omega) _ _ (by omega) (by omega)) ?_
                  rintro _ _ ⟨z106, rfl, h107, rfl⟩
                  show WP 147 133 [(0, .ref 70), (1, iV i0), (2, .ref 75), (3, iV j0), (4, iV 2), (5, iV x3), (6, iV x4), (7, iV ((σ.1 70 1) - x3)), (8, iV ((σ.1 75 1) - x4))] [iV z106] _ _ _ _
                  refine wp_z_ne jF_147_133 (m_rgb h107 rfl) rfl (pc2 := 136) ?_ ?_
                  · intro h108
                    refine wp_ic jF_147_172 rfl (pc2 := 173) ?_
                    refine wp_go jF_147_173 ?_
                    refine wp_ri jF_147_177 rfl ?_
                    exact ⟨1, rfl, ⟨by omega, by omega⟩, rfl⟩
                  · intro h108
                    refine wp_al1 jF_147_136 rfl rfl (pc2 := 137) ?_
                    refine wp_il2 jF_147_137 rfl rfl (pc2 := 139) ?_
                    refine wp_ic jF_147_139 rfl (pc2 := 140) ?_
                    refine wp_add jF_147_140 rfl (pc2 := 141) ?_
                    refine wp_al1 jF_147_141 rfl rfl (pc2 := 142) ?_
                    refine wp_il2 jF_147_142 rfl rfl (pc2 := 144) ?_
                    refine wp_il2 jF_147_144 rfl rfl (pc2 := 146) ?_
                    refine wp_ic jF_147_146 rfl (pc2 := 147) ?_
                    refine wp_subx (c := 1) jF_147_147 rfl rfl (pc2 := 148) ?_
                    refine wp_cS (as := [.ref 70, iV (x3 + 1), .ref 75, iV x4, iV 1]) (rest := []) (mx := 9) jF_147_148 rfl rfl rfl rfl (by omega) (by omega) rfl (pc2 := 151) ?_
                    refine wp_use (m_147_r70_75_n1 σ hg (x3 + 1) (by omega) (by omega) x4 (by omega) (by omega) (by omega) (by omega) _ _ (by omega) (by omega)) ?_
                    rintro _ _ ⟨z111, rfl, h112, rfl⟩
                    show WP 147 151 [(0, .ref 70), (1, iV i0), (2, .ref 75), (3, iV j0), (4, iV 2), (5, iV x3), (6, iV x4), (7, iV ((σ.1 70 1) - x3)), (8, iV ((σ.1 75 1) - x4))] [iV z111] _ _ _ _
                    refine wp_z_ne jF_147_151 (m_rgb h112 rfl) rfl (pc2 := 154) ?_ ?_
                    · intro h113
                      refine wp_ic jF_147_172 rfl (pc2 := 173) ?_
                      refine wp_go jF_147_173 ?_
                      refine wp_ri jF_147_177 rfl ?_
                      exact ⟨1, rfl, ⟨by omega, by omega⟩, rfl⟩
                    · intro h113
                      refine wp_al1 jF_147_154 rfl rfl (pc2 := 155) ?_
                      refine wp_il2 jF_147_155 rfl rfl (pc2 := 157) ?_
                      refine wp_al1 jF_147_157 rfl rfl (pc2 := 158) ?_
                      refine wp_il2 jF_147_158 rfl rfl (pc2 := 160) ?_
                      refine wp_ic jF_147_160 rfl (pc2 := 161) ?_
                      refine wp_add jF_147_161 rfl (pc2 := 162) ?_
                      refine wp_il2 jF_147_162 rfl rfl (pc2 := 164) ?_
                      refine wp_ic jF_147_164 rfl (pc2 := 165) ?_
                      refine wp_subx (c := 1) jF_147_165 rfl rfl (pc2 := 166) ?_
                      refine wp_cS (as := [.ref 70, iV x3, .ref 75, iV (x4 + 1), iV 1]) (rest := []) (mx := 9) jF_147_166 rfl rfl rfl rfl (by omega) (by omega) rfl (pc2 := 169) ?_
                      refine wp_use (m_147_r70_75_n1 σ hg x3 (by omega) (by omega) (x4 + 1) (by omega) (by omega) (by omega) (by omega) _ _ (by omega) (by omega)) ?_
                      rintro _ _ ⟨z116, rfl, h117, rfl⟩
                      show WP 147 169 [(0, .ref 70), (1, iV i0), (2, .ref 75), (3, iV j0), (4, iV 2), (5, iV x3), (6, iV x4), (7, iV ((σ.1 70 1) - x3)), (8, iV ((σ.1 75 1) - x4))] [iV z116] _ _ _ _
                      refine wp_z_eq jF_147_169 (m_rgb h117 rfl) rfl (pc2 := 172) ?_ ?_
                      · intro h118
                        refine wp_ic jF_147_176 rfl (pc2 := 177) ?_
                        refine wp_ri jF_147_177 rfl ?_
                        exact ⟨0, rfl, ⟨by omega, by omega⟩, rfl⟩
                      · intro h118
                        refine wp_ic jF_147_172 rfl (pc2 := 173) ?_
                        refine wp_go jF_147_173 ?_
                        refine wp_ri jF_147_177 rfl ?_
                        exact ⟨1, rfl, ⟨by omega, by omega⟩, rfl⟩
                · intro h103
                  refine wp_ic jF_147_114 rfl (pc2 := 115) ?_
                  refine wp_ri jF_147_115 rfl ?_
                  exact ⟨0, rfl, ⟨by omega, by omega⟩, rfl⟩
            · intro h85; exfalso; omega
      · intro h66
        refine wp_al1 jF_147_24 rfl rfl (pc2 := 25) ?_
        refine wp_gr (b := 71) jF_147_25 kd70 (by decide) (c := 4) rfl rfl rfl (pc2 := 28) ?_
        refine wp_il2 jF_147_28 rfl rfl (pc2 := 30) ?_
        have b119 := GI.b hg 71 x3.toNat kd71 (lo := 0) (hi := 255) rfl
        refine wp_iald (n := 60) (e := (σ.1 71 x3.toNat)) jF_147_30 kd71 (by decide) rfl rfl (by omega) (by omega) rfl rfl (pc2 := 31) ?_
        refine wp_al1 jF_147_31 rfl rfl (pc2 := 32) ?_
        refine wp_gr (b := 76) jF_147_32 kd75 (by decide) (c := 4) rfl rfl rfl (pc2 := 35) ?_
        refine wp_il2 jF_147_35 rfl rfl (pc2 := 37) ?_
        have b120 := GI.b hg 76 x4.toNat kd76 (lo := 0) (hi := 255) rfl
        refine wp_iald (n := 60) (e := (σ.1 76 x4.toNat)) jF_147_37 kd76 (by decide) rfl rfl (by omega) (by omega) rfl rfl (pc2 := 38) ?_
        refine wp_i_ne jF_147_38 (m_rgb b119 rfl) (m_rgb b120 rfl) rfl (pc2 := 41) ?_ ?_
        · intro h121
          refine wp_al1 jF_147_50 rfl rfl (pc2 := 51) ?_
          refine wp_gi jF_147_51 kd70 (by decide) rfl rfl rfl (pc2 := 54) ?_
          refine wp_il2 jF_147_54 rfl rfl (pc2 := 56) ?_
          refine wp_sub jF_147_56 rfl (pc2 := 57) ?_
          refine wp_is2 (lv2 := [(0, .ref 70), (1, iV i0), (2, .ref 75), (3, iV j0), (4, iV 2), (5, iV x3), (6, iV x4), (7, iV ((σ.1 70 1) - x3))]) jF_147_57 rfl rfl rfl (pc2 := 59) ?_
          refine wp_al1 jF_147_59 rfl rfl (pc2 := 60) ?_
          refine wp_gi jF_147_60 kd75 (by decide) rfl rfl rfl (pc2 := 63) ?_
          refine wp_il2 jF_147_63 rfl rfl (pc2 := 65) ?_
          refine wp_sub jF_147_65 rfl (pc2 := 66) ?_
          refine wp_is2 (lv2 := [(0, .ref 70), (1, iV i0), (2, .ref 75), (3, iV j0), (4, iV 2), (5, iV x3), (6, iV x4), (7, iV ((σ.1 70 1) - x3)), (8, iV ((σ.1 75 1) - x4))]) jF_147_66 rfl rfl rfl (pc2 := 68) ?_
          refine wp_il2 jF_147_68 rfl rfl (pc2 := 70) ?_
          refine wp_z_eq jF_147_70 ⟨by omega, by omega⟩ rfl (pc2 := 73) ?_ ?_
          · intro h122
            refine wp_il2 jF_147_83 rfl rfl (pc2 := 85) ?_
            refine wp_il2 jF_147_85 rfl rfl (pc2 := 87) ?_
            refine wp_cS (as := [iV ((σ.1 70 1) - x3), iV ((σ.1 75 1) - x4)]) (rest := []) (mx := 2) jF_147_87 rfl rfl rfl rfl (by omega) (by omega) rfl (pc2 := 90) ?_
            refine wp_use (m_139_r σ hg ((σ.1 70 1) - x3) (by omega) (by omega) ((σ.1 75 1) - x4) (by omega) (by omega)  _ _ (by omega) (by omega)) ?_
            rintro _ _ ⟨z128, rfl, h129, rfl, p123, p124, p125⟩
            show WP 147 90 [(0, .ref 70), (1, iV i0), (2, .ref 75), (3, iV j0), (4, iV 2), (5, iV x3), (6, iV x4), (7, iV ((σ.1 70 1) - x3)), (8, iV ((σ.1 75 1) - x4))] [iV z128] _ _ _ _
            refine wp_il2 jF_147_90 rfl rfl (pc2 := 92) ?_
            refine wp_i_gt jF_147_92 (m_rgb h129 rfl) (m_rgl rfl) rfl (pc2 := 95) ?_ ?_
            · intro h130
              refine wp_ic jF_147_99 rfl (pc2 := 100) ?_
              refine wp_ri jF_147_100 rfl ?_
              exact ⟨0, rfl, ⟨by omega, by omega⟩, rfl⟩
            · intro h130
              refine wp_ic jF_147_95 rfl (pc2 := 96) ?_
              refine wp_go jF_147_96 ?_
              refine wp_ri jF_147_100 rfl ?_
              exact ⟨1, rfl, ⟨by omega, by omega⟩, rfl⟩
          · intro h122
            refine wp_il2 jF_147_73 rfl rfl (pc2 := 75) ?_
            refine wp_z_eq jF_147_75 ⟨by omega, by omega⟩ rfl (pc2 := 78) ?_ ?_
            · intro h131
              refine wp_il2 jF_147_83 rfl rfl (pc2 := 85) ?_
              refine wp_il2 jF_147_85 rfl rfl (pc2 := 87) ?_
              refine wp_cS (as := [iV ((σ.1 70 1) - x3), iV ((σ.1 75 1) - x4)]) (rest := []) (mx := 2) jF_147_87 rfl rfl rfl rfl (by omega) (by omega) rfl (pc2 := 90) ?_
              refine wp_use (m_139_r σ hg ((σ.1 70 1) - x3) (by omega) (by omega) ((σ.1 75 1) - x4) (by omega) (by omega)  _ _ (by omega) (by omega)) ?_
              rintro _ _ ⟨z137, rfl, h138, rfl, p132, p133, p134⟩
              show WP 147 90 [(0, .ref 70), (1, iV i0), (2, .ref 75), (3, iV j0), (4, iV 2), (5, iV x3), (6, iV x4), (7, iV ((σ.1 70 1) - x3)), (8, iV ((σ.1 75 1) - x4))] [iV z137] _ _ _ _
              refine wp_il2 jF_147_90 rfl rfl (pc2 := 92) ?_
              refine wp_i_gt jF_147_92 (m_rgb h138 rfl) (m_rgl rfl) rfl (pc2 := 95) ?_ ?_
              · intro h139
                refine wp_ic jF_147_99 rfl (pc2 := 100) ?_
                refine wp_ri jF_147_100 rfl ?_
                exact ⟨0, rfl, ⟨by omega, by omega⟩, rfl⟩
              · intro h139
                refine wp_ic jF_147_95 rfl (pc2 := 96) ?_
                refine wp_go jF_147_96 ?_
                refine wp_ri jF_147_100 rfl ?_
                exact ⟨1, rfl, ⟨by omega, by omega⟩, rfl⟩
            · intro h131
              refine wp_il2 jF_147_78 rfl rfl (pc2 := 80) ?_
              refine wp_z_ne jF_147_80 (m_rgl rfl) rfl (pc2 := 83) ?_ ?_
              · intro h140
                refine wp_il2 jF_147_101 rfl rfl (pc2 := 103) ?_
                refine wp_il2 jF_147_103 rfl rfl (pc2 := 105) ?_
                refine wp_sub jF_147_105 rfl (pc2 := 106) ?_
                refine wp_cS (as := [iV (((σ.1 70 1) - x3) - ((σ.1 75 1) - x4))]) (rest := []) (mx := 1) jF_147_106 rfl rfl rfl rfl (by omega) (by omega) rfl (pc2 := 109) ?_
                show WP 148 0 [(0, iV (((σ.1 70 1) - x3) - ((σ.1 75 1) - x4)))] [] _ _ _ _
                refine wp_il1 jF_148_0 rfl rfl (pc2 := 1) ?_
                refine wp_z_ge jF_148_1 ⟨by omega, by omega⟩ rfl (pc2 := 4) ?_ ?_
                · intro h141
                  refine wp_il1 jF_148_9 rfl rfl (pc2 := 10) ?_
                  refine wp_ri jF_148_10 rfl ?_
                  show WP 147 109 [(0, .ref 70), (1, iV i0), (2, .ref 75), (3, iV j0), (4, iV 2), (5, iV x3), (6, iV x4), (7, iV ((σ.1 70 1) - x3)), (8, iV ((σ.1 75 1) - x4))] [iV (((σ.1 70 1) - x3) - ((σ.1 75 1) - x4))] _ _ _ _
                  refine wp_il2 jF_147_109 rfl rfl (pc2 := 111) ?_
                  refine wp_i_le jF_147_111 ⟨by omega, by omega⟩ (m_rgl rfl) rfl (pc2 := 114) ?_ ?_
                  · intro h142
                    refine wp_al1 jF_147_116 rfl rfl (pc2 := 117) ?_
                    refine wp_il2 jF_147_117 rfl rfl (pc2 := 119) ?_
                    refine wp_ic jF_147_119 rfl (pc2 := 120) ?_
                    refine wp_add jF_147_120 rfl (pc2 := 121) ?_
                    refine wp_al1 jF_147_121 rfl rfl (pc2 := 122) ?_
                    refine wp_il2 jF_147_122 rfl rfl (pc2 := 124) ?_
                    refine wp_ic jF_147_124 rfl (pc2 := 125) ?_
                    refine wp_add jF_147_125 rfl (pc2 := 126) ?_
                    refine wp_il2 jF_147_126 rfl rfl (pc2 := 128) ?_
                    refine wp_ic jF_147_128 rfl (pc2 := 129) ?_
                    refine wp_subx (c := 1) jF_147_129 rfl rfl (pc2 := 130) ?_
                    refine wp_cS (as := [.ref 70, iV (x3 + 1), .ref 75, iV (x4 + 1), iV 1]) (rest := []) (mx := 9) jF_147_130 rfl rfl rfl rfl (by omega) (by omega) rfl (pc2 := 133) ?_
                    refine wp_use (m_147_r70_75_n1 σ hg (x3 + 1) (by omega) (by omega) (x4 + 1) (by omega) (by omega) (by omega) (by omega) _ _ (by omega) (by omega)) ?_
                    rintro _ _ ⟨z145, rfl, h146, rfl⟩
                    show WP 147 133 [(0, .ref 70), (1, iV i0), (2, .ref 75), (3, iV j0), (4, iV 2), (5, iV x3), (6, iV x4), (7, iV ((σ.1 70 1) - x3)), (8, iV ((σ.1 75 1) - x4))] [iV z145] _ _ _ _
                    refine wp_z_ne jF_147_133 (m_rgb h146 rfl) rfl (pc2 := 136) ?_ ?_
                    · intro h147
                      refine wp_ic jF_147_172 rfl (pc2 := 173) ?_
                      refine wp_go jF_147_173 ?_
                      refine wp_ri jF_147_177 rfl ?_
                      exact ⟨1, rfl, ⟨by omega, by omega⟩, rfl⟩
                    · intro h147
                      refine wp_al1 jF_147_136 rfl rfl (pc2 := 137) ?_
                      refine wp_il2 jF_147_137 rfl rfl (pc2 := 139) ?_
                      refine wp_ic jF_147_139 rfl (pc2 := 140) ?_
                      refine wp_add jF_147_140 rfl (pc2 := 141) ?_
                      refine wp_al1 jF_147_141 rfl rfl (pc2 := 142) ?_
                      refine wp_il2 jF_147_142 rfl rfl (pc2 := 144) ?_
                      refine wp_il2 jF_147_144 rfl rfl (pc2 := 146) ?_
                      refine wp_ic jF_147_146 rfl (pc2 := 147) ?_
                      refine wp_subx (c := 1) jF_147_147 rfl rfl (pc2 := 148) ?_
                      refine wp_cS (as := [.ref 70, iV (x3 + 1), .ref 75, iV x4, iV 1]) (rest := []) (mx := 9) jF_147_148 rfl rfl rfl rfl (by omega) (by omega) rfl (pc2 := 151) ?_
                      refine wp_use (m_147_r70_75_n1 σ hg (x3 + 1) (by omega) (by omega) x4 (by omega) (by omega) (by omega) (by omega) _ _ (by omega) (by omega)) ?_
                      rintro _ _ ⟨z150, rfl, h151, rfl⟩
                      show WP 147 151 [(0, .ref 70), (1, iV i0), (2, .ref 75), (3, iV j0), (4, iV 2), (5, iV x3), (6, iV x4), (7, iV ((σ.1 70 1) - x3)), (8, iV ((σ.1 75 1) - x4))] [iV z150] _ _ _ _
                      refine wp_z_ne jF_147_151 (m_rgb h151 rfl) rfl (pc2 := 154) ?_ ?_
                      · intro h152
                        refine wp_ic jF_147_172 rfl (pc2 := 173) ?_
                        refine wp_go jF_147_173 ?_
                        refine wp_ri jF_147_177 rfl ?_
                        exact ⟨1, rfl, ⟨by omega, by omega⟩, rfl⟩
                      · intro h152
                        refine wp_al1 jF_147_154 rfl rfl (pc2 := 155) ?_
                        refine wp_il2 jF_147_155 rfl rfl (pc2 := 157) ?_
                        refine wp_al1 jF_147_157 rfl rfl (pc2 := 158) ?_
                        refine wp_il2 jF_147_158 rfl rfl (pc2 := 160) ?_
                        refine wp_ic jF_147_160 rfl (pc2 := 161) ?_
                        refine wp_add jF_147_161 rfl (pc2 := 162) ?_
                        refine wp_il2 jF_147_162 rfl rfl (pc2 := 164) ?_
                        refine wp_ic jF_147_164 rfl (pc2 := 165) ?_
                        refine wp_subx (c := 1) jF_147_165 rfl rfl (pc2 := 166) ?_
                        refine wp_cS (as := [.ref 70, iV x3, .ref 75, iV (x4 + 1), iV 1]) (rest := []) (mx := 9) jF_147_166 rfl rfl rfl rfl (by omega) (by omega) rfl (pc2 := 169) ?_
                        refine wp_use (m_147_r70_75_n1 σ hg x3 (by omega) (by omega) (x4 + 1) (by omega) (by omega) (by omega) (by omega) _ _ (by omega) (by omega)) ?_
                        rintro _ _ ⟨z155, rfl, h156, rfl⟩
                        show WP 147 169 [(0, .ref 70), (1, iV i0), (2, .ref 75), (3, iV j0), (4, iV 2), (5, iV x3), (6, iV x4), (7, iV ((σ.1 70 1) - x3)), (8, iV ((σ.1 75 1) - x4))] [iV z155] _ _ _ _
                        refine wp_z_eq jF_147_169 (m_rgb h156 rfl) rfl (pc2 := 172) ?_ ?_
                        · intro h157
                          refine wp_ic jF_147_176 rfl (pc2 := 177) ?_
                          refine wp_ri jF_147_177 rfl ?_
                          exact ⟨0, rfl, ⟨by omega, by omega⟩, rfl⟩
                        · intro h157
                          refine wp_ic jF_147_172 rfl (pc2 := 173) ?_
                          refine wp_go jF_147_173 ?_
                          refine wp_ri jF_147_177 rfl ?_
                          exact ⟨1, rfl, ⟨by omega, by omega⟩, rfl⟩
                  · intro h142
                    refine wp_ic jF_147_114 rfl (pc2 := 115) ?_
                    refine wp_ri jF_147_115 rfl ?_
                    exact ⟨0, rfl, ⟨by omega, by omega⟩, rfl⟩
                · intro h141
                  refine wp_il1 jF_148_4 rfl rfl (pc2 := 5) ?_
                  refine wp_neg jF_148_5 rfl (pc2 := 6) ?_
                  refine wp_go jF_148_6 ?_
                  refine wp_ri jF_148_10 rfl ?_
                  show WP 147 109 [(0, .ref 70), (1, iV i0), (2, .ref 75), (3, iV j0), (4, iV 2), (5, iV x3), (6, iV x4), (7, iV ((σ.1 70 1) - x3)), (8, iV ((σ.1 75 1) - x4))] [iV (-(((σ.1 70 1) - x3) - ((σ.1 75 1) - x4)))] _ _ _ _
                  refine wp_il2 jF_147_109 rfl rfl (pc2 := 111) ?_
                  refine wp_i_le jF_147_111 ⟨by omega, by omega⟩ (m_rgl rfl) rfl (pc2 := 114) ?_ ?_
                  · intro h158
                    refine wp_al1 jF_147_116 rfl rfl (pc2 := 117) ?_
                    refine wp_il2 jF_147_117 rfl rfl (pc2 := 119) ?_
                    refine wp_ic jF_147_119 rfl (pc2 := 120) ?_
                    refine wp_add jF_147_120 rfl (pc2 := 121) ?_
                    refine wp_al1 jF_147_121 rfl rfl (pc2 := 122) ?_
                    refine wp_il2 jF_147_122 rfl rfl (pc2 := 124) ?_
                    refine wp_ic jF_147_124 rfl (pc2 := 125) ?_
                    refine wp_add jF_147_125 rfl (pc2 := 126) ?_
                    refine wp_il2 jF_147_126 rfl rfl (pc2 := 128) ?_
                    refine wp_ic jF_147_128 rfl (pc2 := 129) ?_
                    refine wp_subx (c := 1) jF_147_129 rfl rfl (pc2 := 130) ?_
                    refine wp_cS (as := [.ref 70, iV (x3 + 1), .ref 75, iV (x4 + 1), iV 1]) (rest := []) (mx := 9) jF_147_130 rfl rfl rfl rfl (by omega) (by omega) rfl (pc2 := 133) ?_
                    refine wp_use (m_147_r70_75_n1 σ hg (x3 + 1) (by omega) (by omega) (x4 + 1) (by omega) (by omega) (by omega) (by omega) _ _ (by omega) (by omega)) ?_
                    rintro _ _ ⟨z161, rfl, h162, rfl⟩
                    show WP 147 133 [(0, .ref 70), (1, iV i0), (2, .ref 75), (3, iV j0), (4, iV 2), (5, iV x3), (6, iV x4), (7, iV ((σ.1 70 1) - x3)), (8, iV ((σ.1 75 1) - x4))] [iV z161] _ _ _ _
                    refine wp_z_ne jF_147_133 (m_rgb h162 rfl) rfl (pc2 := 136) ?_ ?_
                    · intro h163
                      refine wp_ic jF_147_172 rfl (pc2 := 173) ?_
                      refine wp_go jF_147_173 ?_
                      refine wp_ri jF_147_177 rfl ?_
                      exact ⟨1, rfl, ⟨by omega, by omega⟩, rfl⟩
                    · intro h163
                      refine wp_al1 jF_147_136 rfl rfl (pc2 := 137) ?_
                      refine wp_il2 jF_147_137 rfl rfl (pc2 := 139) ?_
                      refine wp_ic jF_147_139 rfl (pc2 := 140) ?_
                      refine wp_add jF_147_140 rfl (pc2 := 141) ?_
                      refine wp_al1 jF_147_141 rfl rfl (pc2 := 142) ?_
                      refine wp_il2 jF_147_142 rfl rfl (pc2 := 144) ?_
                      refine wp_il2 jF_147_144 rfl rfl (pc2 := 146) ?_
                      refine wp_ic jF_147_146 rfl (pc2 := 147) ?_
                      refine wp_subx (c := 1) jF_147_147 rfl rfl (pc2 := 148) ?_
                      refine wp_cS (as := [.ref 70, iV (x3 + 1), .ref 75, iV x4, iV 1]) (rest := []) (mx := 9) jF_147_148 rfl rfl rfl rfl (by omega) (by omega) rfl (pc2 := 151) ?_
                      refine wp_use (m_147_r70_75_n1 σ hg (x3 + 1) (by omega) (by omega) x4 (by omega) (by omega) (by omega) (by omega) _ _ (by omega) (by omega)) ?_
                      rintro _ _ ⟨z166, rfl, h167, rfl⟩
                      show WP 147 151 [(0, .ref 70), (1, iV i0), (2, .ref 75), (3, iV j0), (4, iV 2), (5, iV x3), (6, iV x4), (7, iV ((σ.1 70 1) - x3)), (8, iV ((σ.1 75 1) - x4))] [iV z166] _ _ _ _
                      refine wp_z_ne jF_147_151 (m_rgb h167 rfl) rfl (pc2 := 154) ?_ ?_
                      · intro h168
                        refine wp_ic jF_147_172 rfl (pc2 := 173) ?_
                        refine wp_go jF_147_173 ?_
                        refine wp_ri jF_147_177 rfl ?_
                        exact ⟨1, rfl, ⟨by omega, by omega⟩, rfl⟩
                      · intro h168
                        refine wp_al1 jF_147_154 rfl rfl (pc2 := 155) ?_
                        refine wp_il2 jF_147_155 rfl rfl (pc2 := 157) ?_
                        refine wp_al1 jF_147_157 rfl rfl (pc2 := 158) ?_
                        refine wp_il2 jF_147_158 rfl rfl (pc2 := 160) ?_
                        refine wp_ic jF_147_160 rfl (pc2 := 161) ?_
                        refine wp_add jF_147_161 rfl (pc2 := 162) ?_
                        refine wp_il2 jF_147_162 rfl rfl (pc2 := 164) ?_
                        refine wp_ic jF_147_164 rfl (pc2 := 165) ?_
                        refine wp_subx (c := 1) jF_147_165 rfl rfl (pc2 := 166) ?_
                        refine wp_cS (as := [.ref 70, iV x3, .ref 75, iV (x4 + 1), iV 1]) (rest := []) (mx := 9) jF_147_166 rfl rfl rfl rfl (by omega) (by omega) rfl (pc2 := 169) ?_
                        refine wp_use (m_147_r70_75_n1 σ hg x3 (by omega) (by omega) (x4 + 1) (by omega) (by omega) (by omega) (by omega) _ _ (by omega) (by omega)) ?_
                        rintro _ _ ⟨z171, rfl, h172, rfl⟩
                        show WP 147 169 [(0, .ref 70), (1, iV i0), (2, .ref 75), (3, iV j0), (4, iV 2), (5, iV x3), (6, iV x4), (7, iV ((σ.1 70 1) - x3)), (8, iV ((σ.1 75 1) - x4))] [iV z171] _ _ _ _
                        refine wp_z_eq jF_147_169 (m_rgb h172 rfl) rfl (pc2 := 172) ?_ ?_
                        · intro h173
                          refine wp_ic jF_147_176 rfl (pc2 := 177) ?_
                          refine wp_ri jF_147_177 rfl ?_
                          exact ⟨0, rfl, ⟨by omega, by omega⟩, rfl⟩
                        · intro h173
                          refine wp_ic jF_147_172 rfl (pc2 := 173) ?_
                          refine wp_go jF_147_173 ?_
                          refine wp_ri jF_147_177 rfl ?_
                          exact ⟨1, rfl, ⟨by omega, by omega⟩, rfl⟩
                  · intro h158
                    refine wp_ic jF_147_114 rfl (pc2 := 115) ?_
                    refine wp_ri jF_147_115 rfl ?_
                    exact ⟨0, rfl, ⟨by omega, by omega⟩, rfl⟩
              · intro h140; exfalso; omega
        · intro h121
          refine wp_inc (lv2 := [(0, .ref 70), (1, iV i0), (2, .ref 75), (3, iV j0), (4, iV 2), (5, iV (x3 + 1)), (6, iV x4)]) jF_147_41 rfl rfl rfl rfl (pc2 := 44) ?_
          refine wp_inc (lv2 := [(0, .ref 70), (1, iV i0), (2, .ref 75), (3, iV j0), (4, iV 2), (5, iV (x3 + 1)), (6, iV (x4 + 1))]) jF_147_44 rfl rfl rfl rfl (pc2 := 47) ?_
          refine wp_go jF_147_47 ?_
          exact ih12 ((x3 + 1), (x4 + 1)) σ ⟨⟨by (try dsimp only); omega, by (try dsimp only); omega⟩, ⟨by (try dsimp only); omega, by (try dsimp only); omega⟩, rfl, (by (try dsimp only); omega), (by (try dsimp only); omega)⟩ (by show Int.toNat (61 - (x3 + 1)) < Int.toNat (61 - x3); omega)
