set_option maxHeartbeats 4000000 in
set_option maxRecDepth 20000 in
/-- Way.measure -/
theorem m_145_r102_45_70_75 (σ : jM) (hg : GI σ)   (fr lo : Nat) (hfr : 6 ≤ fr) (hlo : 186 ≤ lo) : WP 145 0 (lv_args 0 [.ref 102, .ref 45, .ref 70, .ref 75]) [] fr lo σ (fun v τ => ∃ z : Int, v = some (iV z) ∧ ((-1) ≤ z ∧ z ≤ 3) ∧ GI τ ∧ FR WY σ τ) := by
  show WP 145 0 [(0, .ref 102), (1, .ref 45), (2, .ref 70), (3, .ref 75)] [] _ _ _ _
  refine wp_al1 jF_145_0 rfl rfl (pc2 := 1) ?_
  refine wp_al1 jF_145_1 rfl rfl (pc2 := 2) ?_
  refine wp_cV (as := [.ref 75]) (rest := []) (a := 70) (mx := 4) (ci := 4) jF_145_2 kd70 (by decide) rfl rfl rfl rfl rfl (by omega) (by omega) rfl (pc2 := 5) ?_
  refine wp_use (m_146_r70_75 σ hg   _ _ (by omega) (by omega)) ?_
  rintro _ _ ⟨z3, rfl, h4, rfl⟩
  show WP 145 5 [(0, .ref 102), (1, .ref 45), (2, .ref 70), (3, .ref 75)] [iV z3] _ _ _ _
  refine wp_z_eq jF_145_5 (m_rgb h4 rfl) rfl (pc2 := 8) ?_ ?_
  · intro h5
    refine wp_al1 jF_145_10 rfl rfl (pc2 := 11) ?_
    have b6 := GI.b hg 70 1 kd70 (lo := 0) (hi := 60) rfl
    refine wp_gi jF_145_11 kd70 (by decide) rfl rfl rfl (pc2 := 14) ?_
    refine wp_bi jF_145_14 (by decide) rfl (pc2 := 16) ?_
    refine wp_i_gt jF_145_16 (m_rgb b6 rfl) (m_rgl rfl) rfl (pc2 := 19) ?_ ?_
    · intro h7
      refine wp_ic jF_145_39 rfl (pc2 := 40) ?_
      refine wp_ri jF_145_40 rfl ?_
      exact ⟨(-1), rfl, ⟨by omega, by omega⟩, hg, FR.rf⟩
    · intro h7
      refine wp_al1 jF_145_19 rfl rfl (pc2 := 20) ?_
      have b8 := GI.b hg 75 1 kd75 (lo := 0) (hi := 60) rfl
      refine wp_gi jF_145_20 kd75 (by decide) rfl rfl rfl (pc2 := 23) ?_
      refine wp_bi jF_145_23 (by decide) rfl (pc2 := 25) ?_
      refine wp_i_gt jF_145_25 (m_rgb b8 rfl) (m_rgl rfl) rfl (pc2 := 28) ?_ ?_
      · intro h9
        refine wp_ic jF_145_39 rfl (pc2 := 40) ?_
        refine wp_ri jF_145_40 rfl ?_
        exact ⟨(-1), rfl, ⟨by omega, by omega⟩, hg, FR.rf⟩
      · intro h9
        refine wp_al1 jF_145_28 rfl rfl (pc2 := 29) ?_
        refine wp_al1 jF_145_29 rfl rfl (pc2 := 30) ?_
        refine wp_glA jF_145_30 kd75 (by decide) rfl rfl (pc2 := 33) ?_
        intro y10
        refine wp_cV (as := [.long y10]) (rest := []) (a := 45) (mx := 3) (ci := 8) jF_145_33 kd45 (by decide) rfl rfl rfl rfl rfl (by omega) (by omega) rfl (pc2 := 36) ?_
        refine wp_use (m_85_r45 σ hg y10  _ _ (by omega) (by omega)) ?_
        rintro _ _ ⟨z13, rfl, h14, rfl⟩
        show WP 145 36 [(0, .ref 102), (1, .ref 45), (2, .ref 70), (3, .ref 75)] [iV z13] _ _ _ _
        refine wp_z_ne jF_145_36 (m_rgb h14 rfl) rfl (pc2 := 39) ?_ ?_
        · intro h15
          refine wp_ic jF_145_41 rfl (pc2 := 42) ?_
          refine wp_is2 (lv2 := [(0, .ref 102), (1, .ref 45), (2, .ref 70), (3, .ref 75), (4, iV 1)]) jF_145_42 rfl rfl rfl (pc2 := 44) ?_
          refine wp_il2 jF_145_44 rfl rfl (pc2 := 46) ?_
          refine wp_ic jF_145_46 rfl (pc2 := 47) ?_
          refine wp_i_gt jF_145_47 (m_rgl rfl) (m_rgl rfl) rfl (pc2 := 50) ?_ ?_
          · intro h16; exfalso; omega
          · intro h16
            refine wp_al1 jF_145_50 rfl rfl (pc2 := 51) ?_
            refine wp_ic jF_145_51 rfl (pc2 := 52) ?_
            refine wp_al1 jF_145_52 rfl rfl (pc2 := 53) ?_
            refine wp_ic jF_145_53 rfl (pc2 := 54) ?_
            refine wp_il2 jF_145_54 rfl rfl (pc2 := 56) ?_
            refine wp_cS (as := [.ref 70, iV 0, .ref 75, iV 0, iV 1]) (rest := []) (mx := 9) jF_145_56 rfl rfl rfl rfl (by omega) (by omega) rfl (pc2 := 59) ?_
            refine wp_use (m_147_r70_75_n1 σ hg 0 (by omega) (by omega) 0 (by omega) (by omega) (by omega) (by omega) _ _ (by omega) (by omega)) ?_
            rintro _ _ ⟨z19, rfl, h20, rfl⟩
            show WP 145 59 [(0, .ref 102), (1, .ref 45), (2, .ref 70), (3, .ref 75), (4, iV 1)] [iV z19] _ _ _ _
            refine wp_z_eq jF_145_59 (m_rgb h20 rfl) rfl (pc2 := 62) ?_ ?_
            · intro h21
              refine wp_inc (lv2 := [(0, .ref 102), (1, .ref 45), (2, .ref 70), (3, .ref 75), (4, iV 2)]) jF_145_77 rfl rfl rfl rfl (pc2 := 80) ?_
              refine wp_go jF_145_80 ?_
              refine wp_il2 jF_145_44 rfl rfl (pc2 := 46) ?_
              refine wp_ic jF_145_46 rfl (pc2 := 47) ?_
              refine wp_i_gt jF_145_47 (m_rgl rfl) (m_rgl rfl) rfl (pc2 := 50) ?_ ?_
              · intro h22; exfalso; omega
              · intro h22
                refine wp_al1 jF_145_50 rfl rfl (pc2 := 51) ?_
                refine wp_ic jF_145_51 rfl (pc2 := 52) ?_
                refine wp_al1 jF_145_52 rfl rfl (pc2 := 53) ?_
                refine wp_ic jF_145_53 rfl (pc2 := 54) ?_
                refine wp_il2 jF_145_54 rfl rfl (pc2 := 56) ?_
                refine wp_cS (as := [.ref 70, iV 0, .ref 75, iV 0, iV 2]) (rest := []) (mx := 9) jF_145_56 rfl rfl rfl rfl (by omega) (by omega) rfl (pc2 := 59) ?_
                refine wp_use (m_147_r70_75_n2 σ hg 0 (by omega) (by omega) 0 (by omega) (by omega) (by omega) (by omega) _ _ (by omega) (by omega)) ?_
                rintro _ _ ⟨z25, rfl, h26, rfl⟩
                show WP 145 59 [(0, .ref 102), (1, .ref 45), (2, .ref 70), (3, .ref 75), (4, iV 2)] [iV z25] _ _ _ _
                refine wp_z_eq jF_145_59 (m_rgb h26 rfl) rfl (pc2 := 62) ?_ ?_
                · intro h27
                  refine wp_inc (lv2 := [(0, .ref 102), (1, .ref 45), (2, .ref 70), (3, .ref 75), (4, iV 3)]) jF_145_77 rfl rfl rfl rfl (pc2 := 80) ?_
                  refine wp_go jF_145_80 ?_
                  refine wp_il2 jF_145_44 rfl rfl (pc2 := 46) ?_
                  refine wp_ic jF_145_46 rfl (pc2 := 47) ?_
                  refine wp_i_gt jF_145_47 (m_rgl rfl) (m_rgl rfl) rfl (pc2 := 50) ?_ ?_
                  · intro h28; exfalso; omega
                  · intro h28
                    refine wp_al1 jF_145_50 rfl rfl (pc2 := 51) ?_
                    refine wp_ic jF_145_51 rfl (pc2 := 52) ?_
                    refine wp_al1 jF_145_52 rfl rfl (pc2 := 53) ?_
                    refine wp_ic jF_145_53 rfl (pc2 := 54) ?_
                    refine wp_il2 jF_145_54 rfl rfl (pc2 := 56) ?_
                    refine wp_cS (as := [.ref 70, iV 0, .ref 75, iV 0, iV 3]) (rest := []) (mx := 9) jF_145_56 rfl rfl rfl rfl (by omega) (by omega) rfl (pc2 := 59) ?_
                    refine wp_use (m_147_r70_75_n3 σ hg 0 (by omega) (by omega) 0 (by omega) (by omega) (by omega) (by omega) _ _ (by omega) (by omega)) ?_
                    rintro _ _ ⟨z31, rfl, h32, rfl⟩
                    show WP 145 59 [(0, .ref 102), (1, .ref 45), (2, .ref 70), (3, .ref 75), (4, iV 3)] [iV z31] _ _ _ _
                    refine wp_z_eq jF_145_59 (m_rgb h32 rfl) rfl (pc2 := 62) ?_ ?_
                    · intro h33
                      refine wp_inc (lv2 := [(0, .ref 102), (1, .ref 45), (2, .ref 70), (3, .ref 75), (4, iV 4)]) jF_145_77 rfl rfl rfl rfl (pc2 := 80) ?_
                      refine wp_go jF_145_80 ?_
                      refine wp_il2 jF_145_44 rfl rfl (pc2 := 46) ?_
                      refine wp_ic jF_145_46 rfl (pc2 := 47) ?_
                      refine wp_i_gt jF_145_47 (m_rgl rfl) (m_rgl rfl) rfl (pc2 := 50) ?_ ?_
                      · intro h34
                        refine wp_ic jF_145_83 rfl (pc2 := 84) ?_
                        refine wp_ri jF_145_84 rfl ?_
                        exact ⟨(-1), rfl, ⟨by omega, by omega⟩, hg, FR.rf⟩
                      · intro h34; exfalso; omega
                    · intro h33
                      refine wp_al1 jF_145_62 rfl rfl (pc2 := 63) ?_
                      refine wp_al1 jF_145_63 rfl rfl (pc2 := 64) ?_
                      refine wp_al1 jF_145_64 rfl rfl (pc2 := 65) ?_
                      refine wp_al1 jF_145_65 rfl rfl (pc2 := 66) ?_
                      refine wp_il2 jF_145_66 rfl rfl (pc2 := 68) ?_
                      refine wp_cV (as := [.ref 45, .ref 70, .ref 75, iV 3]) (rest := []) (a := 102) (mx := 9) (ci := 10) jF_145_68 kd102 (by decide) rfl rfl rfl rfl rfl (by omega) (by omega) rfl (pc2 := 71) ?_
                      refine wp_use (m_149_r102_45_70_75_n3 σ hg   _ _ (by omega) (by omega)) ?_
                      rintro _ τ35 ⟨z38, rfl, h39, g36, f37⟩
                      show WP 145 71 [(0, .ref 102), (1, .ref 45), (2, .ref 70), (3, .ref 75), (4, iV 3)] [iV z38] _ _ _ _
                      refine wp_z_eq jF_145_71 (m_rgb h39 rfl) rfl (pc2 := 74) ?_ ?_
                      · intro h40
                        refine wp_inc (lv2 := [(0, .ref 102), (1, .ref 45), (2, .ref 70), (3, .ref 75), (4, iV 4)]) jF_145_77 rfl rfl rfl rfl (pc2 := 80) ?_
                        refine wp_go jF_145_80 ?_
                        refine wp_il2 jF_145_44 rfl rfl (pc2 := 46) ?_
                        refine wp_ic jF_145_46 rfl (pc2 := 47) ?_
                        refine wp_i_gt jF_145_47 (m_rgl rfl) (m_rgl rfl) rfl (pc2 := 50) ?_ ?_
                        · intro h41
                          refine wp_ic jF_145_83 rfl (pc2 := 84) ?_
                          refine wp_ri jF_145_84 rfl ?_
                          exact ⟨(-1), rfl, ⟨by omega, by omega⟩, g36, f37⟩
                        · intro h41; exfalso; omega
                      · intro h40
                        refine wp_il2 jF_145_74 rfl rfl (pc2 := 76) ?_
                        refine wp_ri jF_145_76 rfl ?_
                        exact ⟨3, rfl, ⟨by omega, by omega⟩, g36, f37⟩
                · intro h27
                  refine wp_al1 jF_145_62 rfl rfl (pc2 := 63) ?_
                  refine wp_al1 jF_145_63 rfl rfl (pc2 := 64) ?_
                  refine wp_al1 jF_145_64 rfl rfl (pc2 := 65) ?_
                  refine wp_al1 jF_145_65 rfl rfl (pc2 := 66) ?_
                  refine wp_il2 jF_145_66 rfl rfl (pc2 := 68) ?_
                  refine wp_cV (as := [.ref 45, .ref 70, .ref 75, iV 2]) (rest := []) (a := 102) (mx := 9) (ci := 10) jF_145_68 kd102 (by decide) rfl rfl rfl rfl rfl (by omega) (by omega) rfl (pc2 := 71) ?_
                  refine wp_use (m_149_r102_45_70_75_n2 σ hg   _ _ (by omega) (by omega)) ?_
                  rintro _ τ42 ⟨z45, rfl, h46, g43, f44⟩
                  show WP 145 71 [(0, .ref 102), (1, .ref 45), (2, .ref 70), (3, .ref 75), (4, iV 2)] [iV z45] _ _ _ _
                  refine wp_z_eq jF_145_71 (m_rgb h46 rfl) rfl (pc2 := 74) ?_ ?_
                  · intro h47
                    refine wp_inc (lv2 := [(0, .ref 102), (1, .ref 45), (2, .ref 70), (3, .ref 75), (4, iV 3)]) jF_145_77 rfl rfl rfl rfl (pc2 := 80) ?_
                    refine wp_go jF_145_80 ?_
                    refine wp_il2 jF_145_44 rfl rfl (pc2 := 46) ?_
                    refine wp_ic jF_145_46 rfl (pc2 := 47) ?_
                    refine wp_i_gt jF_145_47 (m_rgl rfl) (m_rgl rfl) rfl (pc2 := 50) ?_ ?_
                    · intro h48; exfalso; omega
                    · intro h48
                      refine wp_al1 jF_145_50 rfl rfl (pc2 := 51) ?_
                      refine wp_ic jF_145_51 rfl (pc2 := 52) ?_
                      refine wp_al1 jF_145_52 rfl rfl (pc2 := 53) ?_
                      refine wp_ic jF_145_53 rfl (pc2 := 54) ?_
                      refine wp_il2 jF_145_54 rfl rfl (pc2 := 56) ?_
                      refine wp_cS (as := [.ref 70, iV 0, .ref 75, iV 0, iV 3]) (rest := []) (mx := 9) jF_145_56 rfl rfl rfl rfl (by omega) (by omega) rfl (pc2 := 59) ?_
                      have q49 : (τ42.1 70 1) = (σ.1 70 1) := (FR.at f44 70 1 rfl)
                      have q50 : (τ42.1 75 1) = (σ.1 75 1) := (FR.at f44 75 1 rfl)
                      refine wp_use (m_147_r70_75_n3 τ42 g43 0 (by omega) (by omega) 0 (by omega) (by omega) (by omega) (by omega) _ _ (by omega) (by omega)) ?_
                      rintro _ _ ⟨z53, rfl, h54, rfl⟩
                      show WP 145 59 [(0, .ref 102), (1, .ref 45), (2, .ref 70), (3, .ref 75), (4, iV 3)] [iV z53] _ _ _ _
                      refine wp_z_eq jF_145_59 (m_rgb h54 rfl) rfl (pc2 := 62) ?_ ?_
                      · intro h55
                        refine wp_inc (lv2 := [(0, .ref 102), (1, .ref 45), (2, .ref 70), (3, .ref 75), (4, iV 4)]) jF_145_77 rfl rfl rfl rfl (pc2 := 80) ?_
                        refine wp_go jF_145_80 ?_
                        refine wp_il2 jF_145_44 rfl rfl (pc2 := 46) ?_
                        refine wp_ic jF_145_46 rfl (pc2 := 47) ?_
                        refine wp_i_gt jF_145_47 (m_rgl rfl) (m_rgl rfl) rfl (pc2 := 50) ?_ ?_
                        · intro h56
                          refine wp_ic jF_145_83 rfl (pc2 := 84) ?_
                          refine wp_ri jF_145_84 rfl ?_
                          exact ⟨(-1), rfl, ⟨by omega, by omega⟩, g43, (FR.up FR.rf f44 sb_WY1_WY)⟩
                        · intro h56; exfalso; omega
                      · intro h55
                        refine wp_al1 jF_145_62 rfl rfl (pc2 := 63) ?_
                        refine wp_al1 jF_145_63 rfl rfl (pc2 := 64) ?_
                        refine wp_al1 jF_145_64 rfl rfl (pc2 := 65) ?_
                        refine wp_al1 jF_145_65 rfl rfl (pc2 := 66) ?_
                        refine wp_il2 jF_145_66 rfl rfl (pc2 := 68) ?_
                        refine wp_cV (as := [.ref 45, .ref 70, .ref 75, iV 3]) (rest := []) (a := 102) (mx := 9) (ci := 10) jF_145_68 kd102 (by decide) rfl rfl rfl rfl rfl (by omega) (by omega) rfl (pc2 := 71) ?_
                        refine wp_use (m_149_r102_45_70_75_n3 τ42 g43   _ _ (by omega) (by omega)) ?_
                        rintro _ τ57 ⟨z60, rfl, h61, g58, f59⟩
                        show WP 145 71 [(0, .ref 102), (1, .ref 45), (2, .ref 70), (3, .ref 75), (4, iV 3)] [iV z60] _ _ _ _
                        refine wp_z_eq jF_145_71 (m_rgb h61 rfl) rfl (pc2 := 74) ?_ ?_
                        · intro h62
                          refine wp_inc (lv2 := [(0, .ref 102), (1, .ref 45), (2, .ref 70), (3, .ref 75), (4, iV 4)]) jF_145_77 rfl rfl rfl rfl (pc2 := 80) ?_
                          refine wp_go jF_145_80 ?_
                          refine wp_il2 jF_145_44 rfl rfl (pc2 := 46) ?_
                          refine wp_ic jF_145_46 rfl (pc2 := 47) ?_
                          refine wp_i_gt jF_145_47 (m_rgl rfl) (m_rgl rfl) rfl (pc2 := 50) ?_ ?_
                          · intro h63
                            refine wp_ic jF_145_83 rfl (pc2 := 84) ?_
                            refine wp_ri jF_145_84 rfl ?_
                            exact ⟨(-1), rfl, ⟨by omega, by omega⟩, g58, (FR.up (FR.up FR.rf f44 sb_WY1_WY) f59 sb_WY_WY)⟩
                          · intro h63; exfalso; omega
                        · intro h62
                          refine wp_il2 jF_145_74 rfl rfl (pc2 := 76) ?_
                          refine wp_ri jF_145_76 rfl ?_
                          exact ⟨3, rfl, ⟨by omega, by omega⟩, g58, (FR.up (FR.up FR.rf f44 sb_WY1_WY) f59 sb_WY_WY)⟩
                  · intro h47
                    refine wp_il2 jF_145_74 rfl rfl (pc2 := 76) ?_
                    refine wp_ri jF_145_76 rfl ?_
                    exact ⟨2, rfl, ⟨by omega, by omega⟩, g43, (FR.up FR.rf f44 sb_WY1_WY)⟩
            · intro h21
              refine wp_al1 jF_145_62 rfl rfl (pc2 := 63) ?_
              refine wp_al1 jF_145_63 rfl rfl (pc2 := 64) ?_
              refine wp_al1 jF_145_64 rfl rfl (pc2 := 65) ?_
              refine wp_al1 jF_145_65 rfl rfl (pc2 := 66) ?_
              refine wp_il2 jF_145_66 rfl rfl (pc2 := 68) ?_
              refine wp_cV (as := [.ref 45, .ref 70, .ref 75, iV 1]) (rest := []) (a := 102) (mx := 9) (ci := 10) jF_145_68 kd102 (by decide) rfl rfl rfl rfl rfl (by omega) (by omega) rfl (pc2 := 71) ?_
              refine wp_use (m_149_r102_45_70_75_n1 σ hg   _ _ (by omega) (by omega)) ?_
              rintro _ _ ⟨z66, rfl, h67, rfl⟩
              show WP 145 71 [(0, .ref 102), (1, .ref 45), (2, .ref 70), (3, .ref 75), (4, iV 1)] [iV z66] _ _ _ _
              refine wp_z_eq jF_145_71 (m_rgb h67 rfl) rfl (pc2 := 74) ?_ ?_
              · intro h68
                refine wp_inc (lv2 := [(0, .ref 102), (1, .ref 45), (2, .ref 70), (3, .ref 75), (4, iV 2)]) jF_145_77 rfl rfl rfl rfl (pc2 := 80) ?_
                refine wp_go jF_145_80 ?_
                refine wp_il2 jF_145_44 rfl rfl (pc2 := 46) ?_
                refine wp_ic jF_145_46 rfl (pc2 := 47) ?_
                refine wp_i_gt jF_145_47 (m_rgl rfl) (m_rgl rfl) rfl (pc2 := 50) ?_ ?_
                · intro h69; exfalso; omega
                · intro h69
                  refine wp_al1 jF_145_50 rfl rfl (pc2 := 51) ?_
                  refine wp_ic jF_145_51 rfl (pc2 := 52) ?_
                  refine wp_al1 jF_145_52 rfl rfl (pc2 := 53) ?_
                  refine wp_ic jF_145_53 rfl (pc2 := 54) ?_
                  refine wp_il2 jF_145_54 rfl rfl (pc2 := 56) ?_
                  refine wp_cS (as := [.ref 70, iV 0, .ref 75, iV 0, iV 2]) (rest := []) (mx := 9) jF_145_56 rfl rfl rfl rfl (by omega) (by omega) rfl (pc2 := 59) ?_
                  refine wp_use (m_147_r70_75_n2 σ hg 0 (by omega) (by omega) 0 (by omega) (by omega) (by omega) (by omega) _ _ (by omega) (by omega)) ?_
                  rintro _ _ ⟨z72, rfl, h73, rfl⟩
                  show WP 145 59 [(0, .ref 102), (1, .ref 45), (2, .ref 70), (3, .ref 75), (4, iV 2)] [iV z72] _ _ _ _
                  refine wp_z_eq jF_145_59 (m_rgb h73 rfl) rfl (pc2 := 62) ?_ ?_
                  · intro h74
                    refine wp_inc (lv2 := [(0, .ref 102), (1, .ref 45), (2, .ref 70), (3, .ref 75), (4, iV 3)]) jF_145_77 rfl rfl rfl rfl (pc2 := 80) ?_
                    refine wp_go jF_145_80 ?_
                    refine wp_il2 jF_145_44 rfl rfl (pc2 := 46) ?_
                    refine wp_ic jF_145_46 rfl (pc2 := 47) ?_
                    refine wp_i_gt jF_145_47 (m_rgl rfl) (m_rgl rfl) rfl (pc2 := 50) ?_ ?_
                    · intro h75; exfalso; omega
                    · intro h75
                      refine wp_al1 jF_145_50 rfl rfl (pc2 := 51) ?_
                      refine wp_ic jF_145_51 rfl (pc2 := 52) ?_
                      refine wp_al1 jF_145_52 rfl rfl (pc2 := 53) ?_
                      refine wp_ic jF_145_53 rfl (pc2 := 54) ?_
                      refine wp_il2 jF_145_54 rfl rfl (pc2 := 56) ?_
                      refine wp_cS (as := [.ref 70, iV 0, .ref 75, iV 0, iV 3]) (rest := []) (mx := 9) jF_145_56 rfl rfl rfl rfl (by omega) (by omega) rfl (pc2 := 59) ?_
                      refine wp_use (m_147_r70_75_n3 σ hg 0 (by omega) (by omega) 0 (by omega) (by omega) (by omega) (by omega) _ _ (by omega) (by omega)) ?_
                      rintro _ _ ⟨z78, rfl, h79, rfl⟩
                      show WP 145 59 [(0, .ref 102), (1, .ref 45), (2, .ref 70), (3, .ref 75), (4, iV 3)] [iV z78] _ _ _ _
                      refine wp_z_eq jF_145_59 (m_rgb h79 rfl) rfl (pc2 := 62) ?_ ?_
                      · intro h80
                        refine wp_inc (lv2 := [(0, .ref 102), (1, .ref 45), (2, .ref 70), (3, .ref 75), (4, iV 4)]) jF_145_77 rfl rfl rfl rfl (pc2 := 80) ?_
                        refine wp_go jF_145_80 ?_
                        refine wp_il2 jF_145_44 rfl rfl (pc2 := 46) ?_
                        refine wp_ic jF_145_46 rfl (pc2 := 47) ?_
                        refine wp_i_gt jF_145_47 (m_rgl rfl) (m_rgl rfl) rfl (pc2 := 50) ?_ ?_
                        · intro h81
                          refine wp_ic jF_145_83 rfl (pc2 := 84) ?_
                          refine wp_ri jF_145_84 rfl ?_
                          exact ⟨(-1), rfl, ⟨by omega, by omega⟩, hg, FR.rf⟩
                        · intro h81; exfalso; omega
                      · intro h80
                        refine wp_al1 jF_145_62 rfl rfl (pc2 := 63) ?_
                        refine wp_al1 jF_145_63 rfl rfl (pc2 := 64) ?_
                        refine wp_al1 jF_145_64 rfl rfl (pc2 := 65) ?_
                        refine wp_al1 jF_145_65 rfl rfl (pc2 := 66) ?_
                        refine wp_il2 jF_145_66 rfl rfl (pc2 := 68) ?_
                        refine wp_cV (as := [.ref 45, .ref 70, .ref 75, iV 3]) (rest := []) (a := 102) (mx := 9) (ci := 10) jF_145_68 kd102 (by decide) rfl rfl rfl rfl rfl (by omega) (by omega) rfl (pc2 := 71) ?_
                        refine wp_use (m_149_r102_45_70_75_n3 σ hg   _ _ (by omega) (by omega)) ?_
                        rintro _ τ82 ⟨z85, rfl, h86, g83, f84⟩
                        show WP 145 71 [(0, .ref 102), (1, .ref 45), (2, .ref 70), (3, .ref 75), (4, iV 3)] [iV z85] _ _ _ _
                        refine wp_z_eq jF_145_71 (m_rgb h86 rfl) rfl (pc2 := 74) ?_ ?_
                        · intro h87
                          refine wp_inc (lv2 := [(0, .ref 102), (1, .ref 45), (2, .ref 70), (3, .ref 75), (4, iV 4)]) jF_145_77 rfl rfl rfl rfl (pc2 := 80) ?_
                          refine wp_go jF_145_80 ?_
                          refine wp_il2 jF_145_44 rfl rfl (pc2 := 46) ?_
                          refine wp_ic jF_145_46 rfl (pc2 := 47) ?_
                          refine wp_i_gt jF_145_47 (m_rgl rfl) (m_rgl rfl) rfl (pc2 := 50) ?_ ?_
                          · intro h88
                            refine wp_ic jF_145_83 rfl (pc2 := 84) ?_
                            refine wp_ri jF_145_84 rfl ?_
                            exact ⟨(-1), rfl, ⟨by omega, by omega⟩, g83, f84⟩
                          · intro h88; exfalso; omega
                        · intro h87
                          refine wp_il2 jF_145_74 rfl rfl (pc2 := 76) ?_
                          refine wp_ri jF_145_76 rfl ?_
                          exact ⟨3, rfl, ⟨by omega, by omega⟩, g83, f84⟩
                  · intro h74
                    refine wp_al1 jF_145_62 rfl rfl (pc2 := 63) ?_
                    refine wp_al1 jF_145_63 rfl rfl (pc2 := 64) ?_
                    refine wp_al1 jF_145_64 rfl rfl (pc2 := 65) ?_
                    refine wp_al1 jF_145_65 rfl rfl (pc2 := 66) ?_
                    refine wp_il2 jF_145_66 rfl rfl (pc2 := 68) ?_
                    refine wp_cV (as := [.ref 45, .ref 70, .ref 75, iV 2]) (rest := []) (a := 102) (mx := 9) (ci := 10) jF_145_68 kd102 (by decide) rfl rfl rfl rfl rfl (by omega) (by omega) rfl (pc2 := 71) ?_
                    refine wp_use (m_149_r102_45_70_75_n2 σ hg   _ _ (by omega) (by omega)) ?_
                    rintro _ τ89 ⟨z92, rfl, h93, g90, f91⟩
                    show WP 145 71 [(0, .ref 102), (1, .ref 45), (2, .ref 70), (3, .ref 75), (4, iV 2)] [iV z92] _ _ _ _
                    refine wp_z_eq jF_145_71 (m_rgb h93 rfl) rfl (pc2 := 74) ?_ ?_
                    · intro h94
                      refine wp_inc (lv2 := [(0, .ref 102), (1, .ref 45), (2, .ref 70), (3, .ref 75), (4, iV 3)]) jF_145_77 rfl rfl rfl rfl (pc2 := 80) ?_
                      refine wp_go jF_145_80 ?_
                      refine wp_il2 jF_145_44 rfl rfl (pc2 := 46) ?_
                      refine wp_ic jF_145_46 rfl (pc2 := 47) ?_
                      refine wp_i_gt jF_145_47 (m_rgl rfl) (m_rgl rfl) rfl (pc2 := 50) ?_ ?_
                      · intro h95; exfalso; omega
                      · intro h95
                        refine wp_al1 jF_145_50 rfl rfl (pc2 := 51) ?_
                        refine wp_ic jF_145_51 rfl (pc2 := 52) ?_
                        refine wp_al1 jF_145_52 rfl rfl (pc2 := 53) ?_
                        refine wp_ic jF_145_53 rfl (pc2 := 54) ?_
                        refine wp_il2 jF_145_54 rfl rfl (pc2 := 56) ?_
                        refine wp_cS (as := [.ref 70, iV 0, .ref 75, iV 0, iV 3]) (rest := []) (mx := 9) jF_145_56 rfl rfl rfl rfl (by omega) (by omega) rfl (pc2 := 59) ?_
                        have q96 : (τ89.1 70 1) = (σ.1 70 1) := (FR.at f91 70 1 rfl)
                        have q97 : (τ89.1 75 1) = (σ.1 75 1) := (FR.at f91 75 1 rfl)
                        refine wp_use (m_147_r70_75_n3 τ89 g90 0 (by omega) (by omega) 0 (by omega) (by omega) (by omega) (by omega) _ _ (by omega) (by omega)) ?_
                        rintro _ _ ⟨z100, rfl, h101, rfl⟩
                        show WP 145 59 [(0, .ref 102), (1, .ref 45), (2, .ref 70), (3, .ref 75), (4, iV 3)] [iV z100] _ _ _ _
                        refine wp_z_eq jF_145_59 (m_rgb h101 rfl) rfl (pc2 := 62) ?_ ?_
                        · intro h102
                          refine wp_inc (lv2 := [(0, .ref 102), (1, .ref 45), (2, .ref 70), (3, .ref 75), (4, iV 4)]) jF_145_77 rfl rfl rfl rfl (pc2 := 80) ?_
                          refine wp_go jF_145_80 ?_
                          refine wp_il2 jF_145_44 rfl rfl (pc2 := 46) ?_
                          refine wp_ic jF_145_46 rfl (pc2 := 47) ?_
                          refine wp_i_gt jF_145_47 (m_rgl rfl) (m_rgl rfl) rfl (pc2 := 50) ?_ ?_
                          · intro h103
                            refine wp_ic jF_145_83 rfl (pc2 := 84) ?_
                            refine wp_ri jF_145_84 rfl ?_
                            exact ⟨(-1), rfl, ⟨by omega, by omega⟩, g90, (FR.up FR.rf f91 sb_WY1_WY)⟩
                          · intro h103; exfalso; omega
                        · intro h102
                          refine wp_al1 jF_145_62 rfl rfl (pc2 := 63) ?_
                          refine wp_al1 jF_145_63 rfl rfl (pc2 := 64) ?_
                          refine wp_al1 jF_145_64 rfl rfl (pc2 := 65) ?_
                          refine wp_al1 jF_145_65 rfl rfl (pc2 := 66) ?_
                          refine wp_il2 jF_145_66 rfl rfl (pc2 := 68) ?_
                          refine wp_cV (as := [.ref 45, .ref 70, .ref 75, iV 3]) (rest := []) (a := 102) (mx := 9) (ci := 10) jF_145_68 kd102 (by decide) rfl rfl rfl rfl rfl (by omega) (by omega) rfl (pc2 := 71) ?_
                          refine wp_use (m_149_r102_45_70_75_n3 τ89 g90   _ _ (by omega) (by omega)) ?_
                          rintro _ τ104 ⟨z107, rfl, h108, g105, f106⟩
                          show WP 145 71 [(0, .ref 102), (1, .ref 45), (2, .ref 70), (3, .ref 75), (4, iV 3)] [iV z107] _ _ _ _
                          refine wp_z_eq jF_145_71 (m_rgb h108 rfl) rfl (pc2 := 74) ?_ ?_
                          · intro h109
                            refine wp_inc (lv2 := [(0, .ref 102), (1, .ref 45), (2, .ref 70), (3, .ref 75), (4, iV 4)]) jF_145_77 rfl rfl rfl rfl (pc2 := 80) ?_
                            refine wp_go jF_145_80 ?_
                            refine wp_il2 jF_145_44 rfl rfl (pc2 := 46) ?_
                            refine wp_ic jF_145_46 rfl (pc2 := 47) ?_
                            refine wp_i_gt jF_145_47 (m_rgl rfl) (m_rgl rfl) rfl (pc2 := 50) ?_ ?_
                            · intro h110
                              refine wp_ic jF_145_83 rfl (pc2 := 84) ?_
                              refine wp_ri jF_145_84 rfl ?_
                              exact ⟨(-1), rfl, ⟨by omega, by omega⟩, g105, (FR.up (FR.up FR.rf f91 sb_WY1_WY) f106 sb_WY_WY)⟩
                            · intro h110; exfalso; omega
                          · intro h109
                            refine wp_il2 jF_145_74 rfl rfl (pc2 := 76) ?_
                            refine wp_ri jF_145_76 rfl ?_
                            exact ⟨3, rfl, ⟨by omega, by omega⟩, g105, (FR.up (FR.up FR.rf f91 sb_WY1_WY) f106 sb_WY_WY)⟩
                    · intro h94
                      refine wp_il2 jF_145_74 rfl rfl (pc2 := 76) ?_
                      refine wp_ri jF_145_76 rfl ?_
                      exact ⟨2, rfl, ⟨by omega, by omega⟩, g90, (FR.up FR.rf f91 sb_WY1_WY)⟩
              · intro h68
                refine wp_il2 jF_145_74 rfl rfl (pc2 := 76) ?_
                refine wp_ri jF_145_76 rfl ?_
                exact ⟨1, rfl, ⟨by omega, by omega⟩, hg, FR.rf⟩
        · intro h15
          refine wp_ic jF_145_39 rfl (pc2 := 40) ?_
          refine wp_ri jF_145_40 rfl ?_
          exact ⟨(-1), rfl, ⟨by omega, by omega⟩, hg, FR.rf⟩
  · intro h5
    refine wp_ic jF_145_8 rfl (pc2 := 9) ?_
    refine wp_ri jF_145_9 rfl ?_
    exact ⟨0, rfl, ⟨by omega, by omega⟩, hg, FR.rf⟩
