set_option maxHeartbeats 4000000 in
set_option maxRecDepth 20000 in
/-- Way.leads -/
theorem m_149_r102_45_70_75_n3 (σ : jM) (hg : GI σ)   (fr lo : Nat) (hfr : 5 ≤ fr) (hlo : 158 ≤ lo) : WP 149 0 (lv_args 0 [.ref 102, .ref 45, .ref 70, .ref 75, iV 3]) [] fr lo σ (fun v τ => ∃ z : Int, v = some (iV z) ∧ (0 ≤ z ∧ z ≤ 1) ∧ GI τ ∧ FR WY σ τ) := by
  show WP 149 0 [(0, .ref 102), (1, .ref 45), (2, .ref 70), (3, .ref 75), (4, iV 3)] [] _ _ _ _
  refine wp_il2 jF_149_0 rfl rfl (pc2 := 2) ?_
  refine wp_ic jF_149_2 rfl (pc2 := 3) ?_
  refine wp_i_le jF_149_3 (m_rgl rfl) (m_rgl rfl) rfl (pc2 := 6) ?_ ?_
  · intro h1; exfalso; omega
  · intro h1
    refine wp_il2 jF_149_6 rfl rfl (pc2 := 8) ?_
    refine wp_ic jF_149_8 rfl (pc2 := 9) ?_
    refine wp_i_le jF_149_9 (m_rgl rfl) (m_rgl rfl) rfl (pc2 := 12) ?_ ?_
    · intro h2
      refine wp_al1 jF_149_24 rfl rfl (pc2 := 25) ?_
      refine wp_ic jF_149_25 rfl (pc2 := 26) ?_
      refine wp_al1 jF_149_26 rfl rfl (pc2 := 27) ?_
      refine wp_ic jF_149_27 rfl (pc2 := 28) ?_
      refine wp_il2 jF_149_28 rfl rfl (pc2 := 30) ?_
      refine wp_ic jF_149_30 rfl (pc2 := 31) ?_
      refine wp_subx (c := 2) jF_149_31 rfl rfl (pc2 := 32) ?_
      refine wp_cS (as := [.ref 70, iV 0, .ref 75, iV 0, iV 2]) (rest := []) (mx := 9) jF_149_32 rfl rfl rfl rfl (by omega) (by omega) rfl (pc2 := 35) ?_
      have b3 := GI.b hg 70 1 kd70 (lo := 0) (hi := 60) rfl
      have b4 := GI.b hg 75 1 kd75 (lo := 0) (hi := 60) rfl
      refine wp_use (m_147_r70_75_n2 σ hg 0 (by omega) (by omega) 0 (by omega) (by omega) (by omega) (by omega) _ _ (by omega) (by omega)) ?_
      rintro _ _ ⟨z7, rfl, h8, rfl⟩
      show WP 149 35 [(0, .ref 102), (1, .ref 45), (2, .ref 70), (3, .ref 75), (4, iV 3)] [iV z7] _ _ _ _
      refine wp_z_ne jF_149_35 (m_rgb h8 rfl) rfl (pc2 := 38) ?_ ?_
      · intro h9
        refine wp_ic jF_149_42 rfl (pc2 := 43) ?_
        refine wp_is2 (lv2 := [(0, .ref 102), (1, .ref 45), (2, .ref 70), (3, .ref 75), (4, iV 3), (5, iV 0)]) jF_149_43 rfl rfl rfl (pc2 := 45) ?_
        refine wp_al1 jF_149_45 rfl rfl (pc2 := 46) ?_
        refine wp_gr (b := 103) jF_149_46 kd102 (by decide) (c := 203) rfl rfl rfl (pc2 := 49) ?_
        refine wp_il2 jF_149_49 rfl rfl (pc2 := 51) ?_
        refine wp_ic jF_149_51 rfl (pc2 := 52) ?_
        refine wp_subx (c := 1) jF_149_52 rfl rfl (pc2 := 53) ?_
        refine wp_aald (b := 109) jF_149_53 kd103 (by decide) rfl rfl rfl rfl (pc2 := 54) ?_
        refine wp_as2 (lv2 := [(0, .ref 102), (1, .ref 45), (2, .ref 70), (3, .ref 75), (4, iV 3), (5, iV 0), (6, .ref 109)]) jF_149_54 rfl rfl rfl (pc2 := 56) ?_
        refine wp_al1 jF_149_56 rfl rfl (pc2 := 57) ?_
        refine wp_gi jF_149_57 kd70 (by decide) rfl rfl rfl (pc2 := 60) ?_
        refine wp_ic jF_149_60 rfl (pc2 := 61) ?_
        refine wp_add jF_149_61 rfl (pc2 := 62) ?_
        refine wp_bi jF_149_62 (by decide) rfl (pc2 := 64) ?_
        refine wp_mul jF_149_64 rfl (pc2 := 65) ?_
        refine wp_is2 (lv2 := [(0, .ref 102), (1, .ref 45), (2, .ref 70), (3, .ref 75), (4, iV 3), (5, iV 0), (6, .ref 109), (7, iV (((σ.1 70 1) + 1) * 47))]) jF_149_65 rfl rfl rfl (pc2 := 67) ?_
        refine wp_ic jF_149_67 rfl (pc2 := 68) ?_
        refine wp_is2 (lv2 := [(0, .ref 102), (1, .ref 45), (2, .ref 70), (3, .ref 75), (4, iV 3), (5, iV 0), (6, .ref 109), (7, iV (((σ.1 70 1) + 1) * 47)), (8, iV 0)]) jF_149_68 rfl rfl rfl (pc2 := 70) ?_
        refine wp_loop (α := Int) (fun a => [(0, .ref 102), (1, .ref 45), (2, .ref 70), (3, .ref 75), (4, iV 3), (5, iV 0), (6, .ref 109), (7, iV (((σ.1 70 1) + 1) * 47)), (8, iV (a))]) (fun a τ => (0 ≤ a ∧ a ≤ 2900) ∧ GI τ ∧ FR WY σ τ) (fun a τ => Int.toNat (2900 - (a))) (0) σ ?_ ?_
        · skip
          exact ⟨⟨by omega, by omega⟩, hg, FR.rf⟩
        · rintro x10 τ12 ⟨h11, g13, f14⟩ ih15
          show WP 149 70 [(0, .ref 102), (1, .ref 45), (2, .ref 70), (3, .ref 75), (4, iV 3), (5, iV 0), (6, .ref 109), (7, iV (((σ.1 70 1) + 1) * 47)), (8, iV x10)] [] _ _ _ _
          show WP 149 70 [(0, .ref 102), (1, .ref 45), (2, .ref 70), (3, .ref 75), (4, iV 3), (5, iV 0), (6, .ref 109), (7, iV (((σ.1 70 1) + 1) * 47)), (8, iV x10)] [] _ _ _ _
          refine wp_il2 jF_149_70 rfl rfl (pc2 := 72) ?_
          refine wp_il2 jF_149_72 rfl rfl (pc2 := 74) ?_
          refine wp_i_ge jF_149_74 (m_rgb h11 rfl) ⟨by omega, by omega⟩ rfl (pc2 := 77) ?_ ?_
          · intro h16
            refine wp_ic jF_149_166 rfl (pc2 := 167) ?_
            refine wp_ri jF_149_167 rfl ?_
            exact ⟨0, rfl, ⟨by omega, by omega⟩, g13, f14⟩
          · intro h16
            refine wp_il2 jF_149_77 rfl rfl (pc2 := 79) ?_
            refine wp_z_eq jF_149_79 (m_rgl rfl) rfl (pc2 := 82) ?_ ?_
            · intro h17
              refine wp_al2 jF_149_98 rfl rfl (pc2 := 100) ?_
              refine wp_al1 jF_149_100 rfl rfl (pc2 := 101) ?_
              refine wp_al1 jF_149_101 rfl rfl (pc2 := 102) ?_
              refine wp_il2 jF_149_102 rfl rfl (pc2 := 104) ?_
              refine wp_cV (as := [.ref 45, .ref 70, iV x10]) (rest := []) (a := 109) (mx := 4) (ci := 4) jF_149_104 kd109 (by decide) rfl rfl rfl rfl rfl (by omega) (by omega) rfl (pc2 := 107) ?_
              refine wp_use (m_105_r109_45_70 τ12 g13 x10 (by omega) (by omega)  _ _ (by omega) (by omega)) ?_
              rintro _ τ18 ⟨z21, rfl, h22, g19, f20⟩
              show WP 149 107 [(0, .ref 102), (1, .ref 45), (2, .ref 70), (3, .ref 75), (4, iV 3), (5, iV 0), (6, .ref 109), (7, iV (((σ.1 70 1) + 1) * 47)), (8, iV x10)] [iV z21] _ _ _ _
              refine wp_z_eq jF_149_107 (m_rgb h22 rfl) rfl (pc2 := 110) ?_ ?_
              · intro h23
                refine wp_inc (lv2 := [(0, .ref 102), (1, .ref 45), (2, .ref 70), (3, .ref 75), (4, iV 3), (5, iV 0), (6, .ref 109), (7, iV (((σ.1 70 1) + 1) * 47)), (8, iV (x10 + 1))]) jF_149_160 rfl rfl rfl rfl (pc2 := 163) ?_
                refine wp_go jF_149_163 ?_
                exact ih15 ((x10 + 1)) τ18 ⟨⟨by omega, by omega⟩, g19, (FR.up f14 f20 sb_WW109_WY)⟩ (by show Int.toNat (2900 - (x10 + 1)) < Int.toNat (2900 - x10); omega)
              · intro h23
                refine wp_al1 jF_149_110 rfl rfl (pc2 := 111) ?_
                refine wp_al2 jF_149_111 rfl rfl (pc2 := 113) ?_
                refine wp_glA jF_149_113 kd109 (by decide) rfl rfl (pc2 := 116) ?_
                intro y24
                refine wp_cV (as := [.long y24]) (rest := []) (a := 45) (mx := 3) (ci := 8) jF_149_116 kd45 (by decide) rfl rfl rfl rfl rfl (by omega) (by omega) rfl (pc2 := 119) ?_
                refine wp_use (m_85_r45 τ18 g19 y24  _ _ (by omega) (by omega)) ?_
                rintro _ _ ⟨z27, rfl, h28, rfl⟩
                show WP 149 119 [(0, .ref 102), (1, .ref 45), (2, .ref 70), (3, .ref 75), (4, iV 3), (5, iV 0), (6, .ref 109), (7, iV (((σ.1 70 1) + 1) * 47)), (8, iV x10)] [iV z27] _ _ _ _
                refine wp_z_eq jF_149_119 (m_rgb h28 rfl) rfl (pc2 := 122) ?_ ?_
                · intro h29
                  refine wp_inc (lv2 := [(0, .ref 102), (1, .ref 45), (2, .ref 70), (3, .ref 75), (4, iV 3), (5, iV 0), (6, .ref 109), (7, iV (((σ.1 70 1) + 1) * 47)), (8, iV (x10 + 1))]) jF_149_160 rfl rfl rfl rfl (pc2 := 163) ?_
                  refine wp_go jF_149_163 ?_
                  exact ih15 ((x10 + 1)) τ18 ⟨⟨by omega, by omega⟩, g19, (FR.up f14 f20 sb_WW109_WY)⟩ (by show Int.toNat (2900 - (x10 + 1)) < Int.toNat (2900 - x10); omega)
                · intro h29
                  refine wp_al2 jF_149_122 rfl rfl (pc2 := 124) ?_
                  refine wp_ic jF_149_124 rfl (pc2 := 125) ?_
                  refine wp_al1 jF_149_125 rfl rfl (pc2 := 126) ?_
                  refine wp_ic jF_149_126 rfl (pc2 := 127) ?_
                  refine wp_il2 jF_149_127 rfl rfl (pc2 := 129) ?_
                  refine wp_ic jF_149_129 rfl (pc2 := 130) ?_
                  refine wp_subx (c := 2) jF_149_130 rfl rfl (pc2 := 131) ?_
                  refine wp_cS (as := [.ref 109, iV 0, .ref 75, iV 0, iV 2]) (rest := []) (mx := 9) jF_149_131 rfl rfl rfl rfl (by omega) (by omega) rfl (pc2 := 134) ?_
                  have b30 := GI.b g19 109 1 kd109 (lo := 0) (hi := 60) rfl
                  have q31 : (τ18.1 75 1) = (σ.1 75 1) := ((FR.at f20 75 1 rfl).trans (FR.at f14 75 1 rfl))
                  refine wp_use (m_147_r109_75_n2 τ18 g19 0 (by omega) (by omega) 0 (by omega) (by omega) (by omega) (by omega) _ _ (by omega) (by omega)) ?_
                  rintro _ _ ⟨z34, rfl, h35, rfl⟩
                  show WP 149 134 [(0, .ref 102), (1, .ref 45), (2, .ref 70), (3, .ref 75), (4, iV 3), (5, iV 0), (6, .ref 109), (7, iV (((σ.1 70 1) + 1) * 47)), (8, iV x10)] [iV z34] _ _ _ _
                  refine wp_z_eq jF_149_134 (m_rgb h35 rfl) rfl (pc2 := 137) ?_ ?_
                  · intro h36
                    refine wp_inc (lv2 := [(0, .ref 102), (1, .ref 45), (2, .ref 70), (3, .ref 75), (4, iV 3), (5, iV 0), (6, .ref 109), (7, iV (((σ.1 70 1) + 1) * 47)), (8, iV (x10 + 1))]) jF_149_160 rfl rfl rfl rfl (pc2 := 163) ?_
                    refine wp_go jF_149_163 ?_
                    exact ih15 ((x10 + 1)) τ18 ⟨⟨by omega, by omega⟩, g19, (FR.up f14 f20 sb_WW109_WY)⟩ (by show Int.toNat (2900 - (x10 + 1)) < Int.toNat (2900 - x10); omega)
                  · intro h36
                    refine wp_al2 jF_149_137 rfl rfl (pc2 := 139) ?_
                    refine wp_al1 jF_149_139 rfl rfl (pc2 := 140) ?_
                    refine wp_cV (as := [.ref 45]) (rest := []) (a := 109) (mx := 4) (ci := 4) jF_149_140 kd109 (by decide) rfl rfl rfl rfl rfl (by omega) (by omega) rfl (pc2 := 143) ?_
                    refine wp_use (m_82_r109_45 τ18 g19   _ _ (by omega) (by omega)) ?_
                    rintro _ τ37 ⟨rfl, g38, f39⟩
                    show WP 149 143 [(0, .ref 102), (1, .ref 45), (2, .ref 70), (3, .ref 75), (4, iV 3), (5, iV 0), (6, .ref 109), (7, iV (((σ.1 70 1) + 1) * 47)), (8, iV x10)] [] _ _ _ _
                    refine wp_al1 jF_149_143 rfl rfl (pc2 := 144) ?_
                    refine wp_al1 jF_149_144 rfl rfl (pc2 := 145) ?_
                    refine wp_al2 jF_149_145 rfl rfl (pc2 := 147) ?_
                    refine wp_al1 jF_149_147 rfl rfl (pc2 := 148) ?_
                    refine wp_il2 jF_149_148 rfl rfl (pc2 := 150) ?_
                    refine wp_ic jF_149_150 rfl (pc2 := 151) ?_
                    refine wp_subx (c := 2) jF_149_151 rfl rfl (pc2 := 152) ?_
                    refine wp_cV (as := [.ref 45, .ref 109, .ref 75, iV 2]) (rest := []) (a := 102) (mx := 9) (ci := 10) jF_149_152 kd102 (by decide) rfl rfl rfl rfl rfl (by omega) (by omega) rfl (pc2 := 155) ?_
                    refine wp_use (m_149_r102_45_109_75_n2 τ37 g38   _ _ (by omega) (by omega)) ?_
                    rintro _ τ40 ⟨z43, rfl, h44, g41, f42⟩
                    show WP 149 155 [(0, .ref 102), (1, .ref 45), (2, .ref 70), (3, .ref 75), (4, iV 3), (5, iV 0), (6, .ref 109), (7, iV (((σ.1 70 1) + 1) * 47)), (8, iV x10)] [iV z43] _ _ _ _
                    refine wp_z_eq jF_149_155 (m_rgb h44 rfl) rfl (pc2 := 158) ?_ ?_
                    · intro h45
                      refine wp_inc (lv2 := [(0, .ref 102), (1, .ref 45), (2, .ref 70), (3, .ref 75), (4, iV 3), (5, iV 0), (6, .ref 109), (7, iV (((σ.1 70 1) + 1) * 47)), (8, iV (x10 + 1))]) jF_149_160 rfl rfl rfl rfl (pc2 := 163) ?_
                      refine wp_go jF_149_163 ?_
                      exact ih15 ((x10 + 1)) τ40 ⟨⟨by omega, by omega⟩, g41, (FR.up (FR.up (FR.up f14 f20 sb_WW109_WY) f39 sb_WW109_WY) f42 sb_WY1_WY)⟩ (by show Int.toNat (2900 - (x10 + 1)) < Int.toNat (2900 - x10); omega)
                    · intro h45
                      refine wp_ic jF_149_158 rfl (pc2 := 159) ?_
                      refine wp_ri jF_149_159 rfl ?_
                      exact ⟨1, rfl, ⟨by omega, by omega⟩, g41, (FR.up (FR.up (FR.up f14 f20 sb_WW109_WY) f39 sb_WW109_WY) f42 sb_WY1_WY)⟩
            · intro h17; exfalso; omega
      · intro h9
        refine wp_ic jF_149_38 rfl (pc2 := 39) ?_
        refine wp_go jF_149_39 ?_
        refine wp_is2 (lv2 := [(0, .ref 102), (1, .ref 45), (2, .ref 70), (3, .ref 75), (4, iV 3), (5, iV 1)]) jF_149_43 rfl rfl rfl (pc2 := 45) ?_
        refine wp_al1 jF_149_45 rfl rfl (pc2 := 46) ?_
        refine wp_gr (b := 103) jF_149_46 kd102 (by decide) (c := 203) rfl rfl rfl (pc2 := 49) ?_
        refine wp_il2 jF_149_49 rfl rfl (pc2 := 51) ?_
        refine wp_ic jF_149_51 rfl (pc2 := 52) ?_
        refine wp_subx (c := 1) jF_149_52 rfl rfl (pc2 := 53) ?_
        refine wp_aald (b := 109) jF_149_53 kd103 (by decide) rfl rfl rfl rfl (pc2 := 54) ?_
        refine wp_as2 (lv2 := [(0, .ref 102), (1, .ref 45), (2, .ref 70), (3, .ref 75), (4, iV 3), (5, iV 1), (6, .ref 109)]) jF_149_54 rfl rfl rfl (pc2 := 56) ?_
        refine wp_al1 jF_149_56 rfl rfl (pc2 := 57) ?_
        refine wp_gi jF_149_57 kd70 (by decide) rfl rfl rfl (pc2 := 60) ?_
        refine wp_ic jF_149_60 rfl (pc2 := 61) ?_
        refine wp_add jF_149_61 rfl (pc2 := 62) ?_
        refine wp_bi jF_149_62 (by decide) rfl (pc2 := 64) ?_
        refine wp_mul jF_149_64 rfl (pc2 := 65) ?_
        refine wp_is2 (lv2 := [(0, .ref 102), (1, .ref 45), (2, .ref 70), (3, .ref 75), (4, iV 3), (5, iV 1), (6, .ref 109), (7, iV (((σ.1 70 1) + 1) * 47))]) jF_149_65 rfl rfl rfl (pc2 := 67) ?_
        refine wp_ic jF_149_67 rfl (pc2 := 68) ?_
        refine wp_is2 (lv2 := [(0, .ref 102), (1, .ref 45), (2, .ref 70), (3, .ref 75), (4, iV 3), (5, iV 1), (6, .ref 109), (7, iV (((σ.1 70 1) + 1) * 47)), (8, iV 0)]) jF_149_68 rfl rfl rfl (pc2 := 70) ?_
        refine wp_loop (α := Int) (fun a => [(0, .ref 102), (1, .ref 45), (2, .ref 70), (3, .ref 75), (4, iV 3), (5, iV 1), (6, .ref 109), (7, iV (((σ.1 70 1) + 1) * 47)), (8, iV (a))]) (fun a τ => (0 ≤ a ∧ a ≤ 2900) ∧ GI τ ∧ FR WY σ τ) (fun a τ => Int.toNat (2900 - (a))) (0) σ ?_ ?_
        · skip
          exact ⟨⟨by omega, by omega⟩, hg, FR.rf⟩
        · rintro x46 τ48 ⟨h47, g49, f50⟩ ih51
          show WP 149 70 [(0, .ref 102), (1, .ref 45), (2, .ref 70), (3, .ref 75), (4, iV 3), (5, iV 1), (6, .ref 109), (7, iV (((σ.1 70 1) + 1) * 47)), (8, iV x46)] [] _ _ _ _
          show WP 149 70 [(0, .ref 102), (1, .ref 45), (2, .ref 70), (3, .ref 75), (4, iV 3), (5, iV 1), (6, .ref 109), (7, iV (((σ.1 70 1) + 1) * 47)), (8, iV x46)] [] _ _ _ _
          refine wp_il2 jF_149_70 rfl rfl (pc2 := 72) ?_
          refine wp_il2 jF_149_72 rfl rfl (pc2 := 74) ?_
          refine wp_i_ge jF_149_74 (m_rgb h47 rfl) ⟨by omega, by omega⟩ rfl (pc2 := 77) ?_ ?_
          · intro h52
            refine wp_ic jF_149_166 rfl (pc2 := 167) ?_
            refine wp_ri jF_149_167 rfl ?_
            exact ⟨0, rfl, ⟨by omega, by omega⟩, g49, f50⟩
          · intro h52
            refine wp_il2 jF_149_77 rfl rfl (pc2 := 79) ?_
            refine wp_z_eq jF_149_79 (m_rgl rfl) rfl (pc2 := 82) ?_ ?_
            · intro h53; exfalso; omega
            · intro h53
              refine wp_al1 jF_149_82 rfl rfl (pc2 := 83) ?_
              refine wp_il2 jF_149_83 rfl rfl (pc2 := 85) ?_
              refine wp_il2 jF_149_85 rfl rfl (pc2 := 87) ?_
              refine wp_ic jF_149_87 rfl (pc2 := 88) ?_
              refine wp_subx (c := 2) jF_149_88 rfl rfl (pc2 := 89) ?_
              refine wp_cS (as := [.ref 75, iV x46, iV 2]) (rest := []) (mx := 6) jF_149_89 rfl rfl rfl rfl (by omega) (by omega) rfl (pc2 := 92) ?_
              refine wp_use (m_150_r75 τ48 g49 x46 (by omega) (by omega) 2 (by omega) (by omega)  _ _ (by omega) (by omega)) ?_
              rintro _ _ ⟨z56, rfl, h57, rfl⟩
              show WP 149 92 [(0, .ref 102), (1, .ref 45), (2, .ref 70), (3, .ref 75), (4, iV 3), (5, iV 1), (6, .ref 109), (7, iV (((σ.1 70 1) + 1) * 47)), (8, iV x46)] [iV z56] _ _ _ _
              refine wp_z_ne jF_149_92 (m_rgb h57 rfl) rfl (pc2 := 95) ?_ ?_
              · intro h58
                refine wp_al2 jF_149_98 rfl rfl (pc2 := 100) ?_
                refine wp_al1 jF_149_100 rfl rfl (pc2 := 101) ?_
                refine wp_al1 jF_149_101 rfl rfl (pc2 := 102) ?_
                refine wp_il2 jF_149_102 rfl rfl (pc2 := 104) ?_
                refine wp_cV (as := [.ref 45, .ref 70, iV x46]) (rest := []) (a := 109) (mx := 4) (ci := 4) jF_149_104 kd109 (by decide) rfl rfl rfl rfl rfl (by omega) (by omega) rfl (pc2 := 107) ?_
                refine wp_use (m_105_r109_45_70 τ48 g49 x46 (by omega) (by omega)  _ _ (by omega) (by omega)) ?_
                rintro _ τ59 ⟨z62, rfl, h63, g60, f61⟩
                show WP 149 107 [(0, .ref 102), (1, .ref 45), (2, .ref 70), (3, .ref 75), (4, iV 3), (5, iV 1), (6, .ref 109), (7, iV (((σ.1 70 1) + 1) * 47)), (8, iV x46)] [iV z62] _ _ _ _
                refine wp_z_eq jF_149_107 (m_rgb h63 rfl) rfl (pc2 := 110) ?_ ?_
                · intro h64
                  refine wp_inc (lv2 := [(0, .ref 102), (1, .ref 45), (2, .ref 70), (3, .ref 75), (4, iV 3), (5, iV 1), (6, .ref 109), (7, iV (((σ.1 70 1) + 1) * 47)), (8, iV (x46 + 1))]) jF_149_160 rfl rfl rfl rfl (pc2 := 163) ?_
                  refine wp_go jF_149_163 ?_
                  exact ih51 ((x46 + 1)) τ59 ⟨⟨by omega, by omega⟩, g60, (FR.up f50 f61 sb_WW109_WY)⟩ (by show Int.toNat (2900 - (x46 + 1)) < Int.toNat (2900 - x46); omega)
                · intro h64
                  refine wp_al1 jF_149_110 rfl rfl (pc2 := 111) ?_
                  refine wp_al2 jF_149_111 rfl rfl (pc2 := 113) ?_
                  refine wp_glA jF_149_113 kd109 (by decide) rfl rfl (pc2 := 116) ?_
                  intro y65
                  refine wp_cV (as := [.long y65]) (rest := []) (a := 45) (mx := 3) (ci := 8) jF_149_116 kd45 (by decide) rfl rfl rfl rfl rfl (by omega) (by omega) rfl (pc2 := 119) ?_
                  refine wp_use (m_85_r45 τ59 g60 y65  _ _ (by omega) (by omega)) ?_
                  rintro _ _ ⟨z68, rfl, h69, rfl⟩
                  show WP 149 119 [(0, .ref 102), (1, .ref 45), (2, .ref 70), (3, .ref 75), (4, iV 3), (5, iV 1), (6, .ref 109), (7, iV (((σ.1 70 1) + 1) * 47)), (8, iV x46)] [iV z68] _ _ _ _
                  refine wp_z_eq jF_149_119 (m_rgb h69 rfl) rfl (pc2 := 122) ?_ ?_
                  · intro h70
                    refine wp_inc (lv2 := [(0, .ref 102), (1, .ref 45), (2, .ref 70), (3, .ref 75), (4, iV 3), (5, iV 1), (6, .ref 109), (7, iV (((σ.1 70 1) + 1) * 47)), (8, iV (x46 + 1))]) jF_149_160 rfl rfl rfl rfl (pc2 := 163) ?_
                    refine wp_go jF_149_163 ?_
                    exact ih51 ((x46 + 1)) τ59 ⟨⟨by omega, by omega⟩, g60, (FR.up f50 f61 sb_WW109_WY)⟩ (by show Int.toNat (2900 - (x46 + 1)) < Int.toNat (2900 - x46); omega)
                  · intro h70
                    refine wp_al2 jF_149_122 rfl rfl (pc2 := 124) ?_
                    refine wp_ic jF_149_124 rfl (pc2 := 125) ?_
                    refine wp_al1 jF_149_125 rfl rfl (pc2 := 126) ?_
                    refine wp_ic jF_149_126 rfl (pc2 := 127) ?_
                    refine wp_il2 jF_149_127 rfl rfl (pc2 := 129) ?_
                    refine wp_ic jF_149_129 rfl (pc2 := 130) ?_
                    refine wp_subx (c := 2) jF_149_130 rfl rfl (pc2 := 131) ?_
                    refine wp_cS (as := [.ref 109, iV 0, .ref 75, iV 0, iV 2]) (rest := []) (mx := 9) jF_149_131 rfl rfl rfl rfl (by omega) (by omega) rfl (pc2 := 134) ?_
                    have b71 := GI.b g60 109 1 kd109 (lo := 0) (hi := 60) rfl
                    have q72 : (τ59.1 75 1) = (σ.1 75 1) := ((FR.at f61 75 1 rfl).trans (FR.at f50 75 1 rfl))
                    refine wp_use (m_147_r109_75_n2 τ59 g60 0 (by omega) (by omega) 0 (by omega) (by omega) (by omega) (by omega) _ _ (by omega) (by omega)) ?_
                    rintro _ _ ⟨z75, rfl, h76, rfl⟩
                    show WP 149 134 [(0, .ref 102), (1, .ref 45), (2, .ref 70), (3, .ref 75), (4, iV 3), (5, iV 1), (6, .ref 109), (7, iV (((σ.1 70 1) + 1) * 47)), (8, iV x46)] [iV z75] _ _ _ _
                    refine wp_z_eq jF_149_134 (m_rgb h76 rfl) rfl (pc2 := 137) ?_ ?_
                    · intro h77
                      refine wp_inc (lv2 := [(0, .ref 102), (1, .ref 45), (2, .ref 70), (3, .ref 75), (4, iV 3), (5, iV 1), (6, .ref 109), (7, iV (((σ.1 70 1) + 1) * 47)), (8, iV (x46 + 1))]) jF_149_160 rfl rfl rfl rfl (pc2 := 163) ?_
                      refine wp_go jF_149_163 ?_
                      exact ih51 ((x46 + 1)) τ59 ⟨⟨by omega, by omega⟩, g60, (FR.up f50 f61 sb_WW109_WY)⟩ (by show Int.toNat (2900 - (x46 + 1)) < Int.toNat (2900 - x46); omega)
                    · intro h77
                      refine wp_al2 jF_149_137 rfl rfl (pc2 := 139) ?_
                      refine wp_al1 jF_149_139 rfl rfl (pc2 := 140) ?_
                      refine wp_cV (as := [.ref 45]) (rest := []) (a := 109) (mx := 4) (ci := 4) jF_149_140 kd109 (by decide) rfl rfl rfl rfl rfl (by omega) (by omega) rfl (pc2 := 143) ?_
                      refine wp_use (m_82_r109_45 τ59 g60   _ _ (by omega) (by omega)) ?_
                      rintro _ τ78 ⟨rfl, g79, f80⟩
                      show WP 149 143 [(0, .ref 102), (1, .ref 45), (2, .ref 70), (3, .ref 75), (4, iV 3), (5, iV 1), (6, .ref 109), (7, iV (((σ.1 70 1) + 1) * 47)), (8, iV x46)] [] _ _ _ _
                      refine wp_al1 jF_149_143 rfl rfl (pc2 := 144) ?_
                      refine wp_al1 jF_149_144 rfl rfl (pc2 := 145) ?_
                      refine wp_al2 jF_149_145 rfl rfl (pc2 := 147) ?_
                      refine wp_al1 jF_149_147 rfl rfl (pc2 := 148) ?_
                      refine wp_il2 jF_149_148 rfl rfl (pc2 := 150) ?_
                      refine wp_ic jF_149_150 rfl (pc2 := 151) ?_
                      refine wp_subx (c := 2) jF_149_151 rfl rfl (pc2 := 152) ?_
                      refine wp_cV (as := [.ref 45, .ref 109, .ref 75, iV 2]) (rest := []) (a := 102) (mx := 9) (ci := 10) jF_149_152 kd102 (by decide) rfl rfl rfl rfl rfl (by omega) (by omega) rfl (pc2 := 155) ?_
                      refine wp_use (m_149_r102_45_109_75_n2 τ78 g79   _ _ (by omega) (by omega)) ?_
                      rintro _ τ81 ⟨z84, rfl, h85, g82, f83⟩
                      show WP 149 155 [(0, .ref 102), (1, .ref 45), (2, .ref 70), (3, .ref 75), (4, iV 3), (5, iV 1), (6, .ref 109), (7, iV (((σ.1 70 1) + 1) * 47)), (8, iV x46)] [iV z84] _ _ _ _
                      refine wp_z_eq jF_149_155 (m_rgb h85 rfl) rfl (pc2 := 158) ?_ ?_
                      · intro h86
                        refine wp_inc (lv2 := [(0, .ref 102), (1, .ref 45), (2, .ref 70), (3, .ref 75), (4, iV 3), (5, iV 1), (6, .ref 109), (7, iV (((σ.1 70 1) + 1) * 47)), (8, iV (x46 + 1))]) jF_149_160 rfl rfl rfl rfl (pc2 := 163) ?_
                        refine wp_go jF_149_163 ?_
                        exact ih51 ((x46 + 1)) τ81 ⟨⟨by omega, by omega⟩, g82, (FR.up (FR.up (FR.up f50 f61 sb_WW109_WY) f80 sb_WW109_WY) f83 sb_WY1_WY)⟩ (by show Int.toNat (2900 - (x46 + 1)) < Int.toNat (2900 - x46); omega)
                      · intro h86
                        refine wp_ic jF_149_158 rfl (pc2 := 159) ?_
                        refine wp_ri jF_149_159 rfl ?_
                        exact ⟨1, rfl, ⟨by omega, by omega⟩, g82, (FR.up (FR.up (FR.up f50 f61 sb_WW109_WY) f80 sb_WW109_WY) f83 sb_WY1_WY)⟩
              · intro h58
                refine wp_go jF_149_95 ?_
                refine wp_inc (lv2 := [(0, .ref 102), (1, .ref 45), (2, .ref 70), (3, .ref 75), (4, iV 3), (5, iV 1), (6, .ref 109), (7, iV (((σ.1 70 1) + 1) * 47)), (8, iV (x46 + 1))]) jF_149_160 rfl rfl rfl rfl (pc2 := 163) ?_
                refine wp_go jF_149_163 ?_
                exact ih51 ((x46 + 1)) τ48 ⟨⟨by omega, by omega⟩, g49, f50⟩ (by show Int.toNat (2900 - (x46 + 1)) < Int.toNat (2900 - x46); omega)
    · intro h2; exfalso; omega
set_option maxHeartbeats 4000000 in
set_option maxRecDepth 20000 in
/-- Way.measure -/
theorem m_145_r102_20_70_75 (σ : jM) (hg : GI σ)   (fr lo : Nat) (hfr : 6 ≤ fr) (hlo : 186 ≤ lo) : WP 145 0 (lv_args 0 [.ref 102, .ref 20, .ref 70, .ref 75]) [] fr lo σ (fun v τ => ∃ z : Int, v = some (iV z) ∧ ((-1) ≤ z ∧ z ≤ 3) ∧ GI τ ∧ FR WY σ τ) := by
  show WP 145 0 [(0, .ref 102), (1, .ref 20), (2, .ref 70), (3, .ref 75)] [] _ _ _ _
  refine wp_al1 jF_145_0 rfl rfl (pc2 := 1) ?_
  refine wp_al1 jF_145_1 rfl rfl (pc2 := 2) ?_
  refine wp_cV (as := [.ref 75]) (rest := []) (a := 70) (mx := 4) (ci := 4) jF_145_2 kd70 (by decide) rfl rfl rfl rfl rfl (by omega) (by omega) rfl (pc2 := 5) ?_
  refine wp_use (m_146_r70_75 σ hg   _ _ (by omega) (by omega)) ?_
  rintro _ _ ⟨z3, rfl, h4, rfl⟩
  show WP 145 5 [(0, .ref 102), (1, .ref 20), (2, .ref 70), (3, .ref 75)] [iV z3] _ _ _ _
  refine wp_z_eq jF_145_5 (m_rgb h4 rfl) rfl (pc2 := 8) ?_ ?_
  · intro h5
    refine wp_al1 jF_145_10 rfl rfl (pc2 := 11) ?_
    have b6 := GI.b hg 70 1 kd70 (lo := 0) (hi := 60) rfl
    refine wp_gi jF_145_11 kd70 (by decide) rfl rfl rfl (pc2 := 14) ?_
    refine wp_bi jF_145_14 (by decide) rfl (pc2 := 16) ?_
    refine wp_i_gt jF_145_16 (m_rgb b6 rfl) (m_rgl rfl) rfl (pc2 := 19) ?_ ?_
    · intro h7
      refine wp_ic jF_145_39 rfl (pc2 := 40) ?_
      refine wp_ri jF_145_40 rfl ?_
      exact ⟨(-1), rfl, ⟨by omega, by omega⟩, hg, FR.rf⟩
    · intro h7
      refine wp_al1 jF_145_19 rfl rfl (pc2 := 20) ?_
      have b8 := GI.b hg 75 1 kd75 (lo := 0) (hi := 60) rfl
      refine wp_gi jF_145_20 kd75 (by decide) rfl rfl rfl (pc2 := 23) ?_
      refine wp_bi jF_145_23 (by decide) rfl (pc2 := 25) ?_
      refine wp_i_gt jF_145_25 (m_rgb b8 rfl) (m_rgl rfl) rfl (pc2 := 28) ?_ ?_
      · intro h9
        refine wp_ic jF_145_39 rfl (pc2 := 40) ?_
        refine wp_ri jF_145_40 rfl ?_
        exact ⟨(-1), rfl, ⟨by omega, by omega⟩, hg, FR.rf⟩
      · intro h9
        refine wp_al1 jF_145_28 rfl rfl (pc2 := 29) ?_
        refine wp_al1 jF_145_29 rfl rfl (pc2 := 30) ?_
        refine wp_glA jF_145_30 kd75 (by decide) rfl rfl (pc2 := 33) ?_
        intro y10
        refine wp_cV (as := [.long y10]) (rest := []) (a := 20) (mx := 3) (ci := 8) jF_145_33 kd20 (by decide) rfl rfl rfl rfl rfl (by omega) (by omega) rfl (pc2 := 36) ?_
        refine wp_use (m_85_r20 σ hg y10  _ _ (by omega) (by omega)) ?_
        rintro _ _ ⟨z13, rfl, h14, rfl⟩
        show WP 145 36 [(0, .ref 102), (1, .ref 20), (2, .ref 70), (3, .ref 75)] [iV z13] _ _ _ _
        refine wp_z_ne jF_145_36 (m_rgb h14 rfl) rfl (pc2 := 39) ?_ ?_
        · intro h15
          refine wp_ic jF_145_41 rfl (pc2 := 42) ?_
          refine wp_is2 (lv2 := [(0, .ref 102), (1, .ref 20), (2, .ref 70), (3, .ref 75), (4, iV 1)]) jF_145_42 rfl rfl rfl (pc2 := 44) ?_
          refine wp_il2 jF_145_44 rfl rfl (pc2 := 46) ?_
          refine wp_ic jF_145_46 rfl (pc2 := 47) ?_
          refine wp_i_gt jF_145_47 (m_rgl rfl) (m_rgl rfl) rfl (pc2 := 50) ?_ ?_
          · intro h16; exfalso; omega
          · intro h16
            refine wp_al1 jF_145_50 rfl rfl (pc2 := 51) ?_
            refine wp_ic jF_145_51 rfl (pc2 := 52) ?_
            refine wp_al1 jF_145_52 rfl rfl (pc2 := 53) ?_
            refine wp_ic jF_145_53 rfl (pc2 := 54) ?_
            refine wp_il2 jF_145_54 rfl rfl (pc2 := 56) ?_
            refine wp_cS (as := [.ref 70, iV 0, .ref 75, iV 0, iV 1]) (rest := []) (mx := 9) jF_145_56 rfl rfl rfl rfl (by omega) (by omega) rfl (pc2 := 59) ?_
            refine wp_use (m_147_r70_75_n1 σ hg 0 (by omega) (by omega) 0 (by omega) (by omega) (by omega) (by omega) _ _ (by omega) (by omega)) ?_
            rintro _ _ ⟨z19, rfl, h20, rfl⟩
            show WP 145 59 [(0, .ref 102), (1, .ref 20), (2, .ref 70), (3, .ref 75), (4, iV 1)] [iV z19] _ _ _ _
            refine wp_z_eq jF_145_59 (m_rgb h20 rfl) rfl (pc2 := 62) ?_ ?_
            · intro h21
              refine wp_inc (lv2 := [(0, .ref 102), (1, .ref 20), (2, .ref 70), (3, .ref 75), (4, iV 2)]) jF_145_77 rfl rfl rfl rfl (pc2 := 80) ?_
              refine wp_go jF_145_80 ?_
              refine wp_il2 jF_145_44 rfl rfl (pc2 := 46) ?_
              refine wp_ic jF_145_46 rfl (pc2 := 47) ?_
              refine wp_i_gt jF_145_47 (m_rgl rfl) (m_rgl rfl) rfl (pc2 := 50) ?_ ?_
              · intro h22; exfalso; omega
              · intro h22
                refine wp_al1 jF_145_50 rfl rfl (pc2 := 51) ?_
                refine wp_ic jF_145_51 rfl (pc2 := 52) ?_
                refine wp_al1 jF_145_52 rfl rfl (pc2 := 53) ?_
                refine wp_ic jF_145_53 rfl (pc2 := 54) ?_
                refine wp_il2 jF_145_54 rfl rfl (pc2 := 56) ?_
                refine wp_cS (as := [.ref 70, iV 0, .ref 75, iV 0, iV 2]) (rest := []) (mx := 9) jF_145_56 rfl rfl rfl rfl (by omega) (by omega) rfl (pc2 := 59) ?_
                refine wp_use (m_147_r70_75_n2 σ hg 0 (by omega) (by omega) 0 (by omega) (by omega) (by omega) (by omega) _ _ (by omega) (by omega)) ?_
                rintro _ _ ⟨z25, rfl, h26, rfl⟩
                show WP 145 59 [(0, .ref 102), (1, .ref 20), (2, .ref 70), (3, .ref 75), (4, iV 2)] [iV z25] _ _ _ _
                refine wp_z_eq jF_145_59 (m_rgb h26 rfl) rfl (pc2 := 62) ?_ ?_
                · intro h27
                  refine wp_inc (lv2 := [(0, .ref 102), (1, .ref 20), (2, .ref 70), (3, .ref 75), (4, iV 3)]) jF_145_77 rfl rfl rfl rfl (pc2 := 80) ?_
                  refine wp_go jF_145_80 ?_
                  refine wp_il2 jF_145_44 rfl rfl (pc2 := 46) ?_
                  refine wp_ic jF_145_46 rfl (pc2 := 47) ?_
                  refine wp_i_gt jF_145_47 (m_rgl rfl) (m_rgl rfl) rfl (pc2 := 50) ?_ ?_
                  · intro h28; exfalso; omega
                  · intro h28
                    refine wp_al1 jF_145_50 rfl rfl (pc2 := 51) ?_
                    refine wp_ic jF_145_51 rfl (pc2 := 52) ?_
                    refine wp_al1 jF_145_52 rfl rfl (pc2 := 53) ?_
                    refine wp_ic jF_145_53 rfl (pc2 := 54) ?_
                    refine wp_il2 jF_145_54 rfl rfl (pc2 := 56) ?_
                    refine wp_cS (as := [.ref 70, iV 0, .ref 75, iV 0, iV 3]) (rest := []) (mx := 9) jF_145_56 rfl rfl rfl rfl (by omega) (by omega) rfl (pc2 := 59) ?_
                    refine wp_use (m_147_r70_75_n3 σ hg 0 (by omega) (by omega) 0 (by omega) (by omega) (by omega) (by omega) _ _ (by omega) (by omega)) ?_
                    rintro _ _ ⟨z31, rfl, h32, rfl⟩
                    show WP 145 59 [(0, .ref 102), (1, .ref 20), (2, .ref 70), (3, .ref 75), (4, iV 3)] [iV z31] _ _ _ _
                    refine wp_z_eq jF_145_59 (m_rgb h32 rfl) rfl (pc2 := 62) ?_ ?_
                    · intro h33
                      refine wp_inc (lv2 := [(0, .ref 102), (1, .ref 20), (2, .ref 70), (3, .ref 75), (4, iV 4)]) jF_145_77 rfl rfl rfl rfl (pc2 := 80) ?_
                      refine wp_go jF_145_80 ?_
                      refine wp_il2 jF_145_44 rfl rfl (pc2 := 46) ?_
                      refine wp_ic jF_145_46 rfl (pc2 := 47) ?_
                      refine wp_i_gt jF_145_47 (m_rgl rfl) (m_rgl rfl) rfl (pc2 := 50) ?_ ?_
                      · intro h34
                        refine wp_ic jF_145_83 rfl (pc2 := 84) ?_
                        refine wp_ri jF_145_84 rfl ?_
                        exact ⟨(-1), rfl, ⟨by omega, by omega⟩, hg, FR.rf⟩
                      · intro h34; exfalso; omega
                    · intro h33
                      refine wp_al1 jF_145_62 rfl rfl (pc2 := 63) ?_
                      refine wp_al1 jF_145_63 rfl rfl (pc2 := 64) ?_
                      refine wp_al1 jF_145_64 rfl rfl (pc2 := 65) ?_
                      refine wp_al1 jF_145_65 rfl rfl (pc2 := 66) ?_
                      refine wp_il2 jF_145_66 rfl rfl (pc2 := 68) ?_
                      refine wp_cV (as := [.ref 20, .ref 70, .ref 75, iV 3]) (rest := []) (a := 102) (mx := 9) (ci := 10) jF_145_68 kd102 (by decide) rfl rfl rfl rfl rfl (by omega) (by omega) rfl (pc2 := 71) ?_
                      refine wp_use (m_149_r102_20_70_75_n3 σ hg   _ _ (by omega) (by omega)) ?_
                      rintro _ τ35 ⟨z38, rfl, h39, g36, f37⟩
                      show WP 145 71 [(0, .ref 102), (1, .ref 20), (2, .ref 70), (3, .ref 75), (4, iV 3)] [iV z38] _ _ _ _
                      refine wp_z_eq jF_145_71 (m_rgb h39 rfl) rfl (pc2 := 74) ?_ ?_
                      · intro h40
                        refine wp_inc (lv2 := [(0, .ref 102), (1, .ref 20), (2, .ref 70), (3, .ref 75), (4, iV 4)]) jF_145_77 rfl rfl rfl rfl (pc2 := 80) ?_
                        refine wp_go jF_145_80 ?_
                        refine wp_il2 jF_145_44 rfl rfl (pc2 := 46) ?_
                        refine wp_ic jF_145_46 rfl (pc2 := 47) ?_
                        refine wp_i_gt jF_145_47 (m_rgl rfl) (m_rgl rfl) rfl (pc2 := 50) ?_ ?_
                        · intro h41
                          refine wp_ic jF_145_83 rfl (pc2 := 84) ?_
                          refine wp_ri jF_145_84 rfl ?_
                          exact ⟨(-1), rfl, ⟨by omega, by omega⟩, g36, f37⟩
                        · intro h41; exfalso; omega
                      · intro h40
                        refine wp_il2 jF_145_74 rfl rfl (pc2 := 76) ?_
                        refine wp_ri jF_145_76 rfl ?_
                        exact ⟨3, rfl, ⟨by omega, by omega⟩, g36, f37⟩
                · intro h27
                  refine wp_al1 jF_145_62 rfl rfl (pc2 := 63) ?_
                  refine wp_al1 jF_145_63 rfl rfl (pc2 := 64) ?_
                  refine wp_al1 jF_145_64 rfl rfl (pc2 := 65) ?_
                  refine wp_al1 jF_145_65 rfl rfl (pc2 := 66) ?_
                  refine wp_il2 jF_145_66 rfl rfl (pc2 := 68) ?_
                  refine wp_cV (as := [.ref 20, .ref 70, .ref 75, iV 2]) (rest := []) (a := 102) (mx := 9) (ci := 10) jF_145_68 kd102 (by decide) rfl rfl rfl rfl rfl (by omega) (by omega) rfl (pc2 := 71) ?_
                  refine wp_use (m_149_r102_20_70_75_n2 σ hg   _ _ (by omega) (by omega)) ?_
                  rintro _ τ42 ⟨z45, rfl, h46, g43, f44⟩
                  show WP 145 71 [(0, .ref 102), (1, .ref 20), (2, .ref 70), (3, .ref 75), (4, iV 2)] [iV z45] _ _ _ _
                  refine wp_z_eq jF_145_71 (m_rgb h46 rfl) rfl (pc2 := 74) ?_ ?_
                  · intro h47
                    refine wp_inc (lv2 := [(0, .ref 102), (1, .ref 20), (2, .ref 70), (3, .ref 75), (4, iV 3)]) jF_145_77 rfl rfl rfl rfl (pc2 := 80) ?_
                    refine wp_go jF_145_80 ?_
                    refine wp_il2 jF_145_44 rfl rfl (pc2 := 46) ?_
                    refine wp_ic jF_145_46 rfl (pc2 := 47) ?_
                    refine wp_i_gt jF_145_47 (m_rgl rfl) (m_rgl rfl) rfl (pc2 := 50) ?_ ?_
                    · intro h48; exfalso; omega
                    · intro h48
                      refine wp_al1 jF_145_50 rfl rfl (pc2 := 51) ?_
                      refine wp_ic jF_145_51 rfl (pc2 := 52) ?_
                      refine wp_al1 jF_145_52 rfl rfl (pc2 := 53) ?_
                      refine wp_ic jF_145_53 rfl (pc2 := 54) ?_
                      refine wp_il2 jF_145_54 rfl rfl (pc2 := 56) ?_
                      refine wp_cS (as := [.ref 70, iV 0, .ref 75, iV 0, iV 3]) (rest := []) (mx := 9) jF_145_56 rfl rfl rfl rfl (by omega) (by omega) rfl (pc2 := 59) ?_
                      have q49 : (τ42.1 70 1) = (σ.1 70 1) := (FR.at f44 70 1 rfl)
                      have q50 : (τ42.1 75 1) = (σ.1 75 1) := (FR.at f44 75 1 rfl)
                      refine wp_use (m_147_r70_75_n3 τ42 g43 0 (by omega) (by omega) 0 (by omega) (by omega) (by omega) (by omega) _ _ (by omega) (by omega)) ?_
                      rintro _ _ ⟨z53, rfl, h54, rfl⟩
                      show WP 145 59 [(0, .ref 102), (1, .ref 20), (2, .ref 70), (3, .ref 75), (4, iV 3)] [iV z53] _ _ _ _
                      refine wp_z_eq jF_145_59 (m_rgb h54 rfl) rfl (pc2 := 62) ?_ ?_
                      · intro h55
                        refine wp_inc (lv2 := [(0, .ref 102), (1, .ref 20), (2, .ref 70), (3, .ref 75), (4, iV 4)]) jF_145_77 rfl rfl rfl rfl (pc2 := 80) ?_
                        refine wp_go jF_145_80 ?_
                        refine wp_il2 jF_145_44 rfl rfl (pc2 := 46) ?_
                        refine wp_ic jF_145_46 rfl (pc2 := 47) ?_
                        refine wp_i_gt jF_145_47 (m_rgl rfl) (m_rgl rfl) rfl (pc2 := 50) ?_ ?_
                        · intro h56
                          refine wp_ic jF_145_83 rfl (pc2 := 84) ?_
                          refine wp_ri jF_145_84 rfl ?_
                          exact ⟨(-1), rfl, ⟨by omega, by omega⟩, g43, (FR.up FR.rf f44 sb_WY1_WY)⟩
                        · intro h56; exfalso; omega
                      · intro h55
                        refine wp_al1 jF_145_62 rfl rfl (pc2 := 63) ?_
                        refine wp_al1 jF_145_63 rfl rfl (pc2 := 64) ?_
                        refine wp_al1 jF_145_64 rfl rfl (pc2 := 65) ?_
                        refine wp_al1 jF_145_65 rfl rfl (pc2 := 66) ?_
                        refine wp_il2 jF_145_66 rfl rfl (pc2 := 68) ?_
                        refine wp_cV (as := [.ref 20, .ref 70, .ref 75, iV 3]) (rest := []) (a := 102) (mx := 9) (ci := 10) jF_145_68 kd102 (by decide) rfl rfl rfl rfl rfl (by omega) (by omega) rfl (pc2 := 71) ?_
                        refine wp_use (m_149_r102_20_70_75_n3 τ42 g43   _ _ (by omega) (by omega)) ?_
                        rintro _ τ57 ⟨z60, rfl, h61, g58, f59⟩
                        show WP 145 71 [(0, .ref 102), (1, .ref 20), (2, .ref 70), (3, .ref 75), (4, iV 3)] [iV z60] _ _ _ _
                        refine wp_z_eq jF_145_71 (m_rgb h61 rfl) rfl (pc2 := 74) ?_ ?_
                        · intro h62
                          refine wp_inc (lv2 := [(0, .ref 102), (1, .ref 20), (2, .ref 70), (3, .ref 75), (4, iV 4)]) jF_145_77 rfl rfl rfl rfl (pc2 := 80) ?_
                          refine wp_go jF_145_80 ?_
                          refine wp_il2 jF_145_44 rfl rfl (pc2 := 46) ?_
                          refine wp_ic jF_145_46 rfl (pc2 := 47) ?_
                          refine wp_i_gt jF_145_47 (m_rgl rfl) (m_rgl rfl) rfl (pc2 := 50) ?_ ?_
                          · intro h63
                            refine wp_ic jF_145_83 rfl (pc2 := 84) ?_
                            refine wp_ri jF_145_84 rfl ?_
                            exact ⟨(-1), rfl, ⟨by omega, by omega⟩, g58, (FR.up (FR.up FR.rf f44 sb_WY1_WY) f59 sb_WY_WY)⟩
                          · intro h63; exfalso; omega
                        · intro h62
                          refine wp_il2 jF_145_74 rfl rfl (pc2 := 76) ?_
                          refine wp_ri jF_145_76 rfl ?_
                          exact ⟨3, rfl, ⟨by omega, by omega⟩, g58, (FR.up (FR.up FR.rf f44 sb_WY1_WY) f59 sb_WY_WY)⟩
                  · intro h47
                    refine wp_il2 jF_145_74 rfl rfl (pc2 := 76) ?_
                    refine wp_ri jF_145_76 rfl ?_
                    exact ⟨2, rfl, ⟨by omega, by omega⟩, g43, (FR.up FR.rf f44 sb_WY1_WY)⟩
            · intro h21
              refine wp_al1 jF_145_62 rfl rfl (pc2 := 63) ?_
              refine wp_al1 jF_145_63 rfl rfl (pc2 := 64) ?_
              refine wp_al1 jF_145_64 rfl rfl (pc2 := 65) ?_
              refine wp_al1 jF_145_65 rfl rfl (pc2 := 66) ?_
              refine wp_il2 jF_145_66 rfl rfl (pc2 := 68) ?_
              refine wp_cV (as := [.ref 20, .ref 70, .ref 75, iV 1]) (rest := []) (a := 102) (mx := 9) (ci := 10) jF_145_68 kd102 (by decide) rfl rfl rfl rfl rfl (by omega) (by omega) rfl (pc2 := 71) ?_
              refine wp_use (m_149_r102_20_70_75_n1 σ hg   _ _ (by omega) (by omega)) ?_
              rintro _ _ ⟨z66, rfl, h67, rfl⟩
              show WP 145 71 [(0, .ref 102), (1, .ref 20), (2, .ref 70), (3, .ref 75), (4, iV 1)] [iV z66] _ _ _ _
              refine wp_z_eq jF_145_71 (m_rgb h67 rfl) rfl (pc2 := 74) ?_ ?_
              · intro h68
                refine wp_inc (lv2 := [(0, .ref 102), (1, .ref 20), (2, .ref 70), (3, .ref 75), (4, iV 2)]) jF_145_77 rfl rfl rfl rfl (pc2 := 80) ?_
                refine wp_go jF_145_80 ?_
                refine wp_il2 jF_145_44 rfl rfl (pc2 := 46) ?_
                refine wp_ic jF_145_46 rfl (pc2 := 47) ?_
                refine wp_i_gt jF_145_47 (m_rgl rfl) (m_rgl rfl) rfl (pc2 := 50) ?_ ?_
                · intro h69; exfalso; omega
                · intro h69
                  refine wp_al1 jF_145_50 rfl rfl (pc2 := 51) ?_
                  refine wp_ic jF_145_51 rfl (pc2 := 52) ?_
                  refine wp_al1 jF_145_52 rfl rfl (pc2 := 53) ?_
                  refine wp_ic jF_145_53 rfl (pc2 := 54) ?_
                  refine wp_il2 jF_145_54 rfl rfl (pc2 := 56) ?_
                  refine wp_cS (as := [.ref 70, iV 0, .ref 75, iV 0, iV 2]) (rest := []) (mx := 9) jF_145_56 rfl rfl rfl rfl (by omega) (by omega) rfl (pc2 := 59) ?_
                  refine wp_use (m_147_r70_75_n2 σ hg 0 (by omega) (by omega) 0 (by omega) (by omega) (by omega) (by omega) _ _ (by omega) (by omega)) ?_
                  rintro _ _ ⟨z72, rfl, h73, rfl⟩
                  show WP 145 59 [(0, .ref 102), (1, .ref 20), (2, .ref 70), (3, .ref 75), (4, iV 2)] [iV z72] _ _ _ _
                  refine wp_z_eq jF_145_59 (m_rgb h73 rfl) rfl (pc2 := 62) ?_ ?_
                  · intro h74
                    refine wp_inc (lv2 := [(0, .ref 102), (1, .ref 20), (2, .ref 70), (3, .ref 75), (4, iV 3)]) jF_145_77 rfl rfl rfl rfl (pc2 := 80) ?_
                    refine wp_go jF_145_80 ?_
                    refine wp_il2 jF_145_44 rfl rfl (pc2 := 46) ?_
                    refine wp_ic jF_145_46 rfl (pc2 := 47) ?_
                    refine wp_i_gt jF_145_47 (m_rgl rfl) (m_rgl rfl) rfl (pc2 := 50) ?_ ?_
                    · intro h75; exfalso; omega
                    · intro h75
                      refine wp_al1 jF_145_50 rfl rfl (pc2 := 51) ?_
                      refine wp_ic jF_145_51 rfl (pc2 := 52) ?_
                      refine wp_al1 jF_145_52 rfl rfl (pc2 := 53) ?_
                      refine wp_ic jF_145_53 rfl (pc2 := 54) ?_
                      refine wp_il2 jF_145_54 rfl rfl (pc2 := 56) ?_
                      refine wp_cS (as := [.ref 70, iV 0, .ref 75, iV 0, iV 3]) (rest := []) (mx := 9) jF_145_56 rfl rfl rfl rfl (by omega) (by omega) rfl (pc2 := 59) ?_
                      refine wp_use (m_147_r70_75_n3 σ hg 0 (by omega) (by omega) 0 (by omega) (by omega) (by omega) (by omega) _ _ (by omega) (by omega)) ?_
                      rintro _ _ ⟨z78, rfl, h79, rfl⟩
                      show WP 145 59 [(0, .ref 102), (1, .ref 20), (2, .ref 70), (3, .ref 75), (4, iV 3)] [iV z78] _ _ _ _
                      refine wp_z_eq jF_145_59 (m_rgb h79 rfl) rfl (pc2 := 62) ?_ ?_
                      · intro h80
                        refine wp_inc (lv2 := [(0, .ref 102), (1, .ref 20), (2, .ref 70), (3, .ref 75), (4, iV 4)]) jF_145_77 rfl rfl rfl rfl (pc2 := 80) ?_
                        refine wp_go jF_145_80 ?_
                        refine wp_il2 jF_145_44 rfl rfl (pc2 := 46) ?_
                        refine wp_ic jF_145_46 rfl (pc2 := 47) ?_
                        refine wp_i_gt jF_145_47 (m_rgl rfl) (m_rgl rfl) rfl (pc2 := 50) ?_ ?_
                        · intro h81
                          refine wp_ic jF_145_83 rfl (pc2 := 84) ?_
                          refine wp_ri jF_145_84 rfl ?_
                          exact ⟨(-1), rfl, ⟨by omega, by omega⟩, hg, FR.rf⟩
                        · intro h81; exfalso; omega
                      · intro h80
                        refine wp_al1 jF_145_62 rfl rfl (pc2 := 63) ?_
                        refine wp_al1 jF_145_63 rfl rfl (pc2 := 64) ?_
                        refine wp_al1 jF_145_64 rfl rfl (pc2 := 65) ?_
                        refine wp_al1 jF_145_65 rfl rfl (pc2 := 66) ?_
                        refine wp_il2 jF_145_66 rfl rfl (pc2 := 68) ?_
                        refine wp_cV (as := [.ref 20, .ref 70, .ref 75, iV 3]) (rest := []) (a := 102) (mx := 9) (ci := 10) jF_145_68 kd102 (by decide) rfl rfl rfl rfl rfl (by omega) (by omega) rfl (pc2 := 71) ?_
                        refine wp_use (m_149_r102_20_70_75_n3 σ hg   _ _ (by omega) (by omega)) ?_
                        rintro _ τ82 ⟨z85, rfl, h86, g83, f84⟩
                        show WP 145 71 [(0, .ref 102), (1, .ref 20), (2, .ref 70), (3, .ref 75), (4, iV 3)] [iV z85] _ _ _ _
                        refine wp_z_eq jF_145_71 (m_rgb h86 rfl) rfl (pc2 := 74) ?_ ?_
                        · intro h87
                          refine wp_inc (lv2 := [(0, .ref 102), (1, .ref 20), (2, .ref 70), (3, .ref 75), (4, iV 4)]) jF_145_77 rfl rfl rfl rfl (pc2 := 80) ?_
                          refine wp_go jF_145_80 ?_
                          refine wp_il2 jF_145_44 rfl rfl (pc2 := 46) ?_
                          refine wp_ic jF_145_46 rfl (pc2 := 47) ?_
                          refine wp_i_gt jF_145_47 (m_rgl rfl) (m_rgl rfl) rfl (pc2 := 50) ?_ ?_
                          · intro h88
                            refine wp_ic jF_145_83 rfl (pc2 := 84) ?_
                            refine wp_ri jF_145_84 rfl ?_
                            exact ⟨(-1), rfl, ⟨by omega, by omega⟩, g83, f84⟩
                          · intro h88; exfalso; omega
                        · intro h87
                          refine wp_il2 jF_145_74 rfl rfl (pc2 := 76) ?_
                          refine wp_ri jF_145_76 rfl ?_
                          exact ⟨3, rfl, ⟨by omega, by omega⟩, g83, f84⟩
                  · intro h74
                    refine wp_al1 jF_145_62 rfl rfl (pc2 := 63) ?_
                    refine wp_al1 jF_145_63 rfl rfl (pc2 := 64) ?_
                    refine wp_al1 jF_145_64 rfl rfl (pc2 := 65) ?_
                    refine wp_al1 jF_145_65 rfl rfl (pc2 := 66) ?_
                    refine wp_il2 jF_145_66 rfl rfl (pc2 := 68) ?_
                    refine wp_cV (as := [.ref 20, .ref 70, .ref 75, iV 2]) (rest := []) (a := 102) (mx := 9) (ci := 10) jF_145_68 kd102 (by decide) rfl rfl rfl rfl rfl (by omega) (by omega) rfl (pc2 := 71) ?_
                    refine wp_use (m_149_r102_20_70_75_n2 σ hg   _ _ (by omega) (by omega)) ?_
                    rintro _ τ89 ⟨z92, rfl, h93, g90, f91⟩
                    show WP 145 71 [(0, .ref 102), (1, .ref 20), (2, .ref 70), (3, .ref 75), (4, iV 2)] [iV z92] _ _ _ _
                    refine wp_z_eq jF_145_71 (m_rgb h93 rfl) rfl (pc2 := 74) ?_ ?_
                    · intro h94
                      refine wp_inc (lv2 := [(0, .ref 102), (1, .ref 20), (2, .ref 70), (3, .ref 75), (4, iV 3)]) jF_145_77 rfl rfl rfl rfl (pc2 := 80) ?_
                      refine wp_go jF_145_80 ?_
                      refine wp_il2 jF_145_44 rfl rfl (pc2 := 46) ?_
                      refine wp_ic jF_145_46 rfl (pc2 := 47) ?_
                      refine wp_i_gt jF_145_47 (m_rgl rfl) (m_rgl rfl) rfl (pc2 := 50) ?_ ?_
                      · intro h95; exfalso; omega
                      · intro h95
                        refine wp_al1 jF_145_50 rfl rfl (pc2 := 51) ?_
                        refine wp_ic jF_145_51 rfl (pc2 := 52) ?_
                        refine wp_al1 jF_145_52 rfl rfl (pc2 := 53) ?_
                        refine wp_ic jF_145_53 rfl (pc2 := 54) ?_
                        refine wp_il2 jF_145_54 rfl rfl (pc2 := 56) ?_
                        refine wp_cS (as := [.ref 70, iV 0, .ref 75, iV 0, iV 3]) (rest := []) (mx := 9) jF_145_56 rfl rfl rfl rfl (by omega) (by omega) rfl (pc2 := 59) ?_
                        have q96 : (τ89.1 70 1) = (σ.1 70 1) := (FR.at f91 70 1 rfl)
                        have q97 : (τ89.1 75 1) = (σ.1 75 1) := (FR.at f91 75 1 rfl)
                        refine wp_use (m_147_r70_75_n3 τ89 g90 0 (by omega) (by omega) 0 (by omega) (by omega) (by omega) (by omega) _ _ (by omega) (by omega)) ?_
                        rintro _ _ ⟨z100, rfl, h101, rfl⟩
                        show WP 145 59 [(0, .ref 102), (1, .ref 20), (2, .ref 70), (3, .ref 75), (4, iV 3)] [iV z100] _ _ _ _
                        refine wp_z_eq jF_145_59 (m_rgb h101 rfl) rfl (pc2 := 62) ?_ ?_
                        · intro h102
                          refine wp_inc (lv2 := [(0, .ref 102), (1, .ref 20), (2, .ref 70), (3, .ref 75), (4, iV 4)]) jF_145_77 rfl rfl rfl rfl (pc2 := 80) ?_
                          refine wp_go jF_145_80 ?_
                          refine wp_il2 jF_145_44 rfl rfl (pc2 := 46) ?_
                          refine wp_ic jF_145_46 rfl (pc2 := 47) ?_
                          refine wp_i_gt jF_145_47 (m_rgl rfl) (m_rgl rfl) rfl (pc2 := 50) ?_ ?_
                          · intro h103
                            refine wp_ic jF_145_83 rfl (pc2 := 84) ?_
                            refine wp_ri jF_145_84 rfl ?_
                            exact ⟨(-1), rfl, ⟨by omega, by omega⟩, g90, (FR.up FR.rf f91 sb_WY1_WY)⟩
                          · intro h103; exfalso; omega
                        · intro h102
                          refine wp_al1 jF_145_62 rfl rfl (pc2 := 63) ?_
                          refine wp_al1 jF_145_63 rfl rfl (pc2 := 64) ?_
                          refine wp_al1 jF_145_64 rfl rfl (pc2 := 65) ?_
                          refine wp_al1 jF_145_65 rfl rfl (pc2 := 66) ?_
                          refine wp_il2 jF_145_66 rfl rfl (pc2 := 68) ?_
                          refine wp_cV (as := [.ref 20, .ref 70, .ref 75, iV 3]) (rest := []) (a := 102) (mx := 9) (ci := 10) jF_145_68 kd102 (by decide) rfl rfl rfl rfl rfl (by omega) (by omega) rfl (pc2 := 71) ?_
                          refine wp_use (m_149_r102_20_70_75_n3 τ89 g90   _ _ (by omega) (by omega)) ?_
                          rintro _ τ104 ⟨z107, rfl, h108, g105, f106⟩
                          show WP 145 71 [(0, .ref 102), (1, .ref 20), (2, .ref 70), (3, .ref 75), (4, iV 3)] [iV z107] _ _ _ _
                          refine wp_z_eq jF_145_71 (m_rgb h108 rfl) rfl (pc2 := 74) ?_ ?_
                          · intro h109
                            refine wp_inc (lv2 := [(0, .ref 102), (1, .ref 20), (2, .ref 70), (3, .ref 75), (4, iV 4)]) jF_145_77 rfl rfl rfl rfl (pc2 := 80) ?_
                            refine wp_go jF_145_80 ?_
                            refine wp_il2 jF_145_44 rfl rfl (pc2 := 46) ?_
                            refine wp_ic jF_145_46 rfl (pc2 := 47) ?_
                            refine wp_i_gt jF_145_47 (m_rgl rfl) (m_rgl rfl) rfl (pc2 := 50) ?_ ?_
                            · intro h110
                              refine wp_ic jF_145_83 rfl (pc2 := 84) ?_
                              refine wp_ri jF_145_84 rfl ?_
                              exact ⟨(-1), rfl, ⟨by omega, by omega⟩, g105, (FR.up (FR.up FR.rf f91 sb_WY1_WY) f106 sb_WY_WY)⟩
                            · intro h110; exfalso; omega
                          · intro h109
                            refine wp_il2 jF_145_74 rfl rfl (pc2 := 76) ?_
                            refine wp_ri jF_145_76 rfl ?_
                            exact ⟨3, rfl, ⟨by omega, by omega⟩, g105, (FR.up (FR.up FR.rf f91 sb_WY1_WY) f106 sb_WY_WY)⟩
                    · intro h94
                      refine wp_il2 jF_145_74 rfl rfl (pc2 := 76) ?_
                      refine wp_ri jF_145_76 rfl ?_
                      exact ⟨2, rfl, ⟨by omega, by omega⟩, g90, (FR.up FR.rf f91 sb_WY1_WY)⟩
              · intro h68
                refine wp_il2 jF_145_74 rfl rfl (pc2 := 76) ?_
                refine wp_ri jF_145_76 rfl ?_
                exact ⟨1, rfl, ⟨by omega, by omega⟩, hg, FR.rf⟩
        · intro h15
          refine wp_ic jF_145_39 rfl (pc2 := 40) ?_
          refine wp_ri jF_145_40 rfl ?_
          exact ⟨(-1), rfl, ⟨by omega, by omega⟩, hg, FR.rf⟩
  · intro h5
    refine wp_ic jF_145_8 rfl (pc2 := 9) ?_
    refine wp_ri jF_145_9 rfl ?_
    exact ⟨0, rfl, ⟨by omega, by omega⟩, hg, FR.rf⟩
