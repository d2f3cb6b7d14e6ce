set_option maxHeartbeats 4000000 in
set_option maxRecDepth 20000 in
/-- Row.canTurn -/
theorem m_106_r109_20 (σ : jM) (hg : GI σ) (num : Int) (hl_num : 0 ≤ num) (hu_num : num ≤ 2900)  (fr lo : Nat) (hfr : 2 ≤ fr) (hlo : 47 ≤ lo) : WP 106 0 (lv_args 0 [.ref 109, .ref 20, iV num]) [] fr lo σ (fun v τ => ∃ z : Int, v = some (iV z) ∧ (0 ≤ z ∧ z ≤ 1) ∧ σ = τ ∧ (z = 1 → (num / 47 ≤ (σ.1 109 1) ∧ (num % 47 ≤ 23 → num / 47 < (σ.1 109 1)) ∧ (24 ≤ num % 47 → (σ.1 109 1) ≤ 59) ∧ num / 47 ≤ 60 ∧ (num % 47 ≤ 23 → num / 47 ≤ 59)))) := by
  show WP 106 0 [(0, .ref 109), (1, .ref 20), (2, iV num)] [] _ _ _ _
  refine wp_il1 jF_106_0 rfl rfl (pc2 := 1) ?_
  refine wp_bi jF_106_1 (by decide) rfl (pc2 := 3) ?_
  refine wp_div jF_106_3 ⟨by omega, by omega⟩ (by omega) (m_rgl rfl) (by omega) rfl (pc2 := 4) ?_
  refine wp_is1 (lv2 := [(0, .ref 109), (1, .ref 20), (2, iV num), (3, iV (num / 47))]) jF_106_4 rfl rfl rfl (pc2 := 5) ?_
  refine wp_il1 jF_106_5 rfl rfl (pc2 := 6) ?_
  refine wp_bi jF_106_6 (by decide) rfl (pc2 := 8) ?_
  refine wp_rem jF_106_8 ⟨by omega, by omega⟩ (by omega) (m_rgl rfl) (by omega) rfl (pc2 := 9) ?_
  refine wp_is2 (lv2 := [(0, .ref 109), (1, .ref 20), (2, iV num), (3, iV (num / 47)), (4, iV (num % 47))]) jF_106_9 rfl rfl rfl (pc2 := 11) ?_
  refine wp_il2 jF_106_11 rfl rfl (pc2 := 13) ?_
  refine wp_bi jF_106_13 (by decide) rfl (pc2 := 15) ?_
  refine wp_i_lt jF_106_15 ⟨by omega, by omega⟩ (m_rgl rfl) rfl (pc2 := 18) ?_ ?_
  · intro h1
    refine wp_ic jF_106_22 rfl (pc2 := 23) ?_
    refine wp_is2 (lv2 := [(0, .ref 109), (1, .ref 20), (2, iV num), (3, iV (num / 47)), (4, iV (num % 47)), (5, iV 0)]) jF_106_23 rfl rfl rfl (pc2 := 25) ?_
    refine wp_il2 jF_106_25 rfl rfl (pc2 := 27) ?_
    refine wp_cS (as := [iV (num % 47)]) (rest := []) (mx := 1) jF_106_27 rfl rfl rfl rfl (by omega) (by omega) rfl (pc2 := 30) ?_
    show WP 107 0 [(0, iV (num % 47))] [] _ _ _ _
    refine wp_il1 jF_107_0 rfl rfl (pc2 := 1) ?_
    refine wp_bi jF_107_1 (by decide) rfl (pc2 := 3) ?_
    refine wp_i_lt jF_107_3 ⟨by omega, by omega⟩ (m_rgl rfl) rfl (pc2 := 6) ?_ ?_
    · intro h2
      refine wp_il1 jF_107_13 rfl rfl (pc2 := 14) ?_
      refine wp_ic jF_107_14 rfl (pc2 := 15) ?_
      refine wp_sub jF_107_15 rfl (pc2 := 16) ?_
      refine wp_ri jF_107_16 rfl ?_
      show WP 106 30 [(0, .ref 109), (1, .ref 20), (2, iV num), (3, iV (num / 47)), (4, iV (num % 47)), (5, iV 0)] [iV ((num % 47) - 1)] _ _ _ _
      refine wp_is2 (lv2 := [(0, .ref 109), (1, .ref 20), (2, iV num), (3, iV (num / 47)), (4, iV (num % 47)), (5, iV 0), (6, iV ((num % 47) - 1))]) jF_106_30 rfl rfl rfl (pc2 := 32) ?_
      refine wp_il1 jF_106_32 rfl rfl (pc2 := 33) ?_
      refine wp_z_lt jF_106_33 ⟨by omega, by omega⟩ rfl (pc2 := 36) ?_ ?_
      · intro h3; exfalso; omega
      · intro h3
        refine wp_il1 jF_106_36 rfl rfl (pc2 := 37) ?_
        refine wp_al1 jF_106_37 rfl rfl (pc2 := 38) ?_
        have b4 := GI.b hg 109 1 kd109 (lo := 0) (hi := 60) rfl
        refine wp_gi jF_106_38 kd109 (by decide) rfl rfl rfl (pc2 := 41) ?_
        refine wp_i_gt jF_106_41 ⟨by omega, by omega⟩ (m_rgb b4 rfl) rfl (pc2 := 44) ?_ ?_
        · intro h5
          refine wp_ic jF_106_69 rfl (pc2 := 70) ?_
          refine wp_ri jF_106_70 rfl ?_
          exact ⟨0, rfl, ⟨by omega, by omega⟩, rfl, (by omega)⟩
        · intro h5
          refine wp_il2 jF_106_44 rfl rfl (pc2 := 46) ?_
          refine wp_z_eq jF_106_46 (m_rgl rfl) rfl (pc2 := 49) ?_ ?_
          · intro h6
            refine wp_il1 jF_106_61 rfl rfl (pc2 := 62) ?_
            refine wp_al1 jF_106_62 rfl rfl (pc2 := 63) ?_
            refine wp_gi jF_106_63 kd109 (by decide) rfl rfl rfl (pc2 := 66) ?_
            refine wp_i_ne jF_106_66 ⟨by omega, by omega⟩ (m_rgb b4 rfl) rfl (pc2 := 69) ?_ ?_
            · intro h7
              refine wp_il2 jF_106_71 rfl rfl (pc2 := 73) ?_
              refine wp_ic jF_106_73 rfl (pc2 := 74) ?_
              refine wp_i_ne jF_106_74 ⟨by omega, by omega⟩ (m_rgl rfl) rfl (pc2 := 77) ?_ ?_
              · intro h8
                refine wp_al1 jF_106_86 rfl rfl (pc2 := 87) ?_
                refine wp_gr (b := 111) jF_106_87 kd109 (by decide) (c := 5) rfl rfl rfl (pc2 := 90) ?_
                refine wp_il1 jF_106_90 rfl rfl (pc2 := 91) ?_
                have b9 := GI.b hg 111 (num / 47).toNat kd111 (lo := (-1)) (hi := 4) rfl
                refine wp_iald (n := 61) (e := (σ.1 111 (num / 47).toNat)) jF_106_91 kd111 (by decide) rfl rfl (by omega) (by omega) rfl rfl (pc2 := 92) ?_
                refine wp_il2 jF_106_92 rfl rfl (pc2 := 94) ?_
                refine wp_cS (as := [iV (σ.1 111 (num / 47).toNat), iV ((num % 47) - 1)]) (rest := []) (mx := 4) jF_106_94 rfl rfl rfl rfl (by omega) (by omega) rfl (pc2 := 97) ?_
                refine wp_use (m_78_r σ hg (σ.1 111 (num / 47).toNat) (by omega) (by omega) ((num % 47) - 1) (by omega) (by omega)  _ _ (by omega) (by omega)) ?_
                rintro _ _ ⟨z12, rfl, h13, rfl⟩
                show WP 106 97 [(0, .ref 109), (1, .ref 20), (2, iV num), (3, iV (num / 47)), (4, iV (num % 47)), (5, iV 0), (6, iV ((num % 47) - 1))] [iV z12] _ _ _ _
                refine wp_is2 (lv2 := [(0, .ref 109), (1, .ref 20), (2, iV num), (3, iV (num / 47)), (4, iV (num % 47)), (5, iV 0), (6, iV ((num % 47) - 1)), (7, iV z12)]) jF_106_97 rfl rfl rfl (pc2 := 99) ?_
                refine wp_il2 jF_106_99 rfl rfl (pc2 := 101) ?_
                refine wp_ic jF_106_101 rfl (pc2 := 102) ?_
                refine wp_i_eq jF_106_102 (m_rgb h13 rfl) (m_rgl rfl) rfl (pc2 := 105) ?_ ?_
                · intro h14
                  refine wp_ic jF_106_120 rfl (pc2 := 121) ?_
                  refine wp_ri jF_106_121 rfl ?_
                  exact ⟨0, rfl, ⟨by omega, by omega⟩, rfl, (by omega)⟩
                · intro h14
                  refine wp_il2 jF_106_105 rfl rfl (pc2 := 107) ?_
                  refine wp_ic jF_106_107 rfl (pc2 := 108) ?_
                  refine wp_i_eq jF_106_108 ⟨by omega, by omega⟩ (m_rgl rfl) rfl (pc2 := 111) ?_ ?_
                  · intro h15; exfalso; omega
                  · intro h15
                    refine wp_al1 jF_106_111 rfl rfl (pc2 := 112) ?_
                    refine wp_il2 jF_106_112 rfl rfl (pc2 := 114) ?_
                    refine wp_cV (as := [iV ((num % 47) - 1)]) (rest := []) (a := 20) (mx := 2) (ci := 8) jF_106_114 kd20 (by decide) rfl rfl rfl rfl rfl (by omega) (by omega) rfl (pc2 := 117) ?_
                    refine wp_use (m_108_r20 σ hg ((num % 47) - 1) (by omega) (by omega)  _ _ (by omega) (by omega)) ?_
                    rintro _ _ ⟨z18, rfl, h19, rfl⟩
                    show WP 106 117 [(0, .ref 109), (1, .ref 20), (2, iV num), (3, iV (num / 47)), (4, iV (num % 47)), (5, iV 0), (6, iV ((num % 47) - 1)), (7, iV z12)] [iV z18] _ _ _ _
                    refine wp_z_ne jF_106_117 (m_rgb h19 rfl) rfl (pc2 := 120) ?_ ?_
                    · intro h20
                      refine wp_il2 jF_106_122 rfl rfl (pc2 := 124) ?_
                      refine wp_ic jF_106_124 rfl (pc2 := 125) ?_
                      refine wp_i_ne jF_106_125 ⟨by omega, by omega⟩ (m_rgl rfl) rfl (pc2 := 128) ?_ ?_
                      · intro h21
                        refine wp_il2 jF_106_132 rfl rfl (pc2 := 134) ?_
                        refine wp_cS (as := [iV ((num % 47) - 1)]) (rest := []) (mx := 1) jF_106_134 rfl rfl rfl rfl (by omega) (by omega) rfl (pc2 := 137) ?_
                        show WP 81 0 [(0, iV ((num % 47) - 1))] [] _ _ _ _
                        refine wp_il1 jF_81_0 rfl rfl (pc2 := 1) ?_
                        refine wp_bi jF_81_1 (by decide) rfl (pc2 := 3) ?_
                        refine wp_i_ne jF_81_3 ⟨by omega, by omega⟩ (m_rgl rfl) rfl (pc2 := 6) ?_ ?_
                        · intro h22
                          refine wp_ic jF_81_10 rfl (pc2 := 11) ?_
                          refine wp_ri jF_81_11 rfl ?_
                          show WP 106 137 [(0, .ref 109), (1, .ref 20), (2, iV num), (3, iV (num / 47)), (4, iV (num % 47)), (5, iV 0), (6, iV ((num % 47) - 1)), (7, iV z12)] [iV 1] _ _ _ _
                          refine wp_is2 (lv2 := [(0, .ref 109), (1, .ref 20), (2, iV num), (3, iV (num / 47)), (4, iV (num % 47)), (5, iV 0), (6, iV ((num % 47) - 1)), (7, iV z12), (8, iV 1)]) jF_106_137 rfl rfl rfl (pc2 := 139) ?_
                          refine wp_il2 jF_106_139 rfl rfl (pc2 := 141) ?_
                          refine wp_z_ne jF_106_141 (m_rgl rfl) rfl (pc2 := 144) ?_ ?_
                          · intro h23; exfalso; omega
                          · intro h23
                            refine wp_il2 jF_106_144 rfl rfl (pc2 := 146) ?_
                            refine wp_al1 jF_106_146 rfl rfl (pc2 := 147) ?_
                            refine wp_gr (b := 110) jF_106_147 kd109 (by decide) (c := 4) rfl rfl rfl (pc2 := 150) ?_
                            refine wp_il1 jF_106_150 rfl rfl (pc2 := 151) ?_
                            have b24 := GI.b hg 110 (num / 47).toNat kd110 (lo := 0) (hi := 255) rfl
                            refine wp_iald (n := 60) (e := (σ.1 110 (num / 47).toNat)) jF_106_151 kd110 (by decide) rfl rfl (by omega) (by omega) rfl rfl (pc2 := 152) ?_
                            refine wp_cS (as := [iV (σ.1 110 (num / 47).toNat)]) (rest := [iV 1]) (mx := 1) jF_106_152 rfl rfl rfl rfl (by omega) (by omega) rfl (pc2 := 155) ?_
                            show WP 81 0 [(0, iV (σ.1 110 (num / 47).toNat))] [] _ _ _ _
                            refine wp_il1 jF_81_0 rfl rfl (pc2 := 1) ?_
                            refine wp_bi jF_81_1 (by decide) rfl (pc2 := 3) ?_
                            refine wp_i_ne jF_81_3 (m_rgb b24 rfl) (m_rgl rfl) rfl (pc2 := 6) ?_ ?_
                            · intro h25
                              refine wp_ic jF_81_10 rfl (pc2 := 11) ?_
                              refine wp_ri jF_81_11 rfl ?_
                              show WP 106 155 [(0, .ref 109), (1, .ref 20), (2, iV num), (3, iV (num / 47)), (4, iV (num % 47)), (5, iV 0), (6, iV ((num % 47) - 1)), (7, iV z12), (8, iV 1)] [iV 1, iV 1] _ _ _ _
                              refine wp_subx (c := 0) jF_106_155 rfl rfl (pc2 := 156) ?_
                              refine wp_is2 (lv2 := [(0, .ref 109), (1, .ref 20), (2, iV num), (3, iV (num / 47)), (4, iV (num % 47)), (5, iV 0), (6, iV ((num % 47) - 1)), (7, iV z12), (8, iV 0)]) jF_106_156 rfl rfl rfl (pc2 := 158) ?_
                              refine wp_al1 jF_106_158 rfl rfl (pc2 := 159) ?_
                              have b26 := GI.b hg 109 2 kd109 (lo := (-2147483648)) (hi := 2147483647) rfl
                              refine wp_gi jF_106_159 kd109 (by decide) rfl rfl rfl (pc2 := 162) ?_
                              refine wp_il2 jF_106_162 rfl rfl (pc2 := 164) ?_
                              refine wp_add jF_106_164 rfl (pc2 := 165) ?_
                              refine wp_al1 jF_106_165 rfl rfl (pc2 := 166) ?_
                              have b27 := GI.b hg 20 10 kd20 (lo := (-2147483648)) (hi := 2147483647) rfl
                              refine wp_gi jF_106_166 kd20 (by decide) rfl rfl rfl (pc2 := 169) ?_
                              refine wp_i_gt jF_106_169 ⟨by omega, by omega⟩ (m_rgb b27 rfl) rfl (pc2 := 172) ?_ ?_
                              · intro h28
                                refine wp_ic jF_106_188 rfl (pc2 := 189) ?_
                                refine wp_ri jF_106_189 rfl ?_
                                exact ⟨0, rfl, ⟨by omega, by omega⟩, rfl, (by omega)⟩
                              · intro h28
                                refine wp_il2 jF_106_172 rfl rfl (pc2 := 174) ?_
                                refine wp_z_ne jF_106_174 (m_rgl rfl) rfl (pc2 := 177) ?_ ?_
                                · intro h29; exfalso; omega
                                · intro h29
                                  refine wp_il2 jF_106_177 rfl rfl (pc2 := 179) ?_
                                  refine wp_al1 jF_106_179 rfl rfl (pc2 := 180) ?_
                                  refine wp_gr (b := 110) jF_106_180 kd109 (by decide) (c := 4) rfl rfl rfl (pc2 := 183) ?_
                                  refine wp_il1 jF_106_183 rfl rfl (pc2 := 184) ?_
                                  refine wp_iald (n := 60) (e := (σ.1 110 (num / 47).toNat)) jF_106_184 kd110 (by decide) rfl rfl (by omega) (by omega) rfl rfl (pc2 := 185) ?_
                                  refine wp_i_ne jF_106_185 ⟨by omega, by omega⟩ (m_rgb b24 rfl) rfl (pc2 := 188) ?_ ?_
                                  · intro h30
                                    refine wp_al1 jF_106_190 rfl rfl (pc2 := 191) ?_
                                    refine wp_il2 jF_106_191 rfl rfl (pc2 := 193) ?_
                                    refine wp_z_eq jF_106_193 (m_rgl rfl) rfl (pc2 := 196) ?_ ?_
                                    · intro h31
                                      refine wp_il1 jF_106_200 rfl rfl (pc2 := 201) ?_
                                      refine wp_ic jF_106_201 rfl (pc2 := 202) ?_
                                      refine wp_add jF_106_202 rfl (pc2 := 203) ?_
                                      refine wp_il2 jF_106_203 rfl rfl (pc2 := 205) ?_
                                      refine wp_cV (as := [iV ((num / 47) + 1), iV z12]) (rest := []) (a := 109) (mx := 5) (ci := 4) jF_106_205 kd109 (by decide) rfl rfl rfl rfl rfl (by omega) (by omega) rfl (pc2 := 208) ?_
                                      refine wp_use (m_109_r109 σ hg ((num / 47) + 1) (by omega) (by omega) z12 (by omega) (by omega)  _ _ (by omega) (by omega)) ?_
                                      rintro _ _ ⟨z34, rfl, h35, rfl⟩
                                      show WP 106 208 [(0, .ref 109), (1, .ref 20), (2, iV num), (3, iV (num / 47)), (4, iV (num % 47)), (5, iV 0), (6, iV ((num % 47) - 1)), (7, iV z12), (8, iV 0)] [iV z34] _ _ _ _
                                      refine wp_ri jF_106_208 (m_fitb (by omega) (by omega)) ?_
                                      exact ⟨z34, rfl, ⟨by omega, by omega⟩, rfl, (by omega)⟩
                                    · intro h31; exfalso; omega
                                  · intro h30
                                    refine wp_ic jF_106_188 rfl (pc2 := 189) ?_
                                    refine wp_ri jF_106_189 rfl ?_
                                    exact ⟨0, rfl, ⟨by omega, by omega⟩, rfl, (by omega)⟩
                            · intro h25
                              refine wp_ic jF_81_6 rfl (pc2 := 7) ?_
                              refine wp_go jF_81_7 ?_
                              refine wp_ri jF_81_11 rfl ?_
                              show WP 106 155 [(0, .ref 109), (1, .ref 20), (2, iV num), (3, iV (num / 47)), (4, iV (num % 47)), (5, iV 0), (6, iV ((num % 47) - 1)), (7, iV z12), (8, iV 1)] [iV 0, iV 1] _ _ _ _
                              refine wp_subx (c := 1) jF_106_155 rfl rfl (pc2 := 156) ?_
                              refine wp_is2 (lv2 := [(0, .ref 109), (1, .ref 20), (2, iV num), (3, iV (num / 47)), (4, iV (num % 47)), (5, iV 0), (6, iV ((num % 47) - 1)), (7, iV z12), (8, iV 1)]) jF_106_156 rfl rfl rfl (pc2 := 158) ?_
                              refine wp_al1 jF_106_158 rfl rfl (pc2 := 159) ?_
                              have b36 := GI.b hg 109 2 kd109 (lo := (-2147483648)) (hi := 2147483647) rfl
                              refine wp_gi jF_106_159 kd109 (by decide) rfl rfl rfl (pc2 := 162) ?_
                              refine wp_il2 jF_106_162 rfl rfl (pc2 := 164) ?_
                              refine wp_any2 (pc2 := 165) jF_106_164 rfl rfl ?_
                              intro z37 h38
                              refine wp_al1 jF_106_165 rfl rfl (pc2 := 166) ?_
                              have b39 := GI.b hg 20 10 kd20 (lo := (-2147483648)) (hi := 2147483647) rfl
                              refine wp_gi jF_106_166 kd20 (by decide) rfl rfl rfl (pc2 := 169) ?_
                              refine wp_i_gt jF_106_169 (m_rgb h38 rfl) (m_rgb b39 rfl) rfl (pc2 := 172) ?_ ?_
                              · intro h40
                                refine wp_ic jF_106_188 rfl (pc2 := 189) ?_
                                refine wp_ri jF_106_189 rfl ?_
                                exact ⟨0, rfl, ⟨by omega, by omega⟩, rfl, (by omega)⟩
                              · intro h40
                                refine wp_il2 jF_106_172 rfl rfl (pc2 := 174) ?_
                                refine wp_z_ne jF_106_174 (m_rgl rfl) rfl (pc2 := 177) ?_ ?_
                                · intro h41; exfalso; omega
                                · intro h41
                                  refine wp_il2 jF_106_177 rfl rfl (pc2 := 179) ?_
                                  refine wp_al1 jF_106_179 rfl rfl (pc2 := 180) ?_
                                  refine wp_gr (b := 110) jF_106_180 kd109 (by decide) (c := 4) rfl rfl rfl (pc2 := 183) ?_
                                  refine wp_il1 jF_106_183 rfl rfl (pc2 := 184) ?_
                                  refine wp_iald (n := 60) (e := (σ.1 110 (num / 47).toNat)) jF_106_184 kd110 (by decide) rfl rfl (by omega) (by omega) rfl rfl (pc2 := 185) ?_
                                  refine wp_i_ne jF_106_185 ⟨by omega, by omega⟩ (m_rgb b24 rfl) rfl (pc2 := 188) ?_ ?_
                                  · intro h42
                                    refine wp_al1 jF_106_190 rfl rfl (pc2 := 191) ?_
                                    refine wp_il2 jF_106_191 rfl rfl (pc2 := 193) ?_
                                    refine wp_z_eq jF_106_193 (m_rgl rfl) rfl (pc2 := 196) ?_ ?_
                                    · intro h43
                                      refine wp_il1 jF_106_200 rfl rfl (pc2 := 201) ?_
                                      refine wp_ic jF_106_201 rfl (pc2 := 202) ?_
                                      refine wp_add jF_106_202 rfl (pc2 := 203) ?_
                                      refine wp_il2 jF_106_203 rfl rfl (pc2 := 205) ?_
                                      refine wp_cV (as := [iV ((num / 47) + 1), iV z12]) (rest := []) (a := 109) (mx := 5) (ci := 4) jF_106_205 kd109 (by decide) rfl rfl rfl rfl rfl (by omega) (by omega) rfl (pc2 := 208) ?_
                                      refine wp_use (m_109_r109 σ hg ((num / 47) + 1) (by omega) (by omega) z12 (by omega) (by omega)  _ _ (by omega) (by omega)) ?_
                                      rintro _ _ ⟨z46, rfl, h47, rfl⟩
                                      show WP 106 208 [(0, .ref 109), (1, .ref 20), (2, iV num), (3, iV (num / 47)), (4, iV (num % 47)), (5, iV 0), (6, iV ((num % 47) - 1)), (7, iV z12), (8, iV 1)] [iV z46] _ _ _ _
                                      refine wp_ri jF_106_208 (m_fitb (by omega) (by omega)) ?_
                                      exact ⟨z46, rfl, ⟨by omega, by omega⟩, rfl, (by omega)⟩
                                    · intro h43; exfalso; omega
                                  · intro h42
                                    refine wp_ic jF_106_188 rfl (pc2 := 189) ?_
                                    refine wp_ri jF_106_189 rfl ?_
                                    exact ⟨0, rfl, ⟨by omega, by omega⟩, rfl, (by omega)⟩
                        · intro h22
                          refine wp_ic jF_81_6 rfl (pc2 := 7) ?_
                          refine wp_go jF_81_7 ?_
                          refine wp_ri jF_81_11 rfl ?_
                          show WP 106 137 [(0, .ref 109), (1, .ref 20), (2, iV num), (3, iV (num / 47)), (4, iV (num % 47)), (5, iV 0), (6, iV ((num % 47) - 1)), (7, iV z12)] [iV 0] _ _ _ _
                          refine wp_is2 (lv2 := [(0, .ref 109), (1, .ref 20), (2, iV num), (3, iV (num / 47)), (4, iV (num % 47)), (5, iV 0), (6, iV ((num % 47) - 1)), (7, iV z12), (8, iV 0)]) jF_106_137 rfl rfl rfl (pc2 := 139) ?_
                          refine wp_il2 jF_106_139 rfl rfl (pc2 := 141) ?_
                          refine wp_z_ne jF_106_141 (m_rgl rfl) rfl (pc2 := 144) ?_ ?_
                          · intro h48; exfalso; omega
                          · intro h48
                            refine wp_il2 jF_106_144 rfl rfl (pc2 := 146) ?_
                            refine wp_al1 jF_106_146 rfl rfl (pc2 := 147) ?_
                            refine wp_gr (b := 110) jF_106_147 kd109 (by decide) (c := 4) rfl rfl rfl (pc2 := 150) ?_
                            refine wp_il1 jF_106_150 rfl rfl (pc2 := 151) ?_
                            have b49 := GI.b hg 110 (num / 47).toNat kd110 (lo := 0) (hi := 255) rfl
                            refine wp_iald (n := 60) (e := (σ.1 110 (num / 47).toNat)) jF_106_151 kd110 (by decide) rfl rfl (by omega) (by omega) rfl rfl (pc2 := 152) ?_
                            refine wp_cS (as := [iV (σ.1 110 (num / 47).toNat)]) (rest := [iV 0]) (mx := 1) jF_106_152 rfl rfl rfl rfl (by omega) (by omega) rfl (pc2 := 155) ?_
                            show WP 81 0 [(0, iV (σ.1 110 (num / 47).toNat))] [] _ _ _ _
                            refine wp_il1 jF_81_0 rfl rfl (pc2 := 1) ?_
                            refine wp_bi jF_81_1 (by decide) rfl (pc2 := 3) ?_
                            refine wp_i_ne jF_81_3 (m_rgb b49 rfl) (m_rgl rfl) rfl (pc2 := 6) ?_ ?_
                            · intro h50
                              refine wp_ic jF_81_10 rfl (pc2 := 11) ?_
                              refine wp_ri jF_81_11 rfl ?_
                              show WP 106 155 [(0, .ref 109), (1, .ref 20), (2, iV num), (3, iV (num / 47)), (4, iV (num % 47)), (5, iV 0), (6, iV ((num % 47) - 1)), (7, iV z12), (8, iV 0)] [iV 1, iV 0] _ _ _ _
                              refine wp_subx (c := (-1)) jF_106_155 rfl rfl (pc2 := 156) ?_
                              refine wp_is2 (lv2 := [(0, .ref 109), (1, .ref 20), (2, iV num), (3, iV (num / 47)), (4, iV (num % 47)), (5, iV 0), (6, iV ((num % 47) - 1)), (7, iV z12), (8, iV (-1))]) jF_106_156 rfl rfl rfl (pc2 := 158) ?_
                              refine wp_al1 jF_106_158 rfl rfl (pc2 := 159) ?_
                              have b51 := GI.b hg 109 2 kd109 (lo := (-2147483648)) (hi := 2147483647) rfl
                              refine wp_gi jF_106_159 kd109 (by decide) rfl rfl rfl (pc2 := 162) ?_
                              refine wp_il2 jF_106_162 rfl rfl (pc2 := 164) ?_
                              refine wp_any2 (pc2 := 165) jF_106_164 rfl rfl ?_
                              intro z52 h53
                              refine wp_al1 jF_106_165 rfl rfl (pc2 := 166) ?_
                              have b54 := GI.b hg 20 10 kd20 (lo := (-2147483648)) (hi := 2147483647) rfl
                              refine wp_gi jF_106_166 kd20 (by decide) rfl rfl rfl (pc2 := 169) ?_
                              refine wp_i_gt jF_106_169 (m_rgb h53 rfl) (m_rgb b54 rfl) rfl (pc2 := 172) ?_ ?_
                              · intro h55
                                refine wp_ic jF_106_188 rfl (pc2 := 189) ?_
                                refine wp_ri jF_106_189 rfl ?_
                                exact ⟨0, rfl, ⟨by omega, by omega⟩, rfl, (by omega)⟩
                              · intro h55
                                refine wp_il2 jF_106_172 rfl rfl (pc2 := 174) ?_
                                refine wp_z_ne jF_106_174 (m_rgl rfl) rfl (pc2 := 177) ?_ ?_
                                · intro h56; exfalso; omega
                                · intro h56
                                  refine wp_il2 jF_106_177 rfl rfl (pc2 := 179) ?_
                                  refine wp_al1 jF_106_179 rfl rfl (pc2 := 180) ?_
                                  refine wp_gr (b := 110) jF_106_180 kd109 (by decide) (c := 4) rfl rfl rfl (pc2 := 183) ?_
                                  refine wp_il1 jF_106_183 rfl rfl (pc2 := 184) ?_
                                  refine wp_iald (n := 60) (e := (σ.1 110 (num / 47).toNat)) jF_106_184 kd110 (by decide) rfl rfl (by omega) (by omega) rfl rfl (pc2 := 185) ?_
                                  refine wp_i_ne jF_106_185 ⟨by omega, by omega⟩ (m_rgb b49 rfl) rfl (pc2 := 188) ?_ ?_
                                  · intro h57
                                    refine wp_al1 jF_106_190 rfl rfl (pc2 := 191) ?_
                                    refine wp_il2 jF_106_191 rfl rfl (pc2 := 193) ?_
                                    refine wp_z_eq jF_106_193 (m_rgl rfl) rfl (pc2 := 196) ?_ ?_
                                    · intro h58
                                      refine wp_il1 jF_106_200 rfl rfl (pc2 := 201) ?_
                                      refine wp_ic jF_106_201 rfl (pc2 := 202) ?_
                                      refine wp_add jF_106_202 rfl (pc2 := 203) ?_
                                      refine wp_il2 jF_106_203 rfl rfl (pc2 := 205) ?_
                                      refine wp_cV (as := [iV ((num / 47) + 1), iV z12]) (rest := []) (a := 109) (mx := 5) (ci := 4) jF_106_205 kd109 (by decide) rfl rfl rfl rfl rfl (by omega) (by omega) rfl (pc2 := 208) ?_
                                      refine wp_use (m_109_r109 σ hg ((num / 47) + 1) (by omega) (by omega) z12 (by omega) (by omega)  _ _ (by omega) (by omega)) ?_
                                      rintro _ _ ⟨z61, rfl, h62, rfl⟩
                                      show WP 106 208 [(0, .ref 109), (1, .ref 20), (2, iV num), (3, iV (num / 47)), (4, iV (num % 47)), (5, iV 0), (6, iV ((num % 47) - 1)), (7, iV z12), (8, iV (-1))] [iV z61] _ _ _ _
                                      refine wp_ri jF_106_208 (m_fitb (by omega) (by omega)) ?_
                                      exact ⟨z61, rfl, ⟨by omega, by omega⟩, rfl, (by omega)⟩
                                    · intro h58; exfalso; omega
                                  · intro h57
                                    refine wp_ic jF_106_188 rfl (pc2 := 189) ?_
                                    refine wp_ri jF_106_189 rfl ?_
                                    exact ⟨0, rfl, ⟨by omega, by omega⟩, rfl, (by omega)⟩
                            · intro h50
                              refine wp_ic jF_81_6 rfl (pc2 := 7) ?_
                              refine wp_go jF_81_7 ?_
                              refine wp_ri jF_81_11 rfl ?_
                              show WP 106 155 [(0, .ref 109), (1, .ref 20), (2, iV num), (3, iV (num / 47)), (4, iV (num % 47)), (5, iV 0), (6, iV ((num % 47) - 1)), (7, iV z12), (8, iV 0)] [iV 0, iV 0] _ _ _ _
                              refine wp_subx (c := 0) jF_106_155 rfl rfl (pc2 := 156) ?_
                              refine wp_is2 (lv2 := [(0, .ref 109), (1, .ref 20), (2, iV num), (3, iV (num / 47)), (4, iV (num % 47)), (5, iV 0), (6, iV ((num % 47) - 1)), (7, iV z12), (8, iV 0)]) jF_106_156 rfl rfl rfl (pc2 := 158) ?_
                              refine wp_al1 jF_106_158 rfl rfl (pc2 := 159) ?_
                              have b63 := GI.b hg 109 2 kd109 (lo := (-2147483648)) (hi := 2147483647) rfl
                              refine wp_gi jF_106_159 kd109 (by decide) rfl rfl rfl (pc2 := 162) ?_
                              refine wp_il2 jF_106_162 rfl rfl (pc2 := 164) ?_
                              refine wp_add jF_106_164 rfl (pc2 := 165) ?_
                              refine wp_al1 jF_106_165 rfl rfl (pc2 := 166) ?_
                              have b64 := GI.b hg 20 10 kd20 (lo := (-2147483648)) (hi := 2147483647) rfl
                              refine wp_gi jF_106_166 kd20 (by decide) rfl rfl rfl (pc2 := 169) ?_
                              refine wp_i_gt jF_106_169 ⟨by omega, by omega⟩ (m_rgb b64 rfl) rfl (pc2 := 172) ?_ ?_
                              · intro h65
                                refine wp_ic jF_106_188 rfl (pc2 := 189) ?_
                                refine wp_ri jF_106_189 rfl ?_
                                exact ⟨0, rfl, ⟨by omega, by omega⟩, rfl, (by omega)⟩
                              · intro h65
                                refine wp_il2 jF_106_172 rfl rfl (pc2 := 174) ?_
                                refine wp_z_ne jF_106_174 (m_rgl rfl) rfl (pc2 := 177) ?_ ?_
                                · intro h66; exfalso; omega
                                · intro h66
                                  refine wp_il2 jF_106_177 rfl rfl (pc2 := 179) ?_
                                  refine wp_al1 jF_106_179 rfl rfl (pc2 := 180) ?_
                                  refine wp_gr (b := 110) jF_106_180 kd109 (by decide) (c := 4) rfl rfl rfl (pc2 := 183) ?_
                                  refine wp_il1 jF_106_183 rfl rfl (pc2 := 184) ?_
                                  refine wp_iald (n := 60) (e := (σ.1 110 (num / 47).toNat)) jF_106_184 kd110 (by decide) rfl rfl (by omega) (by omega) rfl rfl (pc2 := 185) ?_
                                  refine wp_i_ne jF_106_185 ⟨by omega, by omega⟩ (m_rgb b49 rfl) rfl (pc2 := 188) ?_ ?_
                                  · intro h67
                                    refine wp_al1 jF_106_190 rfl rfl (pc2 := 191) ?_
                                    refine wp_il2 jF_106_191 rfl rfl (pc2 := 193) ?_
                                    refine wp_z_eq jF_106_193 (m_rgl rfl) rfl (pc2 := 196) ?_ ?_
                                    · intro h68
                                      refine wp_il1 jF_106_200 rfl rfl (pc2 := 201) ?_
                                      refine wp_ic jF_106_201 rfl (pc2 := 202) ?_
                                      refine wp_add jF_106_202 rfl (pc2 := 203) ?_
                                      refine wp_il2 jF_106_203 rfl rfl (pc2 := 205) ?_
                                      refine wp_cV (as := [iV ((num / 47) + 1), iV z12]) (rest := []) (a := 109) (mx := 5) (ci := 4) jF_106_205 kd109 (by decide) rfl rfl rfl rfl rfl (by omega) (by omega) rfl (pc2 := 208) ?_
                                      refine wp_use (m_109_r109 σ hg ((num / 47) + 1) (by omega) (by omega) z12 (by omega) (by omega)  _ _ (by omega) (by omega)) ?_
                                      rintro _ _ ⟨z71, rfl, h72, rfl⟩
                                      show WP 106 208 [(0, .ref 109), (1, .ref 20), (2, iV num), (3, iV (num / 47)), (4, iV (num % 47)), (5, iV 0), (6, iV ((num % 47) - 1)), (7, iV z12), (8, iV 0)] [iV z71] _ _ _ _
                                      refine wp_ri jF_106_208 (m_fitb (by omega) (by omega)) ?_
                                      exact ⟨z71, rfl, ⟨by omega, by omega⟩, rfl, (by omega)⟩
                                    · intro h68; exfalso; omega
                                  · intro h67
                                    refine wp_ic jF_106_188 rfl (pc2 := 189) ?_
                                    refine wp_ri jF_106_189 rfl ?_
                                    exact ⟨0, rfl, ⟨by omega, by omega⟩, rfl, (by omega)⟩
                      · intro h21; exfalso; omega
                    · intro h20
                      refine wp_ic jF_106_120 rfl (pc2 := 121) ?_
                      refine wp_ri jF_106_121 rfl ?_
                      exact ⟨0, rfl, ⟨by omega, by omega⟩, rfl, (by omega)⟩
              · intro h8
                refine wp_al1 jF_106_77 rfl rfl (pc2 := 78) ?_
                refine wp_gr (b := 111) jF_106_78 kd109 (by decide) (c := 5) rfl rfl rfl (pc2 := 81) ?_
                refine wp_il1 jF_106_81 rfl rfl (pc2 := 82) ?_
                have b73 := GI.b hg 111 (num / 47).toNat kd111 (lo := (-1)) (hi := 4) rfl
                refine wp_iald (n := 61) (e := (σ.1 111 (num / 47).toNat)) jF_106_82 kd111 (by decide) rfl rfl (by omega) (by omega) rfl rfl (pc2 := 83) ?_
                refine wp_go jF_106_83 ?_
                refine wp_is2 (lv2 := [(0, .ref 109), (1, .ref 20), (2, iV num), (3, iV (num / 47)), (4, iV (num % 47)), (5, iV 0), (6, iV ((num % 47) - 1)), (7, iV (σ.1 111 (num / 47).toNat))]) jF_106_97 rfl rfl rfl (pc2 := 99) ?_
                refine wp_il2 jF_106_99 rfl rfl (pc2 := 101) ?_
                refine wp_ic jF_106_101 rfl (pc2 := 102) ?_
                refine wp_i_eq jF_106_102 (m_rgb b73 rfl) (m_rgl rfl) rfl (pc2 := 105) ?_ ?_
                · intro h74
                  refine wp_ic jF_106_120 rfl (pc2 := 121) ?_
                  refine wp_ri jF_106_121 rfl ?_
                  exact ⟨0, rfl, ⟨by omega, by omega⟩, rfl, (by omega)⟩
                · intro h74
                  refine wp_il2 jF_106_105 rfl rfl (pc2 := 107) ?_
                  refine wp_ic jF_106_107 rfl (pc2 := 108) ?_
                  refine wp_i_eq jF_106_108 ⟨by omega, by omega⟩ (m_rgl rfl) rfl (pc2 := 111) ?_ ?_
                  · intro h75
                    refine wp_il2 jF_106_122 rfl rfl (pc2 := 124) ?_
                    refine wp_ic jF_106_124 rfl (pc2 := 125) ?_
                    refine wp_i_ne jF_106_125 ⟨by omega, by omega⟩ (m_rgl rfl) rfl (pc2 := 128) ?_ ?_
                    · intro h76; exfalso; omega
                    · intro h76
                      refine wp_ic jF_106_128 rfl (pc2 := 129) ?_
                      refine wp_go jF_106_129 ?_
                      refine wp_is2 (lv2 := [(0, .ref 109), (1, .ref 20), (2, iV num), (3, iV (num / 47)), (4, iV (num % 47)), (5, iV 0), (6, iV ((num % 47) - 1)), (7, iV (σ.1 111 (num / 47).toNat)), (8, iV 0)]) jF_106_137 rfl rfl rfl (pc2 := 139) ?_
                      refine wp_il2 jF_106_139 rfl rfl (pc2 := 141) ?_
                      refine wp_z_ne jF_106_141 (m_rgl rfl) rfl (pc2 := 144) ?_ ?_
                      · intro h77; exfalso; omega
                      · intro h77
                        refine wp_il2 jF_106_144 rfl rfl (pc2 := 146) ?_
                        refine wp_al1 jF_106_146 rfl rfl (pc2 := 147) ?_
                        refine wp_gr (b := 110) jF_106_147 kd109 (by decide) (c := 4) rfl rfl rfl (pc2 := 150) ?_
                        refine wp_il1 jF_106_150 rfl rfl (pc2 := 151) ?_
                        have b78 := GI.b hg 110 (num / 47).toNat kd110 (lo := 0) (hi := 255) rfl
                        refine wp_iald (n := 60) (e := (σ.1 110 (num / 47).toNat)) jF_106_151 kd110 (by decide) rfl rfl (by omega) (by omega) rfl rfl (pc2 := 152) ?_
                        refine wp_cS (as := [iV (σ.1 110 (num / 47).toNat)]) (rest := [iV 0]) (mx := 1) jF_106_152 rfl rfl rfl rfl (by omega) (by omega) rfl (pc2 := 155) ?_
                        show WP 81 0 [(0, iV (σ.1 110 (num / 47).toNat))] [] _ _ _ _
                        refine wp_il1 jF_81_0 rfl rfl (pc2 := 1) ?_
                        refine wp_bi jF_81_1 (by decide) rfl (pc2 := 3) ?_
                        refine wp_i_ne jF_81_3 (m_rgb b78 rfl) (m_rgl rfl) rfl (pc2 := 6) ?_ ?_
                        · intro h79
                          refine wp_ic jF_81_10 rfl (pc2 := 11) ?_
                          refine wp_ri jF_81_11 rfl ?_
                          show WP 106 155 [(0, .ref 109), (1, .ref 20), (2, iV num), (3, iV (num / 47)), (4, iV (num % 47)), (5, iV 0), (6, iV ((num % 47) - 1)), (7, iV (σ.1 111 (num / 47).toNat)), (8, iV 0)] [iV 1, iV 0] _ _ _ _
                          refine wp_subx (c := (-1)) jF_106_155 rfl rfl (pc2 := 156) ?_
                          refine wp_is2 (lv2 := [(0, .ref 109), (1, .ref 20), (2, iV num), (3, iV (num / 47)), (4, iV (num % 47)), (5, iV 0), (6, iV ((num % 47) - 1)), (7, iV (σ.1 111 (num / 47).toNat)), (8, iV (-1))]) jF_106_156 rfl rfl rfl (pc2 := 158) ?_
                          refine wp_al1 jF_106_158 rfl rfl (pc2 := 159) ?_
                          have b80 := GI.b hg 109 2 kd109 (lo := (-2147483648)) (hi := 2147483647) rfl
                          refine wp_gi jF_106_159 kd109 (by decide) rfl rfl rfl (pc2 := 162) ?_
                          refine wp_il2 jF_106_162 rfl rfl (pc2 := 164) ?_
                          refine wp_any2 (pc2 := 165) jF_106_164 rfl rfl ?_
                          intro z81 h82
                          refine wp_al1 jF_106_165 rfl rfl (pc2 := 166) ?_
                          have b83 := GI.b hg 20 10 kd20 (lo := (-2147483648)) (hi := 2147483647) rfl
                          refine wp_gi jF_106_166 kd20 (by decide) rfl rfl rfl (pc2 := 169) ?_
                          refine wp_i_gt jF_106_169 (m_rgb h82 rfl) (m_rgb b83 rfl) rfl (pc2 := 172) ?_ ?_
                          · intro h84
                            refine wp_ic jF_106_188 rfl (pc2 := 189) ?_
                            refine wp_ri jF_106_189 rfl ?_
                            exact ⟨0, rfl, ⟨by omega, by omega⟩, rfl, (by omega)⟩
                          · intro h84
                            refine wp_il2 jF_106_172 rfl rfl (pc2 := 174) ?_
                            refine wp_z_ne jF_106_174 (m_rgl rfl) rfl (pc2 := 177) ?_ ?_
                            · intro h85; exfalso; omega
                            · intro h85
                              refine wp_il2 jF_106_177 rfl rfl (pc2 := 179) ?_
                              refine wp_al1 jF_106_179 rfl rfl (pc2 := 180) ?_
                              refine wp_gr (b := 110) jF_106_180 kd109 (by decide) (c := 4) rfl rfl rfl (pc2 := 183) ?_
                              refine wp_il1 jF_106_183 rfl rfl (pc2 := 184) ?_
                              refine wp_iald (n := 60) (e := (σ.1 110 (num / 47).toNat)) jF_106_184 kd110 (by decide) rfl rfl (by omega) (by omega) rfl rfl (pc2 := 185) ?_
                              refine wp_i_ne jF_106_185 ⟨by omega, by omega⟩ (m_rgb b78 rfl) rfl (pc2 := 188) ?_ ?_
                              · intro h86
                                refine wp_al1 jF_106_190 rfl rfl (pc2 := 191) ?_
                                refine wp_il2 jF_106_191 rfl rfl (pc2 := 193) ?_
                                refine wp_z_eq jF_106_193 (m_rgl rfl) rfl (pc2 := 196) ?_ ?_
                                · intro h87
                                  refine wp_il1 jF_106_200 rfl rfl (pc2 := 201) ?_
                                  refine wp_ic jF_106_201 rfl (pc2 := 202) ?_
                                  refine wp_add jF_106_202 rfl (pc2 := 203) ?_
                                  refine wp_il2 jF_106_203 rfl rfl (pc2 := 205) ?_
                                  refine wp_cV (as := [iV ((num / 47) + 1), iV (σ.1 111 (num / 47).toNat)]) (rest := []) (a := 109) (mx := 5) (ci := 4) jF_106_205 kd109 (by decide) rfl rfl rfl rfl rfl (by omega) (by omega) rfl (pc2 := 208) ?_
                                  refine wp_use (m_109_r109 σ hg ((num / 47) + 1) (by omega) (by omega) (σ.1 111 (num / 47).toNat) (by omega) (by omega)  _ _ (by omega) (by omega)) ?_
                                  rintro _ _ ⟨z90, rfl, h91, rfl⟩
                                  show WP 106 208 [(0, .ref 109), (1, .ref 20), (2, iV num), (3, iV (num / 47)), (4, iV (num % 47)), (5, iV 0), (6, iV ((num % 47) - 1)), (7, iV (σ.1 111 (num / 47).toNat)), (8, iV (-1))] [iV z90] _ _ _ _
                                  refine wp_ri jF_106_208 (m_fitb (by omega) (by omega)) ?_
                                  exact ⟨z90, rfl, ⟨by omega, by omega⟩, rfl, (by omega)⟩
                                · intro h87; exfalso; omega
                              · intro h86; exfalso; omega
                        · intro h79
                          refine wp_ic jF_81_6 rfl (pc2 := 7) ?_
                          refine wp_go jF_81_7 ?_
                          refine wp_ri jF_81_11 rfl ?_
                          show WP 106 155 [(0, .ref 109), (1, .ref 20), (2, iV num), (3, iV (num / 47)), (4, iV (num % 47)), (5, iV 0), (6, iV ((num % 47) - 1)), (7, iV (σ.1 111 (num / 47).toNat)), (8, iV 0)] [iV 0, iV 0] _ _ _ _
                          refine wp_subx (c := 0) jF_106_155 rfl rfl (pc2 := 156) ?_
                          refine wp_is2 (lv2 := [(0, .ref 109), (1, .ref 20), (2, iV num), (3, iV (num / 47)), (4, iV (num % 47)), (5, iV 0), (6, iV ((num % 47) - 1)), (7, iV (σ.1 111 (num / 47).toNat)), (8, iV 0)]) jF_106_156 rfl rfl rfl (pc2 := 158) ?_
                          refine wp_al1 jF_106_158 rfl rfl (pc2 := 159) ?_
                          have b92 := GI.b hg 109 2 kd109 (lo := (-2147483648)) (hi := 2147483647) rfl
                          refine wp_gi jF_106_159 kd109 (by decide) rfl rfl rfl (pc2 := 162) ?_
                          refine wp_il2 jF_106_162 rfl rfl (pc2 := 164) ?_
                          refine wp_add jF_106_164 rfl (pc2 := 165) ?_
                          refine wp_al1 jF_106_165 rfl rfl (pc2 := 166) ?_
                          have b93 := GI.b hg 20 10 kd20 (lo := (-2147483648)) (hi := 2147483647) rfl
                          refine wp_gi jF_106_166 kd20 (by decide) rfl rfl rfl (pc2 := 169) ?_
                          refine wp_i_gt jF_106_169 ⟨by omega, by omega⟩ (m_rgb b93 rfl) rfl (pc2 := 172) ?_ ?_
                          · intro h94
                            refine wp_ic jF_106_188 rfl (pc2 := 189) ?_
                            refine wp_ri jF_106_189 rfl ?_
                            exact ⟨0, rfl, ⟨by omega, by omega⟩, rfl, (by omega)⟩
                          · intro h94
                            refine wp_il2 jF_106_172 rfl rfl (pc2 := 174) ?_
                            refine wp_z_ne jF_106_174 (m_rgl rfl) rfl (pc2 := 177) ?_ ?_
                            · intro h95; exfalso; omega
                            · intro h95
                              refine wp_il2 jF_106_177 rfl rfl (pc2 := 179) ?_
                              refine wp_al1 jF_106_179 rfl rfl (pc2 := 180) ?_
                              refine wp_gr (b := 110) jF_106_180 kd109 (by decide) (c := 4) rfl rfl rfl (pc2 := 183) ?_
                              refine wp_il1 jF_106_183 rfl rfl (pc2 := 184) ?_
                              refine wp_iald (n := 60) (e := (σ.1 110 (num / 47).toNat)) jF_106_184 kd110 (by decide) rfl rfl (by omega) (by omega) rfl rfl (pc2 := 185) ?_
                              refine wp_i_ne jF_106_185 ⟨by omega, by omega⟩ (m_rgb b78 rfl) rfl (pc2 := 188) ?_ ?_
                              · intro h96
                                refine wp_al1 jF_106_190 rfl rfl (pc2 := 191) ?_
                                refine wp_il2 jF_106_191 rfl rfl (pc2 := 193) ?_
                                refine wp_z_eq jF_106_193 (m_rgl rfl) rfl (pc2 := 196) ?_ ?_
                                · intro h97
                                  refine wp_il1 jF_106_200 rfl rfl (pc2 := 201) ?_
                                  refine wp_ic jF_106_201 rfl (pc2 := 202) ?_
                                  refine wp_add jF_106_202 rfl (pc2 := 203) ?_
                                  refine wp_il2 jF_106_203 rfl rfl (pc2 := 205) ?_
                                  refine wp_cV (as := [iV ((num / 47) + 1), iV (σ.1 111 (num / 47).toNat)]) (rest := []) (a := 109) (mx := 5) (ci := 4) jF_106_205 kd109 (by decide) rfl rfl rfl rfl rfl (by omega) (by omega) rfl (pc2 := 208) ?_
                                  refine wp_use (m_109_r109 σ hg ((num / 47) + 1) (by omega) (by omega) (σ.1 111 (num / 47).toNat) (by omega) (by omega)  _ _ (by omega) (by omega)) ?_
                                  rintro _ _ ⟨z100, rfl, h101, rfl⟩
                                  show WP 106 208 [(0, .ref 109), (1, .ref 20), (2, iV num), (3, iV (num / 47)), (4, iV (num % 47)), (5, iV 0), (6, iV ((num % 47) - 1)), (7, iV (σ.1 111 (num / 47).toNat)), (8, iV 0)] [iV z100] _ _ _ _
                                  refine wp_ri jF_106_208 (m_fitb (by omega) (by omega)) ?_
                                  exact ⟨z100, rfl, ⟨by omega, by omega⟩, rfl, (by omega)⟩
                                · intro h97; exfalso; omega
                              · intro h96; exfalso; omega
                  · intro h75; exfalso; omega
            · intro h7
              refine wp_ic jF_106_69 rfl (pc2 := 70) ?_
              refine wp_ri jF_106_70 rfl ?_
              exact ⟨0, rfl, ⟨by omega, by omega⟩, rfl, (by omega)⟩
          · intro h6; exfalso; omega
    · intro h2; exfalso; omega
  · intro h1
    refine wp_ic jF_106_18 rfl (pc2 := 19) ?_
    refine wp_go jF_106_19 ?_
    refine wp_is2 (lv2 := [(0, .ref 109), (1, .ref 20), (2, iV num), (3, iV (num / 47)), (4, iV (num % 47)), (5, iV 1)]) jF_106_23 rfl rfl rfl (pc2 := 25) ?_
    refine wp_il2 jF_106_25 rfl rfl (pc2 := 27) ?_
    refine wp_cS (as := [iV (num % 47)]) (rest := []) (mx := 1) jF_106_27 rfl rfl rfl rfl (by omega) (by omega) rfl (pc2 := 30) ?_
    show WP 107 0 [(0, iV (num % 47))] [] _ _ _ _
    refine wp_il1 jF_107_0 rfl rfl (pc2 := 1) ?_
    refine wp_bi jF_107_1 (by decide) rfl (pc2 := 3) ?_
    refine wp_i_lt jF_107_3 ⟨by omega, by omega⟩ (m_rgl rfl) rfl (pc2 := 6) ?_ ?_
    · intro h102; exfalso; omega
    · intro h102
      refine wp_il1 jF_107_6 rfl rfl (pc2 := 7) ?_
      refine wp_bi jF_107_7 (by decide) rfl (pc2 := 9) ?_
      refine wp_sub jF_107_9 rfl (pc2 := 10) ?_
      refine wp_go jF_107_10 ?_
      refine wp_ri jF_107_16 rfl ?_
      show WP 106 30 [(0, .ref 109), (1, .ref 20), (2, iV num), (3, iV (num / 47)), (4, iV (num % 47)), (5, iV 1)] [iV ((num % 47) - 24)] _ _ _ _
      refine wp_is2 (lv2 := [(0, .ref 109), (1, .ref 20), (2, iV num), (3, iV (num / 47)), (4, iV (num % 47)), (5, iV 1), (6, iV ((num % 47) - 24))]) jF_106_30 rfl rfl rfl (pc2 := 32) ?_
      refine wp_il1 jF_106_32 rfl rfl (pc2 := 33) ?_
      refine wp_z_lt jF_106_33 ⟨by omega, by omega⟩ rfl (pc2 := 36) ?_ ?_
      · intro h103; exfalso; omega
      · intro h103
        refine wp_il1 jF_106_36 rfl rfl (pc2 := 37) ?_
        refine wp_al1 jF_106_37 rfl rfl (pc2 := 38) ?_
        have b104 := GI.b hg 109 1 kd109 (lo := 0) (hi := 60) rfl
        refine wp_gi jF_106_38 kd109 (by decide) rfl rfl rfl (pc2 := 41) ?_
        refine wp_i_gt jF_106_41 ⟨by omega, by omega⟩ (m_rgb b104 rfl) rfl (pc2 := 44) ?_ ?_
        · intro h105
          refine wp_ic jF_106_69 rfl (pc2 := 70) ?_
          refine wp_ri jF_106_70 rfl ?_
          exact ⟨0, rfl, ⟨by omega, by omega⟩, rfl, (by omega)⟩
        · intro h105
          refine wp_il2 jF_106_44 rfl rfl (pc2 := 46) ?_
          refine wp_z_eq jF_106_46 (m_rgl rfl) rfl (pc2 := 49) ?_ ?_
          · intro h106; exfalso; omega
          · intro h106
            refine wp_al1 jF_106_49 rfl rfl (pc2 := 50) ?_
            refine wp_gi jF_106_50 kd109 (by decide) rfl rfl rfl (pc2 := 53) ?_
            refine wp_bi jF_106_53 (by decide) rfl (pc2 := 55) ?_
            refine wp_i_lt jF_106_55 (m_rgb b104 rfl) (m_rgl rfl) rfl (pc2 := 58) ?_ ?_
            · intro h107
              refine wp_il2 jF_106_71 rfl rfl (pc2 := 73) ?_
              refine wp_ic jF_106_73 rfl (pc2 := 74) ?_
              refine wp_i_ne jF_106_74 ⟨by omega, by omega⟩ (m_rgl rfl) rfl (pc2 := 77) ?_ ?_
              · intro h108
                refine wp_al1 jF_106_86 rfl rfl (pc2 := 87) ?_
                refine wp_gr (b := 111) jF_106_87 kd109 (by decide) (c := 5) rfl rfl rfl (pc2 := 90) ?_
                refine wp_il1 jF_106_90 rfl rfl (pc2 := 91) ?_
                have b109 := GI.b hg 111 (num / 47).toNat kd111 (lo := (-1)) (hi := 4) rfl
                refine wp_iald (n := 61) (e := (σ.1 111 (num / 47).toNat)) jF_106_91 kd111 (by decide) rfl rfl (by omega) (by omega) rfl rfl (pc2 := 92) ?_
                refine wp_il2 jF_106_92 rfl rfl (pc2 := 94) ?_
                refine wp_cS (as := [iV (σ.1 111 (num / 47).toNat), iV ((num % 47) - 24)]) (rest := []) (mx := 4) jF_106_94 rfl rfl rfl rfl (by omega) (by omega) rfl (pc2 := 97) ?_
                refine wp_use (m_78_r σ hg (σ.1 111 (num / 47).toNat) (by omega) (by omega) ((num % 47) - 24) (by omega) (by omega)  _ _ (by omega) (by omega)) ?_
                rintro _ _ ⟨z112, rfl, h113, rfl⟩
                show WP 106 97 [(0, .ref 109), (1, .ref 20), (2, iV num), (3, iV (num / 47)), (4, iV (num % 47)), (5, iV 1), (6, iV ((num % 47) - 24))] [iV z112] _ _ _ _
                refine wp_is2 (lv2 := [(0, .ref 109), (1, .ref 20), (2, iV num), (3, iV (num / 47)), (4, iV (num % 47)), (5, iV 1), (6, iV ((num % 47) - 24)), (7, iV z112)]) jF_106_97 rfl rfl rfl (pc2 := 99) ?_
                refine wp_il2 jF_106_99 rfl rfl (pc2 := 101) ?_
                refine wp_ic jF_106_101 rfl (pc2 := 102) ?_
                refine wp_i_eq jF_106_102 (m_rgb h113 rfl) (m_rgl rfl) rfl (pc2 := 105) ?_ ?_
                · intro h114
                  refine wp_ic jF_106_120 rfl (pc2 := 121) ?_
                  refine wp_ri jF_106_121 rfl ?_
                  exact ⟨0, rfl, ⟨by omega, by omega⟩, rfl, (by omega)⟩
                · intro h114
                  refine wp_il2 jF_106_105 rfl rfl (pc2 := 107) ?_
                  refine wp_ic jF_106_107 rfl (pc2 := 108) ?_
                  refine wp_i_eq jF_106_108 ⟨by omega, by omega⟩ (m_rgl rfl) rfl (pc2 := 111) ?_ ?_
                  · intro h115; exfalso; omega
                  · intro h115
                    refine wp_al1 jF_106_111 rfl rfl (pc2 := 112) ?_
                    refine wp_il2 jF_106_112 rfl rfl (pc2 := 114) ?_
                    refine wp_cV (as := [iV ((num % 47) - 24)]) (rest := []) (a := 20) (mx := 2) (ci := 8) jF_106_114 kd20 (by decide) rfl rfl rfl rfl rfl (by omega) (by omega) rfl (pc2 := 117) ?_
                    refine wp_use (m_108_r20 σ hg ((num % 47) - 24) (by omega) (by omega)  _ _ (by omega) (by omega)) ?_
                    rintro _ _ ⟨z118, rfl, h119, rfl⟩
                    show WP 106 117 [(0, .ref 109), (1, .ref 20), (2, iV num), (3, iV (num / 47)), (4, iV (num % 47)), (5, iV 1), (6, iV ((num % 47) - 24)), (7, iV z112)] [iV z118] _ _ _ _
                    refine wp_z_ne jF_106_117 (m_rgb h119 rfl) rfl (pc2 := 120) ?_ ?_
                    · intro h120
                      refine wp_il2 jF_106_122 rfl rfl (pc2 := 124) ?_
                      refine wp_ic jF_106_124 rfl (pc2 := 125) ?_
                      refine wp_i_ne jF_106_125 ⟨by omega, by omega⟩ (m_rgl rfl) rfl (pc2 := 128) ?_ ?_
                      · intro h121
                        refine wp_il2 jF_106_132 rfl rfl (pc2 := 134) ?_
                        refine wp_cS (as := [iV ((num % 47) - 24)]) (rest := []) (mx := 1) jF_106_134 rfl rfl rfl rfl (by omega) (by omega) rfl (pc2 := 137) ?_
                        show WP 81 0 [(0, iV ((num % 47) - 24))] [] _ _ _ _
                        refine wp_il1 jF_81_0 rfl rfl (pc2 := 1) ?_
                        refine wp_bi jF_81_1 (by decide) rfl (pc2 := 3) ?_
                        refine wp_i_ne jF_81_3 ⟨by omega, by omega⟩ (m_rgl rfl) rfl (pc2 := 6) ?_ ?_
                        · intro h122
                          refine wp_ic jF_81_10 rfl (pc2 := 11) ?_
                          refine wp_ri jF_81_11 rfl ?_
                          show WP 106 137 [(0, .ref 109), (1, .ref 20), (2, iV num), (3, iV (num / 47)), (4, iV (num % 47)), (5, iV 1), (6, iV ((num % 47) - 24)), (7, iV z112)] [iV 1] _ _ _ _
                          refine wp_is2 (lv2 := [(0, .ref 109), (1, .ref 20), (2, iV num), (3, iV (num / 47)), (4, iV (num % 47)), (5, iV 1), (6, iV ((num % 47) - 24)), (7, iV z112), (8, iV 1)]) jF_106_137 rfl rfl rfl (pc2 := 139) ?_
                          refine wp_il2 jF_106_139 rfl rfl (pc2 := 141) ?_
                          refine wp_z_ne jF_106_141 (m_rgl rfl) rfl (pc2 := 144) ?_ ?_
                          · intro h123
                            refine wp_al1 jF_106_158 rfl rfl (pc2 := 159) ?_
                            have b124 := GI.b hg 109 2 kd109 (lo := (-2147483648)) (hi := 2147483647) rfl
                            refine wp_gi jF_106_159 kd109 (by decide) rfl rfl rfl (pc2 := 162) ?_
                            refine wp_il2 jF_106_162 rfl rfl (pc2 := 164) ?_
                            refine wp_any2 (pc2 := 165) jF_106_164 rfl rfl ?_
                            intro z125 h126
                            refine wp_al1 jF_106_165 rfl rfl (pc2 := 166) ?_
                            have b127 := GI.b hg 20 10 kd20 (lo := (-2147483648)) (hi := 2147483647) rfl
                            refine wp_gi jF_106_166 kd20 (by decide) rfl rfl rfl (pc2 := 169) ?_
                            refine wp_i_gt jF_106_169 (m_rgb h126 rfl) (m_rgb b127 rfl) rfl (pc2 := 172) ?_ ?_
                            · intro h128
                              refine wp_ic jF_106_188 rfl (pc2 := 189) ?_
                              refine wp_ri jF_106_189 rfl ?_
                              exact ⟨0, rfl, ⟨by omega, by omega⟩, rfl, (by omega)⟩
                            · intro h128
                              refine wp_il2 jF_106_172 rfl rfl (pc2 := 174) ?_
                              refine wp_z_ne jF_106_174 (m_rgl rfl) rfl (pc2 := 177) ?_ ?_
                              · intro h129
                                refine wp_al1 jF_106_190 rfl rfl (pc2 := 191) ?_
                                refine wp_il2 jF_106_191 rfl rfl (pc2 := 193) ?_
                                refine wp_z_eq jF_106_193 (m_rgl rfl) rfl (pc2 := 196) ?_ ?_
                                · intro h130; exfalso; omega
                                · intro h130
                                  refine wp_il1 jF_106_196 rfl rfl (pc2 := 197) ?_
                                  refine wp_go jF_106_197 ?_
                                  refine wp_il2 jF_106_203 rfl rfl (pc2 := 205) ?_
                                  refine wp_cV (as := [iV (num / 47), iV z112]) (rest := []) (a := 109) (mx := 5) (ci := 4) jF_106_205 kd109 (by decide) rfl rfl rfl rfl rfl (by omega) (by omega) rfl (pc2 := 208) ?_
                                  refine wp_use (m_109_r109 σ hg (num / 47) (by omega) (by omega) z112 (by omega) (by omega)  _ _ (by omega) (by omega)) ?_
                                  rintro _ _ ⟨z133, rfl, h134, rfl⟩
                                  show WP 106 208 [(0, .ref 109), (1, .ref 20), (2, iV num), (3, iV (num / 47)), (4, iV (num % 47)), (5, iV 1), (6, iV ((num % 47) - 24)), (7, iV z112), (8, iV 1)] [iV z133] _ _ _ _
                                  refine wp_ri jF_106_208 (m_fitb (by omega) (by omega)) ?_
                                  exact ⟨z133, rfl, ⟨by omega, by omega⟩, rfl, (by omega)⟩
                              · intro h129; exfalso; omega
                          · intro h123; exfalso; omega
                        · intro h122
                          refine wp_ic jF_81_6 rfl (pc2 := 7) ?_
                          refine wp_go jF_81_7 ?_
                          refine wp_ri jF_81_11 rfl ?_
                          show WP 106 137 [(0, .ref 109), (1, .ref 20), (2, iV num), (3, iV (num / 47)), (4, iV (num % 47)), (5, iV 1), (6, iV ((num % 47) - 24)), (7, iV z112)] [iV 0] _ _ _ _
                          refine wp_is2 (lv2 := [(0, .ref 109), (1, .ref 20), (2, iV num), (3, iV (num / 47)), (4, iV (num % 47)), (5, iV 1), (6, iV ((num % 47) - 24)), (7, iV z112), (8, iV 0)]) jF_106_137 rfl rfl rfl (pc2 := 139) ?_
                          refine wp_il2 jF_106_139 rfl rfl (pc2 := 141) ?_
                          refine wp_z_ne jF_106_141 (m_rgl rfl) rfl (pc2 := 144) ?_ ?_
                          · intro h135
                            refine wp_al1 jF_106_158 rfl rfl (pc2 := 159) ?_
                            have b136 := GI.b hg 109 2 kd109 (lo := (-2147483648)) (hi := 2147483647) rfl
                            refine wp_gi jF_106_159 kd109 (by decide) rfl rfl rfl (pc2 := 162) ?_
                            refine wp_il2 jF_106_162 rfl rfl (pc2 := 164) ?_
                            refine wp_add jF_106_164 rfl (pc2 := 165) ?_
                            refine wp_al1 jF_106_165 rfl rfl (pc2 := 166) ?_
                            have b137 := GI.b hg 20 10 kd20 (lo := (-2147483648)) (hi := 2147483647) rfl
                            refine wp_gi jF_106_166 kd20 (by decide) rfl rfl rfl (pc2 := 169) ?_
                            refine wp_i_gt jF_106_169 ⟨by omega, by omega⟩ (m_rgb b137 rfl) rfl (pc2 := 172) ?_ ?_
                            · intro h138
                              refine wp_ic jF_106_188 rfl (pc2 := 189) ?_
                              refine wp_ri jF_106_189 rfl ?_
                              exact ⟨0, rfl, ⟨by omega, by omega⟩, rfl, (by omega)⟩
                            · intro h138
                              refine wp_il2 jF_106_172 rfl rfl (pc2 := 174) ?_
                              refine wp_z_ne jF_106_174 (m_rgl rfl) rfl (pc2 := 177) ?_ ?_
                              · intro h139
                                refine wp_al1 jF_106_190 rfl rfl (pc2 := 191) ?_
                                refine wp_il2 jF_106_191 rfl rfl (pc2 := 193) ?_
                                refine wp_z_eq jF_106_193 (m_rgl rfl) rfl (pc2 := 196) ?_ ?_
                                · intro h140; exfalso; omega
                                · intro h140
                                  refine wp_il1 jF_106_196 rfl rfl (pc2 := 197) ?_
                                  refine wp_go jF_106_197 ?_
                                  refine wp_il2 jF_106_203 rfl rfl (pc2 := 205) ?_
                                  refine wp_cV (as := [iV (num / 47), iV z112]) (rest := []) (a := 109) (mx := 5) (ci := 4) jF_106_205 kd109 (by decide) rfl rfl rfl rfl rfl (by omega) (by omega) rfl (pc2 := 208) ?_
                                  refine wp_use (m_109_r109 σ hg (num / 47) (by omega) (by omega) z112 (by omega) (by omega)  _ _ (by omega) (by omega)) ?_
                                  rintro _ _ ⟨z143, rfl, h144, rfl⟩
                                  show WP 106 208 [(0, .ref 109), (1, .ref 20), (2, iV num), (3, iV (num / 47)), (4, iV (num % 47)), (5, iV 1), (6, iV ((num % 47) - 24)), (7, iV z112), (8, iV 0)] [iV z143] _ _ _ _
                                  refine wp_ri jF_106_208 (m_fitb (by omega) (by omega)) ?_
                                  exact ⟨z143, rfl, ⟨by omega, by omega⟩, rfl, (by omega)⟩
                              · intro h139; exfalso; omega
                          · intro h135; exfalso; omega
                      · intro h121; exfalso; omega
                    · intro h120
                      refine wp_ic jF_106_120 rfl (pc2 := 121) ?_
                      refine wp_ri jF_106_121 rfl ?_
                      exact ⟨0, rfl, ⟨by omega, by omega⟩, rfl, (by omega)⟩
              · intro h108; exfalso; omega
            · intro h107
              refine wp_go jF_106_58 ?_
              refine wp_ic jF_106_69 rfl (pc2 := 70) ?_
              refine wp_ri jF_106_70 rfl ?_
              exact ⟨0, rfl, ⟨by omega, by omega⟩, rfl, (by omega)⟩
