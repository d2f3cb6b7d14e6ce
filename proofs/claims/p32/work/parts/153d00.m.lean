set_option maxHeartbeats 4000000 in
set_option maxRecDepth 20000 in
/-- M.way -/
theorem m_301 (σ : jM) (hg : GI σ)  (pre0 : (σ.1 143 4) ≤ 8) (fr lo : Nat) (hfr : 5 ≤ fr) (hlo : 123 ≤ lo) : WP 301 0 (lv_args 0 [.ref 117]) [] fr lo σ (fun v τ => ∃ z : Int, v = some (iV z) ∧ ((-2147483648) ≤ z ∧ z ≤ 2147483647) ∧ GI τ ∧ FR Wway σ τ) := by
  show WP 301 0 [(0, .ref 117)] [] _ _ _ _
  refine wp_al1 jF_301_0 rfl rfl (pc2 := 1) ?_
  refine wp_ic jF_301_1 rfl (pc2 := 2) ?_
  refine wp_cV (as := [iV 0]) (rest := []) (a := 117) (mx := 3) (ci := 12) jF_301_2 kd117 (by decide) rfl rfl rfl rfl rfl (by omega) (by omega) rfl (pc2 := 5) ?_
  have b1 := GI.b hg 148 0 kd148 (lo := 0) (hi := 60) rfl
  refine wp_use (m_271_0 σ hg   _ _ (by omega) (by omega)) ?_
  rintro _ τ4 ⟨rfl, g5, f6, p2, p3⟩
  show WP 301 5 [(0, .ref 117)] [] _ _ _ _
  refine wp_al1 jF_301_5 rfl rfl (pc2 := 6) ?_
  refine wp_cV (as := []) (rest := []) (a := 117) (mx := 2) (ci := 12) jF_301_6 kd117 (by decide) rfl rfl rfl rfl rfl (by omega) (by omega) rfl (pc2 := 9) ?_
  have b7 := GI.b g5 117 49 kd117 (lo := 0) (hi := 61) rfl
  refine wp_use (m_302 τ4 g5   _ _ (by omega) (by omega)) ?_
  rintro _ τ9 ⟨rfl, g10, f11, p8⟩
  show WP 301 9 [(0, .ref 117)] [] _ _ _ _
  refine wp_al1 jF_301_9 rfl rfl (pc2 := 10) ?_
  refine wp_ic jF_301_10 rfl (pc2 := 11) ?_
  refine wp_cV (as := [iV 1]) (rest := []) (a := 117) (mx := 3) (ci := 12) jF_301_11 kd117 (by decide) rfl rfl rfl rfl rfl (by omega) (by omega) rfl (pc2 := 14) ?_
  have q12 : (l1 τ9) = (l1 σ) := ((l1_fr f11 rfl (fun _ => rfl)).trans (l1_fr f6 rfl (fun _ => rfl)))
  have b13 := GI.b hg 148 1 kd148 (lo := 0) (hi := 60) rfl
  have q14 : (τ9.1 148 1) = (σ.1 148 1) := ((FR.at f11 148 1 rfl).trans (FR.at f6 148 1 rfl))
  refine wp_use (m_271_1 τ9 g10   _ _ (by omega) (by omega)) ?_
  rintro _ τ17 ⟨rfl, g18, f19, p15, p16⟩
  show WP 301 14 [(0, .ref 117)] [] _ _ _ _
  refine wp_al1 jF_301_14 rfl rfl (pc2 := 15) ?_
  refine wp_cV (as := []) (rest := []) (a := 117) (mx := 5) (ci := 12) jF_301_15 kd117 (by decide) rfl rfl rfl rfl rfl (by omega) (by omega) rfl (pc2 := 18) ?_
  refine wp_use (m_303 τ17 g18   _ _ (by omega) (by omega)) ?_
  rintro _ _ ⟨z22, rfl, h23, rfl⟩
  show WP 301 18 [(0, .ref 117)] [iV z22] _ _ _ _
  refine wp_is1 (lv2 := [(0, .ref 117), (1, iV z22)]) jF_301_18 rfl rfl rfl (pc2 := 19) ?_
  refine wp_il1 jF_301_19 rfl rfl (pc2 := 20) ?_
  refine wp_z_ne jF_301_20 (m_rgb h23 rfl) rfl (pc2 := 23) ?_ ?_
  · intro h24
    refine wp_al1 jF_301_25 rfl rfl (pc2 := 26) ?_
    refine wp_gr (b := 148) jF_301_26 kd117 (by decide) (c := 248) rfl rfl rfl (pc2 := 29) ?_
    refine wp_ic jF_301_29 rfl (pc2 := 30) ?_
    refine wp_iald (n := 2) (e := (σ.1 148 0)) jF_301_30 kd148 (by decide) rfl rfl (by omega) (by omega) ((FR.at f19 148 0 rfl).trans ((FR.at f11 148 0 rfl).trans (FR.at f6 148 0 rfl))) rfl (pc2 := 31) ?_
    refine wp_bi jF_301_31 (by decide) rfl (pc2 := 33) ?_
    refine wp_i_gt jF_301_33 (m_rgb b1 rfl) (m_rgl rfl) rfl (pc2 := 36) ?_ ?_
    · intro h25
      refine wp_ic jF_301_54 rfl (pc2 := 55) ?_
      refine wp_ri jF_301_55 rfl ?_
      exact ⟨(-1), rfl, ⟨by omega, by omega⟩, g18, (FR.up (FR.up (FR.up FR.rf f6 sb_Wtr_Wway) f11 sb_Was_Wway) f19 sb_Wtr_Wway)⟩
    · intro h25
      refine wp_al1 jF_301_36 rfl rfl (pc2 := 37) ?_
      refine wp_gr (b := 148) jF_301_37 kd117 (by decide) (c := 248) rfl rfl rfl (pc2 := 40) ?_
      refine wp_ic jF_301_40 rfl (pc2 := 41) ?_
      refine wp_iald (n := 2) (e := (σ.1 148 1)) jF_301_41 kd148 (by decide) rfl rfl (by omega) (by omega) ((FR.at f19 148 1 rfl).trans ((FR.at f11 148 1 rfl).trans (FR.at f6 148 1 rfl))) rfl (pc2 := 42) ?_
      refine wp_bi jF_301_42 (by decide) rfl (pc2 := 44) ?_
      refine wp_i_gt jF_301_44 (m_rgb b13 rfl) (m_rgl rfl) rfl (pc2 := 47) ?_ ?_
      · intro h26
        refine wp_ic jF_301_54 rfl (pc2 := 55) ?_
        refine wp_ri jF_301_55 rfl ?_
        exact ⟨(-1), rfl, ⟨by omega, by omega⟩, g18, (FR.up (FR.up (FR.up FR.rf f6 sb_Wtr_Wway) f11 sb_Was_Wway) f19 sb_Wtr_Wway)⟩
      · intro h26
        refine wp_al1 jF_301_47 rfl rfl (pc2 := 48) ?_
        refine wp_cV (as := []) (rest := []) (a := 117) (mx := 1) (ci := 12) jF_301_48 kd117 (by decide) rfl rfl rfl rfl rfl (by omega) (by omega) rfl (pc2 := 51) ?_
        have b27 := GI.b g18 117 49 kd117 (lo := 0) (hi := 61) rfl
        have b28 := GI.b hg 143 4 kd143 (lo := 0) (hi := 16) rfl
        have q29 : (τ17.1 143 4) = (σ.1 143 4) := ((FR.at f19 143 4 rfl).trans ((FR.at f11 143 4 rfl).trans (FR.at f6 143 4 rfl)))
        refine wp_use (m_290 τ17 g18  (by omega) _ _ (by omega) (by omega)) ?_
        rintro _ _ ⟨z33, rfl, h34, rfl, p30⟩
        show WP 301 51 [(0, .ref 117), (1, iV z22)] [iV z33] _ _ _ _
        refine wp_z_ne jF_301_51 (m_rgb h34 rfl) rfl (pc2 := 54) ?_ ?_
        · intro h35
          replace p30 := p30 (by omega)
          refine wp_il1 jF_301_56 rfl rfl (pc2 := 57) ?_
          refine wp_ic jF_301_57 rfl (pc2 := 58) ?_
          refine wp_i_ne jF_301_58 ⟨by omega, by omega⟩ (m_rgl rfl) rfl (pc2 := 61) ?_ ?_
          · intro h36
            refine wp_al1 jF_301_63 rfl rfl (pc2 := 64) ?_
            refine wp_cV (as := []) (rest := []) (a := 117) (mx := 4) (ci := 12) jF_301_64 kd117 (by decide) rfl rfl rfl rfl rfl (by omega) (by omega) rfl (pc2 := 67) ?_
            refine wp_use (m_304 τ17 g18  (by omega) _ _ (by omega) (by omega)) ?_
            rintro _ τ38 ⟨rfl, g39, f40, p37⟩
            show WP 301 67 [(0, .ref 117), (1, iV z22)] [] _ _ _ _
            refine wp_ic jF_301_67 rfl (pc2 := 68) ?_
            refine wp_is1 (lv2 := [(0, .ref 117), (1, iV z22), (2, iV 0)]) jF_301_68 rfl rfl rfl (pc2 := 69) ?_
            refine wp_loop (α := Int) (fun a => [(0, .ref 117), (1, iV z22), (2, iV (a))]) (fun a τ => (0 ≤ a ∧ a ≤ 2900) ∧ GI τ ∧ FR Wtr τ38 τ) (fun a τ => Int.toNat (2900 - (a))) (0) τ38 ?_ ?_
            · skip
              exact ⟨⟨by omega, by omega⟩, g39, FR.rf⟩
            · rintro x41 τ43 ⟨h42, g44, f45⟩ ih46
              show WP 301 69 [(0, .ref 117), (1, iV z22), (2, iV x41)] [] _ _ _ _
              show WP 301 69 [(0, .ref 117), (1, iV z22), (2, iV x41)] [] _ _ _ _
              refine wp_il1 jF_301_69 rfl rfl (pc2 := 70) ?_
              refine wp_al1 jF_301_70 rfl rfl (pc2 := 71) ?_
              have b47 := GI.b g39 117 63 kd117 (lo := 0) (hi := 2900) rfl
              refine wp_gi jF_301_71 kd117 (by decide) rfl (FR.at f45 117 63 rfl) rfl (pc2 := 74) ?_
              refine wp_i_ge jF_301_74 (m_rgb h42 rfl) (m_rgb b47 rfl) rfl (pc2 := 77) ?_ ?_
              · intro h48
                refine wp_ic jF_301_107 rfl (pc2 := 108) ?_
                refine wp_is1 (lv2 := [(0, .ref 117), (1, iV z22), (2, iV 0)]) jF_301_108 rfl rfl rfl (pc2 := 109) ?_
                refine wp_loop (α := Int) (fun a => [(0, .ref 117), (1, iV z22), (2, iV (a))]) (fun a τ => (0 ≤ a ∧ a ≤ 3) ∧ GI τ ∧ FR Wway τ43 τ) (fun a τ => Int.toNat (3 - (a))) (0) τ43 ?_ ?_
                · skip
                  exact ⟨⟨by omega, by omega⟩, g44, FR.rf⟩
                · rintro x49 τ51 ⟨h50, g52, f53⟩ ih54
                  show WP 301 109 [(0, .ref 117), (1, iV z22), (2, iV x49)] [] _ _ _ _
                  show WP 301 109 [(0, .ref 117), (1, iV z22), (2, iV x49)] [] _ _ _ _
                  refine wp_il1 jF_301_109 rfl rfl (pc2 := 110) ?_
                  refine wp_ic jF_301_110 rfl (pc2 := 111) ?_
                  refine wp_i_ge jF_301_111 (m_rgb h50 rfl) (m_rgl rfl) rfl (pc2 := 114) ?_ ?_
                  · intro h55
                    refine wp_ic jF_301_198 rfl (pc2 := 199) ?_
                    refine wp_ri jF_301_199 rfl ?_
                    exact ⟨(-1), rfl, ⟨by omega, by omega⟩, g52, (FR.up (FR.up (FR.up (FR.up (FR.up (FR.up FR.rf f6 sb_Wtr_Wway) f11 sb_Was_Wway) f19 sb_Wtr_Wway) f40 sb_Wch_Wway) f45 sb_Wtr_Wway) f53 sb_Wway_Wway)⟩
                  · intro h55
                    refine wp_ic jF_301_114 rfl (pc2 := 115) ?_
                    refine wp_is1 (lv2 := [(0, .ref 117), (1, iV z22), (2, iV x49), (3, iV 0)]) jF_301_115 rfl rfl rfl (pc2 := 116) ?_
                    refine wp_loop (α := Int) (fun a => [(0, .ref 117), (1, iV z22), (2, iV x49), (3, iV (a))]) (fun a τ => (0 ≤ a ∧ a ≤ 61) ∧ GI τ ∧ FR Wway τ51 τ) (fun a τ => Int.toNat (61 - (a))) (0) τ51 ?_ ?_
                    · skip
                      exact ⟨⟨by omega, by omega⟩, g52, FR.rf⟩
                    · rintro x56 τ58 ⟨h57, g59, f60⟩ ih61
                      show WP 301 116 [(0, .ref 117), (1, iV z22), (2, iV x49), (3, iV x56)] [] _ _ _ _
                      show WP 301 116 [(0, .ref 117), (1, iV z22), (2, iV x49), (3, iV x56)] [] _ _ _ _
                      refine wp_il1 jF_301_116 rfl rfl (pc2 := 117) ?_
                      refine wp_al1 jF_301_117 rfl rfl (pc2 := 118) ?_
                      refine wp_gr (b := 148) jF_301_118 kd117 (by decide) (c := 248) rfl rfl rfl (pc2 := 121) ?_
                      refine wp_ic jF_301_121 rfl (pc2 := 122) ?_
                      refine wp_iald (n := 2) (e := (σ.1 148 0)) jF_301_122 kd148 (by decide) rfl rfl (by omega) (by omega) ((FR.at f60 148 0 rfl).trans ((FR.at f53 148 0 rfl).trans ((FR.at f45 148 0 rfl).trans ((FR.at f40 148 0 rfl).trans ((FR.at f19 148 0 rfl).trans ((FR.at f11 148 0 rfl).trans (FR.at f6 148 0 rfl))))))) rfl (pc2 := 123) ?_
                      refine wp_i_gt jF_301_123 (m_rgb h57 rfl) (m_rgb b1 rfl) rfl (pc2 := 126) ?_ ?_
                      · intro h62
                        refine wp_inc (lv2 := [(0, .ref 117), (1, iV z22), (2, iV (x49 + 1)), (3, iV x56)]) jF_301_192 rfl rfl rfl rfl (pc2 := 195) ?_
                        refine wp_go jF_301_195 ?_
                        refine wp_less [0, 1, 2] (lv2 := [(0, .ref 117), (1, iV z22), (2, iV (x49 + 1))]) rfl rfl ?_
                        exact ih54 ((x49 + 1)) τ58 ⟨⟨by omega, by omega⟩, g59, (FR.up f53 f60 sb_Wway_Wway)⟩ (by show Int.toNat (3 - (x49 + 1)) < Int.toNat (3 - x49); omega)
                      · intro h62
                        refine wp_ic jF_301_126 rfl (pc2 := 127) ?_
                        refine wp_is2 (lv2 := [(0, .ref 117), (1, iV z22), (2, iV x49), (3, iV x56), (4, iV 0)]) jF_301_127 rfl rfl rfl (pc2 := 129) ?_
                        refine wp_loop (α := Int) (fun a => [(0, .ref 117), (1, iV z22), (2, iV x49), (3, iV x56), (4, iV (a))]) (fun a τ => (0 ≤ a ∧ a ≤ 23) ∧ GI τ ∧ FR Wway τ58 τ) (fun a τ => Int.toNat (23 - (a))) (0) τ58 ?_ ?_
                        · skip
                          exact ⟨⟨by omega, by omega⟩, g59, FR.rf⟩
                        · rintro x63 τ65 ⟨h64, g66, f67⟩ ih68
                          show WP 301 129 [(0, .ref 117), (1, iV z22), (2, iV x49), (3, iV x56), (4, iV x63)] [] _ _ _ _
                          show WP 301 129 [(0, .ref 117), (1, iV z22), (2, iV x49), (3, iV x56), (4, iV x63)] [] _ _ _ _
                          refine wp_il2 jF_301_129 rfl rfl (pc2 := 131) ?_
                          refine wp_il1 jF_301_131 rfl rfl (pc2 := 132) ?_
                          refine wp_ic jF_301_132 rfl (pc2 := 133) ?_
                          refine wp_i_ne jF_301_133 ⟨by omega, by omega⟩ (m_rgl rfl) rfl (pc2 := 136) ?_ ?_
                          · intro h69
                            refine wp_bi jF_301_140 (by decide) rfl (pc2 := 142) ?_
                            refine wp_i_ge jF_301_142 (m_rgb h64 rfl) (m_rgl rfl) rfl (pc2 := 145) ?_ ?_
                            · intro h70
                              refine wp_inc (lv2 := [(0, .ref 117), (1, iV z22), (2, iV x49), (3, iV (x56 + 1)), (4, iV x63)]) jF_301_186 rfl rfl rfl rfl (pc2 := 189) ?_
                              refine wp_go jF_301_189 ?_
                              refine wp_less [0, 1, 2, 3] (lv2 := [(0, .ref 117), (1, iV z22), (2, iV x49), (3, iV (x56 + 1))]) rfl rfl ?_
                              exact ih61 ((x56 + 1)) τ65 ⟨⟨by omega, by omega⟩, g66, (FR.up f60 f67 sb_Wway_Wway)⟩ (by show Int.toNat (61 - (x56 + 1)) < Int.toNat (61 - x56); omega)
                            · intro h70
                              refine wp_al1 jF_301_145 rfl rfl (pc2 := 146) ?_
                              refine wp_ic jF_301_146 rfl (pc2 := 147) ?_
                              refine wp_il1 jF_301_147 rfl rfl (pc2 := 148) ?_
                              refine wp_il1 jF_301_148 rfl rfl (pc2 := 149) ?_
                              refine wp_il2 jF_301_149 rfl rfl (pc2 := 151) ?_
                              refine wp_cV (as := [iV 0, iV x49, iV x56, iV x63]) (rest := []) (a := 117) (mx := 5) (ci := 12) jF_301_151 kd117 (by decide) rfl rfl rfl rfl rfl (by omega) (by omega) rfl (pc2 := 154) ?_
                              refine wp_use (m_288_0 τ65 g66 x49 (by omega) (by omega) x56 (by omega) (by omega) x63 (by omega) (by omega)  _ _ (by omega) (by omega)) ?_
                              rintro _ τ71 ⟨z74, rfl, h75, g72, f73⟩
                              show WP 301 154 [(0, .ref 117), (1, iV z22), (2, iV x49), (3, iV x56), (4, iV x63)] [iV z74] _ _ _ _
                              refine wp_z_eq jF_301_154 (m_rgb h75 rfl) rfl (pc2 := 157) ?_ ?_
                              · intro h76
                                refine wp_inc (lv2 := [(0, .ref 117), (1, iV z22), (2, iV x49), (3, iV x56), (4, iV (x63 + 1))]) jF_301_180 rfl rfl rfl rfl (pc2 := 183) ?_
                                refine wp_go jF_301_183 ?_
                                exact ih68 ((x63 + 1)) τ71 ⟨⟨by omega, by omega⟩, g72, (FR.up f67 f73 sb_Wtr_Wway)⟩ (by show Int.toNat (23 - (x63 + 1)) < Int.toNat (23 - x63); omega)
                              · intro h76
                                refine wp_al1 jF_301_157 rfl rfl (pc2 := 158) ?_
                                refine wp_cV (as := []) (rest := []) (a := 117) (mx := 1) (ci := 12) jF_301_158 kd117 (by decide) rfl rfl rfl rfl rfl (by omega) (by omega) rfl (pc2 := 161) ?_
                                have b77 := GI.b g72 117 49 kd117 (lo := 0) (hi := 61) rfl
                                have q78 : (τ71.1 143 4) = (σ.1 143 4) := ((FR.at f73 143 4 rfl).trans ((FR.at f67 143 4 rfl).trans ((FR.at f60 143 4 rfl).trans ((FR.at f53 143 4 rfl).trans ((FR.at f45 143 4 rfl).trans ((FR.at f40 143 4 rfl).trans ((FR.at f19 143 4 rfl).trans ((FR.at f11 143 4 rfl).trans (FR.at f6 143 4 rfl)))))))))
                                refine wp_use (m_290 τ71 g72  (by omega) _ _ (by omega) (by omega)) ?_
                                rintro _ _ ⟨z82, rfl, h83, rfl, p79⟩
                                show WP 301 161 [(0, .ref 117), (1, iV z22), (2, iV x49), (3, iV x56), (4, iV x63)] [iV z82] _ _ _ _
                                refine wp_z_ne jF_301_161 (m_rgb h83 rfl) rfl (pc2 := 164) ?_ ?_
                                · intro h84
                                  replace p79 := p79 (by omega)
                                  refine wp_al1 jF_301_167 rfl rfl (pc2 := 168) ?_
                                  refine wp_cV (as := []) (rest := []) (a := 117) (mx := 2) (ci := 12) jF_301_168 kd117 (by decide) rfl rfl rfl rfl rfl (by omega) (by omega) rfl (pc2 := 171) ?_
                                  refine wp_use (m_302 τ71 g72   _ _ (by omega) (by omega)) ?_
                                  rintro _ τ86 ⟨rfl, g87, f88, p85⟩
                                  show WP 301 171 [(0, .ref 117), (1, iV z22), (2, iV x49), (3, iV x56), (4, iV x63)] [] _ _ _ _
                                  refine wp_al1 jF_301_171 rfl rfl (pc2 := 172) ?_
                                  refine wp_cV (as := []) (rest := []) (a := 117) (mx := 2) (ci := 12) jF_301_172 kd117 (by decide) rfl rfl rfl rfl rfl (by omega) (by omega) rfl (pc2 := 175) ?_
                                  refine wp_use (m_307 τ86 g87   _ _ (by omega) (by omega)) ?_
                                  rintro _ τ89 ⟨z92, rfl, h93, g90, f91⟩
                                  show WP 301 175 [(0, .ref 117), (1, iV z22), (2, iV x49), (3, iV x56), (4, iV x63)] [iV z92] _ _ _ _
                                  refine wp_z_eq jF_301_175 (m_rgb h93 rfl) rfl (pc2 := 178) ?_ ?_
                                  · intro h94
                                    refine wp_inc (lv2 := [(0, .ref 117), (1, iV z22), (2, iV x49), (3, iV x56), (4, iV (x63 + 1))]) jF_301_180 rfl rfl rfl rfl (pc2 := 183) ?_
                                    refine wp_go jF_301_183 ?_
                                    exact ih68 ((x63 + 1)) τ89 ⟨⟨by omega, by omega⟩, g90, (FR.up (FR.up (FR.up f67 f73 sb_Wtr_Wway) f88 sb_Was_Wway) f91 sb_Wtr_Wway)⟩ (by show Int.toNat (23 - (x63 + 1)) < Int.toNat (23 - x63); omega)
                                  · intro h94
                                    refine wp_ic jF_301_178 rfl (pc2 := 179) ?_
                                    refine wp_ri jF_301_179 rfl ?_
                                    exact ⟨3, rfl, ⟨by omega, by omega⟩, g90, (FR.up (FR.up (FR.up (FR.up (FR.up (FR.up (FR.up (FR.up (FR.up (FR.up (FR.up FR.rf f6 sb_Wtr_Wway) f11 sb_Was_Wway) f19 sb_Wtr_Wway) f40 sb_Wch_Wway) f45 sb_Wtr_Wway) f53 sb_Wway_Wway) f60 sb_Wway_Wway) f67 sb_Wway_Wway) f73 sb_Wtr_Wway) f88 sb_Was_Wway) f91 sb_Wtr_Wway)⟩
                                · intro h84
                                  clear p79
                                  refine wp_go jF_301_164 ?_
                                  refine wp_inc (lv2 := [(0, .ref 117), (1, iV z22), (2, iV x49), (3, iV x56), (4, iV (x63 + 1))]) jF_301_180 rfl rfl rfl rfl (pc2 := 183) ?_
                                  refine wp_go jF_301_183 ?_
                                  exact ih68 ((x63 + 1)) τ71 ⟨⟨by omega, by omega⟩, g72, (FR.up f67 f73 sb_Wtr_Wway)⟩ (by show Int.toNat (23 - (x63 + 1)) < Int.toNat (23 - x63); omega)
                          · intro h69
                            refine wp_ic jF_301_136 rfl (pc2 := 137) ?_
                            refine wp_go jF_301_137 ?_
                            refine wp_i_ge jF_301_142 (m_rgb h64 rfl) (m_rgl rfl) rfl (pc2 := 145) ?_ ?_
                            · intro h95
                              refine wp_inc (lv2 := [(0, .ref 117), (1, iV z22), (2, iV x49), (3, iV (x56 + 1)), (4, iV x63)]) jF_301_186 rfl rfl rfl rfl (pc2 := 189) ?_
                              refine wp_go jF_301_189 ?_
                              refine wp_less [0, 1, 2, 3] (lv2 := [(0, .ref 117), (1, iV z22), (2, iV x49), (3, iV (x56 + 1))]) rfl rfl ?_
                              exact ih61 ((x56 + 1)) τ65 ⟨⟨by omega, by omega⟩, g66, (FR.up f60 f67 sb_Wway_Wway)⟩ (by show Int.toNat (61 - (x56 + 1)) < Int.toNat (61 - x56); omega)
                            · intro h95
                              refine wp_al1 jF_301_145 rfl rfl (pc2 := 146) ?_
                              refine wp_ic jF_301_146 rfl (pc2 := 147) ?_
                              refine wp_il1 jF_301_147 rfl rfl (pc2 := 148) ?_
                              refine wp_il1 jF_301_148 rfl rfl (pc2 := 149) ?_
                              refine wp_il2 jF_301_149 rfl rfl (pc2 := 151) ?_
                              refine wp_cV (as := [iV 0, iV x49, iV x56, iV x63]) (rest := []) (a := 117) (mx := 5) (ci := 12) jF_301_151 kd117 (by decide) rfl rfl rfl rfl rfl (by omega) (by omega) rfl (pc2 := 154) ?_
                              refine wp_use (m_288_0 τ65 g66 x49 (by omega) (by omega) x56 (by omega) (by omega) x63 (by omega) (by omega)  _ _ (by omega) (by omega)) ?_
                              rintro _ τ96 ⟨z99, rfl, h100, g97, f98⟩
                              show WP 301 154 [(0, .ref 117), (1, iV z22), (2, iV x49), (3, iV x56), (4, iV x63)] [iV z99] _ _ _ _
                              refine wp_z_eq jF_301_154 (m_rgb h100 rfl) rfl (pc2 := 157) ?_ ?_
                              · intro h101
                                refine wp_inc (lv2 := [(0, .ref 117), (1, iV z22), (2, iV x49), (3, iV x56), (4, iV (x63 + 1))]) jF_301_180 rfl rfl rfl rfl (pc2 := 183) ?_
                                refine wp_go jF_301_183 ?_
                                exact ih68 ((x63 + 1)) τ96 ⟨⟨by omega, by omega⟩, g97, (FR.up f67 f98 sb_Wtr_Wway)⟩ (by show Int.toNat (23 - (x63 + 1)) < Int.toNat (23 - x63); omega)
                              · intro h101
                                refine wp_al1 jF_301_157 rfl rfl (pc2 := 158) ?_
                                refine wp_cV (as := []) (rest := []) (a := 117) (mx := 1) (ci := 12) jF_301_158 kd117 (by decide) rfl rfl rfl rfl rfl (by omega) (by omega) rfl (pc2 := 161) ?_
                                have b102 := GI.b g97 117 49 kd117 (lo := 0) (hi := 61) rfl
                                have q103 : (τ96.1 143 4) = (σ.1 143 4) := ((FR.at f98 143 4 rfl).trans ((FR.at f67 143 4 rfl).trans ((FR.at f60 143 4 rfl).trans ((FR.at f53 143 4 rfl).trans ((FR.at f45 143 4 rfl).trans ((FR.at f40 143 4 rfl).trans ((FR.at f19 143 4 rfl).trans ((FR.at f11 143 4 rfl).trans (FR.at f6 143 4 rfl)))))))))
                                refine wp_use (m_290 τ96 g97  (by omega) _ _ (by omega) (by omega)) ?_
                                rintro _ _ ⟨z107, rfl, h108, rfl, p104⟩
                                show WP 301 161 [(0, .ref 117), (1, iV z22), (2, iV x49), (3, iV x56), (4, iV x63)] [iV z107] _ _ _ _
                                refine wp_z_ne jF_301_161 (m_rgb h108 rfl) rfl (pc2 := 164) ?_ ?_
                                · intro h109
                                  replace p104 := p104 (by omega)
                                  refine wp_al1 jF_301_167 rfl rfl (pc2 := 168) ?_
                                  refine wp_cV (as := []) (rest := []) (a := 117) (mx := 2) (ci := 12) jF_301_168 kd117 (by decide) rfl rfl rfl rfl rfl (by omega) (by omega) rfl (pc2 := 171) ?_
                                  refine wp_use (m_302 τ96 g97   _ _ (by omega) (by omega)) ?_
                                  rintro _ τ111 ⟨rfl, g112, f113, p110⟩
                                  show WP 301 171 [(0, .ref 117), (1, iV z22), (2, iV x49), (3, iV x56), (4, iV x63)] [] _ _ _ _
                                  refine wp_al1 jF_301_171 rfl rfl (pc2 := 172) ?_
                                  refine wp_cV (as := []) (rest := []) (a := 117) (mx := 2) (ci := 12) jF_301_172 kd117 (by decide) rfl rfl rfl rfl rfl (by omega) (by omega) rfl (pc2 := 175) ?_
                                  refine wp_use (m_307 τ111 g112   _ _ (by omega) (by omega)) ?_
                                  rintro _ τ114 ⟨z117, rfl, h118, g115, f116⟩
                                  show WP 301 175 [(0, .ref 117), (1, iV z22), (2, iV x49), (3, iV x56), (4, iV x63)] [iV z117] _ _ _ _
                                  refine wp_z_eq jF_301_175 (m_rgb h118 rfl) rfl (pc2 := 178) ?_ ?_
                                  · intro h119
                                    refine wp_inc (lv2 := [(0, .ref 117), (1, iV z22), (2, iV x49), (3, iV x56), (4, iV (x63 + 1))]) jF_301_180 rfl rfl rfl rfl (pc2 := 183) ?_
                                    refine wp_go jF_301_183 ?_
                                    exact ih68 ((x63 + 1)) τ114 ⟨⟨by omega, by omega⟩, g115, (FR.up (FR.up (FR.up f67 f98 sb_Wtr_Wway) f113 sb_Was_Wway) f116 sb_Wtr_Wway)⟩ (by show Int.toNat (23 - (x63 + 1)) < Int.toNat (23 - x63); omega)
                                  · intro h119
                                    refine wp_ic jF_301_178 rfl (pc2 := 179) ?_
                                    refine wp_ri jF_301_179 rfl ?_
                                    exact ⟨3, rfl, ⟨by omega, by omega⟩, g115, (FR.up (FR.up (FR.up (FR.up (FR.up (FR.up (FR.up (FR.up (FR.up (FR.up (FR.up FR.rf f6 sb_Wtr_Wway) f11 sb_Was_Wway) f19 sb_Wtr_Wway) f40 sb_Wch_Wway) f45 sb_Wtr_Wway) f53 sb_Wway_Wway) f60 sb_Wway_Wway) f67 sb_Wway_Wway) f98 sb_Wtr_Wway) f113 sb_Was_Wway) f116 sb_Wtr_Wway)⟩
                                · intro h109
                                  clear p104
                                  refine wp_go jF_301_164 ?_
                                  refine wp_inc (lv2 := [(0, .ref 117), (1, iV z22), (2, iV x49), (3, iV x56), (4, iV (x63 + 1))]) jF_301_180 rfl rfl rfl rfl (pc2 := 183) ?_
                                  refine wp_go jF_301_183 ?_
                                  exact ih68 ((x63 + 1)) τ96 ⟨⟨by omega, by omega⟩, g97, (FR.up f67 f98 sb_Wtr_Wway)⟩ (by show Int.toNat (23 - (x63 + 1)) < Int.toNat (23 - x63); omega)
              · intro h48
                refine wp_al1 jF_301_77 rfl rfl (pc2 := 78) ?_
                refine wp_ic jF_301_78 rfl (pc2 := 79) ?_
                refine wp_al1 jF_301_79 rfl rfl (pc2 := 80) ?_
                refine wp_gr (b := 155) jF_301_80 kd117 (by decide) (c := 255) rfl rfl rfl (pc2 := 83) ?_
                refine wp_il1 jF_301_83 rfl rfl (pc2 := 84) ?_
                have b120 := GI.b g39 155 x41.toNat kd155 (lo := 0) (hi := 6143) rfl
                refine wp_iald (n := 2900) (e := (τ38.1 155 x41.toNat)) jF_301_84 kd155 (by decide) rfl rfl (by omega) (by omega) (FR.at f45 155 x41.toNat rfl) rfl (pc2 := 85) ?_
                refine wp_cV (as := [iV 1, iV (τ38.1 155 x41.toNat)]) (rest := []) (a := 117) (mx := 3) (ci := 12) jF_301_85 kd117 (by decide) rfl rfl rfl rfl rfl (by omega) (by omega) rfl (pc2 := 88) ?_
                refine wp_use (m_306_1 τ43 g44 (τ38.1 155 x41.toNat) (by omega) (by omega)  _ _ (by omega) (by omega)) ?_
                rintro _ τ121 ⟨z124, rfl, h125, g122, f123⟩
                show WP 301 88 [(0, .ref 117), (1, iV z22), (2, iV x41)] [iV z124] _ _ _ _
                refine wp_z_eq jF_301_88 (m_rgb h125 rfl) rfl (pc2 := 91) ?_ ?_
                · intro h126
                  refine wp_inc (lv2 := [(0, .ref 117), (1, iV z22), (2, iV (x41 + 1))]) jF_301_101 rfl rfl rfl rfl (pc2 := 104) ?_
                  refine wp_go jF_301_104 ?_
                  exact ih46 ((x41 + 1)) τ121 ⟨⟨by omega, by omega⟩, g122, (FR.up f45 f123 sb_Wtr_Wtr)⟩ (by show Int.toNat (2900 - (x41 + 1)) < Int.toNat (2900 - x41); omega)
                · intro h126
                  refine wp_al1 jF_301_91 rfl rfl (pc2 := 92) ?_
                  refine wp_cV (as := []) (rest := []) (a := 117) (mx := 5) (ci := 12) jF_301_92 kd117 (by decide) rfl rfl rfl rfl rfl (by omega) (by omega) rfl (pc2 := 95) ?_
                  refine wp_use (m_303 τ121 g122   _ _ (by omega) (by omega)) ?_
                  rintro _ _ ⟨z129, rfl, h130, rfl⟩
                  show WP 301 95 [(0, .ref 117), (1, iV z22), (2, iV x41)] [iV z129] _ _ _ _
                  refine wp_ic jF_301_95 rfl (pc2 := 96) ?_
                  refine wp_i_ne jF_301_96 (m_rgb h130 rfl) (m_rgl rfl) rfl (pc2 := 99) ?_ ?_
                  · intro h131
                    refine wp_inc (lv2 := [(0, .ref 117), (1, iV z22), (2, iV (x41 + 1))]) jF_301_101 rfl rfl rfl rfl (pc2 := 104) ?_
                    refine wp_go jF_301_104 ?_
                    exact ih46 ((x41 + 1)) τ121 ⟨⟨by omega, by omega⟩, g122, (FR.up f45 f123 sb_Wtr_Wtr)⟩ (by show Int.toNat (2900 - (x41 + 1)) < Int.toNat (2900 - x41); omega)
                  · intro h131
                    refine wp_ic jF_301_99 rfl (pc2 := 100) ?_
                    refine wp_ri jF_301_100 rfl ?_
                    exact ⟨2, rfl, ⟨by omega, by omega⟩, g122, (FR.up (FR.up (FR.up (FR.up (FR.up (FR.up FR.rf f6 sb_Wtr_Wway) f11 sb_Was_Wway) f19 sb_Wtr_Wway) f40 sb_Wch_Wway) f45 sb_Wtr_Wway) f123 sb_Wtr_Wway)⟩
          · intro h36
            refine wp_ic jF_301_61 rfl (pc2 := 62) ?_
            refine wp_ri jF_301_62 rfl ?_
            exact ⟨1, rfl, ⟨by omega, by omega⟩, g18, (FR.up (FR.up (FR.up FR.rf f6 sb_Wtr_Wway) f11 sb_Was_Wway) f19 sb_Wtr_Wway)⟩
        · intro h35
          clear p30
          refine wp_ic jF_301_54 rfl (pc2 := 55) ?_
          refine wp_ri jF_301_55 rfl ?_
          exact ⟨(-1), rfl, ⟨by omega, by omega⟩, g18, (FR.up (FR.up (FR.up FR.rf f6 sb_Wtr_Wway) f11 sb_Was_Wway) f19 sb_Wtr_Wway)⟩
  · intro h24
    refine wp_ic jF_301_23 rfl (pc2 := 24) ?_
    refine wp_ri jF_301_24 rfl ?_
    exact ⟨0, rfl, ⟨by omega, by omega⟩, g18, (FR.up (FR.up (FR.up FR.rf f6 sb_Wtr_Wway) f11 sb_Was_Wway) f19 sb_Wtr_Wway)⟩
set_option maxHeartbeats 4000000 in
set_option maxRecDepth 20000 in
/-- M.qBorne -/
theorem m_348 (σ : jM) (hg : GI σ) (n : Int64) (k : Int) (hl_k : 0 ≤ k) (hu_k : k ≤ 63) (pre0 : (l0 σ) = 22) (fr lo : Nat) (hfr : 1 ≤ fr) (hlo : 32 ≤ lo) : WP 348 0 (lv_args 0 [.ref 117, .long n, iV k]) [] fr lo σ (fun v τ => ∃ z : Int64, v = some (.long z) ∧ GI τ ∧ FR Wtr σ τ) := by
  show WP 348 0 [(0, .ref 117), (1, .long n), (3, iV k)] [] _ _ _ _
  refine wp_al1 jF_348_0 rfl rfl (pc2 := 1) ?_
  refine wp_ic jF_348_1 rfl (pc2 := 2) ?_
  refine wp_cV (as := [iV 0]) (rest := []) (a := 117) (mx := 3) (ci := 12) jF_348_2 kd117 (by decide) rfl rfl rfl rfl rfl (by omega) (by omega) rfl (pc2 := 5) ?_
  have b1 := GI.b hg 148 0 kd148 (lo := 0) (hi := 60) rfl
  refine wp_use (m_271_0 σ hg   _ _ (by omega) (by omega)) ?_
  rintro _ τ4 ⟨rfl, g5, f6, p2, p3⟩
  show WP 348 5 [(0, .ref 117), (1, .long n), (3, iV k)] [] _ _ _ _
  refine wp_ic jF_348_5 rfl (pc2 := 6) ?_
  refine wp_is2 (lv2 := [(0, .ref 117), (1, .long n), (3, iV k), (4, iV 0)]) jF_348_6 rfl rfl rfl (pc2 := 8) ?_
  refine wp_ic jF_348_8 rfl (pc2 := 9) ?_
  refine wp_is2 (lv2 := [(0, .ref 117), (1, .long n), (3, iV k), (4, iV 0), (5, iV 0)]) jF_348_9 rfl rfl rfl (pc2 := 11) ?_
  have b7 := GI.b g5 117 49 kd117 (lo := 0) (hi := 61) rfl
  refine wp_loop (α := Int × Int) (fun a => [(0, .ref 117), (1, .long n), (3, iV k), (4, iV (a.1)), (5, iV (a.2))]) (fun a τ => (0 ≤ a.1 ∧ a.1 ≤ 61) ∧ (0 ≤ a.2 ∧ a.2 ≤ 61) ∧ τ4 = τ ∧ ((a.1) ≤ (a.2)) ∧ ((a.2) ≤ (τ4.1 117 49))) (fun a τ => Int.toNat (61 - (a.2))) (0, 0) τ4 ?_ ?_
  · skip
    exact ⟨⟨by (try dsimp only); omega, by (try dsimp only); omega⟩, ⟨by (try dsimp only); omega, by (try dsimp only); omega⟩, rfl, (by (try dsimp only); omega), (by (try dsimp only); omega)⟩
  · rintro ⟨x8, x9⟩ _ ⟨h10, h11, rfl, p15, p16⟩ ih17
    try dsimp only at h10 h11 p15 p16
    show WP 348 11 [(0, .ref 117), (1, .long n), (3, iV k), (4, iV x8), (5, iV x9)] [] _ _ _ _
    show WP 348 11 [(0, .ref 117), (1, .long n), (3, iV k), (4, iV x8), (5, iV x9)] [] _ _ _ _
    refine wp_il2 jF_348_11 rfl rfl (pc2 := 13) ?_
    refine wp_al1 jF_348_13 rfl rfl (pc2 := 14) ?_
    refine wp_gi jF_348_14 kd117 (by decide) rfl rfl rfl (pc2 := 17) ?_
    refine wp_i_ge jF_348_17 (m_rgb h11 rfl) (m_rgb b7 rfl) rfl (pc2 := 20) ?_ ?_
    · intro h18
      refine wp_lc jF_348_53 rfl (pc2 := 54) ?_
      refine wp_rl jF_348_54 ?_
      exact ⟨(Int64.ofNat 0), rfl, g5, f6⟩
    · intro h18
      refine wp_il2 jF_348_20 rfl rfl (pc2 := 22) ?_
      refine wp_i2l jF_348_22 rfl (pc2 := 23) ?_
      refine wp_ll1 jF_348_23 rfl rfl (pc2 := 24) ?_
      refine wp_anyL (pc2 := 25) jF_348_24 rfl rfl ?_
      intro z19 h20
      refine wp_z_ne jF_348_25 (m_rgb h20 rfl) rfl (pc2 := 28) ?_ ?_
      · intro h21
        refine wp_inc (lv2 := [(0, .ref 117), (1, .long n), (3, iV k), (4, iV (x8 + 1)), (5, iV x9)]) jF_348_39 rfl rfl rfl rfl (pc2 := 42) ?_
        refine wp_al1 jF_348_42 rfl rfl (pc2 := 43) ?_
        refine wp_il2 jF_348_43 rfl rfl (pc2 := 45) ?_
        refine wp_cV (as := [iV x9]) (rest := []) (a := 117) (mx := 3) (ci := 12) jF_348_45 kd117 (by decide) rfl rfl rfl rfl rfl (by omega) (by omega) rfl (pc2 := 48) ?_
        refine wp_use (m_261 τ4 g5 x9 (by omega) (by omega) (by omega) (by omega) _ _ (by omega) (by omega)) ?_
        rintro _ _ ⟨z26, rfl, h27, rfl, p22, p23⟩
        show WP 348 48 [(0, .ref 117), (1, .long n), (3, iV k), (4, iV (x8 + 1)), (5, iV x9)] [iV z26] _ _ _ _
        refine wp_is2 (lv2 := [(0, .ref 117), (1, .long n), (3, iV k), (4, iV (x8 + 1)), (5, iV z26)]) jF_348_48 rfl rfl rfl (pc2 := 50) ?_
        refine wp_go jF_348_50 ?_
        exact ih17 ((x8 + 1), z26) τ4 ⟨⟨by (try dsimp only); omega, by (try dsimp only); omega⟩, ⟨by (try dsimp only); omega, by (try dsimp only); omega⟩, rfl, (by (try dsimp only); omega), (by (try dsimp only); omega)⟩ (by show Int.toNat (61 - z26) < Int.toNat (61 - x9); omega)
      · intro h21
        refine wp_al1 jF_348_28 rfl rfl (pc2 := 29) ?_
        refine wp_il2 jF_348_29 rfl rfl (pc2 := 31) ?_
        refine wp_cV (as := [iV x9]) (rest := []) (a := 117) (mx := 13) (ci := 12) jF_348_31 kd117 (by decide) rfl rfl rfl rfl rfl (by omega) (by omega) rfl (pc2 := 34) ?_
        refine wp_use (m_260 τ4 g5 x9 (by omega) (by omega) (by omega) (by omega) _ _ (by omega) (by omega)) ?_
        rintro _ _ ⟨y30, rfl, rfl⟩
        show WP 348 34 [(0, .ref 117), (1, .long n), (3, iV k), (4, iV x8), (5, iV x9)] [.long y30] _ _ _ _
        refine wp_il1 jF_348_34 rfl rfl (pc2 := 35) ?_
        refine wp_lng (pc2 := 36) jF_348_35 rfl rfl ?_
        intro y31
        refine wp_lc jF_348_36 rfl (pc2 := 37) ?_
        refine wp_lng (pc2 := 38) jF_348_37 rfl rfl ?_
        intro y32
        refine wp_rl jF_348_38 ?_
        exact ⟨y32, rfl, g5, f6⟩
