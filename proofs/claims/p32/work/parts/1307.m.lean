set_option maxHeartbeats 4000000 in
set_option maxRecDepth 20000 in
/-- M.statementTold -/
theorem m_217 (σ : jM) (hg : GI σ)  (pre0 : (σ.1 143 0) ≤ 16) (pre1 : (σ.1 143 1) ≤ 8) (pre2 : (σ.1 143 2) ≤ 10) (pre3 : (σ.1 117 39) ≤ 70) (fr lo : Nat) (hfr : 6 ≤ fr) (hlo : 141 ≤ lo) : WP 217 0 (lv_args 0 [.ref 117]) [] fr lo σ (fun v τ => v = none ∧ GI τ ∧ FR Wst σ τ ∧ ((σ.1 117 2) ≤ (τ.1 117 2)) ∧ ((σ.1 117 5) ≠ 0 → (τ.1 117 5) = (σ.1 117 5)) ∧ ((τ.1 143 0) ≤ 16) ∧ ((τ.1 143 1) ≤ 8) ∧ ((τ.1 143 2) ≤ 10) ∧ ((τ.1 117 39) ≤ 70) ∧ ((τ.1 117 5) = 0 → ((σ.1 117 5) = 0 ∧ (σ.1 117 2) < (τ.1 117 2))) ∧ ((τ.1 143 3) = (σ.1 143 3)) ∧ ((τ.1 143 4) = (σ.1 143 4)) ∧ ((τ.1 143 5) = (σ.1 143 5))) := by
  show WP 217 0 [(0, .ref 117)] [] _ _ _ _
  refine wp_al1 jF_217_0 rfl rfl (pc2 := 1) ?_
  have b1 := GI.b hg 117 2 kd117 (lo := 0) (hi := 1601) rfl
  refine wp_gi jF_217_1 kd117 (by decide) rfl rfl rfl (pc2 := 4) ?_
  refine wp_is1 (lv2 := [(0, .ref 117), (1, iV (σ.1 117 2))]) jF_217_4 rfl rfl rfl (pc2 := 5) ?_
  refine wp_al1 jF_217_5 rfl rfl (pc2 := 6) ?_
  have b2 := GI.b hg 117 39 kd117 (lo := 0) (hi := 71) rfl
  refine wp_gi jF_217_6 kd117 (by decide) rfl rfl rfl (pc2 := 9) ?_
  refine wp_bi jF_217_9 (by decide) rfl (pc2 := 11) ?_
  refine wp_i_ne jF_217_11 (m_rgb b2 rfl) (m_rgl rfl) rfl (pc2 := 14) ?_ ?_
  · intro h3
    have b4 := GI.b hg 117 5 kd117 (lo := (-2147483648)) (hi := 2147483647) rfl
    have b5 := GI.b hg 143 3 kd143 (lo := 0) (hi := 16) rfl
    have b6 := GI.b hg 143 4 kd143 (lo := 0) (hi := 16) rfl
    have b7 := GI.b hg 143 5 kd143 (lo := 0) (hi := 16) rfl
    refine wp_join (α := Unit) 211 (fun a => [(0, .ref 117), (1, iV (σ.1 117 2))]) (fun a τ => GI τ ∧ FR Wst0 σ τ ∧ ((σ.1 117 2) ≤ (τ.1 117 2)) ∧ ((σ.1 117 5) ≠ 0 → (τ.1 117 5) = (σ.1 117 5)) ∧ ((τ.1 117 5) = 0 → (σ.1 117 5) = 0) ∧ ((τ.1 143 0) ≤ 16) ∧ ((τ.1 143 1) ≤ 8) ∧ ((τ.1 143 2) ≤ 10) ∧ ((τ.1 143 3) = (σ.1 143 3)) ∧ ((τ.1 143 4) = (σ.1 143 4)) ∧ ((τ.1 143 5) = (σ.1 143 5))) ?_ ?_
    · rintro ⟨⟩ τ8 ⟨g9, f10, p11, p12, p13, p14, p15, p16, p17, p18, p19⟩
      have b20 := GI.b g9 117 2 kd117 (lo := 0) (hi := 1601) rfl
      have b21 := GI.b g9 117 5 kd117 (lo := (-2147483648)) (hi := 2147483647) rfl
      have b22 := GI.b g9 143 0 kd143 (lo := 0) (hi := 16) rfl
      have b23 := GI.b g9 143 1 kd143 (lo := 0) (hi := 16) rfl
      have b24 := GI.b g9 143 2 kd143 (lo := 0) (hi := 16) rfl
      have b25 := GI.b g9 143 3 kd143 (lo := 0) (hi := 16) rfl
      have b26 := GI.b g9 143 4 kd143 (lo := 0) (hi := 16) rfl
      have b27 := GI.b g9 143 5 kd143 (lo := 0) (hi := 16) rfl
      show WP 217 211 [(0, .ref 117), (1, iV (σ.1 117 2))] [] _ _ _ _
      refine wp_al1 jF_217_211 rfl rfl (pc2 := 212) ?_
      refine wp_bi jF_217_212 (by decide) rfl (pc2 := 214) ?_
      refine wp_cV (as := [iV 59]) (rest := []) (a := 117) (mx := 2) (ci := 12) jF_217_214 kd117 (by decide) rfl rfl rfl rfl rfl (by omega) (by omega) rfl (pc2 := 217) ?_
      have b28 := GI.b hg 117 3 kd117 (lo := 0) (hi := 1600) rfl
      have q29 : (τ8.1 117 3) = (σ.1 117 3) := (FR.at f10 117 3 rfl)
      refine wp_use (m_238 τ8 g9 59 (by omega) (by omega)  _ _ (by omega) (by omega)) ?_
      rintro _ τ33 ⟨rfl, g34, f35, p30, p31, p32⟩
      show WP 217 217 [(0, .ref 117), (1, iV (σ.1 117 2))] [] _ _ _ _
      refine wp_al1 jF_217_217 rfl rfl (pc2 := 218) ?_
      refine wp_dup jF_217_218 rfl rfl (pc2 := 219) ?_
      refine wp_gi jF_217_219 kd117 (by decide) rfl ((FR.at f35 117 39 rfl).trans (FR.at f10 117 39 rfl)) rfl (pc2 := 222) ?_
      refine wp_ic jF_217_222 rfl (pc2 := 223) ?_
      refine wp_add jF_217_223 rfl (pc2 := 224) ?_
      refine wp_pi jF_217_224 kd117 (by decide) rfl rfl rfl (pc2 := 227) g34 (lo := 0) (hi := 71) rfl (by omega) (by omega) ?_
      intro τ36 g37 f38 e39
      refine wp_rv jF_217_227 ?_
      have b40 := GI.b g34 117 2 kd117 (lo := 0) (hi := 1601) rfl
      have q41 : (τ36.1 117 2) = (τ33.1 117 2) := (FRw.nj f38 (by decide))
      have q42 : (τ36.1 117 39) = ((σ.1 117 39) + 1) := e39
      have b43 := GI.b g34 117 5 kd117 (lo := (-2147483648)) (hi := 2147483647) rfl
      have q44 : (τ36.1 117 5) = (τ33.1 117 5) := (FRw.nj f38 (by decide))
      have q45 : (τ36.1 143 0) = (τ8.1 143 0) := ((FRw.na f38 (by decide)).trans (FR.at f35 143 0 rfl))
      have q46 : (τ36.1 143 1) = (τ8.1 143 1) := ((FRw.na f38 (by decide)).trans (FR.at f35 143 1 rfl))
      have q47 : (τ36.1 143 2) = (τ8.1 143 2) := ((FRw.na f38 (by decide)).trans (FR.at f35 143 2 rfl))
      have q48 : (τ36.1 143 3) = (τ8.1 143 3) := ((FRw.na f38 (by decide)).trans (FR.at f35 143 3 rfl))
      have q49 : (τ36.1 143 4) = (τ8.1 143 4) := ((FRw.na f38 (by decide)).trans (FR.at f35 143 4 rfl))
      have q50 : (τ36.1 143 5) = (τ8.1 143 5) := ((FRw.na f38 (by decide)).trans (FR.at f35 143 5 rfl))
      exact ⟨rfl, g37, (FR.w (FR.up (FR.up FR.rf f10 sb_Wst0_Wst) f35 sb_Wsgn_Wst) f38 rfl), (by omega), (by omega), (by omega), (by omega), (by omega), (by omega), (by omega), (by omega), (by omega), (by omega)⟩
    · intro jn51
      refine wp_al1 jF_217_21 rfl rfl (pc2 := 22) ?_
      refine wp_al1 jF_217_22 rfl rfl (pc2 := 23) ?_
      refine wp_gr (b := 120) jF_217_23 kd117 (by decide) (c := 220) rfl rfl rfl (pc2 := 26) ?_
      refine wp_cV (as := [.ref 120]) (rest := []) (a := 117) (mx := 2) (ci := 12) jF_217_26 kd117 (by decide) rfl rfl rfl rfl rfl (by omega) (by omega) rfl (pc2 := 29) ?_
      have b52 := GI.b hg 117 3 kd117 (lo := 0) (hi := 1600) rfl
      refine wp_use (m_219 σ hg 120 3 cw120.1 cw120.2 (by decide)  _ _ (by omega) (by omega)) ?_
      rintro _ τ57 ⟨z60, rfl, h61, g58, f59, p53, p54, p55, p56⟩
      show WP 217 29 [(0, .ref 117), (1, iV (σ.1 117 2))] [iV z60] _ _ _ _
      refine wp_z_eq jF_217_29 (m_rgb h61 rfl) rfl (pc2 := 32) ?_ ?_
      · intro h62
        clear p54
        refine wp_al1 jF_217_41 rfl rfl (pc2 := 42) ?_
        refine wp_al1 jF_217_42 rfl rfl (pc2 := 43) ?_
        refine wp_gr (b := 121) jF_217_43 kd117 (by decide) (c := 221) rfl rfl rfl (pc2 := 46) ?_
        refine wp_cV (as := [.ref 121]) (rest := []) (a := 117) (mx := 2) (ci := 12) jF_217_46 kd117 (by decide) rfl rfl rfl rfl rfl (by omega) (by omega) rfl (pc2 := 49) ?_
        have b63 := GI.b g58 117 2 kd117 (lo := 0) (hi := 1601) rfl
        have q64 : (τ57.1 117 3) = (σ.1 117 3) := (FR.at f59 117 3 rfl)
        have q65 : (τ57.1 117 5) = (σ.1 117 5) := (FR.at f59 117 5 rfl)
        refine wp_use (m_219 τ57 g58 121 4 cw121.1 cw121.2 (by decide)  _ _ (by omega) (by omega)) ?_
        rintro _ τ70 ⟨z73, rfl, h74, g71, f72, p66, p67, p68, p69⟩
        show WP 217 49 [(0, .ref 117), (1, iV (σ.1 117 2))] [iV z73] _ _ _ _
        refine wp_z_eq jF_217_49 (m_rgb h74 rfl) rfl (pc2 := 52) ?_ ?_
        · intro h75
          clear p67
          refine wp_al1 jF_217_61 rfl rfl (pc2 := 62) ?_
          refine wp_al1 jF_217_62 rfl rfl (pc2 := 63) ?_
          refine wp_gr (b := 122) jF_217_63 kd117 (by decide) (c := 222) rfl rfl rfl (pc2 := 66) ?_
          refine wp_cV (as := [.ref 122]) (rest := []) (a := 117) (mx := 2) (ci := 12) jF_217_66 kd117 (by decide) rfl rfl rfl rfl rfl (by omega) (by omega) rfl (pc2 := 69) ?_
          have b76 := GI.b g71 117 2 kd117 (lo := 0) (hi := 1601) rfl
          have q77 : (τ70.1 117 3) = (σ.1 117 3) := ((FR.at f72 117 3 rfl).trans (FR.at f59 117 3 rfl))
          have q78 : (τ70.1 117 5) = (σ.1 117 5) := ((FR.at f72 117 5 rfl).trans (FR.at f59 117 5 rfl))
          refine wp_use (m_219 τ70 g71 122 4 cw122.1 cw122.2 (by decide)  _ _ (by omega) (by omega)) ?_
          rintro _ τ83 ⟨z86, rfl, h87, g84, f85, p79, p80, p81, p82⟩
          show WP 217 69 [(0, .ref 117), (1, iV (σ.1 117 2))] [iV z86] _ _ _ _
          refine wp_z_eq jF_217_69 (m_rgb h87 rfl) rfl (pc2 := 72) ?_ ?_
          · intro h88
            clear p80
            refine wp_al1 jF_217_81 rfl rfl (pc2 := 82) ?_
            refine wp_al1 jF_217_82 rfl rfl (pc2 := 83) ?_
            refine wp_gr (b := 123) jF_217_83 kd117 (by decide) (c := 223) rfl rfl rfl (pc2 := 86) ?_
            refine wp_cV (as := [.ref 123]) (rest := []) (a := 117) (mx := 2) (ci := 12) jF_217_86 kd117 (by decide) rfl rfl rfl rfl rfl (by omega) (by omega) rfl (pc2 := 89) ?_
            have b89 := GI.b g84 117 2 kd117 (lo := 0) (hi := 1601) rfl
            have q90 : (τ83.1 117 3) = (σ.1 117 3) := ((FR.at f85 117 3 rfl).trans ((FR.at f72 117 3 rfl).trans (FR.at f59 117 3 rfl)))
            have q91 : (τ83.1 117 5) = (σ.1 117 5) := ((FR.at f85 117 5 rfl).trans ((FR.at f72 117 5 rfl).trans (FR.at f59 117 5 rfl)))
            refine wp_use (m_219 τ83 g84 123 4 cw123.1 cw123.2 (by decide)  _ _ (by omega) (by omega)) ?_
            rintro _ τ96 ⟨z99, rfl, h100, g97, f98, p92, p93, p94, p95⟩
            show WP 217 89 [(0, .ref 117), (1, iV (σ.1 117 2))] [iV z99] _ _ _ _
            refine wp_z_eq jF_217_89 (m_rgb h100 rfl) rfl (pc2 := 92) ?_ ?_
            · intro h101
              clear p93
              refine wp_al1 jF_217_100 rfl rfl (pc2 := 101) ?_
              refine wp_al1 jF_217_101 rfl rfl (pc2 := 102) ?_
              refine wp_gr (b := 124) jF_217_102 kd117 (by decide) (c := 224) rfl rfl rfl (pc2 := 105) ?_
              refine wp_cV (as := [.ref 124]) (rest := []) (a := 117) (mx := 2) (ci := 12) jF_217_105 kd117 (by decide) rfl rfl rfl rfl rfl (by omega) (by omega) rfl (pc2 := 108) ?_
              have b102 := GI.b g97 117 2 kd117 (lo := 0) (hi := 1601) rfl
              have q103 : (τ96.1 117 3) = (σ.1 117 3) := ((FR.at f98 117 3 rfl).trans ((FR.at f85 117 3 rfl).trans ((FR.at f72 117 3 rfl).trans (FR.at f59 117 3 rfl))))
              have q104 : (τ96.1 117 5) = (σ.1 117 5) := ((FR.at f98 117 5 rfl).trans ((FR.at f85 117 5 rfl).trans ((FR.at f72 117 5 rfl).trans (FR.at f59 117 5 rfl))))
              refine wp_use (m_219 τ96 g97 124 5 cw124.1 cw124.2 (by decide)  _ _ (by omega) (by omega)) ?_
              rintro _ τ109 ⟨z112, rfl, h113, g110, f111, p105, p106, p107, p108⟩
              show WP 217 108 [(0, .ref 117), (1, iV (σ.1 117 2))] [iV z112] _ _ _ _
              refine wp_z_eq jF_217_108 (m_rgb h113 rfl) rfl (pc2 := 111) ?_ ?_
              · intro h114
                clear p106
                refine wp_al1 jF_217_125 rfl rfl (pc2 := 126) ?_
                refine wp_al1 jF_217_126 rfl rfl (pc2 := 127) ?_
                refine wp_gr (b := 125) jF_217_127 kd117 (by decide) (c := 225) rfl rfl rfl (pc2 := 130) ?_
                refine wp_cV (as := [.ref 125]) (rest := []) (a := 117) (mx := 2) (ci := 12) jF_217_130 kd117 (by decide) rfl rfl rfl rfl rfl (by omega) (by omega) rfl (pc2 := 133) ?_
                have b115 := GI.b g110 117 2 kd117 (lo := 0) (hi := 1601) rfl
                have q116 : (τ109.1 117 3) = (σ.1 117 3) := ((FR.at f111 117 3 rfl).trans ((FR.at f98 117 3 rfl).trans ((FR.at f85 117 3 rfl).trans ((FR.at f72 117 3 rfl).trans (FR.at f59 117 3 rfl)))))
                have q117 : (τ109.1 117 5) = (σ.1 117 5) := ((FR.at f111 117 5 rfl).trans ((FR.at f98 117 5 rfl).trans ((FR.at f85 117 5 rfl).trans ((FR.at f72 117 5 rfl).trans (FR.at f59 117 5 rfl)))))
                refine wp_use (m_219 τ109 g110 125 5 cw125.1 cw125.2 (by decide)  _ _ (by omega) (by omega)) ?_
                rintro _ τ122 ⟨z125, rfl, h126, g123, f124, p118, p119, p120, p121⟩
                show WP 217 133 [(0, .ref 117), (1, iV (σ.1 117 2))] [iV z125] _ _ _ _
                refine wp_z_eq jF_217_133 (m_rgb h126 rfl) rfl (pc2 := 136) ?_ ?_
                · intro h127
                  clear p119
                  refine wp_al1 jF_217_144 rfl rfl (pc2 := 145) ?_
                  refine wp_al1 jF_217_145 rfl rfl (pc2 := 146) ?_
                  refine wp_gr (b := 127) jF_217_146 kd117 (by decide) (c := 227) rfl rfl rfl (pc2 := 149) ?_
                  refine wp_cV (as := [.ref 127]) (rest := []) (a := 117) (mx := 2) (ci := 12) jF_217_149 kd117 (by decide) rfl rfl rfl rfl rfl (by omega) (by omega) rfl (pc2 := 152) ?_
                  have b128 := GI.b g123 117 2 kd117 (lo := 0) (hi := 1601) rfl
                  have q129 : (τ122.1 117 3) = (σ.1 117 3) := ((FR.at f124 117 3 rfl).trans ((FR.at f111 117 3 rfl).trans ((FR.at f98 117 3 rfl).trans ((FR.at f85 117 3 rfl).trans ((FR.at f72 117 3 rfl).trans (FR.at f59 117 3 rfl))))))
                  have q130 : (τ122.1 117 5) = (σ.1 117 5) := ((FR.at f124 117 5 rfl).trans ((FR.at f111 117 5 rfl).trans ((FR.at f98 117 5 rfl).trans ((FR.at f85 117 5 rfl).trans ((FR.at f72 117 5 rfl).trans (FR.at f59 117 5 rfl))))))
                  refine wp_use (m_219 τ122 g123 127 4 cw127.1 cw127.2 (by decide)  _ _ (by omega) (by omega)) ?_
                  rintro _ τ135 ⟨z138, rfl, h139, g136, f137, p131, p132, p133, p134⟩
                  show WP 217 152 [(0, .ref 117), (1, iV (σ.1 117 2))] [iV z138] _ _ _ _
                  refine wp_z_eq jF_217_152 (m_rgb h139 rfl) rfl (pc2 := 155) ?_ ?_
                  · intro h140
                    clear p132
                    refine wp_al1 jF_217_166 rfl rfl (pc2 := 167) ?_
                    refine wp_al1 jF_217_167 rfl rfl (pc2 := 168) ?_
                    refine wp_gr (b := 128) jF_217_168 kd117 (by decide) (c := 228) rfl rfl rfl (pc2 := 171) ?_
                    refine wp_cV (as := [.ref 128]) (rest := []) (a := 117) (mx := 2) (ci := 12) jF_217_171 kd117 (by decide) rfl rfl rfl rfl rfl (by omega) (by omega) rfl (pc2 := 174) ?_
                    have b141 := GI.b g136 117 2 kd117 (lo := 0) (hi := 1601) rfl
                    have q142 : (τ135.1 117 3) = (σ.1 117 3) := ((FR.at f137 117 3 rfl).trans ((FR.at f124 117 3 rfl).trans ((FR.at f111 117 3 rfl).trans ((FR.at f98 117 3 rfl).trans ((FR.at f85 117 3 rfl).trans ((FR.at f72 117 3 rfl).trans (FR.at f59 117 3 rfl)))))))
                    have q143 : (τ135.1 117 5) = (σ.1 117 5) := ((FR.at f137 117 5 rfl).trans ((FR.at f124 117 5 rfl).trans ((FR.at f111 117 5 rfl).trans ((FR.at f98 117 5 rfl).trans ((FR.at f85 117 5 rfl).trans ((FR.at f72 117 5 rfl).trans (FR.at f59 117 5 rfl)))))))
                    refine wp_use (m_219 τ135 g136 128 5 cw128.1 cw128.2 (by decide)  _ _ (by omega) (by omega)) ?_
                    rintro _ τ148 ⟨z151, rfl, h152, g149, f150, p144, p145, p146, p147⟩
                    show WP 217 174 [(0, .ref 117), (1, iV (σ.1 117 2))] [iV z151] _ _ _ _
                    refine wp_z_eq jF_217_174 (m_rgb h152 rfl) rfl (pc2 := 177) ?_ ?_
                    · intro h153
                      clear p145
                      refine wp_al1 jF_217_188 rfl rfl (pc2 := 189) ?_
                      refine wp_al1 jF_217_189 rfl rfl (pc2 := 190) ?_
                      refine wp_gr (b := 129) jF_217_190 kd117 (by decide) (c := 229) rfl rfl rfl (pc2 := 193) ?_
                      refine wp_cV (as := [.ref 129]) (rest := []) (a := 117) (mx := 2) (ci := 12) jF_217_193 kd117 (by decide) rfl rfl rfl rfl rfl (by omega) (by omega) rfl (pc2 := 196) ?_
                      have b154 := GI.b g149 117 2 kd117 (lo := 0) (hi := 1601) rfl
                      have q155 : (τ148.1 117 3) = (σ.1 117 3) := ((FR.at f150 117 3 rfl).trans ((FR.at f137 117 3 rfl).trans ((FR.at f124 117 3 rfl).trans ((FR.at f111 117 3 rfl).trans ((FR.at f98 117 3 rfl).trans ((FR.at f85 117 3 rfl).trans ((FR.at f72 117 3 rfl).trans (FR.at f59 117 3 rfl))))))))
                      have q156 : (τ148.1 117 5) = (σ.1 117 5) := ((FR.at f150 117 5 rfl).trans ((FR.at f137 117 5 rfl).trans ((FR.at f124 117 5 rfl).trans ((FR.at f111 117 5 rfl).trans ((FR.at f98 117 5 rfl).trans ((FR.at f85 117 5 rfl).trans ((FR.at f72 117 5 rfl).trans (FR.at f59 117 5 rfl))))))))
                      refine wp_use (m_234 τ148 g149 129 6 cw129.1 cw129.2 (by decide)  _ _ (by omega) (by omega)) ?_
                      rintro _ τ160 ⟨rfl, g161, f162, p157, p158, p159⟩
                      show WP 217 196 [(0, .ref 117), (1, iV (σ.1 117 2))] [] _ _ _ _
                      refine wp_al1 jF_217_196 rfl rfl (pc2 := 197) ?_
                      have b163 := GI.b g161 117 5 kd117 (lo := (-2147483648)) (hi := 2147483647) rfl
                      refine wp_gi jF_217_197 kd117 (by decide) rfl rfl rfl (pc2 := 200) ?_
                      refine wp_z_ne jF_217_200 (m_rgb b163 rfl) rfl (pc2 := 203) ?_ ?_
                      · intro h164
                        clear p159
                        have b165 := GI.b g161 117 2 kd117 (lo := 0) (hi := 1601) rfl
                        have b166 := GI.b hg 143 0 kd143 (lo := 0) (hi := 16) rfl
                        have q167 : (τ160.1 143 0) = (σ.1 143 0) := ((FR.at f162 143 0 rfl).trans ((FR.at f150 143 0 rfl).trans ((FR.at f137 143 0 rfl).trans ((FR.at f124 143 0 rfl).trans ((FR.at f111 143 0 rfl).trans ((FR.at f98 143 0 rfl).trans ((FR.at f85 143 0 rfl).trans ((FR.at f72 143 0 rfl).trans (FR.at f59 143 0 rfl)))))))))
                        have b168 := GI.b hg 143 1 kd143 (lo := 0) (hi := 16) rfl
                        have q169 : (τ160.1 143 1) = (σ.1 143 1) := ((FR.at f162 143 1 rfl).trans ((FR.at f150 143 1 rfl).trans ((FR.at f137 143 1 rfl).trans ((FR.at f124 143 1 rfl).trans ((FR.at f111 143 1 rfl).trans ((FR.at f98 143 1 rfl).trans ((FR.at f85 143 1 rfl).trans ((FR.at f72 143 1 rfl).trans (FR.at f59 143 1 rfl)))))))))
                        have b170 := GI.b hg 143 2 kd143 (lo := 0) (hi := 16) rfl
                        have q171 : (τ160.1 143 2) = (σ.1 143 2) := ((FR.at f162 143 2 rfl).trans ((FR.at f150 143 2 rfl).trans ((FR.at f137 143 2 rfl).trans ((FR.at f124 143 2 rfl).trans ((FR.at f111 143 2 rfl).trans ((FR.at f98 143 2 rfl).trans ((FR.at f85 143 2 rfl).trans ((FR.at f72 143 2 rfl).trans (FR.at f59 143 2 rfl)))))))))
                        have q172 : (τ160.1 143 3) = (σ.1 143 3) := ((FR.at f162 143 3 rfl).trans ((FR.at f150 143 3 rfl).trans ((FR.at f137 143 3 rfl).trans ((FR.at f124 143 3 rfl).trans ((FR.at f111 143 3 rfl).trans ((FR.at f98 143 3 rfl).trans ((FR.at f85 143 3 rfl).trans ((FR.at f72 143 3 rfl).trans (FR.at f59 143 3 rfl)))))))))
                        have q173 : (τ160.1 143 4) = (σ.1 143 4) := ((FR.at f162 143 4 rfl).trans ((FR.at f150 143 4 rfl).trans ((FR.at f137 143 4 rfl).trans ((FR.at f124 143 4 rfl).trans ((FR.at f111 143 4 rfl).trans ((FR.at f98 143 4 rfl).trans ((FR.at f85 143 4 rfl).trans ((FR.at f72 143 4 rfl).trans (FR.at f59 143 4 rfl)))))))))
                        have q174 : (τ160.1 143 5) = (σ.1 143 5) := ((FR.at f162 143 5 rfl).trans ((FR.at f150 143 5 rfl).trans ((FR.at f137 143 5 rfl).trans ((FR.at f124 143 5 rfl).trans ((FR.at f111 143 5 rfl).trans ((FR.at f98 143 5 rfl).trans ((FR.at f85 143 5 rfl).trans ((FR.at f72 143 5 rfl).trans (FR.at f59 143 5 rfl)))))))))
                        exact jn51 () τ160 ⟨g161, (FR.up (FR.up (FR.up (FR.up (FR.up (FR.up (FR.up (FR.up (FR.up FR.rf f59 sb_Wtak_Wst0) f72 sb_Wtak_Wst0) f85 sb_Wtak_Wst0) f98 sb_Wtak_Wst0) f111 sb_Wtak_Wst0) f124 sb_Wtak_Wst0) f137 sb_Wtak_Wst0) f150 sb_Wtak_Wst0) f162 sb_Wask_Wst0), (by omega), (by omega), (by omega), (by omega), (by omega), (by omega), (by omega), (by omega), (by omega)⟩
                      · intro h164
                        replace p159 := p159 (by omega)
                        refine wp_al1 jF_217_203 rfl rfl (pc2 := 204) ?_
                        refine wp_ic jF_217_204 rfl (pc2 := 205) ?_
                        refine wp_bi jF_217_205 (by decide) rfl (pc2 := 207) ?_
                        refine wp_il1 jF_217_207 rfl rfl (pc2 := 208) ?_
                        refine wp_cV (as := [iV 2, iV 10, iV (σ.1 117 2)]) (rest := []) (a := 117) (mx := 11) (ci := 12) jF_217_208 kd117 (by decide) rfl rfl rfl rfl rfl (by omega) (by omega) rfl (pc2 := 211) ?_
                        show WP 235 0 [(0, .ref 117), (1, iV 2), (2, iV 10), (3, iV (σ.1 117 2))] [] _ _ _ _
                        refine wp_join (α := Unit) 23 (fun a => [(0, .ref 117), (1, iV 2), (2, iV 10), (3, iV (σ.1 117 2))]) (fun a τ => GI τ ∧ FR Wbad τ160 τ ∧ ((τ160.1 117 5) ≠ 0 → (τ.1 117 5) = (τ160.1 117 5)) ∧ ((τ.1 117 5) = 0 → (τ160.1 117 5) = 0) ∧ ((τ.1 117 5) = 0 → (τ.1 143 2) ≠ 10)) ?_ ?_
                        · rintro ⟨⟩ τ175 ⟨g176, f177, p178, p179, p180⟩
                          have b181 := GI.b g176 117 5 kd117 (lo := (-2147483648)) (hi := 2147483647) rfl
                          have b182 := GI.b hg 143 2 kd143 (lo := 0) (hi := 16) rfl
                          have q183 : (τ175.1 143 2) = (σ.1 143 2) := ((FR.at f177 143 2 rfl).trans ((FR.at f162 143 2 rfl).trans ((FR.at f150 143 2 rfl).trans ((FR.at f137 143 2 rfl).trans ((FR.at f124 143 2 rfl).trans ((FR.at f111 143 2 rfl).trans ((FR.at f98 143 2 rfl).trans ((FR.at f85 143 2 rfl).trans ((FR.at f72 143 2 rfl).trans (FR.at f59 143 2 rfl))))))))))
                          clear p178
                          show WP 235 23 [(0, .ref 117), (1, iV 2), (2, iV 10), (3, iV (σ.1 117 2))] [] _ _ _ _
                          refine wp_il1 jF_235_23 rfl rfl (pc2 := 24) ?_
                          refine wp_cS (as := [iV 2]) (rest := []) (mx := 1) jF_235_24 rfl rfl rfl rfl (by omega) (by omega) rfl (pc2 := 27) ?_
                          show WP 236 0 [(0, iV 2)] [] _ _ _ _
                          refine wp_il1 jF_236_0 rfl rfl (pc2 := 1) ?_
                          refine wp_z_ne jF_236_1 (m_rgl rfl) rfl (pc2 := 4) ?_ ?_
                          · intro h184
                            refine wp_il1 jF_236_8 rfl rfl (pc2 := 9) ?_
                            refine wp_ic jF_236_9 rfl (pc2 := 10) ?_
                            refine wp_i_ne jF_236_10 (m_rgl rfl) (m_rgl rfl) rfl (pc2 := 13) ?_ ?_
                            · intro h185
                              refine wp_si jF_236_18 (by decide) rfl (pc2 := 21) ?_
                              refine wp_ri jF_236_21 rfl ?_
                              show WP 235 27 [(0, .ref 117), (1, iV 2), (2, iV 10), (3, iV (σ.1 117 2))] [iV 144] _ _ _ _
                              refine wp_bi jF_235_27 (by decide) rfl (pc2 := 29) ?_
                              refine wp_al1 jF_235_29 rfl rfl (pc2 := 30) ?_
                              refine wp_gr (b := 143) jF_235_30 kd117 (by decide) (c := 243) rfl rfl rfl (pc2 := 33) ?_
                              refine wp_il1 jF_235_33 rfl rfl (pc2 := 34) ?_
                              refine wp_iald (n := 6) (e := (σ.1 143 2)) jF_235_34 kd143 (by decide) rfl rfl (by omega) (by omega) ((FR.at f177 143 2 rfl).trans ((FR.at f162 143 2 rfl).trans ((FR.at f150 143 2 rfl).trans ((FR.at f137 143 2 rfl).trans ((FR.at f124 143 2 rfl).trans ((FR.at f111 143 2 rfl).trans ((FR.at f98 143 2 rfl).trans ((FR.at f85 143 2 rfl).trans ((FR.at f72 143 2 rfl).trans (FR.at f59 143 2 rfl)))))))))) rfl (pc2 := 35) ?_
                              refine wp_mul jF_235_35 rfl (pc2 := 36) ?_
                              refine wp_add jF_235_36 rfl (pc2 := 37) ?_
                              refine wp_is2 (lv2 := [(0, .ref 117), (1, iV 2), (2, iV 10), (3, iV (σ.1 117 2)), (4, iV (144 + (6 * (σ.1 143 2))))]) jF_235_37 rfl rfl rfl (pc2 := 39) ?_
                              refine wp_ic jF_235_39 rfl (pc2 := 40) ?_
                              refine wp_is2 (lv2 := [(0, .ref 117), (1, iV 2), (2, iV 10), (3, iV (σ.1 117 2)), (4, iV (144 + (6 * (σ.1 143 2)))), (5, iV (-1))]) jF_235_40 rfl rfl rfl (pc2 := 42) ?_
                              have b186 := GI.b g161 117 2 kd117 (lo := 0) (hi := 1601) rfl
                              have q187 : (τ175.1 117 2) = (τ160.1 117 2) := (FR.at f177 117 2 rfl)
                              refine wp_join (α := Int) 82 (fun a => [(0, .ref 117), (1, iV 2), (2, iV 10), (3, iV (σ.1 117 2)), (4, iV (144 + (6 * (σ.1 143 2)))), (5, iV (a))]) (fun a τ => ((-1) ≤ a ∧ a ≤ 5) ∧ GI τ ∧ FR Wsp τ175 τ ∧ ((τ175.1 117 2) ≤ (τ.1 117 2)) ∧ ((τ175.1 117 5) ≠ 0 → (τ.1 117 5) = (τ175.1 117 5)) ∧ ((τ.1 117 5) = 0 → (τ175.1 117 5) = 0)) ?_ ?_
                              · rintro x188 τ190 ⟨h189, g191, f192, p193, p194, p195⟩
                                have b196 := GI.b g191 117 2 kd117 (lo := 0) (hi := 1601) rfl
                                have b197 := GI.b g191 117 5 kd117 (lo := (-2147483648)) (hi := 2147483647) rfl
                                show WP 235 82 [(0, .ref 117), (1, iV 2), (2, iV 10), (3, iV (σ.1 117 2)), (4, iV (144 + (6 * (σ.1 143 2)))), (5, iV x188)] [] _ _ _ _
                                refine wp_al1 jF_235_82 rfl rfl (pc2 := 83) ?_
                                refine wp_al1 jF_235_83 rfl rfl (pc2 := 84) ?_
                                refine wp_gr (b := 130) jF_235_84 kd117 (by decide) (c := 230) rfl rfl rfl (pc2 := 87) ?_
                                refine wp_cV (as := [.ref 130]) (rest := []) (a := 117) (mx := 2) (ci := 12) jF_235_87 kd117 (by decide) rfl rfl rfl rfl rfl (by omega) (by omega) rfl (pc2 := 90) ?_
                                have q198 : (τ190.1 117 3) = (σ.1 117 3) := ((FR.at f192 117 3 rfl).trans ((FR.at f177 117 3 rfl).trans ((FR.at f162 117 3 rfl).trans ((FR.at f150 117 3 rfl).trans ((FR.at f137 117 3 rfl).trans ((FR.at f124 117 3 rfl).trans ((FR.at f111 117 3 rfl).trans ((FR.at f98 117 3 rfl).trans ((FR.at f85 117 3 rfl).trans ((FR.at f72 117 3 rfl).trans (FR.at f59 117 3 rfl)))))))))))
                                refine wp_use (m_219 τ190 g191 130 6 cw130.1 cw130.2 (by decide)  _ _ (by omega) (by omega)) ?_
                                rintro _ τ203 ⟨z206, rfl, h207, g204, f205, p199, p200, p201, p202⟩
                                show WP 235 90 [(0, .ref 117), (1, iV 2), (2, iV 10), (3, iV (σ.1 117 2)), (4, iV (144 + (6 * (σ.1 143 2)))), (5, iV x188)] [iV z206] _ _ _ _
                                refine wp_is2 (lv2 := [(0, .ref 117), (1, iV 2), (2, iV 10), (3, iV (σ.1 117 2)), (4, iV (144 + (6 * (σ.1 143 2)))), (5, iV x188), (6, iV z206)]) jF_235_90 rfl rfl rfl (pc2 := 92) ?_
                                have b208 := GI.b g204 117 2 kd117 (lo := 0) (hi := 1601) rfl
                                have q209 : (τ203.1 117 5) = (τ190.1 117 5) := (FR.at f205 117 5 rfl)
                                refine wp_join (α := Unit) 105 (fun a => [(0, .ref 117), (1, iV 2), (2, iV 10), (3, iV (σ.1 117 2)), (4, iV (144 + (6 * (σ.1 143 2)))), (5, iV x188), (6, iV z206)]) (fun a τ => GI τ ∧ FR Wask τ203 τ ∧ ((τ203.1 117 2) ≤ (τ.1 117 2)) ∧ ((τ203.1 117 5) ≠ 0 → (τ.1 117 5) = (τ203.1 117 5)) ∧ ((τ.1 117 5) = 0 → (τ203.1 117 5) = 0)) ?_ ?_
                                · rintro ⟨⟩ τ210 ⟨g211, f212, p213, p214, p215⟩
                                  have b216 := GI.b g211 117 2 kd117 (lo := 0) (hi := 1601) rfl
                                  have b217 := GI.b g211 117 5 kd117 (lo := (-2147483648)) (hi := 2147483647) rfl
                                  show WP 235 105 [(0, .ref 117), (1, iV 2), (2, iV 10), (3, iV (σ.1 117 2)), (4, iV (144 + (6 * (σ.1 143 2)))), (5, iV x188), (6, iV z206)] [] _ _ _ _
                                  refine wp_al1 jF_235_105 rfl rfl (pc2 := 106) ?_
                                  refine wp_ic jF_235_106 rfl (pc2 := 107) ?_
                                  refine wp_cV (as := [iV 0]) (rest := []) (a := 117) (mx := 6) (ci := 12) jF_235_107 kd117 (by decide) rfl rfl rfl rfl rfl (by omega) (by omega) rfl (pc2 := 110) ?_
                                  refine wp_use (m_237 τ210 g211 0 (by omega) (by omega)  _ _ (by omega) (by omega)) ?_
                                  rintro _ τ221 ⟨z224, rfl, h225, g222, f223, p218, p219, p220⟩
                                  show WP 235 110 [(0, .ref 117), (1, iV 2), (2, iV 10), (3, iV (σ.1 117 2)), (4, iV (144 + (6 * (σ.1 143 2)))), (5, iV x188), (6, iV z206)] [iV z224] _ _ _ _
                                  refine wp_is2 (lv2 := [(0, .ref 117), (1, iV 2), (2, iV 10), (3, iV (σ.1 117 2)), (4, iV (144 + (6 * (σ.1 143 2)))), (5, iV x188), (6, iV z206), (7, iV z224)]) jF_235_110 rfl rfl rfl (pc2 := 112) ?_
                                  refine wp_al1 jF_235_112 rfl rfl (pc2 := 113) ?_
                                  refine wp_ic jF_235_113 rfl (pc2 := 114) ?_
                                  refine wp_cV (as := [iV 1]) (rest := []) (a := 117) (mx := 6) (ci := 12) jF_235_114 kd117 (by decide) rfl rfl rfl rfl rfl (by omega) (by omega) rfl (pc2 := 117) ?_
                                  have b226 := GI.b g222 117 2 kd117 (lo := 0) (hi := 1601) rfl
                                  have b227 := GI.b g222 117 5 kd117 (lo := (-2147483648)) (hi := 2147483647) rfl
                                  refine wp_use (m_237 τ221 g222 1 (by omega) (by omega)  _ _ (by omega) (by omega)) ?_
                                  rintro _ τ231 ⟨z234, rfl, h235, g232, f233, p228, p229, p230⟩
                                  show WP 235 117 [(0, .ref 117), (1, iV 2), (2, iV 10), (3, iV (σ.1 117 2)), (4, iV (144 + (6 * (σ.1 143 2)))), (5, iV x188), (6, iV z206), (7, iV z224)] [iV z234] _ _ _ _
                                  refine wp_is2 (lv2 := [(0, .ref 117), (1, iV 2), (2, iV 10), (3, iV (σ.1 117 2)), (4, iV (144 + (6 * (σ.1 143 2)))), (5, iV x188), (6, iV z206), (7, iV z224), (8, iV z234)]) jF_235_117 rfl rfl rfl (pc2 := 119) ?_
                                  refine wp_al1 jF_235_119 rfl rfl (pc2 := 120) ?_
                                  refine wp_ic jF_235_120 rfl (pc2 := 121) ?_
                                  refine wp_cV (as := [iV 2]) (rest := []) (a := 117) (mx := 6) (ci := 12) jF_235_121 kd117 (by decide) rfl rfl rfl rfl rfl (by omega) (by omega) rfl (pc2 := 124) ?_
                                  have b236 := GI.b g232 117 2 kd117 (lo := 0) (hi := 1601) rfl
                                  have b237 := GI.b g232 117 5 kd117 (lo := (-2147483648)) (hi := 2147483647) rfl
                                  refine wp_use (m_237 τ231 g232 2 (by omega) (by omega)  _ _ (by omega) (by omega)) ?_
                                  rintro _ τ241 ⟨z244, rfl, h245, g242, f243, p238, p239, p240⟩
                                  show WP 235 124 [(0, .ref 117), (1, iV 2), (2, iV 10), (3, iV (σ.1 117 2)), (4, iV (144 + (6 * (σ.1 143 2)))), (5, iV x188), (6, iV z206), (7, iV z224), (8, iV z234)] [iV z244] _ _ _ _
                                  refine wp_is2 (lv2 := [(0, .ref 117), (1, iV 2), (2, iV 10), (3, iV (σ.1 117 2)), (4, iV (144 + (6 * (σ.1 143 2)))), (5, iV x188), (6, iV z206), (7, iV z224), (8, iV z234), (9, iV z244)]) jF_235_124 rfl rfl rfl (pc2 := 126) ?_
                                  refine wp_ic jF_235_126 rfl (pc2 := 127) ?_
                                  refine wp_is2 (lv2 := [(0, .ref 117), (1, iV 2), (2, iV 10), (3, iV (σ.1 117 2)), (4, iV (144 + (6 * (σ.1 143 2)))), (5, iV x188), (6, iV z206), (7, iV z224), (8, iV z234), (9, iV z244), (10, iV 0)]) jF_235_127 rfl rfl rfl (pc2 := 129) ?_
                                  have b246 := GI.b g242 117 2 kd117 (lo := 0) (hi := 1601) rfl
                                  have b247 := GI.b g242 117 5 kd117 (lo := (-2147483648)) (hi := 2147483647) rfl
                                  refine wp_join (α := Int) 150 (fun a => [(0, .ref 117), (1, iV 2), (2, iV 10), (3, iV (σ.1 117 2)), (4, iV (144 + (6 * (σ.1 143 2)))), (5, iV x188), (6, iV z206), (7, iV z224), (8, iV z234), (9, iV z244), (10, iV (a))]) (fun a τ => ((-2147483648) ≤ a ∧ a ≤ 2147483647) ∧ GI τ ∧ FR Wask τ241 τ ∧ ((τ241.1 117 2) ≤ (τ.1 117 2)) ∧ ((τ241.1 117 5) ≠ 0 → (τ.1 117 5) = (τ241.1 117 5)) ∧ ((τ.1 117 5) = 0 → (τ241.1 117 5) = 0)) ?_ ?_
                                  · rintro x248 τ250 ⟨h249, g251, f252, p253, p254, p255⟩
                                    have b256 := GI.b g251 117 2 kd117 (lo := 0) (hi := 1601) rfl
                                    have b257 := GI.b g251 117 5 kd117 (lo := (-2147483648)) (hi := 2147483647) rfl
                                    show WP 235 150 [(0, .ref 117), (1, iV 2), (2, iV 10), (3, iV (σ.1 117 2)), (4, iV (144 + (6 * (σ.1 143 2)))), (5, iV x188), (6, iV z206), (7, iV z224), (8, iV z234), (9, iV z244), (10, iV x248)] [] _ _ _ _
                                    refine wp_al1 jF_235_150 rfl rfl (pc2 := 151) ?_
                                    refine wp_gi jF_235_151 kd117 (by decide) rfl rfl rfl (pc2 := 154) ?_
                                    refine wp_z_eq jF_235_154 (m_rgb b257 rfl) rfl (pc2 := 157) ?_ ?_
                                    · intro h258
                                      replace p255 := p255 (by omega)
                                      replace p240 := p240 (by omega)
                                      clear p254
                                      replace p230 := p230 (by omega)
                                      clear p239
                                      replace p220 := p220 (by omega)
                                      clear p229
                                      replace p215 := p215 (by omega)
                                      clear p219
                                      replace p195 := p195 (by omega)
                                      clear p214
                                      replace p179 := p179 (by omega)
                                      replace p180 := p180 (by omega)
                                      clear p194
                                      refine wp_al1 jF_235_158 rfl rfl (pc2 := 159) ?_
                                      refine wp_gr (b := 142) jF_235_159 kd117 (by decide) (c := 242) rfl rfl rfl (pc2 := 162) ?_
                                      refine wp_il2 jF_235_162 rfl rfl (pc2 := 164) ?_
                                      refine wp_il2 jF_235_164 rfl rfl (pc2 := 166) ?_
                                      refine wp_iast (n := 408) jF_235_166 kd142 (by decide) rfl rfl (by omega) (by omega) rfl (pc2 := 167) g251 (lo := (-2147483648)) (hi := 2147483647) rfl (by omega) (by omega) ?_
                                      intro τ259 g260 f261 e262
                                      refine wp_al1 jF_235_167 rfl rfl (pc2 := 168) ?_
                                      refine wp_gr (b := 142) jF_235_168 kd117 (by decide) (c := 242) rfl rfl rfl (pc2 := 171) ?_
                                      refine wp_il2 jF_235_171 rfl rfl (pc2 := 173) ?_
                                      refine wp_ic jF_235_173 rfl (pc2 := 174) ?_
                                      refine wp_add jF_235_174 rfl (pc2 := 175) ?_
                                      refine wp_il2 jF_235_175 rfl rfl (pc2 := 177) ?_
                                      refine wp_iast (n := 408) jF_235_177 kd142 (by decide) rfl rfl (by omega) (by omega) rfl (pc2 := 178) g260 (lo := (-2147483648)) (hi := 2147483647) rfl (by omega) (by omega) ?_
                                      intro τ263 g264 f265 e266
                                      refine wp_al1 jF_235_178 rfl rfl (pc2 := 179) ?_
                                      refine wp_gr (b := 142) jF_235_179 kd117 (by decide) (c := 242) rfl rfl rfl (pc2 := 182) ?_
                                      refine wp_il2 jF_235_182 rfl rfl (pc2 := 184) ?_
                                      refine wp_ic jF_235_184 rfl (pc2 := 185) ?_
                                      refine wp_add jF_235_185 rfl (pc2 := 186) ?_
                                      refine wp_il2 jF_235_186 rfl rfl (pc2 := 188) ?_
                                      refine wp_iast (n := 408) jF_235_188 kd142 (by decide) rfl rfl (by omega) (by omega) rfl (pc2 := 189) g264 (lo := (-2147483648)) (hi := 2147483647) rfl (by omega) (by omega) ?_
                                      intro τ267 g268 f269 e270
                                      refine wp_al1 jF_235_189 rfl rfl (pc2 := 190) ?_
                                      refine wp_gr (b := 142) jF_235_190 kd117 (by decide) (c := 242) rfl rfl rfl (pc2 := 193) ?_
                                      refine wp_il2 jF_235_193 rfl rfl (pc2 := 195) ?_
                                      refine wp_ic jF_235_195 rfl (pc2 := 196) ?_
                                      refine wp_add jF_235_196 rfl (pc2 := 197) ?_
                                      refine wp_il2 jF_235_197 rfl rfl (pc2 := 199) ?_
                                      refine wp_z_eq jF_235_199 (m_rgb h207 rfl) rfl (pc2 := 202) ?_ ?_
                                      · intro h271
                                        clear p200
                                        refine wp_ic jF_235_206 rfl (pc2 := 207) ?_
                                        refine wp_iast (n := 408) jF_235_207 kd142 (by decide) rfl rfl (by omega) (by omega) rfl (pc2 := 208) g268 (lo := (-2147483648)) (hi := 2147483647) rfl (by omega) (by omega) ?_
                                        intro τ272 g273 f274 e275
                                        refine wp_al1 jF_235_208 rfl rfl (pc2 := 209) ?_
                                        refine wp_gr (b := 142) jF_235_209 kd117 (by decide) (c := 242) rfl rfl rfl (pc2 := 212) ?_
                                        refine wp_il2 jF_235_212 rfl rfl (pc2 := 214) ?_
                                        refine wp_ic jF_235_214 rfl (pc2 := 215) ?_
                                        refine wp_add jF_235_215 rfl (pc2 := 216) ?_
                                        refine wp_il2 jF_235_216 rfl rfl (pc2 := 218) ?_
                                        refine wp_iast (n := 408) jF_235_218 kd142 (by decide) rfl rfl (by omega) (by omega) rfl (pc2 := 219) g273 (lo := (-2147483648)) (hi := 2147483647) rfl (by omega) (by omega) ?_
                                        intro τ276 g277 f278 e279
                                        refine wp_al1 jF_235_219 rfl rfl (pc2 := 220) ?_
                                        refine wp_gr (b := 142) jF_235_220 kd117 (by decide) (c := 242) rfl rfl rfl (pc2 := 223) ?_
                                        refine wp_il2 jF_235_223 rfl rfl (pc2 := 225) ?_
                                        refine wp_ic jF_235_225 rfl (pc2 := 226) ?_
                                        refine wp_add jF_235_226 rfl (pc2 := 227) ?_
                                        refine wp_il2 jF_235_227 rfl rfl (pc2 := 229) ?_
                                        refine wp_iast (n := 408) jF_235_229 kd142 (by decide) rfl rfl (by omega) (by omega) rfl (pc2 := 230) g277 (lo := (-2147483648)) (hi := 2147483647) rfl (by omega) (by omega) ?_
                                        intro τ280 g281 f282 e283
                                        refine wp_al1 jF_235_230 rfl rfl (pc2 := 231) ?_
                                        refine wp_gr (b := 143) jF_235_231 kd117 (by decide) (c := 243) rfl rfl rfl (pc2 := 234) ?_
                                        refine wp_il1 jF_235_234 rfl rfl (pc2 := 235) ?_
                                        refine wp_du2 jF_235_235 rfl rfl (pc2 := 236) ?_
                                        refine wp_iald (n := 6) (e := (σ.1 143 2)) jF_235_236 kd143 (by decide) rfl rfl (by omega) (by omega) ((FRw.na f282 (by decide)).trans ((FRw.na f278 (by decide)).trans ((FRw.na f274 (by decide)).trans ((FRw.na f269 (by decide)).trans ((FRw.na f265 (by decide)).trans ((FRw.na f261 (by decide)).trans ((FR.at f252 143 2 rfl).trans ((FR.at f243 143 2 rfl).trans ((FR.at f233 143 2 rfl).trans ((FR.at f223 143 2 rfl).trans ((FR.at f212 143 2 rfl).trans ((FR.at f205 143 2 rfl).trans ((FR.at f192 143 2 rfl).trans ((FR.at f177 143 2 rfl).trans ((FR.at f162 143 2 rfl).trans ((FR.at f150 143 2 rfl).trans ((FR.at f137 143 2 rfl).trans ((FR.at f124 143 2 rfl).trans ((FR.at f111 143 2 rfl).trans ((FR.at f98 143 2 rfl).trans ((FR.at f85 143 2 rfl).trans ((FR.at f72 143 2 rfl).trans (FR.at f59 143 2 rfl))))))))))))))))))))))) rfl (pc2 := 237) ?_
                                        refine wp_ic jF_235_237 rfl (pc2 := 238) ?_
                                        refine wp_add jF_235_238 rfl (pc2 := 239) ?_
                                        refine wp_iast (n := 6) jF_235_239 kd143 (by decide) rfl rfl (by omega) (by omega) rfl (pc2 := 240) g281 (lo := 0) (hi := 16) rfl (by omega) (by omega) ?_
                                        intro τ284 g285 f286 e287
                                        refine wp_rv jF_235_240 ?_
                                        show WP 217 211 [(0, .ref 117), (1, iV (σ.1 117 2))] [] _ _ _ _
                                        have q288 : (τ284.1 117 2) = (τ250.1 117 2) := ((FRw.na f286 (by decide)).trans ((FRw.na f282 (by decide)).trans ((FRw.na f278 (by decide)).trans ((FRw.na f274 (by decide)).trans ((FRw.na f269 (by decide)).trans ((FRw.na f265 (by decide)).trans (FRw.na f261 (by decide))))))))
                                        have q289 : (τ284.1 117 5) = (τ250.1 117 5) := ((FRw.na f286 (by decide)).trans ((FRw.na f282 (by decide)).trans ((FRw.na f278 (by decide)).trans ((FRw.na f274 (by decide)).trans ((FRw.na f269 (by decide)).trans ((FRw.na f265 (by decide)).trans (FRw.na f261 (by decide))))))))
                                        have b290 := GI.b hg 143 0 kd143 (lo := 0) (hi := 16) rfl
                                        have q291 : (τ284.1 143 0) = (σ.1 143 0) := ((FRw.nj f286 (by decide)).trans ((FRw.na f282 (by decide)).trans ((FRw.na f278 (by decide)).trans ((FRw.na f274 (by decide)).trans ((FRw.na f269 (by decide)).trans ((FRw.na f265 (by decide)).trans ((FRw.na f261 (by decide)).trans ((FR.at f252 143 0 rfl).trans ((FR.at f243 143 0 rfl).trans ((FR.at f233 143 0 rfl).trans ((FR.at f223 143 0 rfl).trans ((FR.at f212 143 0 rfl).trans ((FR.at f205 143 0 rfl).trans ((FR.at f192 143 0 rfl).trans ((FR.at f177 143 0 rfl).trans ((FR.at f162 143 0 rfl).trans ((FR.at f150 143 0 rfl).trans ((FR.at f137 143 0 rfl).trans ((FR.at f124 143 0 rfl).trans ((FR.at f111 143 0 rfl).trans ((FR.at f98 143 0 rfl).trans ((FR.at f85 143 0 rfl).trans ((FR.at f72 143 0 rfl).trans (FR.at f59 143 0 rfl))))))))))))))))))))))))
                                        have b292 := GI.b hg 143 1 kd143 (lo := 0) (hi := 16) rfl
                                        have q293 : (τ284.1 143 1) = (σ.1 143 1) := ((FRw.nj f286 (by decide)).trans ((FRw.na f282 (by decide)).trans ((FRw.na f278 (by decide)).trans ((FRw.na f274 (by decide)).trans ((FRw.na f269 (by decide)).trans ((FRw.na f265 (by decide)).trans ((FRw.na f261 (by decide)).trans ((FR.at f252 143 1 rfl).trans ((FR.at f243 143 1 rfl).trans ((FR.at f233 143 1 rfl).trans ((FR.at f223 143 1 rfl).trans ((FR.at f212 143 1 rfl).trans ((FR.at f205 143 1 rfl).trans ((FR.at f192 143 1 rfl).trans ((FR.at f177 143 1 rfl).trans ((FR.at f162 143 1 rfl).trans ((FR.at f150 143 1 rfl).trans ((FR.at f137 143 1 rfl).trans ((FR.at f124 143 1 rfl).trans ((FR.at f111 143 1 rfl).trans ((FR.at f98 143 1 rfl).trans ((FR.at f85 143 1 rfl).trans ((FR.at f72 143 1 rfl).trans (FR.at f59 143 1 rfl))))))))))))))))))))))))
                                        have q294 : (τ284.1 143 2) = ((σ.1 143 2) + 1) := e287
                                        have q295 : (τ284.1 143 3) = (σ.1 143 3) := ((FRw.nj f286 (by decide)).trans ((FRw.na f282 (by decide)).trans ((FRw.na f278 (by decide)).trans ((FRw.na f274 (by decide)).trans ((FRw.na f269 (by decide)).trans ((FRw.na f265 (by decide)).trans ((FRw.na f261 (by decide)).trans ((FR.at f252 143 3 rfl).trans ((FR.at f243 143 3 rfl).trans ((FR.at f233 143 3 rfl).trans ((FR.at f223 143 3 rfl).trans ((FR.at f212 143 3 rfl).trans ((FR.at f205 143 3 rfl).trans ((FR.at f192 143 3 rfl).trans ((FR.at f177 143 3 rfl).trans ((FR.at f162 143 3 rfl).trans ((FR.at f150 143 3 rfl).trans ((FR.at f137 143 3 rfl).trans ((FR.at f124 143 3 rfl).trans ((FR.at f111 143 3 rfl).trans ((FR.at f98 143 3 rfl).trans ((FR.at f85 143 3 rfl).trans ((FR.at f72 143 3 rfl).trans (FR.at f59 143 3 rfl))))))))))))))))))))))))
                                        have q296 : (τ284.1 143 4) = (σ.1 143 4) := ((FRw.nj f286 (by decide)).trans ((FRw.na f282 (by decide)).trans ((FRw.na f278 (by decide)).trans ((FRw.na f274 (by decide)).trans ((FRw.na f269 (by decide)).trans ((FRw.na f265 (by decide)).trans ((FRw.na f261 (by decide)).trans ((FR.at f252 143 4 rfl).trans ((FR.at f243 143 4 rfl).trans ((FR.at f233 143 4 rfl).trans ((FR.at f223 143 4 rfl).trans ((FR.at f212 143 4 rfl).trans ((FR.at f205 143 4 rfl).trans ((FR.at f192 143 4 rfl).trans ((FR.at f177 143 4 rfl).trans ((FR.at f162 143 4 rfl).trans ((FR.at f150 143 4 rfl).trans ((FR.at f137 143 4 rfl).trans ((FR.at f124 143 4 rfl).trans ((FR.at f111 143 4 rfl).trans ((FR.at f98 143 4 rfl).trans ((FR.at f85 143 4 rfl).trans ((FR.at f72 143 4 rfl).trans (FR.at f59 143 4 rfl))))))))))))))))))))))))
                                        have q297 : (τ284.1 143 5) = (σ.1 143 5) := ((FRw.nj f286 (by decide)).trans ((FRw.na f282 (by decide)).trans ((FRw.na f278 (by decide)).trans ((FRw.na f274 (by decide)).trans ((FRw.na f269 (by decide)).trans ((FRw.na f265 (by decide)).trans ((FRw.na f261 (by decide)).trans ((FR.at f252 143 5 rfl).trans ((FR.at f243 143 5 rfl).trans ((FR.at f233 143 5 rfl).trans ((FR.at f223 143 5 rfl).trans ((FR.at f212 143 5 rfl).trans ((FR.at f205 143 5 rfl).trans ((FR.at f192 143 5 rfl).trans ((FR.at f177 143 5 rfl).trans ((FR.at f162 143 5 rfl).trans ((FR.at f150 143 5 rfl).trans ((FR.at f137 143 5 rfl).trans ((FR.at f124 143 5 rfl).trans ((FR.at f111 143 5 rfl).trans ((FR.at f98 143 5 rfl).trans ((FR.at f85 143 5 rfl).trans ((FR.at f72 143 5 rfl).trans (FR.at f59 143 5 rfl))))))))))))))))))))))))
                                        exact jn51 () τ284 ⟨g285, (FR.w (FR.w (FR.w (FR.w (FR.w (FR.w (FR.w (FR.up (FR.up (FR.up (FR.up (FR.up (FR.up (FR.up (FR.up (FR.up (FR.up (FR.up (FR.up (FR.up (FR.up (FR.up (FR.up (FR.up FR.rf f59 sb_Wtak_Wst0) f72 sb_Wtak_Wst0) f85 sb_Wtak_Wst0) f98 sb_Wtak_Wst0) f111 sb_Wtak_Wst0) f124 sb_Wtak_Wst0) f137 sb_Wtak_Wst0) f150 sb_Wtak_Wst0) f162 sb_Wask_Wst0) f177 sb_Wbad_Wst0) f192 sb_Wsp_Wst0) f205 sb_Wtak_Wst0) f212 sb_Wask_Wst0) f223 sb_Wsp_Wst0) f233 sb_Wsp_Wst0) f243 sb_Wsp_Wst0) f252 sb_Wask_Wst0) f261 rfl) f265 rfl) f269 rfl) f274 rfl) f278 rfl) f282 rfl) f286 rfl), (by omega), (by omega), (by omega), (by omega), (by omega), (by omega), (by omega), (by omega), (by omega)⟩
                                      · intro h271
                                        replace p200 := p200 (by omega)
                                        refine wp_ic jF_235_202 rfl (pc2 := 203) ?_
                                        refine wp_go jF_235_203 ?_
                                        refine wp_iast (n := 408) jF_235_207 kd142 (by decide) rfl rfl (by omega) (by omega) rfl (pc2 := 208) g268 (lo := (-2147483648)) (hi := 2147483647) rfl (by omega) (by omega) ?_
                                        intro τ298 g299 f300 e301
                                        refine wp_al1 jF_235_208 rfl rfl (pc2 := 209) ?_
                                        refine wp_gr (b := 142) jF_235_209 kd117 (by decide) (c := 242) rfl rfl rfl (pc2 := 212) ?_
                                        refine wp_il2 jF_235_212 rfl rfl (pc2 := 214) ?_
                                        refine wp_ic jF_235_214 rfl (pc2 := 215) ?_
                                        refine wp_add jF_235_215 rfl (pc2 := 216) ?_
                                        refine wp_il2 jF_235_216 rfl rfl (pc2 := 218) ?_
                                        refine wp_iast (n := 408) jF_235_218 kd142 (by decide) rfl rfl (by omega) (by omega) rfl (pc2 := 219) g299 (lo := (-2147483648)) (hi := 2147483647) rfl (by omega) (by omega) ?_
                                        intro τ302 g303 f304 e305
                                        refine wp_al1 jF_235_219 rfl rfl (pc2 := 220) ?_
                                        refine wp_gr (b := 142) jF_235_220 kd117 (by decide) (c := 242) rfl rfl rfl (pc2 := 223) ?_
                                        refine wp_il2 jF_235_223 rfl rfl (pc2 := 225) ?_
                                        refine wp_ic jF_235_225 rfl (pc2 := 226) ?_
                                        refine wp_add jF_235_226 rfl (pc2 := 227) ?_
                                        refine wp_il2 jF_235_227 rfl rfl (pc2 := 229) ?_
                                        refine wp_iast (n := 408) jF_235_229 kd142 (by decide) rfl rfl (by omega) (by omega) rfl (pc2 := 230) g303 (lo := (-2147483648)) (hi := 2147483647) rfl (by omega) (by omega) ?_
                                        intro τ306 g307 f308 e309
                                        refine wp_al1 jF_235_230 rfl rfl (pc2 := 231) ?_
                                        refine wp_gr (b := 143) jF_235_231 kd117 (by decide) (c := 243) rfl rfl rfl (pc2 := 234) ?_
                                        refine wp_il1 jF_235_234 rfl rfl (pc2 := 235) ?_
                                        refine wp_du2 jF_235_235 rfl rfl (pc2 := 236) ?_
                                        refine wp_iald (n := 6) (e := (σ.1 143 2)) jF_235_236 kd143 (by decide) rfl rfl (by omega) (by omega) ((FRw.na f308 (by decide)).trans ((FRw.na f304 (by decide)).trans ((FRw.na f300 (by decide)).trans ((FRw.na f269 (by decide)).trans ((FRw.na f265 (by decide)).trans ((FRw.na f261 (by decide)).trans ((FR.at f252 143 2 rfl).trans ((FR.at f243 143 2 rfl).trans ((FR.at f233 143 2 rfl).trans ((FR.at f223 143 2 rfl).trans ((FR.at f212 143 2 rfl).trans ((FR.at f205 143 2 rfl).trans ((FR.at f192 143 2 rfl).trans ((FR.at f177 143 2 rfl).trans ((FR.at f162 143 2 rfl).trans ((FR.at f150 143 2 rfl).trans ((FR.at f137 143 2 rfl).trans ((FR.at f124 143 2 rfl).trans ((FR.at f111 143 2 rfl).trans ((FR.at f98 143 2 rfl).trans ((FR.at f85 143 2 rfl).trans ((FR.at f72 143 2 rfl).trans (FR.at f59 143 2 rfl))))))))))))))))))))))) rfl (pc2 := 237) ?_
                                        refine wp_ic jF_235_237 rfl (pc2 := 238) ?_
                                        refine wp_add jF_235_238 rfl (pc2 := 239) ?_
                                        refine wp_iast (n := 6) jF_235_239 kd143 (by decide) rfl rfl (by omega) (by omega) rfl (pc2 := 240) g307 (lo := 0) (hi := 16) rfl (by omega) (by omega) ?_
                                        intro τ310 g311 f312 e313
                                        refine wp_rv jF_235_240 ?_
                                        show WP 217 211 [(0, .ref 117), (1, iV (σ.1 117 2))] [] _ _ _ _
                                        have q314 : (τ310.1 117 2) = (τ250.1 117 2) := ((FRw.na f312 (by decide)).trans ((FRw.na f308 (by decide)).trans ((FRw.na f304 (by decide)).trans ((FRw.na f300 (by decide)).trans ((FRw.na f269 (by decide)).trans ((FRw.na f265 (by decide)).trans (FRw.na f261 (by decide))))))))
                                        have q315 : (τ310.1 117 5) = (τ250.1 117 5) := ((FRw.na f312 (by decide)).trans ((FRw.na f308 (by decide)).trans ((FRw.na f304 (by decide)).trans ((FRw.na f300 (by decide)).trans ((FRw.na f269 (by decide)).trans ((FRw.na f265 (by decide)).trans (FRw.na f261 (by decide))))))))
                                        have b316 := GI.b hg 143 0 kd143 (lo := 0) (hi := 16) rfl
                                        have q317 : (τ310.1 143 0) = (σ.1 143 0) := ((FRw.nj f312 (by decide)).trans ((FRw.na f308 (by decide)).trans ((FRw.na f304 (by decide)).trans ((FRw.na f300 (by decide)).trans ((FRw.na f269 (by decide)).trans ((FRw.na f265 (by decide)).trans ((FRw.na f261 (by decide)).trans ((FR.at f252 143 0 rfl).trans ((FR.at f243 143 0 rfl).trans ((FR.at f233 143 0 rfl).trans ((FR.at f223 143 0 rfl).trans ((FR.at f212 143 0 rfl).trans ((FR.at f205 143 0 rfl).trans ((FR.at f192 143 0 rfl).trans ((FR.at f177 143 0 rfl).trans ((FR.at f162 143 0 rfl).trans ((FR.at f150 143 0 rfl).trans ((FR.at f137 143 0 rfl).trans ((FR.at f124 143 0 rfl).trans ((FR.at f111 143 0 rfl).trans ((FR.at f98 143 0 rfl).trans ((FR.at f85 143 0 rfl).trans ((FR.at f72 143 0 rfl).trans (FR.at f59 143 0 rfl))))))))))))))))))))))))
                                        have b318 := GI.b hg 143 1 kd143 (lo := 0) (hi := 16) rfl
                                        have q319 : (τ310.1 143 1) = (σ.1 143 1) := ((FRw.nj f312 (by decide)).trans ((FRw.na f308 (by decide)).trans ((FRw.na f304 (by decide)).trans ((FRw.na f300 (by decide)).trans ((FRw.na f269 (by decide)).trans ((FRw.na f265 (by decide)).trans ((FRw.na f261 (by decide)).trans ((FR.at f252 143 1 rfl).trans ((FR.at f243 143 1 rfl).trans ((FR.at f233 143 1 rfl).trans ((FR.at f223 143 1 rfl).trans ((FR.at f212 143 1 rfl).trans ((FR.at f205 143 1 rfl).trans ((FR.at f192 143 1 rfl).trans ((FR.at f177 143 1 rfl).trans ((FR.at f162 143 1 rfl).trans ((FR.at f150 143 1 rfl).trans ((FR.at f137 143 1 rfl).trans ((FR.at f124 143 1 rfl).trans ((FR.at f111 143 1 rfl).trans ((FR.at f98 143 1 rfl).trans ((FR.at f85 143 1 rfl).trans ((FR.at f72 143 1 rfl).trans (FR.at f59 143 1 rfl))))))))))))))))))))))))
                                        have q320 : (τ310.1 143 2) = ((σ.1 143 2) + 1) := e313
                                        have q321 : (τ310.1 143 3) = (σ.1 143 3) := ((FRw.nj f312 (by decide)).trans ((FRw.na f308 (by decide)).trans ((FRw.na f304 (by decide)).trans ((FRw.na f300 (by decide)).trans ((FRw.na f269 (by decide)).trans ((FRw.na f265 (by decide)).trans ((FRw.na f261 (by decide)).trans ((FR.at f252 143 3 rfl).trans ((FR.at f243 143 3 rfl).trans ((FR.at f233 143 3 rfl).trans ((FR.at f223 143 3 rfl).trans ((FR.at f212 143 3 rfl).trans ((FR.at f205 143 3 rfl).trans ((FR.at f192 143 3 rfl).trans ((FR.at f177 143 3 rfl).trans ((FR.at f162 143 3 rfl).trans ((FR.at f150 143 3 rfl).trans ((FR.at f137 143 3 rfl).trans ((FR.at f124 143 3 rfl).trans ((FR.at f111 143 3 rfl).trans ((FR.at f98 143 3 rfl).trans ((FR.at f85 143 3 rfl).trans ((FR.at f72 143 3 rfl).trans (FR.at f59 143 3 rfl))))))))))))))))))))))))
                                        have q322 : (τ310.1 143 4) = (σ.1 143 4) := ((FRw.nj f312 (by decide)).trans ((FRw.na f308 (by decide)).trans ((FRw.na f304 (by decide)).trans ((FRw.na f300 (by decide)).trans ((FRw.na f269 (by decide)).trans ((FRw.na f265 (by decide)).trans ((FRw.na f261 (by decide)).trans ((FR.at f252 143 4 rfl).trans ((FR.at f243 143 4 rfl).trans ((FR.at f233 143 4 rfl).trans ((FR.at f223 143 4 rfl).trans ((FR.at f212 143 4 rfl).trans ((FR.at f205 143 4 rfl).trans ((FR.at f192 143 4 rfl).trans ((FR.at f177 143 4 rfl).trans ((FR.at f162 143 4 rfl).trans ((FR.at f150 143 4 rfl).trans ((FR.at f137 143 4 rfl).trans ((FR.at f124 143 4 rfl).trans ((FR.at f111 143 4 rfl).trans ((FR.at f98 143 4 rfl).trans ((FR.at f85 143 4 rfl).trans ((FR.at f72 143 4 rfl).trans (FR.at f59 143 4 rfl))))))))))))))))))))))))
                                        have q323 : (τ310.1 143 5) = (σ.1 143 5) := ((FRw.nj f312 (by decide)).trans ((FRw.na f308 (by decide)).trans ((FRw.na f304 (by decide)).trans ((FRw.na f300 (by decide)).trans ((FRw.na f269 (by decide)).trans ((FRw.na f265 (by decide)).trans ((FRw.na f261 (by decide)).trans ((FR.at f252 143 5 rfl).trans ((FR.at f243 143 5 rfl).trans ((FR.at f233 143 5 rfl).trans ((FR.at f223 143 5 rfl).trans ((FR.at f212 143 5 rfl).trans ((FR.at f205 143 5 rfl).trans ((FR.at f192 143 5 rfl).trans ((FR.at f177 143 5 rfl).trans ((FR.at f162 143 5 rfl).trans ((FR.at f150 143 5 rfl).trans ((FR.at f137 143 5 rfl).trans ((FR.at f124 143 5 rfl).trans ((FR.at f111 143 5 rfl).trans ((FR.at f98 143 5 rfl).trans ((FR.at f85 143 5 rfl).trans ((FR.at f72 143 5 rfl).trans (FR.at f59 143 5 rfl))))))))))))))))))))))))
                                        exact jn51 () τ310 ⟨g311, (FR.w (FR.w (FR.w (FR.w (FR.w (FR.w (FR.w (FR.up (FR.up (FR.up (FR.up (FR.up (FR.up (FR.up (FR.up (FR.up (FR.up (FR.up (FR.up (FR.up (FR.up (FR.up (FR.up (FR.up FR.rf f59 sb_Wtak_Wst0) f72 sb_Wtak_Wst0) f85 sb_Wtak_Wst0) f98 sb_Wtak_Wst0) f111 sb_Wtak_Wst0) f124 sb_Wtak_Wst0) f137 sb_Wtak_Wst0) f150 sb_Wtak_Wst0) f162 sb_Wask_Wst0) f177 sb_Wbad_Wst0) f192 sb_Wsp_Wst0) f205 sb_Wtak_Wst0) f212 sb_Wask_Wst0) f223 sb_Wsp_Wst0) f233 sb_Wsp_Wst0) f243 sb_Wsp_Wst0) f252 sb_Wask_Wst0) f261 rfl) f265 rfl) f269 rfl) f300 rfl) f304 rfl) f308 rfl) f312 rfl), (by omega), (by omega), (by omega), (by omega), (by omega), (by omega), (by omega), (by omega), (by omega)⟩
                                    · intro h258
                                      clear p255
                                      refine wp_rv jF_235_157 ?_
                                      show WP 217 211 [(0, .ref 117), (1, iV (σ.1 117 2))] [] _ _ _ _
                                      have b324 := GI.b hg 143 0 kd143 (lo := 0) (hi := 16) rfl
                                      have q325 : (τ250.1 143 0) = (σ.1 143 0) := ((FR.at f252 143 0 rfl).trans ((FR.at f243 143 0 rfl).trans ((FR.at f233 143 0 rfl).trans ((FR.at f223 143 0 rfl).trans ((FR.at f212 143 0 rfl).trans ((FR.at f205 143 0 rfl).trans ((FR.at f192 143 0 rfl).trans ((FR.at f177 143 0 rfl).trans ((FR.at f162 143 0 rfl).trans ((FR.at f150 143 0 rfl).trans ((FR.at f137 143 0 rfl).trans ((FR.at f124 143 0 rfl).trans ((FR.at f111 143 0 rfl).trans ((FR.at f98 143 0 rfl).trans ((FR.at f85 143 0 rfl).trans ((FR.at f72 143 0 rfl).trans (FR.at f59 143 0 rfl)))))))))))))))))
                                      have b326 := GI.b hg 143 1 kd143 (lo := 0) (hi := 16) rfl
                                      have q327 : (τ250.1 143 1) = (σ.1 143 1) := ((FR.at f252 143 1 rfl).trans ((FR.at f243 143 1 rfl).trans ((FR.at f233 143 1 rfl).trans ((FR.at f223 143 1 rfl).trans ((FR.at f212 143 1 rfl).trans ((FR.at f205 143 1 rfl).trans ((FR.at f192 143 1 rfl).trans ((FR.at f177 143 1 rfl).trans ((FR.at f162 143 1 rfl).trans ((FR.at f150 143 1 rfl).trans ((FR.at f137 143 1 rfl).trans ((FR.at f124 143 1 rfl).trans ((FR.at f111 143 1 rfl).trans ((FR.at f98 143 1 rfl).trans ((FR.at f85 143 1 rfl).trans ((FR.at f72 143 1 rfl).trans (FR.at f59 143 1 rfl)))))))))))))))))
                                      have q328 : (τ250.1 143 2) = (σ.1 143 2) := ((FR.at f252 143 2 rfl).trans ((FR.at f243 143 2 rfl).trans ((FR.at f233 143 2 rfl).trans ((FR.at f223 143 2 rfl).trans ((FR.at f212 143 2 rfl).trans ((FR.at f205 143 2 rfl).trans ((FR.at f192 143 2 rfl).trans ((FR.at f177 143 2 rfl).trans ((FR.at f162 143 2 rfl).trans ((FR.at f150 143 2 rfl).trans ((FR.at f137 143 2 rfl).trans ((FR.at f124 143 2 rfl).trans ((FR.at f111 143 2 rfl).trans ((FR.at f98 143 2 rfl).trans ((FR.at f85 143 2 rfl).trans ((FR.at f72 143 2 rfl).trans (FR.at f59 143 2 rfl)))))))))))))))))
                                      have q329 : (τ250.1 143 3) = (σ.1 143 3) := ((FR.at f252 143 3 rfl).trans ((FR.at f243 143 3 rfl).trans ((FR.at f233 143 3 rfl).trans ((FR.at f223 143 3 rfl).trans ((FR.at f212 143 3 rfl).trans ((FR.at f205 143 3 rfl).trans ((FR.at f192 143 3 rfl).trans ((FR.at f177 143 3 rfl).trans ((FR.at f162 143 3 rfl).trans ((FR.at f150 143 3 rfl).trans ((FR.at f137 143 3 rfl).trans ((FR.at f124 143 3 rfl).trans ((FR.at f111 143 3 rfl).trans ((FR.at f98 143 3 rfl).trans ((FR.at f85 143 3 rfl).trans ((FR.at f72 143 3 rfl).trans (FR.at f59 143 3 rfl)))))))))))))))))
                                      have q330 : (τ250.1 143 4) = (σ.1 143 4) := ((FR.at f252 143 4 rfl).trans ((FR.at f243 143 4 rfl).trans ((FR.at f233 143 4 rfl).trans ((FR.at f223 143 4 rfl).trans ((FR.at f212 143 4 rfl).trans ((FR.at f205 143 4 rfl).trans ((FR.at f192 143 4 rfl).trans ((FR.at f177 143 4 rfl).trans ((FR.at f162 143 4 rfl).trans ((FR.at f150 143 4 rfl).trans ((FR.at f137 143 4 rfl).trans ((FR.at f124 143 4 rfl).trans ((FR.at f111 143 4 rfl).trans ((FR.at f98 143 4 rfl).trans ((FR.at f85 143 4 rfl).trans ((FR.at f72 143 4 rfl).trans (FR.at f59 143 4 rfl)))))))))))))))))
                                      have q331 : (τ250.1 143 5) = (σ.1 143 5) := ((FR.at f252 143 5 rfl).trans ((FR.at f243 143 5 rfl).trans ((FR.at f233 143 5 rfl).trans ((FR.at f223 143 5 rfl).trans ((FR.at f212 143 5 rfl).trans ((FR.at f205 143 5 rfl).trans ((FR.at f192 143 5 rfl).trans ((FR.at f177 143 5 rfl).trans ((FR.at f162 143 5 rfl).trans ((FR.at f150 143 5 rfl).trans ((FR.at f137 143 5 rfl).trans ((FR.at f124 143 5 rfl).trans ((FR.at f111 143 5 rfl).trans ((FR.at f98 143 5 rfl).trans ((FR.at f85 143 5 rfl).trans ((FR.at f72 143 5 rfl).trans (FR.at f59 143 5 rfl)))))))))))))))))
                                      exact jn51 () τ250 ⟨g251, (FR.up (FR.up (FR.up (FR.up (FR.up (FR.up (FR.up (FR.up (FR.up (FR.up (FR.up (FR.up (FR.up (FR.up (FR.up (FR.up (FR.up FR.rf f59 sb_Wtak_Wst0) f72 sb_Wtak_Wst0) f85 sb_Wtak_Wst0) f98 sb_Wtak_Wst0) f111 sb_Wtak_Wst0) f124 sb_Wtak_Wst0) f137 sb_Wtak_Wst0) f150 sb_Wtak_Wst0) f162 sb_Wask_Wst0) f177 sb_Wbad_Wst0) f192 sb_Wsp_Wst0) f205 sb_Wtak_Wst0) f212 sb_Wask_Wst0) f223 sb_Wsp_Wst0) f233 sb_Wsp_Wst0) f243 sb_Wsp_Wst0) f252 sb_Wask_Wst0), (by omega), (by omega), (by omega), (by omega), (by omega), (by omega), (by omega), (by omega), (by omega)⟩
                                  · intro jn332
                                    refine wp_il1 jF_235_129 rfl rfl (pc2 := 130) ?_
                                    refine wp_z_ne jF_235_130 (m_rgl rfl) rfl (pc2 := 133) ?_ ?_
                                    · intro h333
                                      exact jn332 (0) τ241 ⟨⟨by omega, by omega⟩, g242, FR.rf, (by omega), (by omega), (by omega)⟩
                                    · intro h333; exfalso; omega
                                · intro jn334
                                  refine wp_il2 jF_235_92 rfl rfl (pc2 := 94) ?_
                                  refine wp_z_ne jF_235_94 (m_rgb h207 rfl) rfl (pc2 := 97) ?_ ?_
                                  · intro h335
                                    replace p200 := p200 (by omega)
                                    replace p195 := p195 (by omega)
                                    replace p179 := p179 (by omega)
                                    replace p180 := p180 (by omega)
                                    clear p194
                                    exact jn334 () τ203 ⟨g204, FR.rf, (by omega), (by omega), (by omega)⟩
                                  · intro h335
                                    clear p200
                                    refine wp_al1 jF_235_97 rfl rfl (pc2 := 98) ?_
                                    refine wp_al1 jF_235_98 rfl rfl (pc2 := 99) ?_
                                    refine wp_gr (b := 131) jF_235_99 kd117 (by decide) (c := 231) rfl rfl rfl (pc2 := 102) ?_
                                    refine wp_cV (as := [.ref 131]) (rest := []) (a := 117) (mx := 2) (ci := 12) jF_235_102 kd117 (by decide) rfl rfl rfl rfl rfl (by omega) (by omega) rfl (pc2 := 105) ?_
                                    have q336 : (τ203.1 117 3) = (σ.1 117 3) := ((FR.at f205 117 3 rfl).trans ((FR.at f192 117 3 rfl).trans ((FR.at f177 117 3 rfl).trans ((FR.at f162 117 3 rfl).trans ((FR.at f150 117 3 rfl).trans ((FR.at f137 117 3 rfl).trans ((FR.at f124 117 3 rfl).trans ((FR.at f111 117 3 rfl).trans ((FR.at f98 117 3 rfl).trans ((FR.at f85 117 3 rfl).trans ((FR.at f72 117 3 rfl).trans (FR.at f59 117 3 rfl))))))))))))
                                    refine wp_use (m_234 τ203 g204 131 4 cw131.1 cw131.2 (by decide)  _ _ (by omega) (by omega)) ?_
                                    rintro _ τ340 ⟨rfl, g341, f342, p337, p338, p339⟩
                                    show WP 235 105 [(0, .ref 117), (1, iV 2), (2, iV 10), (3, iV (σ.1 117 2)), (4, iV (144 + (6 * (σ.1 143 2)))), (5, iV x188), (6, iV z206)] [] _ _ _ _
                                    have b343 := GI.b g341 117 2 kd117 (lo := 0) (hi := 1601) rfl
                                    have b344 := GI.b g341 117 5 kd117 (lo := (-2147483648)) (hi := 2147483647) rfl
                                    exact jn334 () τ340 ⟨g341, f342, (by omega), (by omega), (by omega)⟩
                              · intro jn345
                                refine wp_il1 jF_235_42 rfl rfl (pc2 := 43) ?_
                                refine wp_z_ne jF_235_43 (m_rgl rfl) rfl (pc2 := 46) ?_ ?_
                                · intro h346
                                  exact jn345 ((-1)) τ175 ⟨⟨by omega, by omega⟩, g176, FR.rf, (by omega), (by omega), (by omega)⟩
                                · intro h346; exfalso; omega
                            · intro h185; exfalso; omega
                          · intro h184; exfalso; omega
                        · intro jn347
                          refine wp_al1 jF_235_0 rfl rfl (pc2 := 1) ?_
                          refine wp_gi jF_235_1 kd117 (by decide) rfl rfl rfl (pc2 := 4) ?_
                          refine wp_z_ne jF_235_4 (m_rgb b163 rfl) rfl (pc2 := 7) ?_ ?_
                          · intro h348
                            have b349 := GI.b hg 143 2 kd143 (lo := 0) (hi := 16) rfl
                            have q350 : (τ160.1 143 2) = (σ.1 143 2) := ((FR.at f162 143 2 rfl).trans ((FR.at f150 143 2 rfl).trans ((FR.at f137 143 2 rfl).trans ((FR.at f124 143 2 rfl).trans ((FR.at f111 143 2 rfl).trans ((FR.at f98 143 2 rfl).trans ((FR.at f85 143 2 rfl).trans ((FR.at f72 143 2 rfl).trans (FR.at f59 143 2 rfl)))))))))
                            exact jn347 () τ160 ⟨g161, FR.rf, (by omega), (by omega), (by omega)⟩
                          · intro h348
                            refine wp_al1 jF_235_7 rfl rfl (pc2 := 8) ?_
                            refine wp_gr (b := 143) jF_235_8 kd117 (by decide) (c := 243) rfl rfl rfl (pc2 := 11) ?_
                            refine wp_il1 jF_235_11 rfl rfl (pc2 := 12) ?_
                            have b351 := GI.b hg 143 2 kd143 (lo := 0) (hi := 16) rfl
                            refine wp_iald (n := 6) (e := (σ.1 143 2)) jF_235_12 kd143 (by decide) rfl rfl (by omega) (by omega) ((FR.at f162 143 2 rfl).trans ((FR.at f150 143 2 rfl).trans ((FR.at f137 143 2 rfl).trans ((FR.at f124 143 2 rfl).trans ((FR.at f111 143 2 rfl).trans ((FR.at f98 143 2 rfl).trans ((FR.at f85 143 2 rfl).trans ((FR.at f72 143 2 rfl).trans (FR.at f59 143 2 rfl))))))))) rfl (pc2 := 13) ?_
                            refine wp_il1 jF_235_13 rfl rfl (pc2 := 14) ?_
                            refine wp_i_ne jF_235_14 (m_rgb b351 rfl) (m_rgl rfl) rfl (pc2 := 17) ?_ ?_
                            · intro h352
                              have q353 : (τ160.1 143 2) = (σ.1 143 2) := ((FR.at f162 143 2 rfl).trans ((FR.at f150 143 2 rfl).trans ((FR.at f137 143 2 rfl).trans ((FR.at f124 143 2 rfl).trans ((FR.at f111 143 2 rfl).trans ((FR.at f98 143 2 rfl).trans ((FR.at f85 143 2 rfl).trans ((FR.at f72 143 2 rfl).trans (FR.at f59 143 2 rfl)))))))))
                              exact jn347 () τ160 ⟨g161, FR.rf, (by omega), (by omega), (by omega)⟩
                            · intro h352
                              refine wp_al1 jF_235_17 rfl rfl (pc2 := 18) ?_
                              refine wp_ic jF_235_18 rfl (pc2 := 19) ?_
                              refine wp_il1 jF_235_19 rfl rfl (pc2 := 20) ?_
                              refine wp_cV (as := [iV 5, iV (σ.1 117 2)]) (rest := []) (a := 117) (mx := 3) (ci := 12) jF_235_20 kd117 (by decide) rfl rfl rfl rfl rfl (by omega) (by omega) rfl (pc2 := 23) ?_
                              refine wp_use (m_218 τ160 g161 5 (by omega) (by omega) (σ.1 117 2) (by omega) (by omega)  _ _ (by omega) (by omega)) ?_
                              rintro _ τ356 ⟨rfl, g357, f358, p354, p355⟩
                              clear p354
                              replace p355 := p355 (by omega)
                              show WP 235 23 [(0, .ref 117), (1, iV 2), (2, iV 10), (3, iV (σ.1 117 2))] [] _ _ _ _
                              have b359 := GI.b g357 117 5 kd117 (lo := (-2147483648)) (hi := 2147483647) rfl
                              have q360 : (τ356.1 143 2) = (σ.1 143 2) := ((FR.at f358 143 2 rfl).trans ((FR.at f162 143 2 rfl).trans ((FR.at f150 143 2 rfl).trans ((FR.at f137 143 2 rfl).trans ((FR.at f124 143 2 rfl).trans ((FR.at f111 143 2 rfl).trans ((FR.at f98 143 2 rfl).trans ((FR.at f85 143 2 rfl).trans ((FR.at f72 143 2 rfl).trans (FR.at f59 143 2 rfl))))))))))
                              exact jn347 () τ356 ⟨g357, f358, (by omega), (by omega), (by omega)⟩
                    · intro h153
                      replace p145 := p145 (by omega)
                      refine wp_al1 jF_217_177 rfl rfl (pc2 := 178) ?_
                      refine wp_ic jF_217_178 rfl (pc2 := 179) ?_
                      refine wp_bi jF_217_179 (by decide) rfl (pc2 := 181) ?_
                      refine wp_il1 jF_217_181 rfl rfl (pc2 := 182) ?_
                      refine wp_cV (as := [iV 1, iV 8, iV (σ.1 117 2)]) (rest := []) (a := 117) (mx := 11) (ci := 12) jF_217_182 kd117 (by decide) rfl rfl rfl rfl rfl (by omega) (by omega) rfl (pc2 := 185) ?_
                      show WP 235 0 [(0, .ref 117), (1, iV 1), (2, iV 8), (3, iV (σ.1 117 2))] [] _ _ _ _
                      have q361 : (τ148.1 117 5) = (σ.1 117 5) := ((FR.at f150 117 5 rfl).trans ((FR.at f137 117 5 rfl).trans ((FR.at f124 117 5 rfl).trans ((FR.at f111 117 5 rfl).trans ((FR.at f98 117 5 rfl).trans ((FR.at f85 117 5 rfl).trans ((FR.at f72 117 5 rfl).trans (FR.at f59 117 5 rfl))))))))
                      refine wp_join (α := Unit) 23 (fun a => [(0, .ref 117), (1, iV 1), (2, iV 8), (3, iV (σ.1 117 2))]) (fun a τ => GI τ ∧ FR Wbad τ148 τ ∧ ((τ148.1 117 5) ≠ 0 → (τ.1 117 5) = (τ148.1 117 5)) ∧ ((τ.1 117 5) = 0 → (τ148.1 117 5) = 0) ∧ ((τ.1 117 5) = 0 → (τ.1 143 1) ≠ 8)) ?_ ?_
                      · rintro ⟨⟩ τ362 ⟨g363, f364, p365, p366, p367⟩
                        have b368 := GI.b g363 117 5 kd117 (lo := (-2147483648)) (hi := 2147483647) rfl
                        have b369 := GI.b hg 143 1 kd143 (lo := 0) (hi := 16) rfl
                        have q370 : (τ362.1 143 1) = (σ.1 143 1) := ((FR.at f364 143 1 rfl).trans ((FR.at f150 143 1 rfl).trans ((FR.at f137 143 1 rfl).trans ((FR.at f124 143 1 rfl).trans ((FR.at f111 143 1 rfl).trans ((FR.at f98 143 1 rfl).trans ((FR.at f85 143 1 rfl).trans ((FR.at f72 143 1 rfl).trans (FR.at f59 143 1 rfl)))))))))
                        clear p365
                        show WP 235 23 [(0, .ref 117), (1, iV 1), (2, iV 8), (3, iV (σ.1 117 2))] [] _ _ _ _
                        refine wp_il1 jF_235_23 rfl rfl (pc2 := 24) ?_
                        refine wp_cS (as := [iV 1]) (rest := []) (mx := 1) jF_235_24 rfl rfl rfl rfl (by omega) (by omega) rfl (pc2 := 27) ?_
                        show WP 236 0 [(0, iV 1)] [] _ _ _ _
                        refine wp_il1 jF_236_0 rfl rfl (pc2 := 1) ?_
                        refine wp_z_ne jF_236_1 (m_rgl rfl) rfl (pc2 := 4) ?_ ?_
                        · intro h371
                          refine wp_il1 jF_236_8 rfl rfl (pc2 := 9) ?_
                          refine wp_ic jF_236_9 rfl (pc2 := 10) ?_
                          refine wp_i_ne jF_236_10 (m_rgl rfl) (m_rgl rfl) rfl (pc2 := 13) ?_ ?_
                          · intro h372; exfalso; omega
                          · intro h372
                            refine wp_bi jF_236_13 (by decide) rfl (pc2 := 15) ?_
                            refine wp_go jF_236_15 ?_
                            refine wp_ri jF_236_21 rfl ?_
                            show WP 235 27 [(0, .ref 117), (1, iV 1), (2, iV 8), (3, iV (σ.1 117 2))] [iV 96] _ _ _ _
                            refine wp_bi jF_235_27 (by decide) rfl (pc2 := 29) ?_
                            refine wp_al1 jF_235_29 rfl rfl (pc2 := 30) ?_
                            refine wp_gr (b := 143) jF_235_30 kd117 (by decide) (c := 243) rfl rfl rfl (pc2 := 33) ?_
                            refine wp_il1 jF_235_33 rfl rfl (pc2 := 34) ?_
                            refine wp_iald (n := 6) (e := (σ.1 143 1)) jF_235_34 kd143 (by decide) rfl rfl (by omega) (by omega) ((FR.at f364 143 1 rfl).trans ((FR.at f150 143 1 rfl).trans ((FR.at f137 143 1 rfl).trans ((FR.at f124 143 1 rfl).trans ((FR.at f111 143 1 rfl).trans ((FR.at f98 143 1 rfl).trans ((FR.at f85 143 1 rfl).trans ((FR.at f72 143 1 rfl).trans (FR.at f59 143 1 rfl))))))))) rfl (pc2 := 35) ?_
                            refine wp_mul jF_235_35 rfl (pc2 := 36) ?_
                            refine wp_add jF_235_36 rfl (pc2 := 37) ?_
                            refine wp_is2 (lv2 := [(0, .ref 117), (1, iV 1), (2, iV 8), (3, iV (σ.1 117 2)), (4, iV (96 + (6 * (σ.1 143 1))))]) jF_235_37 rfl rfl rfl (pc2 := 39) ?_
                            refine wp_ic jF_235_39 rfl (pc2 := 40) ?_
                            refine wp_is2 (lv2 := [(0, .ref 117), (1, iV 1), (2, iV 8), (3, iV (σ.1 117 2)), (4, iV (96 + (6 * (σ.1 143 1)))), (5, iV (-1))]) jF_235_40 rfl rfl rfl (pc2 := 42) ?_
                            have b373 := GI.b g149 117 2 kd117 (lo := 0) (hi := 1601) rfl
                            have q374 : (τ362.1 117 2) = (τ148.1 117 2) := (FR.at f364 117 2 rfl)
                            refine wp_join (α := Int) 82 (fun a => [(0, .ref 117), (1, iV 1), (2, iV 8), (3, iV (σ.1 117 2)), (4, iV (96 + (6 * (σ.1 143 1)))), (5, iV (a))]) (fun a τ => ((-1) ≤ a ∧ a ≤ 5) ∧ GI τ ∧ FR Wsp τ362 τ ∧ ((τ362.1 117 2) ≤ (τ.1 117 2)) ∧ ((τ362.1 117 5) ≠ 0 → (τ.1 117 5) = (τ362.1 117 5)) ∧ ((τ.1 117 5) = 0 → (τ362.1 117 5) = 0)) ?_ ?_
                            · rintro x375 τ377 ⟨h376, g378, f379, p380, p381, p382⟩
                              have b383 := GI.b g378 117 2 kd117 (lo := 0) (hi := 1601) rfl
                              have b384 := GI.b g378 117 5 kd117 (lo := (-2147483648)) (hi := 2147483647) rfl
                              show WP 235 82 [(0, .ref 117), (1, iV 1), (2, iV 8), (3, iV (σ.1 117 2)), (4, iV (96 + (6 * (σ.1 143 1)))), (5, iV x375)] [] _ _ _ _
                              refine wp_al1 jF_235_82 rfl rfl (pc2 := 83) ?_
                              refine wp_al1 jF_235_83 rfl rfl (pc2 := 84) ?_
                              refine wp_gr (b := 130) jF_235_84 kd117 (by decide) (c := 230) rfl rfl rfl (pc2 := 87) ?_
                              refine wp_cV (as := [.ref 130]) (rest := []) (a := 117) (mx := 2) (ci := 12) jF_235_87 kd117 (by decide) rfl rfl rfl rfl rfl (by omega) (by omega) rfl (pc2 := 90) ?_
                              have q385 : (τ377.1 117 3) = (σ.1 117 3) := ((FR.at f379 117 3 rfl).trans ((FR.at f364 117 3 rfl).trans ((FR.at f150 117 3 rfl).trans ((FR.at f137 117 3 rfl).trans ((FR.at f124 117 3 rfl).trans ((FR.at f111 117 3 rfl).trans ((FR.at f98 117 3 rfl).trans ((FR.at f85 117 3 rfl).trans ((FR.at f72 117 3 rfl).trans (FR.at f59 117 3 rfl))))))))))
                              refine wp_use (m_219 τ377 g378 130 6 cw130.1 cw130.2 (by decide)  _ _ (by omega) (by omega)) ?_
                              rintro _ τ390 ⟨z393, rfl, h394, g391, f392, p386, p387, p388, p389⟩
                              show WP 235 90 [(0, .ref 117), (1, iV 1), (2, iV 8), (3, iV (σ.1 117 2)), (4, iV (96 + (6 * (σ.1 143 1)))), (5, iV x375)] [iV z393] _ _ _ _
                              refine wp_is2 (lv2 := [(0, .ref 117), (1, iV 1), (2, iV 8), (3, iV (σ.1 117 2)), (4, iV (96 + (6 * (σ.1 143 1)))), (5, iV x375), (6, iV z393)]) jF_235_90 rfl rfl rfl (pc2 := 92) ?_
                              have b395 := GI.b g391 117 2 kd117 (lo := 0) (hi := 1601) rfl
                              have q396 : (τ390.1 117 5) = (τ377.1 117 5) := (FR.at f392 117 5 rfl)
                              refine wp_join (α := Unit) 105 (fun a => [(0, .ref 117), (1, iV 1), (2, iV 8), (3, iV (σ.1 117 2)), (4, iV (96 + (6 * (σ.1 143 1)))), (5, iV x375), (6, iV z393)]) (fun a τ => GI τ ∧ FR Wask τ390 τ ∧ ((τ390.1 117 2) ≤ (τ.1 117 2)) ∧ ((τ390.1 117 5) ≠ 0 → (τ.1 117 5) = (τ390.1 117 5)) ∧ ((τ.1 117 5) = 0 → (τ390.1 117 5) = 0)) ?_ ?_
                              · rintro ⟨⟩ τ397 ⟨g398, f399, p400, p401, p402⟩
                                have b403 := GI.b g398 117 2 kd117 (lo := 0) (hi := 1601) rfl
                                have b404 := GI.b g398 117 5 kd117 (lo := (-2147483648)) (hi := 2147483647) rfl
                                show WP 235 105 [(0, .ref 117), (1, iV 1), (2, iV 8), (3, iV (σ.1 117 2)), (4, iV (96 + (6 * (σ.1 143 1)))), (5, iV x375), (6, iV z393)] [] _ _ _ _
                                refine wp_al1 jF_235_105 rfl rfl (pc2 := 106) ?_
                                refine wp_ic jF_235_106 rfl (pc2 := 107) ?_
                                refine wp_cV (as := [iV 0]) (rest := []) (a := 117) (mx := 6) (ci := 12) jF_235_107 kd117 (by decide) rfl rfl rfl rfl rfl (by omega) (by omega) rfl (pc2 := 110) ?_
                                refine wp_use (m_237 τ397 g398 0 (by omega) (by omega)  _ _ (by omega) (by omega)) ?_
                                rintro _ τ408 ⟨z411, rfl, h412, g409, f410, p405, p406, p407⟩
                                show WP 235 110 [(0, .ref 117), (1, iV 1), (2, iV 8), (3, iV (σ.1 117 2)), (4, iV (96 + (6 * (σ.1 143 1)))), (5, iV x375), (6, iV z393)] [iV z411] _ _ _ _
                                refine wp_is2 (lv2 := [(0, .ref 117), (1, iV 1), (2, iV 8), (3, iV (σ.1 117 2)), (4, iV (96 + (6 * (σ.1 143 1)))), (5, iV x375), (6, iV z393), (7, iV z411)]) jF_235_110 rfl rfl rfl (pc2 := 112) ?_
                                refine wp_al1 jF_235_112 rfl rfl (pc2 := 113) ?_
                                refine wp_ic jF_235_113 rfl (pc2 := 114) ?_
                                refine wp_cV (as := [iV 1]) (rest := []) (a := 117) (mx := 6) (ci := 12) jF_235_114 kd117 (by decide) rfl rfl rfl rfl rfl (by omega) (by omega) rfl (pc2 := 117) ?_
                                have b413 := GI.b g409 117 2 kd117 (lo := 0) (hi := 1601) rfl
                                have b414 := GI.b g409 117 5 kd117 (lo := (-2147483648)) (hi := 2147483647) rfl
                                refine wp_use (m_237 τ408 g409 1 (by omega) (by omega)  _ _ (by omega) (by omega)) ?_
                                rintro _ τ418 ⟨z421, rfl, h422, g419, f420, p415, p416, p417⟩
                                show WP 235 117 [(0, .ref 117), (1, iV 1), (2, iV 8), (3, iV (σ.1 117 2)), (4, iV (96 + (6 * (σ.1 143 1)))), (5, iV x375), (6, iV z393), (7, iV z411)] [iV z421] _ _ _ _
                                refine wp_is2 (lv2 := [(0, .ref 117), (1, iV 1), (2, iV 8), (3, iV (σ.1 117 2)), (4, iV (96 + (6 * (σ.1 143 1)))), (5, iV x375), (6, iV z393), (7, iV z411), (8, iV z421)]) jF_235_117 rfl rfl rfl (pc2 := 119) ?_
                                refine wp_al1 jF_235_119 rfl rfl (pc2 := 120) ?_
                                refine wp_ic jF_235_120 rfl (pc2 := 121) ?_
                                refine wp_cV (as := [iV 2]) (rest := []) (a := 117) (mx := 6) (ci := 12) jF_235_121 kd117 (by decide) rfl rfl rfl rfl rfl (by omega) (by omega) rfl (pc2 := 124) ?_
                                have b423 := GI.b g419 117 2 kd117 (lo := 0) (hi := 1601) rfl
                                have b424 := GI.b g419 117 5 kd117 (lo := (-2147483648)) (hi := 2147483647) rfl
                                refine wp_use (m_237 τ418 g419 2 (by omega) (by omega)  _ _ (by omega) (by omega)) ?_
                                rintro _ τ428 ⟨z431, rfl, h432, g429, f430, p425, p426, p427⟩
                                show WP 235 124 [(0, .ref 117), (1, iV 1), (2, iV 8), (3, iV (σ.1 117 2)), (4, iV (96 + (6 * (σ.1 143 1)))), (5, iV x375), (6, iV z393), (7, iV z411), (8, iV z421)] [iV z431] _ _ _ _
                                refine wp_is2 (lv2 := [(0, .ref 117), (1, iV 1), (2, iV 8), (3, iV (σ.1 117 2)), (4, iV (96 + (6 * (σ.1 143 1)))), (5, iV x375), (6, iV z393), (7, iV z411), (8, iV z421), (9, iV z431)]) jF_235_124 rfl rfl rfl (pc2 := 126) ?_
                                refine wp_ic jF_235_126 rfl (pc2 := 127) ?_
                                refine wp_is2 (lv2 := [(0, .ref 117), (1, iV 1), (2, iV 8), (3, iV (σ.1 117 2)), (4, iV (96 + (6 * (σ.1 143 1)))), (5, iV x375), (6, iV z393), (7, iV z411), (8, iV z421), (9, iV z431), (10, iV 0)]) jF_235_127 rfl rfl rfl (pc2 := 129) ?_
                                have b433 := GI.b g429 117 2 kd117 (lo := 0) (hi := 1601) rfl
                                have b434 := GI.b g429 117 5 kd117 (lo := (-2147483648)) (hi := 2147483647) rfl
                                refine wp_join (α := Int) 150 (fun a => [(0, .ref 117), (1, iV 1), (2, iV 8), (3, iV (σ.1 117 2)), (4, iV (96 + (6 * (σ.1 143 1)))), (5, iV x375), (6, iV z393), (7, iV z411), (8, iV z421), (9, iV z431), (10, iV (a))]) (fun a τ => ((-2147483648) ≤ a ∧ a ≤ 2147483647) ∧ GI τ ∧ FR Wask τ428 τ ∧ ((τ428.1 117 2) ≤ (τ.1 117 2)) ∧ ((τ428.1 117 5) ≠ 0 → (τ.1 117 5) = (τ428.1 117 5)) ∧ ((τ.1 117 5) = 0 → (τ428.1 117 5) = 0)) ?_ ?_
                                · rintro x435 τ437 ⟨h436, g438, f439, p440, p441, p442⟩
                                  have b443 := GI.b g438 117 2 kd117 (lo := 0) (hi := 1601) rfl
                                  have b444 := GI.b g438 117 5 kd117 (lo := (-2147483648)) (hi := 2147483647) rfl
                                  show WP 235 150 [(0, .ref 117), (1, iV 1), (2, iV 8), (3, iV (σ.1 117 2)), (4, iV (96 + (6 * (σ.1 143 1)))), (5, iV x375), (6, iV z393), (7, iV z411), (8, iV z421), (9, iV z431), (10, iV x435)] [] _ _ _ _
                                  refine wp_al1 jF_235_150 rfl rfl (pc2 := 151) ?_
                                  refine wp_gi jF_235_151 kd117 (by decide) rfl rfl rfl (pc2 := 154) ?_
                                  refine wp_z_eq jF_235_154 (m_rgb b444 rfl) rfl (pc2 := 157) ?_ ?_
                                  · intro h445
                                    replace p442 := p442 (by omega)
                                    replace p427 := p427 (by omega)
                                    clear p441
                                    replace p417 := p417 (by omega)
                                    clear p426
                                    replace p407 := p407 (by omega)
                                    clear p416
                                    replace p402 := p402 (by omega)
                                    clear p406
                                    replace p382 := p382 (by omega)
                                    clear p401
                                    replace p366 := p366 (by omega)
                                    replace p367 := p367 (by omega)
                                    clear p381
                                    refine wp_al1 jF_235_158 rfl rfl (pc2 := 159) ?_
                                    refine wp_gr (b := 142) jF_235_159 kd117 (by decide) (c := 242) rfl rfl rfl (pc2 := 162) ?_
                                    refine wp_il2 jF_235_162 rfl rfl (pc2 := 164) ?_
                                    refine wp_il2 jF_235_164 rfl rfl (pc2 := 166) ?_
                                    refine wp_iast (n := 408) jF_235_166 kd142 (by decide) rfl rfl (by omega) (by omega) rfl (pc2 := 167) g438 (lo := (-2147483648)) (hi := 2147483647) rfl (by omega) (by omega) ?_
                                    intro τ446 g447 f448 e449
                                    refine wp_al1 jF_235_167 rfl rfl (pc2 := 168) ?_
                                    refine wp_gr (b := 142) jF_235_168 kd117 (by decide) (c := 242) rfl rfl rfl (pc2 := 171) ?_
                                    refine wp_il2 jF_235_171 rfl rfl (pc2 := 173) ?_
                                    refine wp_ic jF_235_173 rfl (pc2 := 174) ?_
                                    refine wp_add jF_235_174 rfl (pc2 := 175) ?_
                                    refine wp_il2 jF_235_175 rfl rfl (pc2 := 177) ?_
                                    refine wp_iast (n := 408) jF_235_177 kd142 (by decide) rfl rfl (by omega) (by omega) rfl (pc2 := 178) g447 (lo := (-2147483648)) (hi := 2147483647) rfl (by omega) (by omega) ?_
                                    intro τ450 g451 f452 e453
                                    refine wp_al1 jF_235_178 rfl rfl (pc2 := 179) ?_
                                    refine wp_gr (b := 142) jF_235_179 kd117 (by decide) (c := 242) rfl rfl rfl (pc2 := 182) ?_
                                    refine wp_il2 jF_235_182 rfl rfl (pc2 := 184) ?_
                                    refine wp_ic jF_235_184 rfl (pc2 := 185) ?_
                                    refine wp_add jF_235_185 rfl (pc2 := 186) ?_
                                    refine wp_il2 jF_235_186 rfl rfl (pc2 := 188) ?_
                                    refine wp_iast (n := 408) jF_235_188 kd142 (by decide) rfl rfl (by omega) (by omega) rfl (pc2 := 189) g451 (lo := (-2147483648)) (hi := 2147483647) rfl (by omega) (by omega) ?_
                                    intro τ454 g455 f456 e457
                                    refine wp_al1 jF_235_189 rfl rfl (pc2 := 190) ?_
                                    refine wp_gr (b := 142) jF_235_190 kd117 (by decide) (c := 242) rfl rfl rfl (pc2 := 193) ?_
                                    refine wp_il2 jF_235_193 rfl rfl (pc2 := 195) ?_
                                    refine wp_ic jF_235_195 rfl (pc2 := 196) ?_
                                    refine wp_add jF_235_196 rfl (pc2 := 197) ?_
                                    refine wp_il2 jF_235_197 rfl rfl (pc2 := 199) ?_
                                    refine wp_z_eq jF_235_199 (m_rgb h394 rfl) rfl (pc2 := 202) ?_ ?_
                                    · intro h458
                                      clear p387
                                      refine wp_ic jF_235_206 rfl (pc2 := 207) ?_
                                      refine wp_iast (n := 408) jF_235_207 kd142 (by decide) rfl rfl (by omega) (by omega) rfl (pc2 := 208) g455 (lo := (-2147483648)) (hi := 2147483647) rfl (by omega) (by omega) ?_
                                      intro τ459 g460 f461 e462
                                      refine wp_al1 jF_235_208 rfl rfl (pc2 := 209) ?_
                                      refine wp_gr (b := 142) jF_235_209 kd117 (by decide) (c := 242) rfl rfl rfl (pc2 := 212) ?_
                                      refine wp_il2 jF_235_212 rfl rfl (pc2 := 214) ?_
                                      refine wp_ic jF_235_214 rfl (pc2 := 215) ?_
                                      refine wp_add jF_235_215 rfl (pc2 := 216) ?_
                                      refine wp_il2 jF_235_216 rfl rfl (pc2 := 218) ?_
                                      refine wp_iast (n := 408) jF_235_218 kd142 (by decide) rfl rfl (by omega) (by omega) rfl (pc2 := 219) g460 (lo := (-2147483648)) (hi := 2147483647) rfl (by omega) (by omega) ?_
                                      intro τ463 g464 f465 e466
                                      refine wp_al1 jF_235_219 rfl rfl (pc2 := 220) ?_
                                      refine wp_gr (b := 142) jF_235_220 kd117 (by decide) (c := 242) rfl rfl rfl (pc2 := 223) ?_
                                      refine wp_il2 jF_235_223 rfl rfl (pc2 := 225) ?_
                                      refine wp_ic jF_235_225 rfl (pc2 := 226) ?_
                                      refine wp_add jF_235_226 rfl (pc2 := 227) ?_
                                      refine wp_il2 jF_235_227 rfl rfl (pc2 := 229) ?_
                                      refine wp_iast (n := 408) jF_235_229 kd142 (by decide) rfl rfl (by omega) (by omega) rfl (pc2 := 230) g464 (lo := (-2147483648)) (hi := 2147483647) rfl (by omega) (by omega) ?_
                                      intro τ467 g468 f469 e470
                                      refine wp_al1 jF_235_230 rfl rfl (pc2 := 231) ?_
                                      refine wp_gr (b := 143) jF_235_231 kd117 (by decide) (c := 243) rfl rfl rfl (pc2 := 234) ?_
                                      refine wp_il1 jF_235_234 rfl rfl (pc2 := 235) ?_
                                      refine wp_du2 jF_235_235 rfl rfl (pc2 := 236) ?_
                                      refine wp_iald (n := 6) (e := (σ.1 143 1)) jF_235_236 kd143 (by decide) rfl rfl (by omega) (by omega) ((FRw.na f469 (by decide)).trans ((FRw.na f465 (by decide)).trans ((FRw.na f461 (by decide)).trans ((FRw.na f456 (by decide)).trans ((FRw.na f452 (by decide)).trans ((FRw.na f448 (by decide)).trans ((FR.at f439 143 1 rfl).trans ((FR.at f430 143 1 rfl).trans ((FR.at f420 143 1 rfl).trans ((FR.at f410 143 1 rfl).trans ((FR.at f399 143 1 rfl).trans ((FR.at f392 143 1 rfl).trans ((FR.at f379 143 1 rfl).trans ((FR.at f364 143 1 rfl).trans ((FR.at f150 143 1 rfl).trans ((FR.at f137 143 1 rfl).trans ((FR.at f124 143 1 rfl).trans ((FR.at f111 143 1 rfl).trans ((FR.at f98 143 1 rfl).trans ((FR.at f85 143 1 rfl).trans ((FR.at f72 143 1 rfl).trans (FR.at f59 143 1 rfl)))))))))))))))))))))) rfl (pc2 := 237) ?_
                                      refine wp_ic jF_235_237 rfl (pc2 := 238) ?_
                                      refine wp_add jF_235_238 rfl (pc2 := 239) ?_
                                      refine wp_iast (n := 6) jF_235_239 kd143 (by decide) rfl rfl (by omega) (by omega) rfl (pc2 := 240) g468 (lo := 0) (hi := 16) rfl (by omega) (by omega) ?_
                                      intro τ471 g472 f473 e474
                                      refine wp_rv jF_235_240 ?_
                                      show WP 217 185 [(0, .ref 117), (1, iV (σ.1 117 2))] [] _ _ _ _
                                      refine wp_go jF_217_185 ?_
                                      have q475 : (τ471.1 117 2) = (τ437.1 117 2) := ((FRw.na f473 (by decide)).trans ((FRw.na f469 (by decide)).trans ((FRw.na f465 (by decide)).trans ((FRw.na f461 (by decide)).trans ((FRw.na f456 (by decide)).trans ((FRw.na f452 (by decide)).trans (FRw.na f448 (by decide))))))))
                                      have q476 : (τ471.1 117 5) = (τ437.1 117 5) := ((FRw.na f473 (by decide)).trans ((FRw.na f469 (by decide)).trans ((FRw.na f465 (by decide)).trans ((FRw.na f461 (by decide)).trans ((FRw.na f456 (by decide)).trans ((FRw.na f452 (by decide)).trans (FRw.na f448 (by decide))))))))
                                      have b477 := GI.b hg 143 0 kd143 (lo := 0) (hi := 16) rfl
                                      have q478 : (τ471.1 143 0) = (σ.1 143 0) := ((FRw.nj f473 (by decide)).trans ((FRw.na f469 (by decide)).trans ((FRw.na f465 (by decide)).trans ((FRw.na f461 (by decide)).trans ((FRw.na f456 (by decide)).trans ((FRw.na f452 (by decide)).trans ((FRw.na f448 (by decide)).trans ((FR.at f439 143 0 rfl).trans ((FR.at f430 143 0 rfl).trans ((FR.at f420 143 0 rfl).trans ((FR.at f410 143 0 rfl).trans ((FR.at f399 143 0 rfl).trans ((FR.at f392 143 0 rfl).trans ((FR.at f379 143 0 rfl).trans ((FR.at f364 143 0 rfl).trans ((FR.at f150 143 0 rfl).trans ((FR.at f137 143 0 rfl).trans ((FR.at f124 143 0 rfl).trans ((FR.at f111 143 0 rfl).trans ((FR.at f98 143 0 rfl).trans ((FR.at f85 143 0 rfl).trans ((FR.at f72 143 0 rfl).trans (FR.at f59 143 0 rfl)))))))))))))))))))))))
                                      have q479 : (τ471.1 143 1) = ((σ.1 143 1) + 1) := e474
                                      have b480 := GI.b hg 143 2 kd143 (lo := 0) (hi := 16) rfl
                                      have q481 : (τ471.1 143 2) = (σ.1 143 2) := ((FRw.nj f473 (by decide)).trans ((FRw.na f469 (by decide)).trans ((FRw.na f465 (by decide)).trans ((FRw.na f461 (by decide)).trans ((FRw.na f456 (by decide)).trans ((FRw.na f452 (by decide)).trans ((FRw.na f448 (by decide)).trans ((FR.at f439 143 2 rfl).trans ((FR.at f430 143 2 rfl).trans ((FR.at f420 143 2 rfl).trans ((FR.at f410 143 2 rfl).trans ((FR.at f399 143 2 rfl).trans ((FR.at f392 143 2 rfl).trans ((FR.at f379 143 2 rfl).trans ((FR.at f364 143 2 rfl).trans ((FR.at f150 143 2 rfl).trans ((FR.at f137 143 2 rfl).trans ((FR.at f124 143 2 rfl).trans ((FR.at f111 143 2 rfl).trans ((FR.at f98 143 2 rfl).trans ((FR.at f85 143 2 rfl).trans ((FR.at f72 143 2 rfl).trans (FR.at f59 143 2 rfl)))))))))))))))))))))))
                                      have q482 : (τ471.1 143 3) = (σ.1 143 3) := ((FRw.nj f473 (by decide)).trans ((FRw.na f469 (by decide)).trans ((FRw.na f465 (by decide)).trans ((FRw.na f461 (by decide)).trans ((FRw.na f456 (by decide)).trans ((FRw.na f452 (by decide)).trans ((FRw.na f448 (by decide)).trans ((FR.at f439 143 3 rfl).trans ((FR.at f430 143 3 rfl).trans ((FR.at f420 143 3 rfl).trans ((FR.at f410 143 3 rfl).trans ((FR.at f399 143 3 rfl).trans ((FR.at f392 143 3 rfl).trans ((FR.at f379 143 3 rfl).trans ((FR.at f364 143 3 rfl).trans ((FR.at f150 143 3 rfl).trans ((FR.at f137 143 3 rfl).trans ((FR.at f124 143 3 rfl).trans ((FR.at f111 143 3 rfl).trans ((FR.at f98 143 3 rfl).trans ((FR.at f85 143 3 rfl).trans ((FR.at f72 143 3 rfl).trans (FR.at f59 143 3 rfl)))))))))))))))))))))))
                                      have q483 : (τ471.1 143 4) = (σ.1 143 4) := ((FRw.nj f473 (by decide)).trans ((FRw.na f469 (by decide)).trans ((FRw.na f465 (by decide)).trans ((FRw.na f461 (by decide)).trans ((FRw.na f456 (by decide)).trans ((FRw.na f452 (by decide)).trans ((FRw.na f448 (by decide)).trans ((FR.at f439 143 4 rfl).trans ((FR.at f430 143 4 rfl).trans ((FR.at f420 143 4 rfl).trans ((FR.at f410 143 4 rfl).trans ((FR.at f399 143 4 rfl).trans ((FR.at f392 143 4 rfl).trans ((FR.at f379 143 4 rfl).trans ((FR.at f364 143 4 rfl).trans ((FR.at f150 143 4 rfl).trans ((FR.at f137 143 4 rfl).trans ((FR.at f124 143 4 rfl).trans ((FR.at f111 143 4 rfl).trans ((FR.at f98 143 4 rfl).trans ((FR.at f85 143 4 rfl).trans ((FR.at f72 143 4 rfl).trans (FR.at f59 143 4 rfl)))))))))))))))))))))))
                                      have q484 : (τ471.1 143 5) = (σ.1 143 5) := ((FRw.nj f473 (by decide)).trans ((FRw.na f469 (by decide)).trans ((FRw.na f465 (by decide)).trans ((FRw.na f461 (by decide)).trans ((FRw.na f456 (by decide)).trans ((FRw.na f452 (by decide)).trans ((FRw.na f448 (by decide)).trans ((FR.at f439 143 5 rfl).trans ((FR.at f430 143 5 rfl).trans ((FR.at f420 143 5 rfl).trans ((FR.at f410 143 5 rfl).trans ((FR.at f399 143 5 rfl).trans ((FR.at f392 143 5 rfl).trans ((FR.at f379 143 5 rfl).trans ((FR.at f364 143 5 rfl).trans ((FR.at f150 143 5 rfl).trans ((FR.at f137 143 5 rfl).trans ((FR.at f124 143 5 rfl).trans ((FR.at f111 143 5 rfl).trans ((FR.at f98 143 5 rfl).trans ((FR.at f85 143 5 rfl).trans ((FR.at f72 143 5 rfl).trans (FR.at f59 143 5 rfl)))))))))))))))))))))))
                                      exact jn51 () τ471 ⟨g472, (FR.w (FR.w (FR.w (FR.w (FR.w (FR.w (FR.w (FR.up (FR.up (FR.up (FR.up (FR.up (FR.up (FR.up (FR.up (FR.up (FR.up (FR.up (FR.up (FR.up (FR.up (FR.up (FR.up FR.rf f59 sb_Wtak_Wst0) f72 sb_Wtak_Wst0) f85 sb_Wtak_Wst0) f98 sb_Wtak_Wst0) f111 sb_Wtak_Wst0) f124 sb_Wtak_Wst0) f137 sb_Wtak_Wst0) f150 sb_Wtak_Wst0) f364 sb_Wbad_Wst0) f379 sb_Wsp_Wst0) f392 sb_Wtak_Wst0) f399 sb_Wask_Wst0) f410 sb_Wsp_Wst0) f420 sb_Wsp_Wst0) f430 sb_Wsp_Wst0) f439 sb_Wask_Wst0) f448 rfl) f452 rfl) f456 rfl) f461 rfl) f465 rfl) f469 rfl) f473 rfl), (by omega), (by omega), (by omega), (by omega), (by omega), (by omega), (by omega), (by omega), (by omega)⟩
                                    · intro h458
                                      replace p387 := p387 (by omega)
                                      refine wp_ic jF_235_202 rfl (pc2 := 203) ?_
                                      refine wp_go jF_235_203 ?_
                                      refine wp_iast (n := 408) jF_235_207 kd142 (by decide) rfl rfl (by omega) (by omega) rfl (pc2 := 208) g455 (lo := (-2147483648)) (hi := 2147483647) rfl (by omega) (by omega) ?_
                                      intro τ485 g486 f487 e488
                                      refine wp_al1 jF_235_208 rfl rfl (pc2 := 209) ?_
                                      refine wp_gr (b := 142) jF_235_209 kd117 (by decide) (c := 242) rfl rfl rfl (pc2 := 212) ?_
                                      refine wp_il2 jF_235_212 rfl rfl (pc2 := 214) ?_
                                      refine wp_ic jF_235_214 rfl (pc2 := 215) ?_
                                      refine wp_add jF_235_215 rfl (pc2 := 216) ?_
                                      refine wp_il2 jF_235_216 rfl rfl (pc2 := 218) ?_
                                      refine wp_iast (n := 408) jF_235_218 kd142 (by decide) rfl rfl (by omega) (by omega) rfl (pc2 := 219) g486 (lo := (-2147483648)) (hi := 2147483647) rfl (by omega) (by omega) ?_
                                      intro τ489 g490 f491 e492
                                      refine wp_al1 jF_235_219 rfl rfl (pc2 := 220) ?_
                                      refine wp_gr (b := 142) jF_235_220 kd117 (by decide) (c := 242) rfl rfl rfl (pc2 := 223) ?_
                                      refine wp_il2 jF_235_223 rfl rfl (pc2 := 225) ?_
                                      refine wp_ic jF_235_225 rfl (pc2 := 226) ?_
                                      refine wp_add jF_235_226 rfl (pc2 := 227) ?_
                                      refine wp_il2 jF_235_227 rfl rfl (pc2 := 229) ?_
                                      refine wp_iast (n := 408) jF_235_229 kd142 (by decide) rfl rfl (by omega) (by omega) rfl (pc2 := 230) g490 (lo := (-2147483648)) (hi := 2147483647) rfl (by omega) (by omega) ?_
                                      intro τ493 g494 f495 e496
                                      refine wp_al1 jF_235_230 rfl rfl (pc2 := 231) ?_
                                      refine wp_gr (b := 143) jF_235_231 kd117 (by decide) (c := 243) rfl rfl rfl (pc2 := 234) ?_
                                      refine wp_il1 jF_235_234 rfl rfl (pc2 := 235) ?_
                                      refine wp_du2 jF_235_235 rfl rfl (pc2 := 236) ?_
                                      refine wp_iald (n := 6) (e := (σ.1 143 1)) jF_235_236 kd143 (by decide) rfl rfl (by omega) (by omega) ((FRw.na f495 (by decide)).trans ((FRw.na f491 (by decide)).trans ((FRw.na f487 (by decide)).trans ((FRw.na f456 (by decide)).trans ((FRw.na f452 (by decide)).trans ((FRw.na f448 (by decide)).trans ((FR.at f439 143 1 rfl).trans ((FR.at f430 143 1 rfl).trans ((FR.at f420 143 1 rfl).trans ((FR.at f410 143 1 rfl).trans ((FR.at f399 143 1 rfl).trans ((FR.at f392 143 1 rfl).trans ((FR.at f379 143 1 rfl).trans ((FR.at f364 143 1 rfl).trans ((FR.at f150 143 1 rfl).trans ((FR.at f137 143 1 rfl).trans ((FR.at f124 143 1 rfl).trans ((FR.at f111 143 1 rfl).trans ((FR.at f98 143 1 rfl).trans ((FR.at f85 143 1 rfl).trans ((FR.at f72 143 1 rfl).trans (FR.at f59 143 1 rfl)))))))))))))))))))))) rfl (pc2 := 237) ?_
                                      refine wp_ic jF_235_237 rfl (pc2 := 238) ?_
                                      refine wp_add jF_235_238 rfl (pc2 := 239) ?_
                                      refine wp_iast (n := 6) jF_235_239 kd143 (by decide) rfl rfl (by omega) (by omega) rfl (pc2 := 240) g494 (lo := 0) (hi := 16) rfl (by omega) (by omega) ?_
                                      intro τ497 g498 f499 e500
                                      refine wp_rv jF_235_240 ?_
                                      show WP 217 185 [(0, .ref 117), (1, iV (σ.1 117 2))] [] _ _ _ _
                                      refine wp_go jF_217_185 ?_
                                      have q501 : (τ497.1 117 2) = (τ437.1 117 2) := ((FRw.na f499 (by decide)).trans ((FRw.na f495 (by decide)).trans ((FRw.na f491 (by decide)).trans ((FRw.na f487 (by decide)).trans ((FRw.na f456 (by decide)).trans ((FRw.na f452 (by decide)).trans (FRw.na f448 (by decide))))))))
                                      have q502 : (τ497.1 117 5) = (τ437.1 117 5) := ((FRw.na f499 (by decide)).trans ((FRw.na f495 (by decide)).trans ((FRw.na f491 (by decide)).trans ((FRw.na f487 (by decide)).trans ((FRw.na f456 (by decide)).trans ((FRw.na f452 (by decide)).trans (FRw.na f448 (by decide))))))))
                                      have b503 := GI.b hg 143 0 kd143 (lo := 0) (hi := 16) rfl
                                      have q504 : (τ497.1 143 0) = (σ.1 143 0) := ((FRw.nj f499 (by decide)).trans ((FRw.na f495 (by decide)).trans ((FRw.na f491 (by decide)).trans ((FRw.na f487 (by decide)).trans ((FRw.na f456 (by decide)).trans ((FRw.na f452 (by decide)).trans ((FRw.na f448 (by decide)).trans ((FR.at f439 143 0 rfl).trans ((FR.at f430 143 0 rfl).trans ((FR.at f420 143 0 rfl).trans ((FR.at f410 143 0 rfl).trans ((FR.at f399 143 0 rfl).trans ((FR.at f392 143 0 rfl).trans ((FR.at f379 143 0 rfl).trans ((FR.at f364 143 0 rfl).trans ((FR.at f150 143 0 rfl).trans ((FR.at f137 143 0 rfl).trans ((FR.at f124 143 0 rfl).trans ((FR.at f111 143 0 rfl).trans ((FR.at f98 143 0 rfl).trans ((FR.at f85 143 0 rfl).trans ((FR.at f72 143 0 rfl).trans (FR.at f59 143 0 rfl)))))))))))))))))))))))
                                      have q505 : (τ497.1 143 1) = ((σ.1 143 1) + 1) := e500
                                      have b506 := GI.b hg 143 2 kd143 (lo := 0) (hi := 16) rfl
                                      have q507 : (τ497.1 143 2) = (σ.1 143 2) := ((FRw.nj f499 (by decide)).trans ((FRw.na f495 (by decide)).trans ((FRw.na f491 (by decide)).trans ((FRw.na f487 (by decide)).trans ((FRw.na f456 (by decide)).trans ((FRw.na f452 (by decide)).trans ((FRw.na f448 (by decide)).trans ((FR.at f439 143 2 rfl).trans ((FR.at f430 143 2 rfl).trans ((FR.at f420 143 2 rfl).trans ((FR.at f410 143 2 rfl).trans ((FR.at f399 143 2 rfl).trans ((FR.at f392 143 2 rfl).trans ((FR.at f379 143 2 rfl).trans ((FR.at f364 143 2 rfl).trans ((FR.at f150 143 2 rfl).trans ((FR.at f137 143 2 rfl).trans ((FR.at f124 143 2 rfl).trans ((FR.at f111 143 2 rfl).trans ((FR.at f98 143 2 rfl).trans ((FR.at f85 143 2 rfl).trans ((FR.at f72 143 2 rfl).trans (FR.at f59 143 2 rfl)))))))))))))))))))))))
                                      have q508 : (τ497.1 143 3) = (σ.1 143 3) := ((FRw.nj f499 (by decide)).trans ((FRw.na f495 (by decide)).trans ((FRw.na f491 (by decide)).trans ((FRw.na f487 (by decide)).trans ((FRw.na f456 (by decide)).trans ((FRw.na f452 (by decide)).trans ((FRw.na f448 (by decide)).trans ((FR.at f439 143 3 rfl).trans ((FR.at f430 143 3 rfl).trans ((FR.at f420 143 3 rfl).trans ((FR.at f410 143 3 rfl).trans ((FR.at f399 143 3 rfl).trans ((FR.at f392 143 3 rfl).trans ((FR.at f379 143 3 rfl).trans ((FR.at f364 143 3 rfl).trans ((FR.at f150 143 3 rfl).trans ((FR.at f137 143 3 rfl).trans ((FR.at f124 143 3 rfl).trans ((FR.at f111 143 3 rfl).trans ((FR.at f98 143 3 rfl).trans ((FR.at f85 143 3 rfl).trans ((FR.at f72 143 3 rfl).trans (FR.at f59 143 3 rfl)))))))))))))))))))))))
                                      have q509 : (τ497.1 143 4) = (σ.1 143 4) := ((FRw.nj f499 (by decide)).trans ((FRw.na f495 (by decide)).trans ((FRw.na f491 (by decide)).trans ((FRw.na f487 (by decide)).trans ((FRw.na f456 (by decide)).trans ((FRw.na f452 (by decide)).trans ((FRw.na f448 (by decide)).trans ((FR.at f439 143 4 rfl).trans ((FR.at f430 143 4 rfl).trans ((FR.at f420 143 4 rfl).trans ((FR.at f410 143 4 rfl).trans ((FR.at f399 143 4 rfl).trans ((FR.at f392 143 4 rfl).trans ((FR.at f379 143 4 rfl).trans ((FR.at f364 143 4 rfl).trans ((FR.at f150 143 4 rfl).trans ((FR.at f137 143 4 rfl).trans ((FR.at f124 143 4 rfl).trans ((FR.at f111 143 4 rfl).trans ((FR.at f98 143 4 rfl).trans ((FR.at f85 143 4 rfl).trans ((FR.at f72 143 4 rfl).trans (FR.at f59 143 4 rfl)))))))))))))))))))))))
                                      have q510 : (τ497.1 143 5) = (σ.1 143 5) := ((FRw.nj f499 (by decide)).trans ((FRw.na f495 (by decide)).trans ((FRw.na f491 (by decide)).trans ((FRw.na f487 (by decide)).trans ((FRw.na f456 (by decide)).trans ((FRw.na f452 (by decide)).trans ((FRw.na f448 (by decide)).trans ((FR.at f439 143 5 rfl).trans ((FR.at f430 143 5 rfl).trans ((FR.at f420 143 5 rfl).trans ((FR.at f410 143 5 rfl).trans ((FR.at f399 143 5 rfl).trans ((FR.at f392 143 5 rfl).trans ((FR.at f379 143 5 rfl).trans ((FR.at f364 143 5 rfl).trans ((FR.at f150 143 5 rfl).trans ((FR.at f137 143 5 rfl).trans ((FR.at f124 143 5 rfl).trans ((FR.at f111 143 5 rfl).trans ((FR.at f98 143 5 rfl).trans ((FR.at f85 143 5 rfl).trans ((FR.at f72 143 5 rfl).trans (FR.at f59 143 5 rfl)))))))))))))))))))))))
                                      exact jn51 () τ497 ⟨g498, (FR.w (FR.w (FR.w (FR.w (FR.w (FR.w (FR.w (FR.up (FR.up (FR.up (FR.up (FR.up (FR.up (FR.up (FR.up (FR.up (FR.up (FR.up (FR.up (FR.up (FR.up (FR.up (FR.up FR.rf f59 sb_Wtak_Wst0) f72 sb_Wtak_Wst0) f85 sb_Wtak_Wst0) f98 sb_Wtak_Wst0) f111 sb_Wtak_Wst0) f124 sb_Wtak_Wst0) f137 sb_Wtak_Wst0) f150 sb_Wtak_Wst0) f364 sb_Wbad_Wst0) f379 sb_Wsp_Wst0) f392 sb_Wtak_Wst0) f399 sb_Wask_Wst0) f410 sb_Wsp_Wst0) f420 sb_Wsp_Wst0) f430 sb_Wsp_Wst0) f439 sb_Wask_Wst0) f448 rfl) f452 rfl) f456 rfl) f487 rfl) f491 rfl) f495 rfl) f499 rfl), (by omega), (by omega), (by omega), (by omega), (by omega), (by omega), (by omega), (by omega), (by omega)⟩
                                  · intro h445
                                    clear p442
                                    refine wp_rv jF_235_157 ?_
                                    show WP 217 185 [(0, .ref 117), (1, iV (σ.1 117 2))] [] _ _ _ _
                                    refine wp_go jF_217_185 ?_
                                    have b511 := GI.b hg 143 0 kd143 (lo := 0) (hi := 16) rfl
                                    have q512 : (τ437.1 143 0) = (σ.1 143 0) := ((FR.at f439 143 0 rfl).trans ((FR.at f430 143 0 rfl).trans ((FR.at f420 143 0 rfl).trans ((FR.at f410 143 0 rfl).trans ((FR.at f399 143 0 rfl).trans ((FR.at f392 143 0 rfl).trans ((FR.at f379 143 0 rfl).trans ((FR.at f364 143 0 rfl).trans ((FR.at f150 143 0 rfl).trans ((FR.at f137 143 0 rfl).trans ((FR.at f124 143 0 rfl).trans ((FR.at f111 143 0 rfl).trans ((FR.at f98 143 0 rfl).trans ((FR.at f85 143 0 rfl).trans ((FR.at f72 143 0 rfl).trans (FR.at f59 143 0 rfl))))))))))))))))
                                    have q513 : (τ437.1 143 1) = (σ.1 143 1) := ((FR.at f439 143 1 rfl).trans ((FR.at f430 143 1 rfl).trans ((FR.at f420 143 1 rfl).trans ((FR.at f410 143 1 rfl).trans ((FR.at f399 143 1 rfl).trans ((FR.at f392 143 1 rfl).trans ((FR.at f379 143 1 rfl).trans ((FR.at f364 143 1 rfl).trans ((FR.at f150 143 1 rfl).trans ((FR.at f137 143 1 rfl).trans ((FR.at f124 143 1 rfl).trans ((FR.at f111 143 1 rfl).trans ((FR.at f98 143 1 rfl).trans ((FR.at f85 143 1 rfl).trans ((FR.at f72 143 1 rfl).trans (FR.at f59 143 1 rfl))))))))))))))))
                                    have b514 := GI.b hg 143 2 kd143 (lo := 0) (hi := 16) rfl
                                    have q515 : (τ437.1 143 2) = (σ.1 143 2) := ((FR.at f439 143 2 rfl).trans ((FR.at f430 143 2 rfl).trans ((FR.at f420 143 2 rfl).trans ((FR.at f410 143 2 rfl).trans ((FR.at f399 143 2 rfl).trans ((FR.at f392 143 2 rfl).trans ((FR.at f379 143 2 rfl).trans ((FR.at f364 143 2 rfl).trans ((FR.at f150 143 2 rfl).trans ((FR.at f137 143 2 rfl).trans ((FR.at f124 143 2 rfl).trans ((FR.at f111 143 2 rfl).trans ((FR.at f98 143 2 rfl).trans ((FR.at f85 143 2 rfl).trans ((FR.at f72 143 2 rfl).trans (FR.at f59 143 2 rfl))))))))))))))))
                                    have q516 : (τ437.1 143 3) = (σ.1 143 3) := ((FR.at f439 143 3 rfl).trans ((FR.at f430 143 3 rfl).trans ((FR.at f420 143 3 rfl).trans ((FR.at f410 143 3 rfl).trans ((FR.at f399 143 3 rfl).trans ((FR.at f392 143 3 rfl).trans ((FR.at f379 143 3 rfl).trans ((FR.at f364 143 3 rfl).trans ((FR.at f150 143 3 rfl).trans ((FR.at f137 143 3 rfl).trans ((FR.at f124 143 3 rfl).trans ((FR.at f111 143 3 rfl).trans ((FR.at f98 143 3 rfl).trans ((FR.at f85 143 3 rfl).trans ((FR.at f72 143 3 rfl).trans (FR.at f59 143 3 rfl))))))))))))))))
                                    have q517 : (τ437.1 143 4) = (σ.1 143 4) := ((FR.at f439 143 4 rfl).trans ((FR.at f430 143 4 rfl).trans ((FR.at f420 143 4 rfl).trans ((FR.at f410 143 4 rfl).trans ((FR.at f399 143 4 rfl).trans ((FR.at f392 143 4 rfl).trans ((FR.at f379 143 4 rfl).trans ((FR.at f364 143 4 rfl).trans ((FR.at f150 143 4 rfl).trans ((FR.at f137 143 4 rfl).trans ((FR.at f124 143 4 rfl).trans ((FR.at f111 143 4 rfl).trans ((FR.at f98 143 4 rfl).trans ((FR.at f85 143 4 rfl).trans ((FR.at f72 143 4 rfl).trans (FR.at f59 143 4 rfl))))))))))))))))
                                    have q518 : (τ437.1 143 5) = (σ.1 143 5) := ((FR.at f439 143 5 rfl).trans ((FR.at f430 143 5 rfl).trans ((FR.at f420 143 5 rfl).trans ((FR.at f410 143 5 rfl).trans ((FR.at f399 143 5 rfl).trans ((FR.at f392 143 5 rfl).trans ((FR.at f379 143 5 rfl).trans ((FR.at f364 143 5 rfl).trans ((FR.at f150 143 5 rfl).trans ((FR.at f137 143 5 rfl).trans ((FR.at f124 143 5 rfl).trans ((FR.at f111 143 5 rfl).trans ((FR.at f98 143 5 rfl).trans ((FR.at f85 143 5 rfl).trans ((FR.at f72 143 5 rfl).trans (FR.at f59 143 5 rfl))))))))))))))))
                                    exact jn51 () τ437 ⟨g438, (FR.up (FR.up (FR.up (FR.up (FR.up (FR.up (FR.up (FR.up (FR.up (FR.up (FR.up (FR.up (FR.up (FR.up (FR.up (FR.up FR.rf f59 sb_Wtak_Wst0) f72 sb_Wtak_Wst0) f85 sb_Wtak_Wst0) f98 sb_Wtak_Wst0) f111 sb_Wtak_Wst0) f124 sb_Wtak_Wst0) f137 sb_Wtak_Wst0) f150 sb_Wtak_Wst0) f364 sb_Wbad_Wst0) f379 sb_Wsp_Wst0) f392 sb_Wtak_Wst0) f399 sb_Wask_Wst0) f410 sb_Wsp_Wst0) f420 sb_Wsp_Wst0) f430 sb_Wsp_Wst0) f439 sb_Wask_Wst0), (by omega), (by omega), (by omega), (by omega), (by omega), (by omega), (by omega), (by omega), (by omega)⟩
                                · intro jn519
                                  refine wp_il1 jF_235_129 rfl rfl (pc2 := 130) ?_
                                  refine wp_z_ne jF_235_130 (m_rgl rfl) rfl (pc2 := 133) ?_ ?_
                                  · intro h520
                                    exact jn519 (0) τ428 ⟨⟨by omega, by omega⟩, g429, FR.rf, (by omega), (by omega), (by omega)⟩
                                  · intro h520; exfalso; omega
                              · intro jn521
                                refine wp_il2 jF_235_92 rfl rfl (pc2 := 94) ?_
                                refine wp_z_ne jF_235_94 (m_rgb h394 rfl) rfl (pc2 := 97) ?_ ?_
                                · intro h522
                                  replace p387 := p387 (by omega)
                                  replace p382 := p382 (by omega)
                                  replace p366 := p366 (by omega)
                                  replace p367 := p367 (by omega)
                                  clear p381
                                  exact jn521 () τ390 ⟨g391, FR.rf, (by omega), (by omega), (by omega)⟩
                                · intro h522
                                  clear p387
                                  refine wp_al1 jF_235_97 rfl rfl (pc2 := 98) ?_
                                  refine wp_al1 jF_235_98 rfl rfl (pc2 := 99) ?_
                                  refine wp_gr (b := 131) jF_235_99 kd117 (by decide) (c := 231) rfl rfl rfl (pc2 := 102) ?_
                                  refine wp_cV (as := [.ref 131]) (rest := []) (a := 117) (mx := 2) (ci := 12) jF_235_102 kd117 (by decide) rfl rfl rfl rfl rfl (by omega) (by omega) rfl (pc2 := 105) ?_
                                  have q523 : (τ390.1 117 3) = (σ.1 117 3) := ((FR.at f392 117 3 rfl).trans ((FR.at f379 117 3 rfl).trans ((FR.at f364 117 3 rfl).trans ((FR.at f150 117 3 rfl).trans ((FR.at f137 117 3 rfl).trans ((FR.at f124 117 3 rfl).trans ((FR.at f111 117 3 rfl).trans ((FR.at f98 117 3 rfl).trans ((FR.at f85 117 3 rfl).trans ((FR.at f72 117 3 rfl).trans (FR.at f59 117 3 rfl)))))))))))
                                  refine wp_use (m_234 τ390 g391 131 4 cw131.1 cw131.2 (by decide)  _ _ (by omega) (by omega)) ?_
                                  rintro _ τ527 ⟨rfl, g528, f529, p524, p525, p526⟩
                                  show WP 235 105 [(0, .ref 117), (1, iV 1), (2, iV 8), (3, iV (σ.1 117 2)), (4, iV (96 + (6 * (σ.1 143 1)))), (5, iV x375), (6, iV z393)] [] _ _ _ _
                                  have b530 := GI.b g528 117 2 kd117 (lo := 0) (hi := 1601) rfl
                                  have b531 := GI.b g528 117 5 kd117 (lo := (-2147483648)) (hi := 2147483647) rfl
                                  exact jn521 () τ527 ⟨g528, f529, (by omega), (by omega), (by omega)⟩
                            · intro jn532
                              refine wp_il1 jF_235_42 rfl rfl (pc2 := 43) ?_
                              refine wp_z_ne jF_235_43 (m_rgl rfl) rfl (pc2 := 46) ?_ ?_
                              · intro h533
                                exact jn532 ((-1)) τ362 ⟨⟨by omega, by omega⟩, g363, FR.rf, (by omega), (by omega), (by omega)⟩
                              · intro h533; exfalso; omega
                        · intro h371; exfalso; omega
                      · intro jn534
                        refine wp_al1 jF_235_0 rfl rfl (pc2 := 1) ?_
                        refine wp_gi jF_235_1 kd117 (by decide) rfl ((FR.at f150 117 5 rfl).trans ((FR.at f137 117 5 rfl).trans ((FR.at f124 117 5 rfl).trans ((FR.at f111 117 5 rfl).trans ((FR.at f98 117 5 rfl).trans ((FR.at f85 117 5 rfl).trans ((FR.at f72 117 5 rfl).trans (FR.at f59 117 5 rfl)))))))) rfl (pc2 := 4) ?_
                        refine wp_z_ne jF_235_4 (m_rgb b4 rfl) rfl (pc2 := 7) ?_ ?_
                        · intro h535
                          have b536 := GI.b hg 143 1 kd143 (lo := 0) (hi := 16) rfl
                          have q537 : (τ148.1 143 1) = (σ.1 143 1) := ((FR.at f150 143 1 rfl).trans ((FR.at f137 143 1 rfl).trans ((FR.at f124 143 1 rfl).trans ((FR.at f111 143 1 rfl).trans ((FR.at f98 143 1 rfl).trans ((FR.at f85 143 1 rfl).trans ((FR.at f72 143 1 rfl).trans (FR.at f59 143 1 rfl))))))))
                          exact jn534 () τ148 ⟨g149, FR.rf, (by omega), (by omega), (by omega)⟩
                        · intro h535
                          refine wp_al1 jF_235_7 rfl rfl (pc2 := 8) ?_
                          refine wp_gr (b := 143) jF_235_8 kd117 (by decide) (c := 243) rfl rfl rfl (pc2 := 11) ?_
                          refine wp_il1 jF_235_11 rfl rfl (pc2 := 12) ?_
                          have b538 := GI.b hg 143 1 kd143 (lo := 0) (hi := 16) rfl
                          refine wp_iald (n := 6) (e := (σ.1 143 1)) jF_235_12 kd143 (by decide) rfl rfl (by omega) (by omega) ((FR.at f150 143 1 rfl).trans ((FR.at f137 143 1 rfl).trans ((FR.at f124 143 1 rfl).trans ((FR.at f111 143 1 rfl).trans ((FR.at f98 143 1 rfl).trans ((FR.at f85 143 1 rfl).trans ((FR.at f72 143 1 rfl).trans (FR.at f59 143 1 rfl)))))))) rfl (pc2 := 13) ?_
                          refine wp_il1 jF_235_13 rfl rfl (pc2 := 14) ?_
                          refine wp_i_ne jF_235_14 (m_rgb b538 rfl) (m_rgl rfl) rfl (pc2 := 17) ?_ ?_
                          · intro h539
                            have q540 : (τ148.1 143 1) = (σ.1 143 1) := ((FR.at f150 143 1 rfl).trans ((FR.at f137 143 1 rfl).trans ((FR.at f124 143 1 rfl).trans ((FR.at f111 143 1 rfl).trans ((FR.at f98 143 1 rfl).trans ((FR.at f85 143 1 rfl).trans ((FR.at f72 143 1 rfl).trans (FR.at f59 143 1 rfl))))))))
                            exact jn534 () τ148 ⟨g149, FR.rf, (by omega), (by omega), (by omega)⟩
                          · intro h539
                            refine wp_al1 jF_235_17 rfl rfl (pc2 := 18) ?_
                            refine wp_ic jF_235_18 rfl (pc2 := 19) ?_
                            refine wp_il1 jF_235_19 rfl rfl (pc2 := 20) ?_
                            refine wp_cV (as := [iV 5, iV (σ.1 117 2)]) (rest := []) (a := 117) (mx := 3) (ci := 12) jF_235_20 kd117 (by decide) rfl rfl rfl rfl rfl (by omega) (by omega) rfl (pc2 := 23) ?_
                            refine wp_use (m_218 τ148 g149 5 (by omega) (by omega) (σ.1 117 2) (by omega) (by omega)  _ _ (by omega) (by omega)) ?_
                            rintro _ τ543 ⟨rfl, g544, f545, p541, p542⟩
                            clear p541
                            replace p542 := p542 (by omega)
                            show WP 235 23 [(0, .ref 117), (1, iV 1), (2, iV 8), (3, iV (σ.1 117 2))] [] _ _ _ _
                            have b546 := GI.b g544 117 5 kd117 (lo := (-2147483648)) (hi := 2147483647) rfl
                            have q547 : (τ543.1 143 1) = (σ.1 143 1) := ((FR.at f545 143 1 rfl).trans ((FR.at f150 143 1 rfl).trans ((FR.at f137 143 1 rfl).trans ((FR.at f124 143 1 rfl).trans ((FR.at f111 143 1 rfl).trans ((FR.at f98 143 1 rfl).trans ((FR.at f85 143 1 rfl).trans ((FR.at f72 143 1 rfl).trans (FR.at f59 143 1 rfl)))))))))
                            exact jn534 () τ543 ⟨g544, f545, (by omega), (by omega), (by omega)⟩
                  · intro h140
                    replace p132 := p132 (by omega)
                    refine wp_al1 jF_217_155 rfl rfl (pc2 := 156) ?_
                    refine wp_ic jF_217_156 rfl (pc2 := 157) ?_
                    refine wp_bi jF_217_157 (by decide) rfl (pc2 := 159) ?_
                    refine wp_il1 jF_217_159 rfl rfl (pc2 := 160) ?_
                    refine wp_cV (as := [iV 0, iV 16, iV (σ.1 117 2)]) (rest := []) (a := 117) (mx := 11) (ci := 12) jF_217_160 kd117 (by decide) rfl rfl rfl rfl rfl (by omega) (by omega) rfl (pc2 := 163) ?_
                    show WP 235 0 [(0, .ref 117), (1, iV 0), (2, iV 16), (3, iV (σ.1 117 2))] [] _ _ _ _
                    have q548 : (τ135.1 117 5) = (σ.1 117 5) := ((FR.at f137 117 5 rfl).trans ((FR.at f124 117 5 rfl).trans ((FR.at f111 117 5 rfl).trans ((FR.at f98 117 5 rfl).trans ((FR.at f85 117 5 rfl).trans ((FR.at f72 117 5 rfl).trans (FR.at f59 117 5 rfl)))))))
                    refine wp_join (α := Unit) 23 (fun a => [(0, .ref 117), (1, iV 0), (2, iV 16), (3, iV (σ.1 117 2))]) (fun a τ => GI τ ∧ FR Wbad τ135 τ ∧ ((τ135.1 117 5) ≠ 0 → (τ.1 117 5) = (τ135.1 117 5)) ∧ ((τ.1 117 5) = 0 → (τ135.1 117 5) = 0) ∧ ((τ.1 117 5) = 0 → (τ.1 143 0) ≠ 16)) ?_ ?_
                    · rintro ⟨⟩ τ549 ⟨g550, f551, p552, p553, p554⟩
                      have b555 := GI.b g550 117 5 kd117 (lo := (-2147483648)) (hi := 2147483647) rfl
                      have b556 := GI.b hg 143 0 kd143 (lo := 0) (hi := 16) rfl
                      have q557 : (τ549.1 143 0) = (σ.1 143 0) := ((FR.at f551 143 0 rfl).trans ((FR.at f137 143 0 rfl).trans ((FR.at f124 143 0 rfl).trans ((FR.at f111 143 0 rfl).trans ((FR.at f98 143 0 rfl).trans ((FR.at f85 143 0 rfl).trans ((FR.at f72 143 0 rfl).trans (FR.at f59 143 0 rfl))))))))
                      clear p552
                      show WP 235 23 [(0, .ref 117), (1, iV 0), (2, iV 16), (3, iV (σ.1 117 2))] [] _ _ _ _
                      refine wp_il1 jF_235_23 rfl rfl (pc2 := 24) ?_
                      refine wp_cS (as := [iV 0]) (rest := []) (mx := 1) jF_235_24 rfl rfl rfl rfl (by omega) (by omega) rfl (pc2 := 27) ?_
                      show WP 236 0 [(0, iV 0)] [] _ _ _ _
                      refine wp_il1 jF_236_0 rfl rfl (pc2 := 1) ?_
                      refine wp_z_ne jF_236_1 (m_rgl rfl) rfl (pc2 := 4) ?_ ?_
                      · intro h558; exfalso; omega
                      · intro h558
                        refine wp_ic jF_236_4 rfl (pc2 := 5) ?_
                        refine wp_go jF_236_5 ?_
                        refine wp_ri jF_236_21 rfl ?_
                        show WP 235 27 [(0, .ref 117), (1, iV 0), (2, iV 16), (3, iV (σ.1 117 2))] [iV 0] _ _ _ _
                        refine wp_bi jF_235_27 (by decide) rfl (pc2 := 29) ?_
                        refine wp_al1 jF_235_29 rfl rfl (pc2 := 30) ?_
                        refine wp_gr (b := 143) jF_235_30 kd117 (by decide) (c := 243) rfl rfl rfl (pc2 := 33) ?_
                        refine wp_il1 jF_235_33 rfl rfl (pc2 := 34) ?_
                        refine wp_iald (n := 6) (e := (σ.1 143 0)) jF_235_34 kd143 (by decide) rfl rfl (by omega) (by omega) ((FR.at f551 143 0 rfl).trans ((FR.at f137 143 0 rfl).trans ((FR.at f124 143 0 rfl).trans ((FR.at f111 143 0 rfl).trans ((FR.at f98 143 0 rfl).trans ((FR.at f85 143 0 rfl).trans ((FR.at f72 143 0 rfl).trans (FR.at f59 143 0 rfl)))))))) rfl (pc2 := 35) ?_
                        refine wp_mul jF_235_35 rfl (pc2 := 36) ?_
                        refine wp_add jF_235_36 rfl (pc2 := 37) ?_
                        refine wp_is2 (lv2 := [(0, .ref 117), (1, iV 0), (2, iV 16), (3, iV (σ.1 117 2)), (4, iV (0 + (6 * (σ.1 143 0))))]) jF_235_37 rfl rfl rfl (pc2 := 39) ?_
                        refine wp_ic jF_235_39 rfl (pc2 := 40) ?_
                        refine wp_is2 (lv2 := [(0, .ref 117), (1, iV 0), (2, iV 16), (3, iV (σ.1 117 2)), (4, iV (0 + (6 * (σ.1 143 0)))), (5, iV (-1))]) jF_235_40 rfl rfl rfl (pc2 := 42) ?_
                        have b559 := GI.b g136 117 2 kd117 (lo := 0) (hi := 1601) rfl
                        have q560 : (τ549.1 117 2) = (τ135.1 117 2) := (FR.at f551 117 2 rfl)
                        refine wp_join (α := Int) 82 (fun a => [(0, .ref 117), (1, iV 0), (2, iV 16), (3, iV (σ.1 117 2)), (4, iV (0 + (6 * (σ.1 143 0)))), (5, iV (a))]) (fun a τ => ((-1) ≤ a ∧ a ≤ 5) ∧ GI τ ∧ FR Wsp τ549 τ ∧ ((τ549.1 117 2) ≤ (τ.1 117 2)) ∧ ((τ549.1 117 5) ≠ 0 → (τ.1 117 5) = (τ549.1 117 5)) ∧ ((τ.1 117 5) = 0 → (τ549.1 117 5) = 0)) ?_ ?_
                        · rintro x561 τ563 ⟨h562, g564, f565, p566, p567, p568⟩
                          have b569 := GI.b g564 117 2 kd117 (lo := 0) (hi := 1601) rfl
                          have b570 := GI.b g564 117 5 kd117 (lo := (-2147483648)) (hi := 2147483647) rfl
                          show WP 235 82 [(0, .ref 117), (1, iV 0), (2, iV 16), (3, iV (σ.1 117 2)), (4, iV (0 + (6 * (σ.1 143 0)))), (5, iV x561)] [] _ _ _ _
                          refine wp_al1 jF_235_82 rfl rfl (pc2 := 83) ?_
                          refine wp_al1 jF_235_83 rfl rfl (pc2 := 84) ?_
                          refine wp_gr (b := 130) jF_235_84 kd117 (by decide) (c := 230) rfl rfl rfl (pc2 := 87) ?_
                          refine wp_cV (as := [.ref 130]) (rest := []) (a := 117) (mx := 2) (ci := 12) jF_235_87 kd117 (by decide) rfl rfl rfl rfl rfl (by omega) (by omega) rfl (pc2 := 90) ?_
                          have q571 : (τ563.1 117 3) = (σ.1 117 3) := ((FR.at f565 117 3 rfl).trans ((FR.at f551 117 3 rfl).trans ((FR.at f137 117 3 rfl).trans ((FR.at f124 117 3 rfl).trans ((FR.at f111 117 3 rfl).trans ((FR.at f98 117 3 rfl).trans ((FR.at f85 117 3 rfl).trans ((FR.at f72 117 3 rfl).trans (FR.at f59 117 3 rfl)))))))))
                          refine wp_use (m_219 τ563 g564 130 6 cw130.1 cw130.2 (by decide)  _ _ (by omega) (by omega)) ?_
                          rintro _ τ576 ⟨z579, rfl, h580, g577, f578, p572, p573, p574, p575⟩
                          show WP 235 90 [(0, .ref 117), (1, iV 0), (2, iV 16), (3, iV (σ.1 117 2)), (4, iV (0 + (6 * (σ.1 143 0)))), (5, iV x561)] [iV z579] _ _ _ _
                          refine wp_is2 (lv2 := [(0, .ref 117), (1, iV 0), (2, iV 16), (3, iV (σ.1 117 2)), (4, iV (0 + (6 * (σ.1 143 0)))), (5, iV x561), (6, iV z579)]) jF_235_90 rfl rfl rfl (pc2 := 92) ?_
                          have b581 := GI.b g577 117 2 kd117 (lo := 0) (hi := 1601) rfl
                          have q582 : (τ576.1 117 5) = (τ563.1 117 5) := (FR.at f578 117 5 rfl)
                          refine wp_join (α := Unit) 105 (fun a => [(0, .ref 117), (1, iV 0), (2, iV 16), (3, iV (σ.1 117 2)), (4, iV (0 + (6 * (σ.1 143 0)))), (5, iV x561), (6, iV z579)]) (fun a τ => GI τ ∧ FR Wask τ576 τ ∧ ((τ576.1 117 2) ≤ (τ.1 117 2)) ∧ ((τ576.1 117 5) ≠ 0 → (τ.1 117 5) = (τ576.1 117 5)) ∧ ((τ.1 117 5) = 0 → (τ576.1 117 5) = 0)) ?_ ?_
                          · rintro ⟨⟩ τ583 ⟨g584, f585, p586, p587, p588⟩
                            have b589 := GI.b g584 117 2 kd117 (lo := 0) (hi := 1601) rfl
                            have b590 := GI.b g584 117 5 kd117 (lo := (-2147483648)) (hi := 2147483647) rfl
                            show WP 235 105 [(0, .ref 117), (1, iV 0), (2, iV 16), (3, iV (σ.1 117 2)), (4, iV (0 + (6 * (σ.1 143 0)))), (5, iV x561), (6, iV z579)] [] _ _ _ _
                            refine wp_al1 jF_235_105 rfl rfl (pc2 := 106) ?_
                            refine wp_ic jF_235_106 rfl (pc2 := 107) ?_
                            refine wp_cV (as := [iV 0]) (rest := []) (a := 117) (mx := 6) (ci := 12) jF_235_107 kd117 (by decide) rfl rfl rfl rfl rfl (by omega) (by omega) rfl (pc2 := 110) ?_
                            refine wp_use (m_237 τ583 g584 0 (by omega) (by omega)  _ _ (by omega) (by omega)) ?_
                            rintro _ τ594 ⟨z597, rfl, h598, g595, f596, p591, p592, p593⟩
                            show WP 235 110 [(0, .ref 117), (1, iV 0), (2, iV 16), (3, iV (σ.1 117 2)), (4, iV (0 + (6 * (σ.1 143 0)))), (5, iV x561), (6, iV z579)] [iV z597] _ _ _ _
                            refine wp_is2 (lv2 := [(0, .ref 117), (1, iV 0), (2, iV 16), (3, iV (σ.1 117 2)), (4, iV (0 + (6 * (σ.1 143 0)))), (5, iV x561), (6, iV z579), (7, iV z597)]) jF_235_110 rfl rfl rfl (pc2 := 112) ?_
                            refine wp_al1 jF_235_112 rfl rfl (pc2 := 113) ?_
                            refine wp_ic jF_235_113 rfl (pc2 := 114) ?_
                            refine wp_cV (as := [iV 1]) (rest := []) (a := 117) (mx := 6) (ci := 12) jF_235_114 kd117 (by decide) rfl rfl rfl rfl rfl (by omega) (by omega) rfl (pc2 := 117) ?_
                            have b599 := GI.b g595 117 2 kd117 (lo := 0) (hi := 1601) rfl
                            have b600 := GI.b g595 117 5 kd117 (lo := (-2147483648)) (hi := 2147483647) rfl
                            refine wp_use (m_237 τ594 g595 1 (by omega) (by omega)  _ _ (by omega) (by omega)) ?_
                            rintro _ τ604 ⟨z607, rfl, h608, g605, f606, p601, p602, p603⟩
                            show WP 235 117 [(0, .ref 117), (1, iV 0), (2, iV 16), (3, iV (σ.1 117 2)), (4, iV (0 + (6 * (σ.1 143 0)))), (5, iV x561), (6, iV z579), (7, iV z597)] [iV z607] _ _ _ _
                            refine wp_is2 (lv2 := [(0, .ref 117), (1, iV 0), (2, iV 16), (3, iV (σ.1 117 2)), (4, iV (0 + (6 * (σ.1 143 0)))), (5, iV x561), (6, iV z579), (7, iV z597), (8, iV z607)]) jF_235_117 rfl rfl rfl (pc2 := 119) ?_
                            refine wp_al1 jF_235_119 rfl rfl (pc2 := 120) ?_
                            refine wp_ic jF_235_120 rfl (pc2 := 121) ?_
                            refine wp_cV (as := [iV 2]) (rest := []) (a := 117) (mx := 6) (ci := 12) jF_235_121 kd117 (by decide) rfl rfl rfl rfl rfl (by omega) (by omega) rfl (pc2 := 124) ?_
                            have b609 := GI.b g605 117 2 kd117 (lo := 0) (hi := 1601) rfl
                            have b610 := GI.b g605 117 5 kd117 (lo := (-2147483648)) (hi := 2147483647) rfl
                            refine wp_use (m_237 τ604 g605 2 (by omega) (by omega)  _ _ (by omega) (by omega)) ?_
                            rintro _ τ614 ⟨z617, rfl, h618, g615, f616, p611, p612, p613⟩
                            show WP 235 124 [(0, .ref 117), (1, iV 0), (2, iV 16), (3, iV (σ.1 117 2)), (4, iV (0 + (6 * (σ.1 143 0)))), (5, iV x561), (6, iV z579), (7, iV z597), (8, iV z607)] [iV z617] _ _ _ _
                            refine wp_is2 (lv2 := [(0, .ref 117), (1, iV 0), (2, iV 16), (3, iV (σ.1 117 2)), (4, iV (0 + (6 * (σ.1 143 0)))), (5, iV x561), (6, iV z579), (7, iV z597), (8, iV z607), (9, iV z617)]) jF_235_124 rfl rfl rfl (pc2 := 126) ?_
                            refine wp_ic jF_235_126 rfl (pc2 := 127) ?_
                            refine wp_is2 (lv2 := [(0, .ref 117), (1, iV 0), (2, iV 16), (3, iV (σ.1 117 2)), (4, iV (0 + (6 * (σ.1 143 0)))), (5, iV x561), (6, iV z579), (7, iV z597), (8, iV z607), (9, iV z617), (10, iV 0)]) jF_235_127 rfl rfl rfl (pc2 := 129) ?_
                            have b619 := GI.b g615 117 2 kd117 (lo := 0) (hi := 1601) rfl
                            have b620 := GI.b g615 117 5 kd117 (lo := (-2147483648)) (hi := 2147483647) rfl
                            refine wp_join (α := Int) 150 (fun a => [(0, .ref 117), (1, iV 0), (2, iV 16), (3, iV (σ.1 117 2)), (4, iV (0 + (6 * (σ.1 143 0)))), (5, iV x561), (6, iV z579), (7, iV z597), (8, iV z607), (9, iV z617), (10, iV (a))]) (fun a τ => ((-2147483648) ≤ a ∧ a ≤ 2147483647) ∧ GI τ ∧ FR Wask τ614 τ ∧ ((τ614.1 117 2) ≤ (τ.1 117 2)) ∧ ((τ614.1 117 5) ≠ 0 → (τ.1 117 5) = (τ614.1 117 5)) ∧ ((τ.1 117 5) = 0 → (τ614.1 117 5) = 0)) ?_ ?_
                            · rintro x621 τ623 ⟨h622, g624, f625, p626, p627, p628⟩
                              have b629 := GI.b g624 117 2 kd117 (lo := 0) (hi := 1601) rfl
                              have b630 := GI.b g624 117 5 kd117 (lo := (-2147483648)) (hi := 2147483647) rfl
                              show WP 235 150 [(0, .ref 117), (1, iV 0), (2, iV 16), (3, iV (σ.1 117 2)), (4, iV (0 + (6 * (σ.1 143 0)))), (5, iV x561), (6, iV z579), (7, iV z597), (8, iV z607), (9, iV z617), (10, iV x621)] [] _ _ _ _
                              refine wp_al1 jF_235_150 rfl rfl (pc2 := 151) ?_
                              refine wp_gi jF_235_151 kd117 (by decide) rfl rfl rfl (pc2 := 154) ?_
                              refine wp_z_eq jF_235_154 (m_rgb b630 rfl) rfl (pc2 := 157) ?_ ?_
                              · intro h631
                                replace p628 := p628 (by omega)
                                replace p613 := p613 (by omega)
                                clear p627
                                replace p603 := p603 (by omega)
                                clear p612
                                replace p593 := p593 (by omega)
                                clear p602
                                replace p588 := p588 (by omega)
                                clear p592
                                replace p568 := p568 (by omega)
                                clear p587
                                replace p553 := p553 (by omega)
                                replace p554 := p554 (by omega)
                                clear p567
                                refine wp_al1 jF_235_158 rfl rfl (pc2 := 159) ?_
                                refine wp_gr (b := 142) jF_235_159 kd117 (by decide) (c := 242) rfl rfl rfl (pc2 := 162) ?_
                                refine wp_il2 jF_235_162 rfl rfl (pc2 := 164) ?_
                                refine wp_il2 jF_235_164 rfl rfl (pc2 := 166) ?_
                                refine wp_iast (n := 408) jF_235_166 kd142 (by decide) rfl rfl (by omega) (by omega) rfl (pc2 := 167) g624 (lo := (-2147483648)) (hi := 2147483647) rfl (by omega) (by omega) ?_
                                intro τ632 g633 f634 e635
                                refine wp_al1 jF_235_167 rfl rfl (pc2 := 168) ?_
                                refine wp_gr (b := 142) jF_235_168 kd117 (by decide) (c := 242) rfl rfl rfl (pc2 := 171) ?_
                                refine wp_il2 jF_235_171 rfl rfl (pc2 := 173) ?_
                                refine wp_ic jF_235_173 rfl (pc2 := 174) ?_
                                refine wp_add jF_235_174 rfl (pc2 := 175) ?_
                                refine wp_il2 jF_235_175 rfl rfl (pc2 := 177) ?_
                                refine wp_iast (n := 408) jF_235_177 kd142 (by decide) rfl rfl (by omega) (by omega) rfl (pc2 := 178) g633 (lo := (-2147483648)) (hi := 2147483647) rfl (by omega) (by omega) ?_
                                intro τ636 g637 f638 e639
                                refine wp_al1 jF_235_178 rfl rfl (pc2 := 179) ?_
                                refine wp_gr (b := 142) jF_235_179 kd117 (by decide) (c := 242) rfl rfl rfl (pc2 := 182) ?_
                                refine wp_il2 jF_235_182 rfl rfl (pc2 := 184) ?_
                                refine wp_ic jF_235_184 rfl (pc2 := 185) ?_
                                refine wp_add jF_235_185 rfl (pc2 := 186) ?_
                                refine wp_il2 jF_235_186 rfl rfl (pc2 := 188) ?_
                                refine wp_iast (n := 408) jF_235_188 kd142 (by decide) rfl rfl (by omega) (by omega) rfl (pc2 := 189) g637 (lo := (-2147483648)) (hi := 2147483647) rfl (by omega) (by omega) ?_
                                intro τ640 g641 f642 e643
                                refine wp_al1 jF_235_189 rfl rfl (pc2 := 190) ?_
                                refine wp_gr (b := 142) jF_235_190 kd117 (by decide) (c := 242) rfl rfl rfl (pc2 := 193) ?_
                                refine wp_il2 jF_235_193 rfl rfl (pc2 := 195) ?_
                                refine wp_ic jF_235_195 rfl (pc2 := 196) ?_
                                refine wp_add jF_235_196 rfl (pc2 := 197) ?_
                                refine wp_il2 jF_235_197 rfl rfl (pc2 := 199) ?_
                                refine wp_z_eq jF_235_199 (m_rgb h580 rfl) rfl (pc2 := 202) ?_ ?_
                                · intro h644
                                  clear p573
                                  refine wp_ic jF_235_206 rfl (pc2 := 207) ?_
                                  refine wp_iast (n := 408) jF_235_207 kd142 (by decide) rfl rfl (by omega) (by omega) rfl (pc2 := 208) g641 (lo := (-2147483648)) (hi := 2147483647) rfl (by omega) (by omega) ?_
                                  intro τ645 g646 f647 e648
                                  refine wp_al1 jF_235_208 rfl rfl (pc2 := 209) ?_
                                  refine wp_gr (b := 142) jF_235_209 kd117 (by decide) (c := 242) rfl rfl rfl (pc2 := 212) ?_
                                  refine wp_il2 jF_235_212 rfl rfl (pc2 := 214) ?_
                                  refine wp_ic jF_235_214 rfl (pc2 := 215) ?_
                                  refine wp_add jF_235_215 rfl (pc2 := 216) ?_
                                  refine wp_il2 jF_235_216 rfl rfl (pc2 := 218) ?_
                                  refine wp_iast (n := 408) jF_235_218 kd142 (by decide) rfl rfl (by omega) (by omega) rfl (pc2 := 219) g646 (lo := (-2147483648)) (hi := 2147483647) rfl (by omega) (by omega) ?_
                                  intro τ649 g650 f651 e652
                                  refine wp_al1 jF_235_219 rfl rfl (pc2 := 220) ?_
                                  refine wp_gr (b := 142) jF_235_220 kd117 (by decide) (c := 242) rfl rfl rfl (pc2 := 223) ?_
                                  refine wp_il2 jF_235_223 rfl rfl (pc2 := 225) ?_
                                  refine wp_ic jF_235_225 rfl (pc2 := 226) ?_
                                  refine wp_add jF_235_226 rfl (pc2 := 227) ?_
                                  refine wp_il2 jF_235_227 rfl rfl (pc2 := 229) ?_
                                  refine wp_iast (n := 408) jF_235_229 kd142 (by decide) rfl rfl (by omega) (by omega) rfl (pc2 := 230) g650 (lo := (-2147483648)) (hi := 2147483647) rfl (by omega) (by omega) ?_
                                  intro τ653 g654 f655 e656
                                  refine wp_al1 jF_235_230 rfl rfl (pc2 := 231) ?_
                                  refine wp_gr (b := 143) jF_235_231 kd117 (by decide) (c := 243) rfl rfl rfl (pc2 := 234) ?_
                                  refine wp_il1 jF_235_234 rfl rfl (pc2 := 235) ?_
                                  refine wp_du2 jF_235_235 rfl rfl (pc2 := 236) ?_
                                  refine wp_iald (n := 6) (e := (σ.1 143 0)) jF_235_236 kd143 (by decide) rfl rfl (by omega) (by omega) ((FRw.na f655 (by decide)).trans ((FRw.na f651 (by decide)).trans ((FRw.na f647 (by decide)).trans ((FRw.na f642 (by decide)).trans ((FRw.na f638 (by decide)).trans ((FRw.na f634 (by decide)).trans ((FR.at f625 143 0 rfl).trans ((FR.at f616 143 0 rfl).trans ((FR.at f606 143 0 rfl).trans ((FR.at f596 143 0 rfl).trans ((FR.at f585 143 0 rfl).trans ((FR.at f578 143 0 rfl).trans ((FR.at f565 143 0 rfl).trans ((FR.at f551 143 0 rfl).trans ((FR.at f137 143 0 rfl).trans ((FR.at f124 143 0 rfl).trans ((FR.at f111 143 0 rfl).trans ((FR.at f98 143 0 rfl).trans ((FR.at f85 143 0 rfl).trans ((FR.at f72 143 0 rfl).trans (FR.at f59 143 0 rfl))))))))))))))))))))) rfl (pc2 := 237) ?_
                                  refine wp_ic jF_235_237 rfl (pc2 := 238) ?_
                                  refine wp_add jF_235_238 rfl (pc2 := 239) ?_
                                  refine wp_iast (n := 6) jF_235_239 kd143 (by decide) rfl rfl (by omega) (by omega) rfl (pc2 := 240) g654 (lo := 0) (hi := 16) rfl (by omega) (by omega) ?_
                                  intro τ657 g658 f659 e660
                                  refine wp_rv jF_235_240 ?_
                                  show WP 217 163 [(0, .ref 117), (1, iV (σ.1 117 2))] [] _ _ _ _
                                  refine wp_go jF_217_163 ?_
                                  have q661 : (τ657.1 117 2) = (τ623.1 117 2) := ((FRw.na f659 (by decide)).trans ((FRw.na f655 (by decide)).trans ((FRw.na f651 (by decide)).trans ((FRw.na f647 (by decide)).trans ((FRw.na f642 (by decide)).trans ((FRw.na f638 (by decide)).trans (FRw.na f634 (by decide))))))))
                                  have q662 : (τ657.1 117 5) = (τ623.1 117 5) := ((FRw.na f659 (by decide)).trans ((FRw.na f655 (by decide)).trans ((FRw.na f651 (by decide)).trans ((FRw.na f647 (by decide)).trans ((FRw.na f642 (by decide)).trans ((FRw.na f638 (by decide)).trans (FRw.na f634 (by decide))))))))
                                  have q663 : (τ657.1 143 0) = ((σ.1 143 0) + 1) := e660
                                  have b664 := GI.b hg 143 1 kd143 (lo := 0) (hi := 16) rfl
                                  have q665 : (τ657.1 143 1) = (σ.1 143 1) := ((FRw.nj f659 (by decide)).trans ((FRw.na f655 (by decide)).trans ((FRw.na f651 (by decide)).trans ((FRw.na f647 (by decide)).trans ((FRw.na f642 (by decide)).trans ((FRw.na f638 (by decide)).trans ((FRw.na f634 (by decide)).trans ((FR.at f625 143 1 rfl).trans ((FR.at f616 143 1 rfl).trans ((FR.at f606 143 1 rfl).trans ((FR.at f596 143 1 rfl).trans ((FR.at f585 143 1 rfl).trans ((FR.at f578 143 1 rfl).trans ((FR.at f565 143 1 rfl).trans ((FR.at f551 143 1 rfl).trans ((FR.at f137 143 1 rfl).trans ((FR.at f124 143 1 rfl).trans ((FR.at f111 143 1 rfl).trans ((FR.at f98 143 1 rfl).trans ((FR.at f85 143 1 rfl).trans ((FR.at f72 143 1 rfl).trans (FR.at f59 143 1 rfl))))))))))))))))))))))
                                  have b666 := GI.b hg 143 2 kd143 (lo := 0) (hi := 16) rfl
                                  have q667 : (τ657.1 143 2) = (σ.1 143 2) := ((FRw.nj f659 (by decide)).trans ((FRw.na f655 (by decide)).trans ((FRw.na f651 (by decide)).trans ((FRw.na f647 (by decide)).trans ((FRw.na f642 (by decide)).trans ((FRw.na f638 (by decide)).trans ((FRw.na f634 (by decide)).trans ((FR.at f625 143 2 rfl).trans ((FR.at f616 143 2 rfl).trans ((FR.at f606 143 2 rfl).trans ((FR.at f596 143 2 rfl).trans ((FR.at f585 143 2 rfl).trans ((FR.at f578 143 2 rfl).trans ((FR.at f565 143 2 rfl).trans ((FR.at f551 143 2 rfl).trans ((FR.at f137 143 2 rfl).trans ((FR.at f124 143 2 rfl).trans ((FR.at f111 143 2 rfl).trans ((FR.at f98 143 2 rfl).trans ((FR.at f85 143 2 rfl).trans ((FR.at f72 143 2 rfl).trans (FR.at f59 143 2 rfl))))))))))))))))))))))
                                  have q668 : (τ657.1 143 3) = (σ.1 143 3) := ((FRw.nj f659 (by decide)).trans ((FRw.na f655 (by decide)).trans ((FRw.na f651 (by decide)).trans ((FRw.na f647 (by decide)).trans ((FRw.na f642 (by decide)).trans ((FRw.na f638 (by decide)).trans ((FRw.na f634 (by decide)).trans ((FR.at f625 143 3 rfl).trans ((FR.at f616 143 3 rfl).trans ((FR.at f606 143 3 rfl).trans ((FR.at f596 143 3 rfl).trans ((FR.at f585 143 3 rfl).trans ((FR.at f578 143 3 rfl).trans ((FR.at f565 143 3 rfl).trans ((FR.at f551 143 3 rfl).trans ((FR.at f137 143 3 rfl).trans ((FR.at f124 143 3 rfl).trans ((FR.at f111 143 3 rfl).trans ((FR.at f98 143 3 rfl).trans ((FR.at f85 143 3 rfl).trans ((FR.at f72 143 3 rfl).trans (FR.at f59 143 3 rfl))))))))))))))))))))))
                                  have q669 : (τ657.1 143 4) = (σ.1 143 4) := ((FRw.nj f659 (by decide)).trans ((FRw.na f655 (by decide)).trans ((FRw.na f651 (by decide)).trans ((FRw.na f647 (by decide)).trans ((FRw.na f642 (by decide)).trans ((FRw.na f638 (by decide)).trans ((FRw.na f634 (by decide)).trans ((FR.at f625 143 4 rfl).trans ((FR.at f616 143 4 rfl).trans ((FR.at f606 143 4 rfl).trans ((FR.at f596 143 4 rfl).trans ((FR.at f585 143 4 rfl).trans ((FR.at f578 143 4 rfl).trans ((FR.at f565 143 4 rfl).trans ((FR.at f551 143 4 rfl).trans ((FR.at f137 143 4 rfl).trans ((FR.at f124 143 4 rfl).trans ((FR.at f111 143 4 rfl).trans ((FR.at f98 143 4 rfl).trans ((FR.at f85 143 4 rfl).trans ((FR.at f72 143 4 rfl).trans (FR.at f59 143 4 rfl))))))))))))))))))))))
                                  have q670 : (τ657.1 143 5) = (σ.1 143 5) := ((FRw.nj f659 (by decide)).trans ((FRw.na f655 (by decide)).trans ((FRw.na f651 (by decide)).trans ((FRw.na f647 (by decide)).trans ((FRw.na f642 (by decide)).trans ((FRw.na f638 (by decide)).trans ((FRw.na f634 (by decide)).trans ((FR.at f625 143 5 rfl).trans ((FR.at f616 143 5 rfl).trans ((FR.at f606 143 5 rfl).trans ((FR.at f596 143 5 rfl).trans ((FR.at f585 143 5 rfl).trans ((FR.at f578 143 5 rfl).trans ((FR.at f565 143 5 rfl).trans ((FR.at f551 143 5 rfl).trans ((FR.at f137 143 5 rfl).trans ((FR.at f124 143 5 rfl).trans ((FR.at f111 143 5 rfl).trans ((FR.at f98 143 5 rfl).trans ((FR.at f85 143 5 rfl).trans ((FR.at f72 143 5 rfl).trans (FR.at f59 143 5 rfl))))))))))))))))))))))
                                  exact jn51 () τ657 ⟨g658, (FR.w (FR.w (FR.w (FR.w (FR.w (FR.w (FR.w (FR.up (FR.up (FR.up (FR.up (FR.up (FR.up (FR.up (FR.up (FR.up (FR.up (FR.up (FR.up (FR.up (FR.up (FR.up FR.rf f59 sb_Wtak_Wst0) f72 sb_Wtak_Wst0) f85 sb_Wtak_Wst0) f98 sb_Wtak_Wst0) f111 sb_Wtak_Wst0) f124 sb_Wtak_Wst0) f137 sb_Wtak_Wst0) f551 sb_Wbad_Wst0) f565 sb_Wsp_Wst0) f578 sb_Wtak_Wst0) f585 sb_Wask_Wst0) f596 sb_Wsp_Wst0) f606 sb_Wsp_Wst0) f616 sb_Wsp_Wst0) f625 sb_Wask_Wst0) f634 rfl) f638 rfl) f642 rfl) f647 rfl) f651 rfl) f655 rfl) f659 rfl), (by omega), (by omega), (by omega), (by omega), (by omega), (by omega), (by omega), (by omega), (by omega)⟩
                                · intro h644
                                  replace p573 := p573 (by omega)
                                  refine wp_ic jF_235_202 rfl (pc2 := 203) ?_
                                  refine wp_go jF_235_203 ?_
                                  refine wp_iast (n := 408) jF_235_207 kd142 (by decide) rfl rfl (by omega) (by omega) rfl (pc2 := 208) g641 (lo := (-2147483648)) (hi := 2147483647) rfl (by omega) (by omega) ?_
                                  intro τ671 g672 f673 e674
                                  refine wp_al1 jF_235_208 rfl rfl (pc2 := 209) ?_
                                  refine wp_gr (b := 142) jF_235_209 kd117 (by decide) (c := 242) rfl rfl rfl (pc2 := 212) ?_
                                  refine wp_il2 jF_235_212 rfl rfl (pc2 := 214) ?_
                                  refine wp_ic jF_235_214 rfl (pc2 := 215) ?_
                                  refine wp_add jF_235_215 rfl (pc2 := 216) ?_
                                  refine wp_il2 jF_235_216 rfl rfl (pc2 := 218) ?_
                                  refine wp_iast (n := 408) jF_235_218 kd142 (by decide) rfl rfl (by omega) (by omega) rfl (pc2 := 219) g672 (lo := (-2147483648)) (hi := 2147483647) rfl (by omega) (by omega) ?_
                                  intro τ675 g676 f677 e678
                                  refine wp_al1 jF_235_219 rfl rfl (pc2 := 220) ?_
                                  refine wp_gr (b := 142) jF_235_220 kd117 (by decide) (c := 242) rfl rfl rfl (pc2 := 223) ?_
                                  refine wp_il2 jF_235_223 rfl rfl (pc2 := 225) ?_
                                  refine wp_ic jF_235_225 rfl (pc2 := 226) ?_
                                  refine wp_add jF_235_226 rfl (pc2 := 227) ?_
                                  refine wp_il2 jF_235_227 rfl rfl (pc2 := 229) ?_
                                  refine wp_iast (n := 408) jF_235_229 kd142 (by decide) rfl rfl (by omega) (by omega) rfl (pc2 := 230) g676 (lo := (-2147483648)) (hi := 2147483647) rfl (by omega) (by omega) ?_
                                  intro τ679 g680 f681 e682
                                  refine wp_al1 jF_235_230 rfl rfl (pc2 := 231) ?_
                                  refine wp_gr (b := 143) jF_235_231 kd117 (by decide) (c := 243) rfl rfl rfl (pc2 := 234) ?_
                                  refine wp_il1 jF_235_234 rfl rfl (pc2 := 235) ?_
                                  refine wp_du2 jF_235_235 rfl rfl (pc2 := 236) ?_
                                  refine wp_iald (n := 6) (e := (σ.1 143 0)) jF_235_236 kd143 (by decide) rfl rfl (by omega) (by omega) ((FRw.na f681 (by decide)).trans ((FRw.na f677 (by decide)).trans ((FRw.na f673 (by decide)).trans ((FRw.na f642 (by decide)).trans ((FRw.na f638 (by decide)).trans ((FRw.na f634 (by decide)).trans ((FR.at f625 143 0 rfl).trans ((FR.at f616 143 0 rfl).trans ((FR.at f606 143 0 rfl).trans ((FR.at f596 143 0 rfl).trans ((FR.at f585 143 0 rfl).trans ((FR.at f578 143 0 rfl).trans ((FR.at f565 143 0 rfl).trans ((FR.at f551 143 0 rfl).trans ((FR.at f137 143 0 rfl).trans ((FR.at f124 143 0 rfl).trans ((FR.at f111 143 0 rfl).trans ((FR.at f98 143 0 rfl).trans ((FR.at f85 143 0 rfl).trans ((FR.at f72 143 0 rfl).trans (FR.at f59 143 0 rfl))))))))))))))))))))) rfl (pc2 := 237) ?_
                                  refine wp_ic jF_235_237 rfl (pc2 := 238) ?_
                                  refine wp_add jF_235_238 rfl (pc2 := 239) ?_
                                  refine wp_iast (n := 6) jF_235_239 kd143 (by decide) rfl rfl (by omega) (by omega) rfl (pc2 := 240) g680 (lo := 0) (hi := 16) rfl (by omega) (by omega) ?_
                                  intro τ683 g684 f685 e686
                                  refine wp_rv jF_235_240 ?_
                                  show WP 217 163 [(0, .ref 117), (1, iV (σ.1 117 2))] [] _ _ _ _
                                  refine wp_go jF_217_163 ?_
                                  have q687 : (τ683.1 117 2) = (τ623.1 117 2) := ((FRw.na f685 (by decide)).trans ((FRw.na f681 (by decide)).trans ((FRw.na f677 (by decide)).trans ((FRw.na f673 (by decide)).trans ((FRw.na f642 (by decide)).trans ((FRw.na f638 (by decide)).trans (FRw.na f634 (by decide))))))))
                                  have q688 : (τ683.1 117 5) = (τ623.1 117 5) := ((FRw.na f685 (by decide)).trans ((FRw.na f681 (by decide)).trans ((FRw.na f677 (by decide)).trans ((FRw.na f673 (by decide)).trans ((FRw.na f642 (by decide)).trans ((FRw.na f638 (by decide)).trans (FRw.na f634 (by decide))))))))
                                  have q689 : (τ683.1 143 0) = ((σ.1 143 0) + 1) := e686
                                  have b690 := GI.b hg 143 1 kd143 (lo := 0) (hi := 16) rfl
                                  have q691 : (τ683.1 143 1) = (σ.1 143 1) := ((FRw.nj f685 (by decide)).trans ((FRw.na f681 (by decide)).trans ((FRw.na f677 (by decide)).trans ((FRw.na f673 (by decide)).trans ((FRw.na f642 (by decide)).trans ((FRw.na f638 (by decide)).trans ((FRw.na f634 (by decide)).trans ((FR.at f625 143 1 rfl).trans ((FR.at f616 143 1 rfl).trans ((FR.at f606 143 1 rfl).trans ((FR.at f596 143 1 rfl).trans ((FR.at f585 143 1 rfl).trans ((FR.at f578 143 1 rfl).trans ((FR.at f565 143 1 rfl).trans ((FR.at f551 143 1 rfl).trans ((FR.at f137 143 1 rfl).trans ((FR.at f124 143 1 rfl).trans ((FR.at f111 143 1 rfl).trans ((FR.at f98 143 1 rfl).trans ((FR.at f85 143 1 rfl).trans ((FR.at f72 143 1 rfl).trans (FR.at f59 143 1 rfl))))))))))))))))))))))
                                  have b692 := GI.b hg 143 2 kd143 (lo := 0) (hi := 16) rfl
                                  have q693 : (τ683.1 143 2) = (σ.1 143 2) := ((FRw.nj f685 (by decide)).trans ((FRw.na f681 (by decide)).trans ((FRw.na f677 (by decide)).trans ((FRw.na f673 (by decide)).trans ((FRw.na f642 (by decide)).trans ((FRw.na f638 (by decide)).trans ((FRw.na f634 (by decide)).trans ((FR.at f625 143 2 rfl).trans ((FR.at f616 143 2 rfl).trans ((FR.at f606 143 2 rfl).trans ((FR.at f596 143 2 rfl).trans ((FR.at f585 143 2 rfl).trans ((FR.at f578 143 2 rfl).trans ((FR.at f565 143 2 rfl).trans ((FR.at f551 143 2 rfl).trans ((FR.at f137 143 2 rfl).trans ((FR.at f124 143 2 rfl).trans ((FR.at f111 143 2 rfl).trans ((FR.at f98 143 2 rfl).trans ((FR.at f85 143 2 rfl).trans ((FR.at f72 143 2 rfl).trans (FR.at f59 143 2 rfl))))))))))))))))))))))
                                  have q694 : (τ683.1 143 3) = (σ.1 143 3) := ((FRw.nj f685 (by decide)).trans ((FRw.na f681 (by decide)).trans ((FRw.na f677 (by decide)).trans ((FRw.na f673 (by decide)).trans ((FRw.na f642 (by decide)).trans ((FRw.na f638 (by decide)).trans ((FRw.na f634 (by decide)).trans ((FR.at f625 143 3 rfl).trans ((FR.at f616 143 3 rfl).trans ((FR.at f606 143 3 rfl).trans ((FR.at f596 143 3 rfl).trans ((FR.at f585 143 3 rfl).trans ((FR.at f578 143 3 rfl).trans ((FR.at f565 143 3 rfl).trans ((FR.at f551 143 3 rfl).trans ((FR.at f137 143 3 rfl).trans ((FR.at f124 143 3 rfl).trans ((FR.at f111 143 3 rfl).trans ((FR.at f98 143 3 rfl).trans ((FR.at f85 143 3 rfl).trans ((FR.at f72 143 3 rfl).trans (FR.at f59 143 3 rfl))))))))))))))))))))))
                                  have q695 : (τ683.1 143 4) = (σ.1 143 4) := ((FRw.nj f685 (by decide)).trans ((FRw.na f681 (by decide)).trans ((FRw.na f677 (by decide)).trans ((FRw.na f673 (by decide)).trans ((FRw.na f642 (by decide)).trans ((FRw.na f638 (by decide)).trans ((FRw.na f634 (by decide)).trans ((FR.at f625 143 4 rfl).trans ((FR.at f616 143 4 rfl).trans ((FR.at f606 143 4 rfl).trans ((FR.at f596 143 4 rfl).trans ((FR.at f585 143 4 rfl).trans ((FR.at f578 143 4 rfl).trans ((FR.at f565 143 4 rfl).trans ((FR.at f551 143 4 rfl).trans ((FR.at f137 143 4 rfl).trans ((FR.at f124 143 4 rfl).trans ((FR.at f111 143 4 rfl).trans ((FR.at f98 143 4 rfl).trans ((FR.at f85 143 4 rfl).trans ((FR.at f72 143 4 rfl).trans (FR.at f59 143 4 rfl))))))))))))))))))))))
                                  have q696 : (τ683.1 143 5) = (σ.1 143 5) := ((FRw.nj f685 (by decide)).trans ((FRw.na f681 (by decide)).trans ((FRw.na f677 (by decide)).trans ((FRw.na f673 (by decide)).trans ((FRw.na f642 (by decide)).trans ((FRw.na f638 (by decide)).trans ((FRw.na f634 (by decide)).trans ((FR.at f625 143 5 rfl).trans ((FR.at f616 143 5 rfl).trans ((FR.at f606 143 5 rfl).trans ((FR.at f596 143 5 rfl).trans ((FR.at f585 143 5 rfl).trans ((FR.at f578 143 5 rfl).trans ((FR.at f565 143 5 rfl).trans ((FR.at f551 143 5 rfl).trans ((FR.at f137 143 5 rfl).trans ((FR.at f124 143 5 rfl).trans ((FR.at f111 143 5 rfl).trans ((FR.at f98 143 5 rfl).trans ((FR.at f85 143 5 rfl).trans ((FR.at f72 143 5 rfl).trans (FR.at f59 143 5 rfl))))))))))))))))))))))
                                  exact jn51 () τ683 ⟨g684, (FR.w (FR.w (FR.w (FR.w (FR.w (FR.w (FR.w (FR.up (FR.up (FR.up (FR.up (FR.up (FR.up (FR.up (FR.up (FR.up (FR.up (FR.up (FR.up (FR.up (FR.up (FR.up FR.rf f59 sb_Wtak_Wst0) f72 sb_Wtak_Wst0) f85 sb_Wtak_Wst0) f98 sb_Wtak_Wst0) f111 sb_Wtak_Wst0) f124 sb_Wtak_Wst0) f137 sb_Wtak_Wst0) f551 sb_Wbad_Wst0) f565 sb_Wsp_Wst0) f578 sb_Wtak_Wst0) f585 sb_Wask_Wst0) f596 sb_Wsp_Wst0) f606 sb_Wsp_Wst0) f616 sb_Wsp_Wst0) f625 sb_Wask_Wst0) f634 rfl) f638 rfl) f642 rfl) f673 rfl) f677 rfl) f681 rfl) f685 rfl), (by omega), (by omega), (by omega), (by omega), (by omega), (by omega), (by omega), (by omega), (by omega)⟩
                              · intro h631
                                clear p628
                                refine wp_rv jF_235_157 ?_
                                show WP 217 163 [(0, .ref 117), (1, iV (σ.1 117 2))] [] _ _ _ _
                                refine wp_go jF_217_163 ?_
                                have q697 : (τ623.1 143 0) = (σ.1 143 0) := ((FR.at f625 143 0 rfl).trans ((FR.at f616 143 0 rfl).trans ((FR.at f606 143 0 rfl).trans ((FR.at f596 143 0 rfl).trans ((FR.at f585 143 0 rfl).trans ((FR.at f578 143 0 rfl).trans ((FR.at f565 143 0 rfl).trans ((FR.at f551 143 0 rfl).trans ((FR.at f137 143 0 rfl).trans ((FR.at f124 143 0 rfl).trans ((FR.at f111 143 0 rfl).trans ((FR.at f98 143 0 rfl).trans ((FR.at f85 143 0 rfl).trans ((FR.at f72 143 0 rfl).trans (FR.at f59 143 0 rfl)))))))))))))))
                                have b698 := GI.b hg 143 1 kd143 (lo := 0) (hi := 16) rfl
                                have q699 : (τ623.1 143 1) = (σ.1 143 1) := ((FR.at f625 143 1 rfl).trans ((FR.at f616 143 1 rfl).trans ((FR.at f606 143 1 rfl).trans ((FR.at f596 143 1 rfl).trans ((FR.at f585 143 1 rfl).trans ((FR.at f578 143 1 rfl).trans ((FR.at f565 143 1 rfl).trans ((FR.at f551 143 1 rfl).trans ((FR.at f137 143 1 rfl).trans ((FR.at f124 143 1 rfl).trans ((FR.at f111 143 1 rfl).trans ((FR.at f98 143 1 rfl).trans ((FR.at f85 143 1 rfl).trans ((FR.at f72 143 1 rfl).trans (FR.at f59 143 1 rfl)))))))))))))))
                                have b700 := GI.b hg 143 2 kd143 (lo := 0) (hi := 16) rfl
                                have q701 : (τ623.1 143 2) = (σ.1 143 2) := ((FR.at f625 143 2 rfl).trans ((FR.at f616 143 2 rfl).trans ((FR.at f606 143 2 rfl).trans ((FR.at f596 143 2 rfl).trans ((FR.at f585 143 2 rfl).trans ((FR.at f578 143 2 rfl).trans ((FR.at f565 143 2 rfl).trans ((FR.at f551 143 2 rfl).trans ((FR.at f137 143 2 rfl).trans ((FR.at f124 143 2 rfl).trans ((FR.at f111 143 2 rfl).trans ((FR.at f98 143 2 rfl).trans ((FR.at f85 143 2 rfl).trans ((FR.at f72 143 2 rfl).trans (FR.at f59 143 2 rfl)))))))))))))))
                                have q702 : (τ623.1 143 3) = (σ.1 143 3) := ((FR.at f625 143 3 rfl).trans ((FR.at f616 143 3 rfl).trans ((FR.at f606 143 3 rfl).trans ((FR.at f596 143 3 rfl).trans ((FR.at f585 143 3 rfl).trans ((FR.at f578 143 3 rfl).trans ((FR.at f565 143 3 rfl).trans ((FR.at f551 143 3 rfl).trans ((FR.at f137 143 3 rfl).trans ((FR.at f124 143 3 rfl).trans ((FR.at f111 143 3 rfl).trans ((FR.at f98 143 3 rfl).trans ((FR.at f85 143 3 rfl).trans ((FR.at f72 143 3 rfl).trans (FR.at f59 143 3 rfl)))))))))))))))
                                have q703 : (τ623.1 143 4) = (σ.1 143 4) := ((FR.at f625 143 4 rfl).trans ((FR.at f616 143 4 rfl).trans ((FR.at f606 143 4 rfl).trans ((FR.at f596 143 4 rfl).trans ((FR.at f585 143 4 rfl).trans ((FR.at f578 143 4 rfl).trans ((FR.at f565 143 4 rfl).trans ((FR.at f551 143 4 rfl).trans ((FR.at f137 143 4 rfl).trans ((FR.at f124 143 4 rfl).trans ((FR.at f111 143 4 rfl).trans ((FR.at f98 143 4 rfl).trans ((FR.at f85 143 4 rfl).trans ((FR.at f72 143 4 rfl).trans (FR.at f59 143 4 rfl)))))))))))))))
                                have q704 : (τ623.1 143 5) = (σ.1 143 5) := ((FR.at f625 143 5 rfl).trans ((FR.at f616 143 5 rfl).trans ((FR.at f606 143 5 rfl).trans ((FR.at f596 143 5 rfl).trans ((FR.at f585 143 5 rfl).trans ((FR.at f578 143 5 rfl).trans ((FR.at f565 143 5 rfl).trans ((FR.at f551 143 5 rfl).trans ((FR.at f137 143 5 rfl).trans ((FR.at f124 143 5 rfl).trans ((FR.at f111 143 5 rfl).trans ((FR.at f98 143 5 rfl).trans ((FR.at f85 143 5 rfl).trans ((FR.at f72 143 5 rfl).trans (FR.at f59 143 5 rfl)))))))))))))))
                                exact jn51 () τ623 ⟨g624, (FR.up (FR.up (FR.up (FR.up (FR.up (FR.up (FR.up (FR.up (FR.up (FR.up (FR.up (FR.up (FR.up (FR.up (FR.up FR.rf f59 sb_Wtak_Wst0) f72 sb_Wtak_Wst0) f85 sb_Wtak_Wst0) f98 sb_Wtak_Wst0) f111 sb_Wtak_Wst0) f124 sb_Wtak_Wst0) f137 sb_Wtak_Wst0) f551 sb_Wbad_Wst0) f565 sb_Wsp_Wst0) f578 sb_Wtak_Wst0) f585 sb_Wask_Wst0) f596 sb_Wsp_Wst0) f606 sb_Wsp_Wst0) f616 sb_Wsp_Wst0) f625 sb_Wask_Wst0), (by omega), (by omega), (by omega), (by omega), (by omega), (by omega), (by omega), (by omega), (by omega)⟩
                            · intro jn705
                              refine wp_il1 jF_235_129 rfl rfl (pc2 := 130) ?_
                              refine wp_z_ne jF_235_130 (m_rgl rfl) rfl (pc2 := 133) ?_ ?_
                              · intro h706; exfalso; omega
                              · intro h706
                                refine wp_al1 jF_235_133 rfl rfl (pc2 := 134) ?_
                                refine wp_al1 jF_235_134 rfl rfl (pc2 := 135) ?_
                                refine wp_gr (b := 133) jF_235_135 kd117 (by decide) (c := 233) rfl rfl rfl (pc2 := 138) ?_
                                refine wp_cV (as := [.ref 133]) (rest := []) (a := 117) (mx := 2) (ci := 12) jF_235_138 kd117 (by decide) rfl rfl rfl rfl rfl (by omega) (by omega) rfl (pc2 := 141) ?_
                                have q707 : (τ614.1 117 3) = (σ.1 117 3) := ((FR.at f616 117 3 rfl).trans ((FR.at f606 117 3 rfl).trans ((FR.at f596 117 3 rfl).trans ((FR.at f585 117 3 rfl).trans ((FR.at f578 117 3 rfl).trans ((FR.at f565 117 3 rfl).trans ((FR.at f551 117 3 rfl).trans ((FR.at f137 117 3 rfl).trans ((FR.at f124 117 3 rfl).trans ((FR.at f111 117 3 rfl).trans ((FR.at f98 117 3 rfl).trans ((FR.at f85 117 3 rfl).trans ((FR.at f72 117 3 rfl).trans (FR.at f59 117 3 rfl))))))))))))))
                                refine wp_use (m_234 τ614 g615 133 5 cw133.1 cw133.2 (by decide)  _ _ (by omega) (by omega)) ?_
                                rintro _ τ711 ⟨rfl, g712, f713, p708, p709, p710⟩
                                show WP 235 141 [(0, .ref 117), (1, iV 0), (2, iV 16), (3, iV (σ.1 117 2)), (4, iV (0 + (6 * (σ.1 143 0)))), (5, iV x561), (6, iV z579), (7, iV z597), (8, iV z607), (9, iV z617), (10, iV 0)] [] _ _ _ _
                                refine wp_al1 jF_235_141 rfl rfl (pc2 := 142) ?_
                                refine wp_ic jF_235_142 rfl (pc2 := 143) ?_
                                refine wp_bi jF_235_143 (by decide) rfl (pc2 := 145) ?_
                                refine wp_cV (as := [iV 1, iV 99]) (rest := []) (a := 117) (mx := 5) (ci := 12) jF_235_145 kd117 (by decide) rfl rfl rfl rfl rfl (by omega) (by omega) rfl (pc2 := 148) ?_
                                have b714 := GI.b g712 117 2 kd117 (lo := 0) (hi := 1601) rfl
                                have q715 : (τ711.1 117 3) = (σ.1 117 3) := ((FR.at f713 117 3 rfl).trans ((FR.at f616 117 3 rfl).trans ((FR.at f606 117 3 rfl).trans ((FR.at f596 117 3 rfl).trans ((FR.at f585 117 3 rfl).trans ((FR.at f578 117 3 rfl).trans ((FR.at f565 117 3 rfl).trans ((FR.at f551 117 3 rfl).trans ((FR.at f137 117 3 rfl).trans ((FR.at f124 117 3 rfl).trans ((FR.at f111 117 3 rfl).trans ((FR.at f98 117 3 rfl).trans ((FR.at f85 117 3 rfl).trans ((FR.at f72 117 3 rfl).trans (FR.at f59 117 3 rfl)))))))))))))))
                                have b716 := GI.b g712 117 5 kd117 (lo := (-2147483648)) (hi := 2147483647) rfl
                                refine wp_use (m_230 τ711 g712 1 (by omega) (by omega) 99 (by omega) (by omega)  _ _ (by omega) (by omega)) ?_
                                rintro _ τ720 ⟨z723, rfl, h724, g721, f722, p717, p718, p719⟩
                                show WP 235 148 [(0, .ref 117), (1, iV 0), (2, iV 16), (3, iV (σ.1 117 2)), (4, iV (0 + (6 * (σ.1 143 0)))), (5, iV x561), (6, iV z579), (7, iV z597), (8, iV z607), (9, iV z617), (10, iV 0)] [iV z723] _ _ _ _
                                refine wp_is2 (lv2 := [(0, .ref 117), (1, iV 0), (2, iV 16), (3, iV (σ.1 117 2)), (4, iV (0 + (6 * (σ.1 143 0)))), (5, iV x561), (6, iV z579), (7, iV z597), (8, iV z607), (9, iV z617), (10, iV z723)]) jF_235_148 rfl rfl rfl (pc2 := 150) ?_
                                have b725 := GI.b g721 117 2 kd117 (lo := 0) (hi := 1601) rfl
                                have b726 := GI.b g721 117 5 kd117 (lo := (-2147483648)) (hi := 2147483647) rfl
                                exact jn705 (z723) τ720 ⟨⟨by omega, by omega⟩, g721, (FR.up f713 f722 sb_Wask_Wask), (by omega), (by omega), (by omega)⟩
                          · intro jn727
                            refine wp_il2 jF_235_92 rfl rfl (pc2 := 94) ?_
                            refine wp_z_ne jF_235_94 (m_rgb h580 rfl) rfl (pc2 := 97) ?_ ?_
                            · intro h728
                              replace p573 := p573 (by omega)
                              replace p568 := p568 (by omega)
                              replace p553 := p553 (by omega)
                              replace p554 := p554 (by omega)
                              clear p567
                              exact jn727 () τ576 ⟨g577, FR.rf, (by omega), (by omega), (by omega)⟩
                            · intro h728
                              clear p573
                              refine wp_al1 jF_235_97 rfl rfl (pc2 := 98) ?_
                              refine wp_al1 jF_235_98 rfl rfl (pc2 := 99) ?_
                              refine wp_gr (b := 131) jF_235_99 kd117 (by decide) (c := 231) rfl rfl rfl (pc2 := 102) ?_
                              refine wp_cV (as := [.ref 131]) (rest := []) (a := 117) (mx := 2) (ci := 12) jF_235_102 kd117 (by decide) rfl rfl rfl rfl rfl (by omega) (by omega) rfl (pc2 := 105) ?_
                              have q729 : (τ576.1 117 3) = (σ.1 117 3) := ((FR.at f578 117 3 rfl).trans ((FR.at f565 117 3 rfl).trans ((FR.at f551 117 3 rfl).trans ((FR.at f137 117 3 rfl).trans ((FR.at f124 117 3 rfl).trans ((FR.at f111 117 3 rfl).trans ((FR.at f98 117 3 rfl).trans ((FR.at f85 117 3 rfl).trans ((FR.at f72 117 3 rfl).trans (FR.at f59 117 3 rfl))))))))))
                              refine wp_use (m_234 τ576 g577 131 4 cw131.1 cw131.2 (by decide)  _ _ (by omega) (by omega)) ?_
                              rintro _ τ733 ⟨rfl, g734, f735, p730, p731, p732⟩
                              show WP 235 105 [(0, .ref 117), (1, iV 0), (2, iV 16), (3, iV (σ.1 117 2)), (4, iV (0 + (6 * (σ.1 143 0)))), (5, iV x561), (6, iV z579)] [] _ _ _ _
                              have b736 := GI.b g734 117 2 kd117 (lo := 0) (hi := 1601) rfl
                              have b737 := GI.b g734 117 5 kd117 (lo := (-2147483648)) (hi := 2147483647) rfl
                              exact jn727 () τ733 ⟨g734, f735, (by omega), (by omega), (by omega)⟩
                        · intro jn738
                          refine wp_il1 jF_235_42 rfl rfl (pc2 := 43) ?_
                          refine wp_z_ne jF_235_43 (m_rgl rfl) rfl (pc2 := 46) ?_ ?_
                          · intro h739; exfalso; omega
                          · intro h739
                            refine wp_al1 jF_235_46 rfl rfl (pc2 := 47) ?_
                            refine wp_cV (as := []) (rest := []) (a := 117) (mx := 3) (ci := 12) jF_235_47 kd117 (by decide) rfl rfl rfl rfl rfl (by omega) (by omega) rfl (pc2 := 50) ?_
                            have q740 : (ch τ549) = (ch τ135) := (ch_fr f551 rfl rfl (fun _ => rfl))
                            have q741 : (nb τ549) = (nb τ135) := (nb_fr f551 rfl rfl (fun _ => rfl))
                            refine wp_use (m_225 τ549 g550   _ _ (by omega) (by omega)) ?_
                            rintro _ τ746 ⟨y749, rfl, g747, f748, p742, p743, p744, p745⟩
                            show WP 235 50 [(0, .ref 117), (1, iV 0), (2, iV 16), (3, iV (σ.1 117 2)), (4, iV (0 + (6 * (σ.1 143 0)))), (5, iV (-1))] [.long y749] _ _ _ _
                            refine wp_ls2 (lv2 := [(0, .ref 117), (1, iV 0), (2, iV 16), (3, iV (σ.1 117 2)), (4, iV (0 + (6 * (σ.1 143 0)))), (5, iV (-1)), (6, .long y749)]) jF_235_50 rfl rfl rfl (pc2 := 52) ?_
                            refine wp_al1 jF_235_52 rfl rfl (pc2 := 53) ?_
                            refine wp_ll2 jF_235_53 rfl rfl (pc2 := 55) ?_
                            refine wp_cV (as := [.long y749]) (rest := []) (a := 117) (mx := 4) (ci := 12) jF_235_55 kd117 (by decide) rfl rfl rfl rfl rfl (by omega) (by omega) rfl (pc2 := 58) ?_
                            refine wp_use (m_228 τ746 g747 y749  _ _ (by omega) (by omega)) ?_
                            rintro _ _ ⟨z752, rfl, h753, rfl⟩
                            show WP 235 58 [(0, .ref 117), (1, iV 0), (2, iV 16), (3, iV (σ.1 117 2)), (4, iV (0 + (6 * (σ.1 143 0)))), (5, iV (-1)), (6, .long y749)] [iV z752] _ _ _ _
                            refine wp_is2 (lv2 := [(0, .ref 117), (1, iV 0), (2, iV 16), (3, iV (σ.1 117 2)), (4, iV (0 + (6 * (σ.1 143 0)))), (5, iV z752), (6, .long y749)]) jF_235_58 rfl rfl rfl (pc2 := 60) ?_
                            refine wp_al1 jF_235_60 rfl rfl (pc2 := 61) ?_
                            have b754 := GI.b g747 117 5 kd117 (lo := (-2147483648)) (hi := 2147483647) rfl
                            refine wp_gi jF_235_61 kd117 (by decide) rfl rfl rfl (pc2 := 64) ?_
                            refine wp_z_ne jF_235_64 (m_rgb b754 rfl) rfl (pc2 := 67) ?_ ?_
                            · intro h755
                              clear p744
                              have b756 := GI.b g747 117 2 kd117 (lo := 0) (hi := 1601) rfl
                              refine wp_less [0, 1, 2, 3, 4, 5] (lv2 := [(0, .ref 117), (1, iV 0), (2, iV 16), (3, iV (σ.1 117 2)), (4, iV (0 + (6 * (σ.1 143 0)))), (5, iV z752)]) rfl rfl ?_
                              exact jn738 (z752) τ746 ⟨⟨by omega, by omega⟩, g747, f748, (by omega), (by omega), (by omega)⟩
                            · intro h755
                              replace p744 := p744 (by omega)
                              replace p553 := p553 (by omega)
                              replace p554 := p554 (by omega)
                              clear p743
                              refine wp_il2 jF_235_67 rfl rfl (pc2 := 69) ?_
                              refine wp_ic jF_235_69 rfl (pc2 := 70) ?_
                              refine wp_i_ne jF_235_70 (m_rgb h753 rfl) (m_rgl rfl) rfl (pc2 := 73) ?_ ?_
                              · intro h757
                                have b758 := GI.b g747 117 2 kd117 (lo := 0) (hi := 1601) rfl
                                refine wp_less [0, 1, 2, 3, 4, 5] (lv2 := [(0, .ref 117), (1, iV 0), (2, iV 16), (3, iV (σ.1 117 2)), (4, iV (0 + (6 * (σ.1 143 0)))), (5, iV z752)]) rfl rfl ?_
                                exact jn738 (z752) τ746 ⟨⟨by omega, by omega⟩, g747, f748, (by omega), (by omega), (by omega)⟩
                              · intro h757
                                refine wp_al1 jF_235_73 rfl rfl (pc2 := 74) ?_
                                refine wp_ic jF_235_74 rfl (pc2 := 75) ?_
                                refine wp_al1 jF_235_75 rfl rfl (pc2 := 76) ?_
                                have b759 := GI.b g747 117 28 kd117 (lo := (-2147483648)) (hi := 2147483647) rfl
                                refine wp_gi jF_235_76 kd117 (by decide) rfl rfl rfl (pc2 := 79) ?_
                                refine wp_cV (as := [iV 3, iV (τ746.1 117 28)]) (rest := []) (a := 117) (mx := 3) (ci := 12) jF_235_79 kd117 (by decide) rfl rfl rfl rfl rfl (by omega) (by omega) rfl (pc2 := 82) ?_
                                refine wp_use (m_218 τ746 g747 3 (by omega) (by omega) (τ746.1 117 28) (by omega) (by omega)  _ _ (by omega) (by omega)) ?_
                                rintro _ τ762 ⟨rfl, g763, f764, p760, p761⟩
                                clear p760
                                replace p761 := p761 (by omega)
                                show WP 235 82 [(0, .ref 117), (1, iV 0), (2, iV 16), (3, iV (σ.1 117 2)), (4, iV (0 + (6 * (σ.1 143 0)))), (5, iV z752), (6, .long y749)] [] _ _ _ _
                                have b765 := GI.b g747 117 2 kd117 (lo := 0) (hi := 1601) rfl
                                have q766 : (τ762.1 117 2) = (τ746.1 117 2) := (FR.at f764 117 2 rfl)
                                have b767 := GI.b g763 117 5 kd117 (lo := (-2147483648)) (hi := 2147483647) rfl
                                refine wp_less [0, 1, 2, 3, 4, 5] (lv2 := [(0, .ref 117), (1, iV 0), (2, iV 16), (3, iV (σ.1 117 2)), (4, iV (0 + (6 * (σ.1 143 0)))), (5, iV z752)]) rfl rfl ?_
                                exact jn738 (z752) τ762 ⟨⟨by omega, by omega⟩, g763, (FR.up f748 f764 sb_Wbad_Wsp), (by omega), (by omega), (by omega)⟩
                    · intro jn768
                      refine wp_al1 jF_235_0 rfl rfl (pc2 := 1) ?_
                      refine wp_gi jF_235_1 kd117 (by decide) rfl ((FR.at f137 117 5 rfl).trans ((FR.at f124 117 5 rfl).trans ((FR.at f111 117 5 rfl).trans ((FR.at f98 117 5 rfl).trans ((FR.at f85 117 5 rfl).trans ((FR.at f72 117 5 rfl).trans (FR.at f59 117 5 rfl))))))) rfl (pc2 := 4) ?_
                      refine wp_z_ne jF_235_4 (m_rgb b4 rfl) rfl (pc2 := 7) ?_ ?_
                      · intro h769
                        have b770 := GI.b hg 143 0 kd143 (lo := 0) (hi := 16) rfl
                        have q771 : (τ135.1 143 0) = (σ.1 143 0) := ((FR.at f137 143 0 rfl).trans ((FR.at f124 143 0 rfl).trans ((FR.at f111 143 0 rfl).trans ((FR.at f98 143 0 rfl).trans ((FR.at f85 143 0 rfl).trans ((FR.at f72 143 0 rfl).trans (FR.at f59 143 0 rfl)))))))
                        exact jn768 () τ135 ⟨g136, FR.rf, (by omega), (by omega), (by omega)⟩
                      · intro h769
                        refine wp_al1 jF_235_7 rfl rfl (pc2 := 8) ?_
                        refine wp_gr (b := 143) jF_235_8 kd117 (by decide) (c := 243) rfl rfl rfl (pc2 := 11) ?_
                        refine wp_il1 jF_235_11 rfl rfl (pc2 := 12) ?_
                        have b772 := GI.b hg 143 0 kd143 (lo := 0) (hi := 16) rfl
                        refine wp_iald (n := 6) (e := (σ.1 143 0)) jF_235_12 kd143 (by decide) rfl rfl (by omega) (by omega) ((FR.at f137 143 0 rfl).trans ((FR.at f124 143 0 rfl).trans ((FR.at f111 143 0 rfl).trans ((FR.at f98 143 0 rfl).trans ((FR.at f85 143 0 rfl).trans ((FR.at f72 143 0 rfl).trans (FR.at f59 143 0 rfl))))))) rfl (pc2 := 13) ?_
                        refine wp_il1 jF_235_13 rfl rfl (pc2 := 14) ?_
                        refine wp_i_ne jF_235_14 (m_rgb b772 rfl) (m_rgl rfl) rfl (pc2 := 17) ?_ ?_
                        · intro h773
                          have q774 : (τ135.1 143 0) = (σ.1 143 0) := ((FR.at f137 143 0 rfl).trans ((FR.at f124 143 0 rfl).trans ((FR.at f111 143 0 rfl).trans ((FR.at f98 143 0 rfl).trans ((FR.at f85 143 0 rfl).trans ((FR.at f72 143 0 rfl).trans (FR.at f59 143 0 rfl)))))))
                          exact jn768 () τ135 ⟨g136, FR.rf, (by omega), (by omega), (by omega)⟩
                        · intro h773
                          refine wp_al1 jF_235_17 rfl rfl (pc2 := 18) ?_
                          refine wp_ic jF_235_18 rfl (pc2 := 19) ?_
                          refine wp_il1 jF_235_19 rfl rfl (pc2 := 20) ?_
                          refine wp_cV (as := [iV 5, iV (σ.1 117 2)]) (rest := []) (a := 117) (mx := 3) (ci := 12) jF_235_20 kd117 (by decide) rfl rfl rfl rfl rfl (by omega) (by omega) rfl (pc2 := 23) ?_
                          refine wp_use (m_218 τ135 g136 5 (by omega) (by omega) (σ.1 117 2) (by omega) (by omega)  _ _ (by omega) (by omega)) ?_
                          rintro _ τ777 ⟨rfl, g778, f779, p775, p776⟩
                          clear p775
                          replace p776 := p776 (by omega)
                          show WP 235 23 [(0, .ref 117), (1, iV 0), (2, iV 16), (3, iV (σ.1 117 2))] [] _ _ _ _
                          have b780 := GI.b g778 117 5 kd117 (lo := (-2147483648)) (hi := 2147483647) rfl
                          have q781 : (τ777.1 143 0) = (σ.1 143 0) := ((FR.at f779 143 0 rfl).trans ((FR.at f137 143 0 rfl).trans ((FR.at f124 143 0 rfl).trans ((FR.at f111 143 0 rfl).trans ((FR.at f98 143 0 rfl).trans ((FR.at f85 143 0 rfl).trans ((FR.at f72 143 0 rfl).trans (FR.at f59 143 0 rfl))))))))
                          exact jn768 () τ777 ⟨g778, f779, (by omega), (by omega), (by omega)⟩
                · intro h127
                  replace p119 := p119 (by omega)
                  refine wp_al1 jF_217_136 rfl rfl (pc2 := 137) ?_
                  refine wp_il1 jF_217_137 rfl rfl (pc2 := 138) ?_
                  refine wp_cV (as := [iV (σ.1 117 2)]) (rest := []) (a := 117) (mx := 5) (ci := 12) jF_217_138 kd117 (by decide) rfl rfl rfl rfl rfl (by omega) (by omega) rfl (pc2 := 141) ?_
                  have b782 := GI.b g123 117 2 kd117 (lo := 0) (hi := 1601) rfl
                  have q783 : (τ122.1 117 5) = (σ.1 117 5) := ((FR.at f124 117 5 rfl).trans ((FR.at f111 117 5 rfl).trans ((FR.at f98 117 5 rfl).trans ((FR.at f85 117 5 rfl).trans ((FR.at f72 117 5 rfl).trans (FR.at f59 117 5 rfl))))))
                  refine wp_use (m_233 τ122 g123 (σ.1 117 2) (by omega) (by omega)  _ _ (by omega) (by omega)) ?_
                  rintro _ τ787 ⟨rfl, g788, f789, p784, p785, p786⟩
                  clear p785
                  show WP 217 141 [(0, .ref 117), (1, iV (σ.1 117 2))] [] _ _ _ _
                  refine wp_go jF_217_141 ?_
                  have b790 := GI.b g788 117 2 kd117 (lo := 0) (hi := 1601) rfl
                  have b791 := GI.b g788 117 5 kd117 (lo := (-2147483648)) (hi := 2147483647) rfl
                  have b792 := GI.b hg 143 0 kd143 (lo := 0) (hi := 16) rfl
                  have q793 : (τ787.1 143 0) = (σ.1 143 0) := ((FR.at f789 143 0 rfl).trans ((FR.at f124 143 0 rfl).trans ((FR.at f111 143 0 rfl).trans ((FR.at f98 143 0 rfl).trans ((FR.at f85 143 0 rfl).trans ((FR.at f72 143 0 rfl).trans (FR.at f59 143 0 rfl)))))))
                  have b794 := GI.b hg 143 1 kd143 (lo := 0) (hi := 16) rfl
                  have q795 : (τ787.1 143 1) = (σ.1 143 1) := ((FR.at f789 143 1 rfl).trans ((FR.at f124 143 1 rfl).trans ((FR.at f111 143 1 rfl).trans ((FR.at f98 143 1 rfl).trans ((FR.at f85 143 1 rfl).trans ((FR.at f72 143 1 rfl).trans (FR.at f59 143 1 rfl)))))))
                  have b796 := GI.b hg 143 2 kd143 (lo := 0) (hi := 16) rfl
                  have q797 : (τ787.1 143 2) = (σ.1 143 2) := ((FR.at f789 143 2 rfl).trans ((FR.at f124 143 2 rfl).trans ((FR.at f111 143 2 rfl).trans ((FR.at f98 143 2 rfl).trans ((FR.at f85 143 2 rfl).trans ((FR.at f72 143 2 rfl).trans (FR.at f59 143 2 rfl)))))))
                  have q798 : (τ787.1 143 3) = (σ.1 143 3) := ((FR.at f789 143 3 rfl).trans ((FR.at f124 143 3 rfl).trans ((FR.at f111 143 3 rfl).trans ((FR.at f98 143 3 rfl).trans ((FR.at f85 143 3 rfl).trans ((FR.at f72 143 3 rfl).trans (FR.at f59 143 3 rfl)))))))
                  have q799 : (τ787.1 143 4) = (σ.1 143 4) := ((FR.at f789 143 4 rfl).trans ((FR.at f124 143 4 rfl).trans ((FR.at f111 143 4 rfl).trans ((FR.at f98 143 4 rfl).trans ((FR.at f85 143 4 rfl).trans ((FR.at f72 143 4 rfl).trans (FR.at f59 143 4 rfl)))))))
                  have q800 : (τ787.1 143 5) = (σ.1 143 5) := ((FR.at f789 143 5 rfl).trans ((FR.at f124 143 5 rfl).trans ((FR.at f111 143 5 rfl).trans ((FR.at f98 143 5 rfl).trans ((FR.at f85 143 5 rfl).trans ((FR.at f72 143 5 rfl).trans (FR.at f59 143 5 rfl)))))))
                  exact jn51 () τ787 ⟨g788, (FR.up (FR.up (FR.up (FR.up (FR.up (FR.up (FR.up FR.rf f59 sb_Wtak_Wst0) f72 sb_Wtak_Wst0) f85 sb_Wtak_Wst0) f98 sb_Wtak_Wst0) f111 sb_Wtak_Wst0) f124 sb_Wtak_Wst0) f789 sb_Wnp_Wst0), (by omega), (by omega), (by omega), (by omega), (by omega), (by omega), (by omega), (by omega), (by omega)⟩
              · intro h114
                replace p106 := p106 (by omega)
                refine wp_al1 jF_217_111 rfl rfl (pc2 := 112) ?_
                refine wp_al1 jF_217_112 rfl rfl (pc2 := 113) ?_
                refine wp_ic jF_217_113 rfl (pc2 := 114) ?_
                refine wp_bi jF_217_114 (by decide) rfl (pc2 := 116) ?_
                refine wp_cV (as := [iV 1, iV 40]) (rest := [.ref 117]) (a := 117) (mx := 5) (ci := 12) jF_217_116 kd117 (by decide) rfl rfl rfl rfl rfl (by omega) (by omega) rfl (pc2 := 119) ?_
                have b801 := GI.b g110 117 2 kd117 (lo := 0) (hi := 1601) rfl
                have q802 : (τ109.1 117 3) = (σ.1 117 3) := ((FR.at f111 117 3 rfl).trans ((FR.at f98 117 3 rfl).trans ((FR.at f85 117 3 rfl).trans ((FR.at f72 117 3 rfl).trans (FR.at f59 117 3 rfl)))))
                have q803 : (τ109.1 117 5) = (σ.1 117 5) := ((FR.at f111 117 5 rfl).trans ((FR.at f98 117 5 rfl).trans ((FR.at f85 117 5 rfl).trans ((FR.at f72 117 5 rfl).trans (FR.at f59 117 5 rfl)))))
                refine wp_use (m_230 τ109 g110 1 (by omega) (by omega) 40 (by omega) (by omega)  _ _ (by omega) (by omega)) ?_
                rintro _ τ807 ⟨z810, rfl, h811, g808, f809, p804, p805, p806⟩
                clear p805
                show WP 217 119 [(0, .ref 117), (1, iV (σ.1 117 2))] [iV z810, .ref 117] _ _ _ _
                refine wp_pi jF_217_119 kd117 (by decide) rfl rfl rfl (pc2 := 122) g808 (lo := (-2147483648)) (hi := 2147483647) rfl (by omega) (by omega) ?_
                intro τ812 g813 f814 e815
                refine wp_go jF_217_122 ?_
                have b816 := GI.b g808 117 2 kd117 (lo := 0) (hi := 1601) rfl
                have q817 : (τ812.1 117 2) = (τ807.1 117 2) := (FRw.nj f814 (by decide))
                have b818 := GI.b g808 117 5 kd117 (lo := (-2147483648)) (hi := 2147483647) rfl
                have q819 : (τ812.1 117 5) = (τ807.1 117 5) := (FRw.nj f814 (by decide))
                have b820 := GI.b hg 143 0 kd143 (lo := 0) (hi := 16) rfl
                have q821 : (τ812.1 143 0) = (σ.1 143 0) := ((FRw.na f814 (by decide)).trans ((FR.at f809 143 0 rfl).trans ((FR.at f111 143 0 rfl).trans ((FR.at f98 143 0 rfl).trans ((FR.at f85 143 0 rfl).trans ((FR.at f72 143 0 rfl).trans (FR.at f59 143 0 rfl)))))))
                have b822 := GI.b hg 143 1 kd143 (lo := 0) (hi := 16) rfl
                have q823 : (τ812.1 143 1) = (σ.1 143 1) := ((FRw.na f814 (by decide)).trans ((FR.at f809 143 1 rfl).trans ((FR.at f111 143 1 rfl).trans ((FR.at f98 143 1 rfl).trans ((FR.at f85 143 1 rfl).trans ((FR.at f72 143 1 rfl).trans (FR.at f59 143 1 rfl)))))))
                have b824 := GI.b hg 143 2 kd143 (lo := 0) (hi := 16) rfl
                have q825 : (τ812.1 143 2) = (σ.1 143 2) := ((FRw.na f814 (by decide)).trans ((FR.at f809 143 2 rfl).trans ((FR.at f111 143 2 rfl).trans ((FR.at f98 143 2 rfl).trans ((FR.at f85 143 2 rfl).trans ((FR.at f72 143 2 rfl).trans (FR.at f59 143 2 rfl)))))))
                have q826 : (τ812.1 143 3) = (σ.1 143 3) := ((FRw.na f814 (by decide)).trans ((FR.at f809 143 3 rfl).trans ((FR.at f111 143 3 rfl).trans ((FR.at f98 143 3 rfl).trans ((FR.at f85 143 3 rfl).trans ((FR.at f72 143 3 rfl).trans (FR.at f59 143 3 rfl)))))))
                have q827 : (τ812.1 143 4) = (σ.1 143 4) := ((FRw.na f814 (by decide)).trans ((FR.at f809 143 4 rfl).trans ((FR.at f111 143 4 rfl).trans ((FR.at f98 143 4 rfl).trans ((FR.at f85 143 4 rfl).trans ((FR.at f72 143 4 rfl).trans (FR.at f59 143 4 rfl)))))))
                have q828 : (τ812.1 143 5) = (σ.1 143 5) := ((FRw.na f814 (by decide)).trans ((FR.at f809 143 5 rfl).trans ((FR.at f111 143 5 rfl).trans ((FR.at f98 143 5 rfl).trans ((FR.at f85 143 5 rfl).trans ((FR.at f72 143 5 rfl).trans (FR.at f59 143 5 rfl)))))))
                exact jn51 () τ812 ⟨g813, (FR.w (FR.up (FR.up (FR.up (FR.up (FR.up (FR.up FR.rf f59 sb_Wtak_Wst0) f72 sb_Wtak_Wst0) f85 sb_Wtak_Wst0) f98 sb_Wtak_Wst0) f111 sb_Wtak_Wst0) f809 sb_Wask_Wst0) f814 rfl), (by omega), (by omega), (by omega), (by omega), (by omega), (by omega), (by omega), (by omega), (by omega)⟩
            · intro h101
              replace p93 := p93 (by omega)
              refine wp_al1 jF_217_92 rfl rfl (pc2 := 93) ?_
              refine wp_il1 jF_217_93 rfl rfl (pc2 := 94) ?_
              refine wp_cV (as := [iV (σ.1 117 2)]) (rest := []) (a := 117) (mx := 8) (ci := 12) jF_217_94 kd117 (by decide) rfl rfl rfl rfl rfl (by omega) (by omega) rfl (pc2 := 97) ?_
              have b829 := GI.b g97 117 2 kd117 (lo := 0) (hi := 1601) rfl
              have q830 : (τ96.1 117 5) = (σ.1 117 5) := ((FR.at f98 117 5 rfl).trans ((FR.at f85 117 5 rfl).trans ((FR.at f72 117 5 rfl).trans (FR.at f59 117 5 rfl))))
              refine wp_use (m_229 τ96 g97 (σ.1 117 2) (by omega) (by omega)  _ _ (by omega) (by omega)) ?_
              rintro _ τ834 ⟨rfl, g835, f836, p831, p832, p833⟩
              clear p832
              show WP 217 97 [(0, .ref 117), (1, iV (σ.1 117 2))] [] _ _ _ _
              refine wp_go jF_217_97 ?_
              have b837 := GI.b g835 117 2 kd117 (lo := 0) (hi := 1601) rfl
              have b838 := GI.b g835 117 5 kd117 (lo := (-2147483648)) (hi := 2147483647) rfl
              have b839 := GI.b hg 143 0 kd143 (lo := 0) (hi := 16) rfl
              have q840 : (τ834.1 143 0) = (σ.1 143 0) := ((FR.at f836 143 0 rfl).trans ((FR.at f98 143 0 rfl).trans ((FR.at f85 143 0 rfl).trans ((FR.at f72 143 0 rfl).trans (FR.at f59 143 0 rfl)))))
              have b841 := GI.b hg 143 1 kd143 (lo := 0) (hi := 16) rfl
              have q842 : (τ834.1 143 1) = (σ.1 143 1) := ((FR.at f836 143 1 rfl).trans ((FR.at f98 143 1 rfl).trans ((FR.at f85 143 1 rfl).trans ((FR.at f72 143 1 rfl).trans (FR.at f59 143 1 rfl)))))
              have b843 := GI.b hg 143 2 kd143 (lo := 0) (hi := 16) rfl
              have q844 : (τ834.1 143 2) = (σ.1 143 2) := ((FR.at f836 143 2 rfl).trans ((FR.at f98 143 2 rfl).trans ((FR.at f85 143 2 rfl).trans ((FR.at f72 143 2 rfl).trans (FR.at f59 143 2 rfl)))))
              have q845 : (τ834.1 143 3) = (σ.1 143 3) := ((FR.at f836 143 3 rfl).trans ((FR.at f98 143 3 rfl).trans ((FR.at f85 143 3 rfl).trans ((FR.at f72 143 3 rfl).trans (FR.at f59 143 3 rfl)))))
              have q846 : (τ834.1 143 4) = (σ.1 143 4) := ((FR.at f836 143 4 rfl).trans ((FR.at f98 143 4 rfl).trans ((FR.at f85 143 4 rfl).trans ((FR.at f72 143 4 rfl).trans (FR.at f59 143 4 rfl)))))
              have q847 : (τ834.1 143 5) = (σ.1 143 5) := ((FR.at f836 143 5 rfl).trans ((FR.at f98 143 5 rfl).trans ((FR.at f85 143 5 rfl).trans ((FR.at f72 143 5 rfl).trans (FR.at f59 143 5 rfl)))))
              exact jn51 () τ834 ⟨g835, (FR.up (FR.up (FR.up (FR.up (FR.up FR.rf f59 sb_Wtak_Wst0) f72 sb_Wtak_Wst0) f85 sb_Wtak_Wst0) f98 sb_Wtak_Wst0) f836 sb_Wnl_Wst0), (by omega), (by omega), (by omega), (by omega), (by omega), (by omega), (by omega), (by omega), (by omega)⟩
          · intro h88
            replace p80 := p80 (by omega)
            refine wp_al1 jF_217_72 rfl rfl (pc2 := 73) ?_
            refine wp_ic jF_217_73 rfl (pc2 := 74) ?_
            refine wp_il1 jF_217_74 rfl rfl (pc2 := 75) ?_
            refine wp_cV (as := [iV 2, iV (σ.1 117 2)]) (rest := []) (a := 117) (mx := 6) (ci := 12) jF_217_75 kd117 (by decide) rfl rfl rfl rfl rfl (by omega) (by omega) rfl (pc2 := 78) ?_
            have b848 := GI.b g84 117 2 kd117 (lo := 0) (hi := 1601) rfl
            have q849 : (τ83.1 117 5) = (σ.1 117 5) := ((FR.at f85 117 5 rfl).trans ((FR.at f72 117 5 rfl).trans (FR.at f59 117 5 rfl)))
            refine wp_use (m_222 τ83 g84 2 (by omega) (by omega) (σ.1 117 2) (by omega) (by omega)  _ _ (by omega) (by omega)) ?_
            rintro _ τ853 ⟨rfl, g854, f855, p850, p851, p852⟩
            clear p851
            show WP 217 78 [(0, .ref 117), (1, iV (σ.1 117 2))] [] _ _ _ _
            refine wp_go jF_217_78 ?_
            have b856 := GI.b g854 117 2 kd117 (lo := 0) (hi := 1601) rfl
            have b857 := GI.b g854 117 5 kd117 (lo := (-2147483648)) (hi := 2147483647) rfl
            have b858 := GI.b hg 143 0 kd143 (lo := 0) (hi := 16) rfl
            have q859 : (τ853.1 143 0) = (σ.1 143 0) := ((FR.at f855 143 0 rfl).trans ((FR.at f85 143 0 rfl).trans ((FR.at f72 143 0 rfl).trans (FR.at f59 143 0 rfl))))
            have b860 := GI.b hg 143 1 kd143 (lo := 0) (hi := 16) rfl
            have q861 : (τ853.1 143 1) = (σ.1 143 1) := ((FR.at f855 143 1 rfl).trans ((FR.at f85 143 1 rfl).trans ((FR.at f72 143 1 rfl).trans (FR.at f59 143 1 rfl))))
            have b862 := GI.b hg 143 2 kd143 (lo := 0) (hi := 16) rfl
            have q863 : (τ853.1 143 2) = (σ.1 143 2) := ((FR.at f855 143 2 rfl).trans ((FR.at f85 143 2 rfl).trans ((FR.at f72 143 2 rfl).trans (FR.at f59 143 2 rfl))))
            have q864 : (τ853.1 143 3) = (σ.1 143 3) := ((FR.at f855 143 3 rfl).trans ((FR.at f85 143 3 rfl).trans ((FR.at f72 143 3 rfl).trans (FR.at f59 143 3 rfl))))
            have q865 : (τ853.1 143 4) = (σ.1 143 4) := ((FR.at f855 143 4 rfl).trans ((FR.at f85 143 4 rfl).trans ((FR.at f72 143 4 rfl).trans (FR.at f59 143 4 rfl))))
            have q866 : (τ853.1 143 5) = (σ.1 143 5) := ((FR.at f855 143 5 rfl).trans ((FR.at f85 143 5 rfl).trans ((FR.at f72 143 5 rfl).trans (FR.at f59 143 5 rfl))))
            exact jn51 () τ853 ⟨g854, (FR.up (FR.up (FR.up (FR.up FR.rf f59 sb_Wtak_Wst0) f72 sb_Wtak_Wst0) f85 sb_Wtak_Wst0) f855 sb_Wnw_Wst0), (by omega), (by omega), (by omega), (by omega), (by omega), (by omega), (by omega), (by omega), (by omega)⟩
        · intro h75
          replace p67 := p67 (by omega)
          refine wp_al1 jF_217_52 rfl rfl (pc2 := 53) ?_
          refine wp_ic jF_217_53 rfl (pc2 := 54) ?_
          refine wp_il1 jF_217_54 rfl rfl (pc2 := 55) ?_
          refine wp_cV (as := [iV 1, iV (σ.1 117 2)]) (rest := []) (a := 117) (mx := 6) (ci := 12) jF_217_55 kd117 (by decide) rfl rfl rfl rfl rfl (by omega) (by omega) rfl (pc2 := 58) ?_
          have b867 := GI.b g71 117 2 kd117 (lo := 0) (hi := 1601) rfl
          have q868 : (τ70.1 117 5) = (σ.1 117 5) := ((FR.at f72 117 5 rfl).trans (FR.at f59 117 5 rfl))
          refine wp_use (m_222 τ70 g71 1 (by omega) (by omega) (σ.1 117 2) (by omega) (by omega)  _ _ (by omega) (by omega)) ?_
          rintro _ τ872 ⟨rfl, g873, f874, p869, p870, p871⟩
          clear p870
          show WP 217 58 [(0, .ref 117), (1, iV (σ.1 117 2))] [] _ _ _ _
          refine wp_go jF_217_58 ?_
          have b875 := GI.b g873 117 2 kd117 (lo := 0) (hi := 1601) rfl
          have b876 := GI.b g873 117 5 kd117 (lo := (-2147483648)) (hi := 2147483647) rfl
          have b877 := GI.b hg 143 0 kd143 (lo := 0) (hi := 16) rfl
          have q878 : (τ872.1 143 0) = (σ.1 143 0) := ((FR.at f874 143 0 rfl).trans ((FR.at f72 143 0 rfl).trans (FR.at f59 143 0 rfl)))
          have b879 := GI.b hg 143 1 kd143 (lo := 0) (hi := 16) rfl
          have q880 : (τ872.1 143 1) = (σ.1 143 1) := ((FR.at f874 143 1 rfl).trans ((FR.at f72 143 1 rfl).trans (FR.at f59 143 1 rfl)))
          have b881 := GI.b hg 143 2 kd143 (lo := 0) (hi := 16) rfl
          have q882 : (τ872.1 143 2) = (σ.1 143 2) := ((FR.at f874 143 2 rfl).trans ((FR.at f72 143 2 rfl).trans (FR.at f59 143 2 rfl)))
          have q883 : (τ872.1 143 3) = (σ.1 143 3) := ((FR.at f874 143 3 rfl).trans ((FR.at f72 143 3 rfl).trans (FR.at f59 143 3 rfl)))
          have q884 : (τ872.1 143 4) = (σ.1 143 4) := ((FR.at f874 143 4 rfl).trans ((FR.at f72 143 4 rfl).trans (FR.at f59 143 4 rfl)))
          have q885 : (τ872.1 143 5) = (σ.1 143 5) := ((FR.at f874 143 5 rfl).trans ((FR.at f72 143 5 rfl).trans (FR.at f59 143 5 rfl)))
          exact jn51 () τ872 ⟨g873, (FR.up (FR.up (FR.up FR.rf f59 sb_Wtak_Wst0) f72 sb_Wtak_Wst0) f874 sb_Wnw_Wst0), (by omega), (by omega), (by omega), (by omega), (by omega), (by omega), (by omega), (by omega), (by omega)⟩
      · intro h62
        replace p54 := p54 (by omega)
        refine wp_al1 jF_217_32 rfl rfl (pc2 := 33) ?_
        refine wp_ic jF_217_33 rfl (pc2 := 34) ?_
        refine wp_il1 jF_217_34 rfl rfl (pc2 := 35) ?_
        refine wp_cV (as := [iV 0, iV (σ.1 117 2)]) (rest := []) (a := 117) (mx := 6) (ci := 12) jF_217_35 kd117 (by decide) rfl rfl rfl rfl rfl (by omega) (by omega) rfl (pc2 := 38) ?_
        have b886 := GI.b g58 117 2 kd117 (lo := 0) (hi := 1601) rfl
        have q887 : (τ57.1 117 5) = (σ.1 117 5) := (FR.at f59 117 5 rfl)
        refine wp_use (m_222 τ57 g58 0 (by omega) (by omega) (σ.1 117 2) (by omega) (by omega)  _ _ (by omega) (by omega)) ?_
        rintro _ τ891 ⟨rfl, g892, f893, p888, p889, p890⟩
        clear p889
        show WP 217 38 [(0, .ref 117), (1, iV (σ.1 117 2))] [] _ _ _ _
        refine wp_go jF_217_38 ?_
        have b894 := GI.b g892 117 2 kd117 (lo := 0) (hi := 1601) rfl
        have b895 := GI.b g892 117 5 kd117 (lo := (-2147483648)) (hi := 2147483647) rfl
        have b896 := GI.b hg 143 0 kd143 (lo := 0) (hi := 16) rfl
        have q897 : (τ891.1 143 0) = (σ.1 143 0) := ((FR.at f893 143 0 rfl).trans (FR.at f59 143 0 rfl))
        have b898 := GI.b hg 143 1 kd143 (lo := 0) (hi := 16) rfl
        have q899 : (τ891.1 143 1) = (σ.1 143 1) := ((FR.at f893 143 1 rfl).trans (FR.at f59 143 1 rfl))
        have b900 := GI.b hg 143 2 kd143 (lo := 0) (hi := 16) rfl
        have q901 : (τ891.1 143 2) = (σ.1 143 2) := ((FR.at f893 143 2 rfl).trans (FR.at f59 143 2 rfl))
        have q902 : (τ891.1 143 3) = (σ.1 143 3) := ((FR.at f893 143 3 rfl).trans (FR.at f59 143 3 rfl))
        have q903 : (τ891.1 143 4) = (σ.1 143 4) := ((FR.at f893 143 4 rfl).trans (FR.at f59 143 4 rfl))
        have q904 : (τ891.1 143 5) = (σ.1 143 5) := ((FR.at f893 143 5 rfl).trans (FR.at f59 143 5 rfl))
        exact jn51 () τ891 ⟨g892, (FR.up (FR.up FR.rf f59 sb_Wtak_Wst0) f893 sb_Wnw_Wst0), (by omega), (by omega), (by omega), (by omega), (by omega), (by omega), (by omega), (by omega), (by omega)⟩
  · intro h3
    refine wp_al1 jF_217_14 rfl rfl (pc2 := 15) ?_
    refine wp_ic jF_217_15 rfl (pc2 := 16) ?_
    refine wp_il1 jF_217_16 rfl rfl (pc2 := 17) ?_
    refine wp_cV (as := [iV 5, iV (σ.1 117 2)]) (rest := []) (a := 117) (mx := 3) (ci := 12) jF_217_17 kd117 (by decide) rfl rfl rfl rfl rfl (by omega) (by omega) rfl (pc2 := 20) ?_
    have b905 := GI.b hg 117 5 kd117 (lo := (-2147483648)) (hi := 2147483647) rfl
    refine wp_use (m_218 σ hg 5 (by omega) (by omega) (σ.1 117 2) (by omega) (by omega)  _ _ (by omega) (by omega)) ?_
    rintro _ τ908 ⟨rfl, g909, f910, p906, p907⟩
    show WP 217 20 [(0, .ref 117), (1, iV (σ.1 117 2))] [] _ _ _ _
    refine wp_rv jF_217_20 ?_
    have q911 : (τ908.1 117 2) = (σ.1 117 2) := (FR.at f910 117 2 rfl)
    have q912 : (τ908.1 117 39) = (σ.1 117 39) := (FR.at f910 117 39 rfl)
    have b913 := GI.b g909 117 5 kd117 (lo := (-2147483648)) (hi := 2147483647) rfl
    have b914 := GI.b hg 143 0 kd143 (lo := 0) (hi := 16) rfl
    have q915 : (τ908.1 143 0) = (σ.1 143 0) := (FR.at f910 143 0 rfl)
    have b916 := GI.b hg 143 1 kd143 (lo := 0) (hi := 16) rfl
    have q917 : (τ908.1 143 1) = (σ.1 143 1) := (FR.at f910 143 1 rfl)
    have b918 := GI.b hg 143 2 kd143 (lo := 0) (hi := 16) rfl
    have q919 : (τ908.1 143 2) = (σ.1 143 2) := (FR.at f910 143 2 rfl)
    have b920 := GI.b hg 143 3 kd143 (lo := 0) (hi := 16) rfl
    have q921 : (τ908.1 143 3) = (σ.1 143 3) := (FR.at f910 143 3 rfl)
    have b922 := GI.b hg 143 4 kd143 (lo := 0) (hi := 16) rfl
    have q923 : (τ908.1 143 4) = (σ.1 143 4) := (FR.at f910 143 4 rfl)
    have b924 := GI.b hg 143 5 kd143 (lo := 0) (hi := 16) rfl
    have q925 : (τ908.1 143 5) = (σ.1 143 5) := (FR.at f910 143 5 rfl)
    exact ⟨rfl, g909, (FR.up FR.rf f910 sb_Wbad_Wst), (by omega), (by omega), (by omega), (by omega), (by omega), (by omega), (by omega), (by omega), (by omega), (by omega)⟩
