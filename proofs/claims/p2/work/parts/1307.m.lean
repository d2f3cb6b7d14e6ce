set_option maxHeartbeats 4000000 in
set_option maxRecDepth 20000 in
/-- M.statementTold -/
theorem m_217 (σ : jM) (hg : GI σ)  (pre0 : (σ.1 143 0) ≤ 16) (pre1 : (σ.1 143 1) ≤ 8) (pre2 : (σ.1 143 2) ≤ 10) (pre3 : (σ.1 117 39) ≤ 70) (fr lo : Nat) (hfr : 6 ≤ fr) (hlo : 141 ≤ lo) : WP 217 0 (lv_args 0 [.ref 117]) [] fr lo σ (fun v τ => v = none ∧ GI τ ∧ FR Wst σ τ ∧ ((σ.1 117 2) ≤ (τ.1 117 2)) ∧ ((σ.1 117 5) ≠ 0 → (τ.1 117 5) = (σ.1 117 5)) ∧ ((τ.1 143 0) ≤ 16) ∧ ((τ.1 143 1) ≤ 8) ∧ ((τ.1 143 2) ≤ 10) ∧ ((τ.1 117 39) ≤ 70) ∧ ((τ.1 117 5) = 0 → ((σ.1 117 5) = 0 ∧ (σ.1 117 2) < (τ.1 117 2)))) := by
  show WP 217 0 [(0, .ref 117)] [] _ _ _ _
  refine wp_al1 jF_217_0 rfl rfl (pc2 := 1) ?_
  have b1 := GI.b hg 117 2 kd117 (lo := 0) (hi := 1601) rfl
  refine wp_gi jF_217_1 kd117 (by decide) rfl rfl rfl (pc2 := 4) ?_
  refine wp_is1 (lv2 := [(0, .ref 117), (1, iV (σ.1 117 2))]) jF_217_4 rfl rfl rfl (pc2 := 5) ?_
  refine wp_al1 jF_217_5 rfl rfl (pc2 := 6) ?_
  have b2 := GI.b hg 117 39 kd117 (lo := 0) (hi := 71) rfl
  refine wp_gi jF_217_6 kd117 (by decide) rfl rfl rfl (pc2 := 9) ?_
  refine wp_bi jF_217_9 (by decide) rfl (pc2 := 11) ?_
  refine wp_i_ne jF_217_11 (m_rgb b2 rfl) (m_rgl rfl) rfl (pc2 := 14) ?_ ?_
  · intro h3
    have b4 := GI.b hg 117 5 kd117 (lo := (-2147483648)) (hi := 2147483647) rfl
    refine wp_join (α := Unit) 211 (fun a => [(0, .ref 117), (1, iV (σ.1 117 2))]) (fun a τ => GI τ ∧ FR Wst0 σ τ ∧ ((σ.1 117 2) ≤ (τ.1 117 2)) ∧ ((σ.1 117 5) ≠ 0 → (τ.1 117 5) = (σ.1 117 5)) ∧ ((τ.1 117 5) = 0 → (σ.1 117 5) = 0) ∧ ((τ.1 143 0) ≤ 16) ∧ ((τ.1 143 1) ≤ 8) ∧ ((τ.1 143 2) ≤ 10)) ?_ ?_
    · rintro ⟨⟩ τ5 ⟨g6, f7, p8, p9, p10, p11, p12, p13⟩
      have b14 := GI.b g6 117 2 kd117 (lo := 0) (hi := 1601) rfl
      have b15 := GI.b g6 117 5 kd117 (lo := (-2147483648)) (hi := 2147483647) rfl
      have b16 := GI.b g6 143 0 kd143 (lo := 0) (hi := 16) rfl
      have b17 := GI.b g6 143 1 kd143 (lo := 0) (hi := 16) rfl
      have b18 := GI.b g6 143 2 kd143 (lo := 0) (hi := 16) rfl
      show WP 217 211 [(0, .ref 117), (1, iV (σ.1 117 2))] [] _ _ _ _
      refine wp_al1 jF_217_211 rfl rfl (pc2 := 212) ?_
      refine wp_bi jF_217_212 (by decide) rfl (pc2 := 214) ?_
      refine wp_cV (as := [iV 59]) (rest := []) (a := 117) (mx := 2) (ci := 12) jF_217_214 kd117 (by decide) rfl rfl rfl rfl rfl (by omega) (by omega) rfl (pc2 := 217) ?_
      have b19 := GI.b hg 117 3 kd117 (lo := 0) (hi := 1600) rfl
      have q20 : (τ5.1 117 3) = (σ.1 117 3) := (FR.at f7 117 3 rfl)
      refine wp_use (m_238 τ5 g6 59 (by omega) (by omega)  _ _ (by omega) (by omega)) ?_
      rintro _ τ24 ⟨rfl, g25, f26, p21, p22, p23⟩
      show WP 217 217 [(0, .ref 117), (1, iV (σ.1 117 2))] [] _ _ _ _
      refine wp_al1 jF_217_217 rfl rfl (pc2 := 218) ?_
      refine wp_dup jF_217_218 rfl rfl (pc2 := 219) ?_
      refine wp_gi jF_217_219 kd117 (by decide) rfl ((FR.at f26 117 39 rfl).trans (FR.at f7 117 39 rfl)) rfl (pc2 := 222) ?_
      refine wp_ic jF_217_222 rfl (pc2 := 223) ?_
      refine wp_add jF_217_223 rfl (pc2 := 224) ?_
      refine wp_pi jF_217_224 kd117 (by decide) rfl rfl rfl (pc2 := 227) g25 (lo := 0) (hi := 71) rfl (by omega) (by omega) ?_
      intro τ27 g28 f29 e30
      refine wp_rv jF_217_227 ?_
      have b31 := GI.b g25 117 2 kd117 (lo := 0) (hi := 1601) rfl
      have q32 : (τ27.1 117 2) = (τ24.1 117 2) := (FRw.nj f29 (by decide))
      have q33 : (τ27.1 117 39) = ((σ.1 117 39) + 1) := e30
      have b34 := GI.b g25 117 5 kd117 (lo := (-2147483648)) (hi := 2147483647) rfl
      have q35 : (τ27.1 117 5) = (τ24.1 117 5) := (FRw.nj f29 (by decide))
      have q36 : (τ27.1 143 0) = (τ5.1 143 0) := ((FRw.na f29 (by decide)).trans (FR.at f26 143 0 rfl))
      have q37 : (τ27.1 143 1) = (τ5.1 143 1) := ((FRw.na f29 (by decide)).trans (FR.at f26 143 1 rfl))
      have q38 : (τ27.1 143 2) = (τ5.1 143 2) := ((FRw.na f29 (by decide)).trans (FR.at f26 143 2 rfl))
      exact ⟨rfl, g28, (FR.w (FR.up (FR.up FR.rf f7 sb_Wst0_Wst) f26 sb_Wsgn_Wst) f29 rfl), (by omega), (by omega), (by omega), (by omega), (by omega), (by omega), (by omega)⟩
    · intro jn39
      refine wp_al1 jF_217_21 rfl rfl (pc2 := 22) ?_
      refine wp_al1 jF_217_22 rfl rfl (pc2 := 23) ?_
      refine wp_gr (b := 120) jF_217_23 kd117 (by decide) (c := 220) rfl rfl rfl (pc2 := 26) ?_
      refine wp_cV (as := [.ref 120]) (rest := []) (a := 117) (mx := 2) (ci := 12) jF_217_26 kd117 (by decide) rfl rfl rfl rfl rfl (by omega) (by omega) rfl (pc2 := 29) ?_
      have b40 := GI.b hg 117 3 kd117 (lo := 0) (hi := 1600) rfl
      refine wp_use (m_219 σ hg 120 3 cw120.1 cw120.2 (by decide)  _ _ (by omega) (by omega)) ?_
      rintro _ τ45 ⟨z48, rfl, h49, g46, f47, p41, p42, p43, p44⟩
      show WP 217 29 [(0, .ref 117), (1, iV (σ.1 117 2))] [iV z48] _ _ _ _
      refine wp_z_eq jF_217_29 (m_rgb h49 rfl) rfl (pc2 := 32) ?_ ?_
      · intro h50
        clear p42
        refine wp_al1 jF_217_41 rfl rfl (pc2 := 42) ?_
        refine wp_al1 jF_217_42 rfl rfl (pc2 := 43) ?_
        refine wp_gr (b := 121) jF_217_43 kd117 (by decide) (c := 221) rfl rfl rfl (pc2 := 46) ?_
        refine wp_cV (as := [.ref 121]) (rest := []) (a := 117) (mx := 2) (ci := 12) jF_217_46 kd117 (by decide) rfl rfl rfl rfl rfl (by omega) (by omega) rfl (pc2 := 49) ?_
        have b51 := GI.b g46 117 2 kd117 (lo := 0) (hi := 1601) rfl
        have q52 : (τ45.1 117 3) = (σ.1 117 3) := (FR.at f47 117 3 rfl)
        have q53 : (τ45.1 117 5) = (σ.1 117 5) := (FR.at f47 117 5 rfl)
        refine wp_use (m_219 τ45 g46 121 4 cw121.1 cw121.2 (by decide)  _ _ (by omega) (by omega)) ?_
        rintro _ τ58 ⟨z61, rfl, h62, g59, f60, p54, p55, p56, p57⟩
        show WP 217 49 [(0, .ref 117), (1, iV (σ.1 117 2))] [iV z61] _ _ _ _
        refine wp_z_eq jF_217_49 (m_rgb h62 rfl) rfl (pc2 := 52) ?_ ?_
        · intro h63
          clear p55
          refine wp_al1 jF_217_61 rfl rfl (pc2 := 62) ?_
          refine wp_al1 jF_217_62 rfl rfl (pc2 := 63) ?_
          refine wp_gr (b := 122) jF_217_63 kd117 (by decide) (c := 222) rfl rfl rfl (pc2 := 66) ?_
          refine wp_cV (as := [.ref 122]) (rest := []) (a := 117) (mx := 2) (ci := 12) jF_217_66 kd117 (by decide) rfl rfl rfl rfl rfl (by omega) (by omega) rfl (pc2 := 69) ?_
          have b64 := GI.b g59 117 2 kd117 (lo := 0) (hi := 1601) rfl
          have q65 : (τ58.1 117 3) = (σ.1 117 3) := ((FR.at f60 117 3 rfl).trans (FR.at f47 117 3 rfl))
          have q66 : (τ58.1 117 5) = (σ.1 117 5) := ((FR.at f60 117 5 rfl).trans (FR.at f47 117 5 rfl))
          refine wp_use (m_219 τ58 g59 122 4 cw122.1 cw122.2 (by decide)  _ _ (by omega) (by omega)) ?_
          rintro _ τ71 ⟨z74, rfl, h75, g72, f73, p67, p68, p69, p70⟩
          show WP 217 69 [(0, .ref 117), (1, iV (σ.1 117 2))] [iV z74] _ _ _ _
          refine wp_z_eq jF_217_69 (m_rgb h75 rfl) rfl (pc2 := 72) ?_ ?_
          · intro h76
            clear p68
            refine wp_al1 jF_217_81 rfl rfl (pc2 := 82) ?_
            refine wp_al1 jF_217_82 rfl rfl (pc2 := 83) ?_
            refine wp_gr (b := 123) jF_217_83 kd117 (by decide) (c := 223) rfl rfl rfl (pc2 := 86) ?_
            refine wp_cV (as := [.ref 123]) (rest := []) (a := 117) (mx := 2) (ci := 12) jF_217_86 kd117 (by decide) rfl rfl rfl rfl rfl (by omega) (by omega) rfl (pc2 := 89) ?_
            have b77 := GI.b g72 117 2 kd117 (lo := 0) (hi := 1601) rfl
            have q78 : (τ71.1 117 3) = (σ.1 117 3) := ((FR.at f73 117 3 rfl).trans ((FR.at f60 117 3 rfl).trans (FR.at f47 117 3 rfl)))
            have q79 : (τ71.1 117 5) = (σ.1 117 5) := ((FR.at f73 117 5 rfl).trans ((FR.at f60 117 5 rfl).trans (FR.at f47 117 5 rfl)))
            refine wp_use (m_219 τ71 g72 123 4 cw123.1 cw123.2 (by decide)  _ _ (by omega) (by omega)) ?_
            rintro _ τ84 ⟨z87, rfl, h88, g85, f86, p80, p81, p82, p83⟩
            show WP 217 89 [(0, .ref 117), (1, iV (σ.1 117 2))] [iV z87] _ _ _ _
            refine wp_z_eq jF_217_89 (m_rgb h88 rfl) rfl (pc2 := 92) ?_ ?_
            · intro h89
              clear p81
              refine wp_al1 jF_217_100 rfl rfl (pc2 := 101) ?_
              refine wp_al1 jF_217_101 rfl rfl (pc2 := 102) ?_
              refine wp_gr (b := 124) jF_217_102 kd117 (by decide) (c := 224) rfl rfl rfl (pc2 := 105) ?_
              refine wp_cV (as := [.ref 124]) (rest := []) (a := 117) (mx := 2) (ci := 12) jF_217_105 kd117 (by decide) rfl rfl rfl rfl rfl (by omega) (by omega) rfl (pc2 := 108) ?_
              have b90 := GI.b g85 117 2 kd117 (lo := 0) (hi := 1601) rfl
              have q91 : (τ84.1 117 3) = (σ.1 117 3) := ((FR.at f86 117 3 rfl).trans ((FR.at f73 117 3 rfl).trans ((FR.at f60 117 3 rfl).trans (FR.at f47 117 3 rfl))))
              have q92 : (τ84.1 117 5) = (σ.1 117 5) := ((FR.at f86 117 5 rfl).trans ((FR.at f73 117 5 rfl).trans ((FR.at f60 117 5 rfl).trans (FR.at f47 117 5 rfl))))
              refine wp_use (m_219 τ84 g85 124 5 cw124.1 cw124.2 (by decide)  _ _ (by omega) (by omega)) ?_
              rintro _ τ97 ⟨z100, rfl, h101, g98, f99, p93, p94, p95, p96⟩
              show WP 217 108 [(0, .ref 117), (1, iV (σ.1 117 2))] [iV z100] _ _ _ _
              refine wp_z_eq jF_217_108 (m_rgb h101 rfl) rfl (pc2 := 111) ?_ ?_
              · intro h102
                clear p94
                refine wp_al1 jF_217_125 rfl rfl (pc2 := 126) ?_
                refine wp_al1 jF_217_126 rfl rfl (pc2 := 127) ?_
                refine wp_gr (b := 125) jF_217_127 kd117 (by decide) (c := 225) rfl rfl rfl (pc2 := 130) ?_
                refine wp_cV (as := [.ref 125]) (rest := []) (a := 117) (mx := 2) (ci := 12) jF_217_130 kd117 (by decide) rfl rfl rfl rfl rfl (by omega) (by omega) rfl (pc2 := 133) ?_
                have b103 := GI.b g98 117 2 kd117 (lo := 0) (hi := 1601) rfl
                have q104 : (τ97.1 117 3) = (σ.1 117 3) := ((FR.at f99 117 3 rfl).trans ((FR.at f86 117 3 rfl).trans ((FR.at f73 117 3 rfl).trans ((FR.at f60 117 3 rfl).trans (FR.at f47 117 3 rfl)))))
                have q105 : (τ97.1 117 5) = (σ.1 117 5) := ((FR.at f99 117 5 rfl).trans ((FR.at f86 117 5 rfl).trans ((FR.at f73 117 5 rfl).trans ((FR.at f60 117 5 rfl).trans (FR.at f47 117 5 rfl)))))
                refine wp_use (m_219 τ97 g98 125 5 cw125.1 cw125.2 (by decide)  _ _ (by omega) (by omega)) ?_
                rintro _ τ110 ⟨z113, rfl, h114, g111, f112, p106, p107, p108, p109⟩
                show WP 217 133 [(0, .ref 117), (1, iV (σ.1 117 2))] [iV z113] _ _ _ _
                refine wp_z_eq jF_217_133 (m_rgb h114 rfl) rfl (pc2 := 136) ?_ ?_
                · intro h115
                  clear p107
                  refine wp_al1 jF_217_144 rfl rfl (pc2 := 145) ?_
                  refine wp_al1 jF_217_145 rfl rfl (pc2 := 146) ?_
                  refine wp_gr (b := 127) jF_217_146 kd117 (by decide) (c := 227) rfl rfl rfl (pc2 := 149) ?_
                  refine wp_cV (as := [.ref 127]) (rest := []) (a := 117) (mx := 2) (ci := 12) jF_217_149 kd117 (by decide) rfl rfl rfl rfl rfl (by omega) (by omega) rfl (pc2 := 152) ?_
                  have b116 := GI.b g111 117 2 kd117 (lo := 0) (hi := 1601) rfl
                  have q117 : (τ110.1 117 3) = (σ.1 117 3) := ((FR.at f112 117 3 rfl).trans ((FR.at f99 117 3 rfl).trans ((FR.at f86 117 3 rfl).trans ((FR.at f73 117 3 rfl).trans ((FR.at f60 117 3 rfl).trans (FR.at f47 117 3 rfl))))))
                  have q118 : (τ110.1 117 5) = (σ.1 117 5) := ((FR.at f112 117 5 rfl).trans ((FR.at f99 117 5 rfl).trans ((FR.at f86 117 5 rfl).trans ((FR.at f73 117 5 rfl).trans ((FR.at f60 117 5 rfl).trans (FR.at f47 117 5 rfl))))))
                  refine wp_use (m_219 τ110 g111 127 4 cw127.1 cw127.2 (by decide)  _ _ (by omega) (by omega)) ?_
                  rintro _ τ123 ⟨z126, rfl, h127, g124, f125, p119, p120, p121, p122⟩
                  show WP 217 152 [(0, .ref 117), (1, iV (σ.1 117 2))] [iV z126] _ _ _ _
                  refine wp_z_eq jF_217_152 (m_rgb h127 rfl) rfl (pc2 := 155) ?_ ?_
                  · intro h128
                    clear p120
                    refine wp_al1 jF_217_166 rfl rfl (pc2 := 167) ?_
                    refine wp_al1 jF_217_167 rfl rfl (pc2 := 168) ?_
                    refine wp_gr (b := 128) jF_217_168 kd117 (by decide) (c := 228) rfl rfl rfl (pc2 := 171) ?_
                    refine wp_cV (as := [.ref 128]) (rest := []) (a := 117) (mx := 2) (ci := 12) jF_217_171 kd117 (by decide) rfl rfl rfl rfl rfl (by omega) (by omega) rfl (pc2 := 174) ?_
                    have b129 := GI.b g124 117 2 kd117 (lo := 0) (hi := 1601) rfl
                    have q130 : (τ123.1 117 3) = (σ.1 117 3) := ((FR.at f125 117 3 rfl).trans ((FR.at f112 117 3 rfl).trans ((FR.at f99 117 3 rfl).trans ((FR.at f86 117 3 rfl).trans ((FR.at f73 117 3 rfl).trans ((FR.at f60 117 3 rfl).trans (FR.at f47 117 3 rfl)))))))
                    have q131 : (τ123.1 117 5) = (σ.1 117 5) := ((FR.at f125 117 5 rfl).trans ((FR.at f112 117 5 rfl).trans ((FR.at f99 117 5 rfl).trans ((FR.at f86 117 5 rfl).trans ((FR.at f73 117 5 rfl).trans ((FR.at f60 117 5 rfl).trans (FR.at f47 117 5 rfl)))))))
                    refine wp_use (m_219 τ123 g124 128 5 cw128.1 cw128.2 (by decide)  _ _ (by omega) (by omega)) ?_
                    rintro _ τ136 ⟨z139, rfl, h140, g137, f138, p132, p133, p134, p135⟩
                    show WP 217 174 [(0, .ref 117), (1, iV (σ.1 117 2))] [iV z139] _ _ _ _
                    refine wp_z_eq jF_217_174 (m_rgb h140 rfl) rfl (pc2 := 177) ?_ ?_
                    · intro h141
                      clear p133
                      refine wp_al1 jF_217_188 rfl rfl (pc2 := 189) ?_
                      refine wp_al1 jF_217_189 rfl rfl (pc2 := 190) ?_
                      refine wp_gr (b := 129) jF_217_190 kd117 (by decide) (c := 229) rfl rfl rfl (pc2 := 193) ?_
                      refine wp_cV (as := [.ref 129]) (rest := []) (a := 117) (mx := 2) (ci := 12) jF_217_193 kd117 (by decide) rfl rfl rfl rfl rfl (by omega) (by omega) rfl (pc2 := 196) ?_
                      have b142 := GI.b g137 117 2 kd117 (lo := 0) (hi := 1601) rfl
                      have q143 : (τ136.1 117 3) = (σ.1 117 3) := ((FR.at f138 117 3 rfl).trans ((FR.at f125 117 3 rfl).trans ((FR.at f112 117 3 rfl).trans ((FR.at f99 117 3 rfl).trans ((FR.at f86 117 3 rfl).trans ((FR.at f73 117 3 rfl).trans ((FR.at f60 117 3 rfl).trans (FR.at f47 117 3 rfl))))))))
                      have q144 : (τ136.1 117 5) = (σ.1 117 5) := ((FR.at f138 117 5 rfl).trans ((FR.at f125 117 5 rfl).trans ((FR.at f112 117 5 rfl).trans ((FR.at f99 117 5 rfl).trans ((FR.at f86 117 5 rfl).trans ((FR.at f73 117 5 rfl).trans ((FR.at f60 117 5 rfl).trans (FR.at f47 117 5 rfl))))))))
                      refine wp_use (m_234 τ136 g137 129 6 cw129.1 cw129.2 (by decide)  _ _ (by omega) (by omega)) ?_
                      rintro _ τ148 ⟨rfl, g149, f150, p145, p146, p147⟩
                      show WP 217 196 [(0, .ref 117), (1, iV (σ.1 117 2))] [] _ _ _ _
                      refine wp_al1 jF_217_196 rfl rfl (pc2 := 197) ?_
                      have b151 := GI.b g149 117 5 kd117 (lo := (-2147483648)) (hi := 2147483647) rfl
                      refine wp_gi jF_217_197 kd117 (by decide) rfl rfl rfl (pc2 := 200) ?_
                      refine wp_z_ne jF_217_200 (m_rgb b151 rfl) rfl (pc2 := 203) ?_ ?_
                      · intro h152
                        clear p147
                        have b153 := GI.b g149 117 2 kd117 (lo := 0) (hi := 1601) rfl
                        have b154 := GI.b hg 143 0 kd143 (lo := 0) (hi := 16) rfl
                        have q155 : (τ148.1 143 0) = (σ.1 143 0) := ((FR.at f150 143 0 rfl).trans ((FR.at f138 143 0 rfl).trans ((FR.at f125 143 0 rfl).trans ((FR.at f112 143 0 rfl).trans ((FR.at f99 143 0 rfl).trans ((FR.at f86 143 0 rfl).trans ((FR.at f73 143 0 rfl).trans ((FR.at f60 143 0 rfl).trans (FR.at f47 143 0 rfl)))))))))
                        have b156 := GI.b hg 143 1 kd143 (lo := 0) (hi := 16) rfl
                        have q157 : (τ148.1 143 1) = (σ.1 143 1) := ((FR.at f150 143 1 rfl).trans ((FR.at f138 143 1 rfl).trans ((FR.at f125 143 1 rfl).trans ((FR.at f112 143 1 rfl).trans ((FR.at f99 143 1 rfl).trans ((FR.at f86 143 1 rfl).trans ((FR.at f73 143 1 rfl).trans ((FR.at f60 143 1 rfl).trans (FR.at f47 143 1 rfl)))))))))
                        have b158 := GI.b hg 143 2 kd143 (lo := 0) (hi := 16) rfl
                        have q159 : (τ148.1 143 2) = (σ.1 143 2) := ((FR.at f150 143 2 rfl).trans ((FR.at f138 143 2 rfl).trans ((FR.at f125 143 2 rfl).trans ((FR.at f112 143 2 rfl).trans ((FR.at f99 143 2 rfl).trans ((FR.at f86 143 2 rfl).trans ((FR.at f73 143 2 rfl).trans ((FR.at f60 143 2 rfl).trans (FR.at f47 143 2 rfl)))))))))
                        exact jn39 () τ148 ⟨g149, (FR.up (FR.up (FR.up (FR.up (FR.up (FR.up (FR.up (FR.up (FR.up FR.rf f47 sb_Wtak_Wst0) f60 sb_Wtak_Wst0) f73 sb_Wtak_Wst0) f86 sb_Wtak_Wst0) f99 sb_Wtak_Wst0) f112 sb_Wtak_Wst0) f125 sb_Wtak_Wst0) f138 sb_Wtak_Wst0) f150 sb_Wask_Wst0), (by omega), (by omega), (by omega), (by omega), (by omega), (by omega)⟩
                      · intro h152
                        replace p147 := p147 (by omega)
                        refine wp_al1 jF_217_203 rfl rfl (pc2 := 204) ?_
                        refine wp_ic jF_217_204 rfl (pc2 := 205) ?_
                        refine wp_bi jF_217_205 (by decide) rfl (pc2 := 207) ?_
                        refine wp_il1 jF_217_207 rfl rfl (pc2 := 208) ?_
                        refine wp_cV (as := [iV 2, iV 10, iV (σ.1 117 2)]) (rest := []) (a := 117) (mx := 11) (ci := 12) jF_217_208 kd117 (by decide) rfl rfl rfl rfl rfl (by omega) (by omega) rfl (pc2 := 211) ?_
                        show WP 235 0 [(0, .ref 117), (1, iV 2), (2, iV 10), (3, iV (σ.1 117 2))] [] _ _ _ _
                        refine wp_join (α := Unit) 23 (fun a => [(0, .ref 117), (1, iV 2), (2, iV 10), (3, iV (σ.1 117 2))]) (fun a τ => GI τ ∧ FR Wbad τ148 τ ∧ ((τ148.1 117 5) ≠ 0 → (τ.1 117 5) = (τ148.1 117 5)) ∧ ((τ.1 117 5) = 0 → (τ148.1 117 5) = 0) ∧ ((τ.1 117 5) = 0 → (τ.1 143 2) ≠ 10)) ?_ ?_
                        · rintro ⟨⟩ τ160 ⟨g161, f162, p163, p164, p165⟩
                          have b166 := GI.b g161 117 5 kd117 (lo := (-2147483648)) (hi := 2147483647) rfl
                          have b167 := GI.b hg 143 2 kd143 (lo := 0) (hi := 16) rfl
                          have q168 : (τ160.1 143 2) = (σ.1 143 2) := ((FR.at f162 143 2 rfl).trans ((FR.at f150 143 2 rfl).trans ((FR.at f138 143 2 rfl).trans ((FR.at f125 143 2 rfl).trans ((FR.at f112 143 2 rfl).trans ((FR.at f99 143 2 rfl).trans ((FR.at f86 143 2 rfl).trans ((FR.at f73 143 2 rfl).trans ((FR.at f60 143 2 rfl).trans (FR.at f47 143 2 rfl))))))))))
                          clear p163
                          show WP 235 23 [(0, .ref 117), (1, iV 2), (2, iV 10), (3, iV (σ.1 117 2))] [] _ _ _ _
                          refine wp_il1 jF_235_23 rfl rfl (pc2 := 24) ?_
                          refine wp_cS (as := [iV 2]) (rest := []) (mx := 1) jF_235_24 rfl rfl rfl rfl (by omega) (by omega) rfl (pc2 := 27) ?_
                          show WP 236 0 [(0, iV 2)] [] _ _ _ _
                          refine wp_il1 jF_236_0 rfl rfl (pc2 := 1) ?_
                          refine wp_z_ne jF_236_1 (m_rgl rfl) rfl (pc2 := 4) ?_ ?_
                          · intro h169
                            refine wp_il1 jF_236_8 rfl rfl (pc2 := 9) ?_
                            refine wp_ic jF_236_9 rfl (pc2 := 10) ?_
                            refine wp_i_ne jF_236_10 (m_rgl rfl) (m_rgl rfl) rfl (pc2 := 13) ?_ ?_
                            · intro h170
                              refine wp_si jF_236_18 (by decide) rfl (pc2 := 21) ?_
                              refine wp_ri jF_236_21 rfl ?_
                              show WP 235 27 [(0, .ref 117), (1, iV 2), (2, iV 10), (3, iV (σ.1 117 2))] [iV 144] _ _ _ _
                              refine wp_bi jF_235_27 (by decide) rfl (pc2 := 29) ?_
                              refine wp_al1 jF_235_29 rfl rfl (pc2 := 30) ?_
                              refine wp_gr (b := 143) jF_235_30 kd117 (by decide) (c := 243) rfl rfl rfl (pc2 := 33) ?_
                              refine wp_il1 jF_235_33 rfl rfl (pc2 := 34) ?_
                              refine wp_iald (n := 6) jF_235_34 kd143 (by decide) rfl rfl (by omega) (by omega) ((FR.at f162 143 2 rfl).trans ((FR.at f150 143 2 rfl).trans ((FR.at f138 143 2 rfl).trans ((FR.at f125 143 2 rfl).trans ((FR.at f112 143 2 rfl).trans ((FR.at f99 143 2 rfl).trans ((FR.at f86 143 2 rfl).trans ((FR.at f73 143 2 rfl).trans ((FR.at f60 143 2 rfl).trans (FR.at f47 143 2 rfl)))))))))) rfl (pc2 := 35) ?_
                              refine wp_mul jF_235_35 rfl (pc2 := 36) ?_
                              refine wp_add jF_235_36 rfl (pc2 := 37) ?_
                              refine wp_is2 (lv2 := [(0, .ref 117), (1, iV 2), (2, iV 10), (3, iV (σ.1 117 2)), (4, iV (144 + (6 * (σ.1 143 2))))]) jF_235_37 rfl rfl rfl (pc2 := 39) ?_
                              refine wp_ic jF_235_39 rfl (pc2 := 40) ?_
                              refine wp_is2 (lv2 := [(0, .ref 117), (1, iV 2), (2, iV 10), (3, iV (σ.1 117 2)), (4, iV (144 + (6 * (σ.1 143 2)))), (5, iV (-1))]) jF_235_40 rfl rfl rfl (pc2 := 42) ?_
                              have b171 := GI.b g149 117 2 kd117 (lo := 0) (hi := 1601) rfl
                              have q172 : (τ160.1 117 2) = (τ148.1 117 2) := (FR.at f162 117 2 rfl)
                              refine wp_join (α := Int) 82 (fun a => [(0, .ref 117), (1, iV 2), (2, iV 10), (3, iV (σ.1 117 2)), (4, iV (144 + (6 * (σ.1 143 2)))), (5, iV (a))]) (fun a τ => ((-1) ≤ a ∧ a ≤ 5) ∧ GI τ ∧ FR Wsp τ160 τ ∧ ((τ160.1 117 2) ≤ (τ.1 117 2)) ∧ ((τ160.1 117 5) ≠ 0 → (τ.1 117 5) = (τ160.1 117 5)) ∧ ((τ.1 117 5) = 0 → (τ160.1 117 5) = 0)) ?_ ?_
                              · rintro x173 τ175 ⟨h174, g176, f177, p178, p179, p180⟩
                                have b181 := GI.b g176 117 2 kd117 (lo := 0) (hi := 1601) rfl
                                have b182 := GI.b g176 117 5 kd117 (lo := (-2147483648)) (hi := 2147483647) rfl
                                show WP 235 82 [(0, .ref 117), (1, iV 2), (2, iV 10), (3, iV (σ.1 117 2)), (4, iV (144 + (6 * (σ.1 143 2)))), (5, iV x173)] [] _ _ _ _
                                refine wp_al1 jF_235_82 rfl rfl (pc2 := 83) ?_
                                refine wp_al1 jF_235_83 rfl rfl (pc2 := 84) ?_
                                refine wp_gr (b := 130) jF_235_84 kd117 (by decide) (c := 230) rfl rfl rfl (pc2 := 87) ?_
                                refine wp_cV (as := [.ref 130]) (rest := []) (a := 117) (mx := 2) (ci := 12) jF_235_87 kd117 (by decide) rfl rfl rfl rfl rfl (by omega) (by omega) rfl (pc2 := 90) ?_
                                have q183 : (τ175.1 117 3) = (σ.1 117 3) := ((FR.at f177 117 3 rfl).trans ((FR.at f162 117 3 rfl).trans ((FR.at f150 117 3 rfl).trans ((FR.at f138 117 3 rfl).trans ((FR.at f125 117 3 rfl).trans ((FR.at f112 117 3 rfl).trans ((FR.at f99 117 3 rfl).trans ((FR.at f86 117 3 rfl).trans ((FR.at f73 117 3 rfl).trans ((FR.at f60 117 3 rfl).trans (FR.at f47 117 3 rfl)))))))))))
                                refine wp_use (m_219 τ175 g176 130 6 cw130.1 cw130.2 (by decide)  _ _ (by omega) (by omega)) ?_
                                rintro _ τ188 ⟨z191, rfl, h192, g189, f190, p184, p185, p186, p187⟩
                                show WP 235 90 [(0, .ref 117), (1, iV 2), (2, iV 10), (3, iV (σ.1 117 2)), (4, iV (144 + (6 * (σ.1 143 2)))), (5, iV x173)] [iV z191] _ _ _ _
                                refine wp_is2 (lv2 := [(0, .ref 117), (1, iV 2), (2, iV 10), (3, iV (σ.1 117 2)), (4, iV (144 + (6 * (σ.1 143 2)))), (5, iV x173), (6, iV z191)]) jF_235_90 rfl rfl rfl (pc2 := 92) ?_
                                have b193 := GI.b g189 117 2 kd117 (lo := 0) (hi := 1601) rfl
                                have q194 : (τ188.1 117 5) = (τ175.1 117 5) := (FR.at f190 117 5 rfl)
                                refine wp_join (α := Unit) 105 (fun a => [(0, .ref 117), (1, iV 2), (2, iV 10), (3, iV (σ.1 117 2)), (4, iV (144 + (6 * (σ.1 143 2)))), (5, iV x173), (6, iV z191)]) (fun a τ => GI τ ∧ FR Wask τ188 τ ∧ ((τ188.1 117 2) ≤ (τ.1 117 2)) ∧ ((τ188.1 117 5) ≠ 0 → (τ.1 117 5) = (τ188.1 117 5)) ∧ ((τ.1 117 5) = 0 → (τ188.1 117 5) = 0)) ?_ ?_
                                · rintro ⟨⟩ τ195 ⟨g196, f197, p198, p199, p200⟩
                                  have b201 := GI.b g196 117 2 kd117 (lo := 0) (hi := 1601) rfl
                                  have b202 := GI.b g196 117 5 kd117 (lo := (-2147483648)) (hi := 2147483647) rfl
                                  show WP 235 105 [(0, .ref 117), (1, iV 2), (2, iV 10), (3, iV (σ.1 117 2)), (4, iV (144 + (6 * (σ.1 143 2)))), (5, iV x173), (6, iV z191)] [] _ _ _ _
                                  refine wp_al1 jF_235_105 rfl rfl (pc2 := 106) ?_
                                  refine wp_ic jF_235_106 rfl (pc2 := 107) ?_
                                  refine wp_cV (as := [iV 0]) (rest := []) (a := 117) (mx := 6) (ci := 12) jF_235_107 kd117 (by decide) rfl rfl rfl rfl rfl (by omega) (by omega) rfl (pc2 := 110) ?_
                                  refine wp_use (m_237 τ195 g196 0 (by omega) (by omega)  _ _ (by omega) (by omega)) ?_
                                  rintro _ τ206 ⟨z209, rfl, h210, g207, f208, p203, p204, p205⟩
                                  show WP 235 110 [(0, .ref 117), (1, iV 2), (2, iV 10), (3, iV (σ.1 117 2)), (4, iV (144 + (6 * (σ.1 143 2)))), (5, iV x173), (6, iV z191)] [iV z209] _ _ _ _
                                  refine wp_is2 (lv2 := [(0, .ref 117), (1, iV 2), (2, iV 10), (3, iV (σ.1 117 2)), (4, iV (144 + (6 * (σ.1 143 2)))), (5, iV x173), (6, iV z191), (7, iV z209)]) jF_235_110 rfl rfl rfl (pc2 := 112) ?_
                                  refine wp_al1 jF_235_112 rfl rfl (pc2 := 113) ?_
                                  refine wp_ic jF_235_113 rfl (pc2 := 114) ?_
                                  refine wp_cV (as := [iV 1]) (rest := []) (a := 117) (mx := 6) (ci := 12) jF_235_114 kd117 (by decide) rfl rfl rfl rfl rfl (by omega) (by omega) rfl (pc2 := 117) ?_
                                  have b211 := GI.b g207 117 2 kd117 (lo := 0) (hi := 1601) rfl
                                  have b212 := GI.b g207 117 5 kd117 (lo := (-2147483648)) (hi := 2147483647) rfl
                                  refine wp_use (m_237 τ206 g207 1 (by omega) (by omega)  _ _ (by omega) (by omega)) ?_
                                  rintro _ τ216 ⟨z219, rfl, h220, g217, f218, p213, p214, p215⟩
                                  show WP 235 117 [(0, .ref 117), (1, iV 2), (2, iV 10), (3, iV (σ.1 117 2)), (4, iV (144 + (6 * (σ.1 143 2)))), (5, iV x173), (6, iV z191), (7, iV z209)] [iV z219] _ _ _ _
                                  refine wp_is2 (lv2 := [(0, .ref 117), (1, iV 2), (2, iV 10), (3, iV (σ.1 117 2)), (4, iV (144 + (6 * (σ.1 143 2)))), (5, iV x173), (6, iV z191), (7, iV z209), (8, iV z219)]) jF_235_117 rfl rfl rfl (pc2 := 119) ?_
                                  refine wp_al1 jF_235_119 rfl rfl (pc2 := 120) ?_
                                  refine wp_ic jF_235_120 rfl (pc2 := 121) ?_
                                  refine wp_cV (as := [iV 2]) (rest := []) (a := 117) (mx := 6) (ci := 12) jF_235_121 kd117 (by decide) rfl rfl rfl rfl rfl (by omega) (by omega) rfl (pc2 := 124) ?_
                                  have b221 := GI.b g217 117 2 kd117 (lo := 0) (hi := 1601) rfl
                                  have b222 := GI.b g217 117 5 kd117 (lo := (-2147483648)) (hi := 2147483647) rfl
                                  refine wp_use (m_237 τ216 g217 2 (by omega) (by omega)  _ _ (by omega) (by omega)) ?_
                                  rintro _ τ226 ⟨z229, rfl, h230, g227, f228, p223, p224, p225⟩
                                  show WP 235 124 [(0, .ref 117), (1, iV 2), (2, iV 10), (3, iV (σ.1 117 2)), (4, iV (144 + (6 * (σ.1 143 2)))), (5, iV x173), (6, iV z191), (7, iV z209), (8, iV z219)] [iV z229] _ _ _ _
                                  refine wp_is2 (lv2 := [(0, .ref 117), (1, iV 2), (2, iV 10), (3, iV (σ.1 117 2)), (4, iV (144 + (6 * (σ.1 143 2)))), (5, iV x173), (6, iV z191), (7, iV z209), (8, iV z219), (9, iV z229)]) jF_235_124 rfl rfl rfl (pc2 := 126) ?_
                                  refine wp_ic jF_235_126 rfl (pc2 := 127) ?_
                                  refine wp_is2 (lv2 := [(0, .ref 117), (1, iV 2), (2, iV 10), (3, iV (σ.1 117 2)), (4, iV (144 + (6 * (σ.1 143 2)))), (5, iV x173), (6, iV z191), (7, iV z209), (8, iV z219), (9, iV z229), (10, iV 0)]) jF_235_127 rfl rfl rfl (pc2 := 129) ?_
                                  have b231 := GI.b g227 117 2 kd117 (lo := 0) (hi := 1601) rfl
                                  have b232 := GI.b g227 117 5 kd117 (lo := (-2147483648)) (hi := 2147483647) rfl
                                  refine wp_join (α := Int) 150 (fun a => [(0, .ref 117), (1, iV 2), (2, iV 10), (3, iV (σ.1 117 2)), (4, iV (144 + (6 * (σ.1 143 2)))), (5, iV x173), (6, iV z191), (7, iV z209), (8, iV z219), (9, iV z229), (10, iV (a))]) (fun a τ => ((-2147483648) ≤ a ∧ a ≤ 2147483647) ∧ GI τ ∧ FR Wask τ226 τ ∧ ((τ226.1 117 2) ≤ (τ.1 117 2)) ∧ ((τ226.1 117 5) ≠ 0 → (τ.1 117 5) = (τ226.1 117 5)) ∧ ((τ.1 117 5) = 0 → (τ226.1 117 5) = 0)) ?_ ?_
                                  · rintro x233 τ235 ⟨h234, g236, f237, p238, p239, p240⟩
                                    have b241 := GI.b g236 117 2 kd117 (lo := 0) (hi := 1601) rfl
                                    have b242 := GI.b g236 117 5 kd117 (lo := (-2147483648)) (hi := 2147483647) rfl
                                    show WP 235 150 [(0, .ref 117), (1, iV 2), (2, iV 10), (3, iV (σ.1 117 2)), (4, iV (144 + (6 * (σ.1 143 2)))), (5, iV x173), (6, iV z191), (7, iV z209), (8, iV z219), (9, iV z229), (10, iV x233)] [] _ _ _ _
                                    refine wp_al1 jF_235_150 rfl rfl (pc2 := 151) ?_
                                    refine wp_gi jF_235_151 kd117 (by decide) rfl rfl rfl (pc2 := 154) ?_
                                    refine wp_z_eq jF_235_154 (m_rgb b242 rfl) rfl (pc2 := 157) ?_ ?_
                                    · intro h243
                                      replace p240 := p240 (by omega)
                                      replace p225 := p225 (by omega)
                                      clear p239
                                      replace p215 := p215 (by omega)
                                      clear p224
                                      replace p205 := p205 (by omega)
                                      clear p214
                                      replace p200 := p200 (by omega)
                                      clear p204
                                      replace p180 := p180 (by omega)
                                      clear p199
                                      replace p164 := p164 (by omega)
                                      replace p165 := p165 (by omega)
                                      clear p179
                                      refine wp_al1 jF_235_158 rfl rfl (pc2 := 159) ?_
                                      refine wp_gr (b := 142) jF_235_159 kd117 (by decide) (c := 242) rfl rfl rfl (pc2 := 162) ?_
                                      refine wp_il2 jF_235_162 rfl rfl (pc2 := 164) ?_
                                      refine wp_il2 jF_235_164 rfl rfl (pc2 := 166) ?_
                                      refine wp_iast (n := 408) jF_235_166 kd142 (by decide) rfl rfl (by omega) (by omega) rfl (pc2 := 167) g236 (lo := (-2147483648)) (hi := 2147483647) rfl (by omega) (by omega) ?_
                                      intro τ244 g245 f246 e247
                                      refine wp_al1 jF_235_167 rfl rfl (pc2 := 168) ?_
                                      refine wp_gr (b := 142) jF_235_168 kd117 (by decide) (c := 242) rfl rfl rfl (pc2 := 171) ?_
                                      refine wp_il2 jF_235_171 rfl rfl (pc2 := 173) ?_
                                      refine wp_ic jF_235_173 rfl (pc2 := 174) ?_
                                      refine wp_add jF_235_174 rfl (pc2 := 175) ?_
                                      refine wp_il2 jF_235_175 rfl rfl (pc2 := 177) ?_
                                      refine wp_iast (n := 408) jF_235_177 kd142 (by decide) rfl rfl (by omega) (by omega) rfl (pc2 := 178) g245 (lo := (-2147483648)) (hi := 2147483647) rfl (by omega) (by omega) ?_
                                      intro τ248 g249 f250 e251
                                      refine wp_al1 jF_235_178 rfl rfl (pc2 := 179) ?_
                                      refine wp_gr (b := 142) jF_235_179 kd117 (by decide) (c := 242) rfl rfl rfl (pc2 := 182) ?_
                                      refine wp_il2 jF_235_182 rfl rfl (pc2 := 184) ?_
                                      refine wp_ic jF_235_184 rfl (pc2 := 185) ?_
                                      refine wp_add jF_235_185 rfl (pc2 := 186) ?_
                                      refine wp_il2 jF_235_186 rfl rfl (pc2 := 188) ?_
                                      refine wp_iast (n := 408) jF_235_188 kd142 (by decide) rfl rfl (by omega) (by omega) rfl (pc2 := 189) g249 (lo := (-2147483648)) (hi := 2147483647) rfl (by omega) (by omega) ?_
                                      intro τ252 g253 f254 e255
                                      refine wp_al1 jF_235_189 rfl rfl (pc2 := 190) ?_
                                      refine wp_gr (b := 142) jF_235_190 kd117 (by decide) (c := 242) rfl rfl rfl (pc2 := 193) ?_
                                      refine wp_il2 jF_235_193 rfl rfl (pc2 := 195) ?_
                                      refine wp_ic jF_235_195 rfl (pc2 := 196) ?_
                                      refine wp_add jF_235_196 rfl (pc2 := 197) ?_
                                      refine wp_il2 jF_235_197 rfl rfl (pc2 := 199) ?_
                                      refine wp_z_eq jF_235_199 (m_rgb h192 rfl) rfl (pc2 := 202) ?_ ?_
                                      · intro h256
                                        clear p185
                                        refine wp_ic jF_235_206 rfl (pc2 := 207) ?_
                                        refine wp_iast (n := 408) jF_235_207 kd142 (by decide) rfl rfl (by omega) (by omega) rfl (pc2 := 208) g253 (lo := (-2147483648)) (hi := 2147483647) rfl (by omega) (by omega) ?_
                                        intro τ257 g258 f259 e260
                                        refine wp_al1 jF_235_208 rfl rfl (pc2 := 209) ?_
                                        refine wp_gr (b := 142) jF_235_209 kd117 (by decide) (c := 242) rfl rfl rfl (pc2 := 212) ?_
                                        refine wp_il2 jF_235_212 rfl rfl (pc2 := 214) ?_
                                        refine wp_ic jF_235_214 rfl (pc2 := 215) ?_
                                        refine wp_add jF_235_215 rfl (pc2 := 216) ?_
                                        refine wp_il2 jF_235_216 rfl rfl (pc2 := 218) ?_
                                        refine wp_iast (n := 408) jF_235_218 kd142 (by decide) rfl rfl (by omega) (by omega) rfl (pc2 := 219) g258 (lo := (-2147483648)) (hi := 2147483647) rfl (by omega) (by omega) ?_
                                        intro τ261 g262 f263 e264
                                        refine wp_al1 jF_235_219 rfl rfl (pc2 := 220) ?_
                                        refine wp_gr (b := 142) jF_235_220 kd117 (by decide) (c := 242) rfl rfl rfl (pc2 := 223) ?_
                                        refine wp_il2 jF_235_223 rfl rfl (pc2 := 225) ?_
                                        refine wp_ic jF_235_225 rfl (pc2 := 226) ?_
                                        refine wp_add jF_235_226 rfl (pc2 := 227) ?_
                                        refine wp_il2 jF_235_227 rfl rfl (pc2 := 229) ?_
                                        refine wp_iast (n := 408) jF_235_229 kd142 (by decide) rfl rfl (by omega) (by omega) rfl (pc2 := 230) g262 (lo := (-2147483648)) (hi := 2147483647) rfl (by omega) (by omega) ?_
                                        intro τ265 g266 f267 e268
                                        refine wp_al1 jF_235_230 rfl rfl (pc2 := 231) ?_
                                        refine wp_gr (b := 143) jF_235_231 kd117 (by decide) (c := 243) rfl rfl rfl (pc2 := 234) ?_
                                        refine wp_il1 jF_235_234 rfl rfl (pc2 := 235) ?_
                                        refine wp_du2 jF_235_235 rfl rfl (pc2 := 236) ?_
                                        refine wp_iald (n := 6) jF_235_236 kd143 (by decide) rfl rfl (by omega) (by omega) ((FRw.na f267 (by decide)).trans ((FRw.na f263 (by decide)).trans ((FRw.na f259 (by decide)).trans ((FRw.na f254 (by decide)).trans ((FRw.na f250 (by decide)).trans ((FRw.na f246 (by decide)).trans ((FR.at f237 143 2 rfl).trans ((FR.at f228 143 2 rfl).trans ((FR.at f218 143 2 rfl).trans ((FR.at f208 143 2 rfl).trans ((FR.at f197 143 2 rfl).trans ((FR.at f190 143 2 rfl).trans ((FR.at f177 143 2 rfl).trans ((FR.at f162 143 2 rfl).trans ((FR.at f150 143 2 rfl).trans ((FR.at f138 143 2 rfl).trans ((FR.at f125 143 2 rfl).trans ((FR.at f112 143 2 rfl).trans ((FR.at f99 143 2 rfl).trans ((FR.at f86 143 2 rfl).trans ((FR.at f73 143 2 rfl).trans ((FR.at f60 143 2 rfl).trans (FR.at f47 143 2 rfl))))))))))))))))))))))) rfl (pc2 := 237) ?_
                                        refine wp_ic jF_235_237 rfl (pc2 := 238) ?_
                                        refine wp_add jF_235_238 rfl (pc2 := 239) ?_
                                        refine wp_iast (n := 6) jF_235_239 kd143 (by decide) rfl rfl (by omega) (by omega) rfl (pc2 := 240) g266 (lo := 0) (hi := 16) rfl (by omega) (by omega) ?_
                                        intro τ269 g270 f271 e272
                                        refine wp_rv jF_235_240 ?_
                                        show WP 217 211 [(0, .ref 117), (1, iV (σ.1 117 2))] [] _ _ _ _
                                        have q273 : (τ269.1 117 2) = (τ235.1 117 2) := ((FRw.na f271 (by decide)).trans ((FRw.na f267 (by decide)).trans ((FRw.na f263 (by decide)).trans ((FRw.na f259 (by decide)).trans ((FRw.na f254 (by decide)).trans ((FRw.na f250 (by decide)).trans (FRw.na f246 (by decide))))))))
                                        have q274 : (τ269.1 117 5) = (τ235.1 117 5) := ((FRw.na f271 (by decide)).trans ((FRw.na f267 (by decide)).trans ((FRw.na f263 (by decide)).trans ((FRw.na f259 (by decide)).trans ((FRw.na f254 (by decide)).trans ((FRw.na f250 (by decide)).trans (FRw.na f246 (by decide))))))))
                                        have b275 := GI.b hg 143 0 kd143 (lo := 0) (hi := 16) rfl
                                        have q276 : (τ269.1 143 0) = (σ.1 143 0) := ((FRw.nj f271 (by decide)).trans ((FRw.na f267 (by decide)).trans ((FRw.na f263 (by decide)).trans ((FRw.na f259 (by decide)).trans ((FRw.na f254 (by decide)).trans ((FRw.na f250 (by decide)).trans ((FRw.na f246 (by decide)).trans ((FR.at f237 143 0 rfl).trans ((FR.at f228 143 0 rfl).trans ((FR.at f218 143 0 rfl).trans ((FR.at f208 143 0 rfl).trans ((FR.at f197 143 0 rfl).trans ((FR.at f190 143 0 rfl).trans ((FR.at f177 143 0 rfl).trans ((FR.at f162 143 0 rfl).trans ((FR.at f150 143 0 rfl).trans ((FR.at f138 143 0 rfl).trans ((FR.at f125 143 0 rfl).trans ((FR.at f112 143 0 rfl).trans ((FR.at f99 143 0 rfl).trans ((FR.at f86 143 0 rfl).trans ((FR.at f73 143 0 rfl).trans ((FR.at f60 143 0 rfl).trans (FR.at f47 143 0 rfl))))))))))))))))))))))))
                                        have b277 := GI.b hg 143 1 kd143 (lo := 0) (hi := 16) rfl
                                        have q278 : (τ269.1 143 1) = (σ.1 143 1) := ((FRw.nj f271 (by decide)).trans ((FRw.na f267 (by decide)).trans ((FRw.na f263 (by decide)).trans ((FRw.na f259 (by decide)).trans ((FRw.na f254 (by decide)).trans ((FRw.na f250 (by decide)).trans ((FRw.na f246 (by decide)).trans ((FR.at f237 143 1 rfl).trans ((FR.at f228 143 1 rfl).trans ((FR.at f218 143 1 rfl).trans ((FR.at f208 143 1 rfl).trans ((FR.at f197 143 1 rfl).trans ((FR.at f190 143 1 rfl).trans ((FR.at f177 143 1 rfl).trans ((FR.at f162 143 1 rfl).trans ((FR.at f150 143 1 rfl).trans ((FR.at f138 143 1 rfl).trans ((FR.at f125 143 1 rfl).trans ((FR.at f112 143 1 rfl).trans ((FR.at f99 143 1 rfl).trans ((FR.at f86 143 1 rfl).trans ((FR.at f73 143 1 rfl).trans ((FR.at f60 143 1 rfl).trans (FR.at f47 143 1 rfl))))))))))))))))))))))))
                                        have q279 : (τ269.1 143 2) = ((σ.1 143 2) + 1) := e272
                                        exact jn39 () τ269 ⟨g270, (FR.w (FR.w (FR.w (FR.w (FR.w (FR.w (FR.w (FR.up (FR.up (FR.up (FR.up (FR.up (FR.up (FR.up (FR.up (FR.up (FR.up (FR.up (FR.up (FR.up (FR.up (FR.up (FR.up (FR.up FR.rf f47 sb_Wtak_Wst0) f60 sb_Wtak_Wst0) f73 sb_Wtak_Wst0) f86 sb_Wtak_Wst0) f99 sb_Wtak_Wst0) f112 sb_Wtak_Wst0) f125 sb_Wtak_Wst0) f138 sb_Wtak_Wst0) f150 sb_Wask_Wst0) f162 sb_Wbad_Wst0) f177 sb_Wsp_Wst0) f190 sb_Wtak_Wst0) f197 sb_Wask_Wst0) f208 sb_Wsp_Wst0) f218 sb_Wsp_Wst0) f228 sb_Wsp_Wst0) f237 sb_Wask_Wst0) f246 rfl) f250 rfl) f254 rfl) f259 rfl) f263 rfl) f267 rfl) f271 rfl), (by omega), (by omega), (by omega), (by omega), (by omega), (by omega)⟩
                                      · intro h256
                                        replace p185 := p185 (by omega)
                                        refine wp_ic jF_235_202 rfl (pc2 := 203) ?_
                                        refine wp_go jF_235_203 ?_
                                        refine wp_iast (n := 408) jF_235_207 kd142 (by decide) rfl rfl (by omega) (by omega) rfl (pc2 := 208) g253 (lo := (-2147483648)) (hi := 2147483647) rfl (by omega) (by omega) ?_
                                        intro τ280 g281 f282 e283
                                        refine wp_al1 jF_235_208 rfl rfl (pc2 := 209) ?_
                                        refine wp_gr (b := 142) jF_235_209 kd117 (by decide) (c := 242) rfl rfl rfl (pc2 := 212) ?_
                                        refine wp_il2 jF_235_212 rfl rfl (pc2 := 214) ?_
                                        refine wp_ic jF_235_214 rfl (pc2 := 215) ?_
                                        refine wp_add jF_235_215 rfl (pc2 := 216) ?_
                                        refine wp_il2 jF_235_216 rfl rfl (pc2 := 218) ?_
                                        refine wp_iast (n := 408) jF_235_218 kd142 (by decide) rfl rfl (by omega) (by omega) rfl (pc2 := 219) g281 (lo := (-2147483648)) (hi := 2147483647) rfl (by omega) (by omega) ?_
                                        intro τ284 g285 f286 e287
                                        refine wp_al1 jF_235_219 rfl rfl (pc2 := 220) ?_
                                        refine wp_gr (b := 142) jF_235_220 kd117 (by decide) (c := 242) rfl rfl rfl (pc2 := 223) ?_
                                        refine wp_il2 jF_235_223 rfl rfl (pc2 := 225) ?_
                                        refine wp_ic jF_235_225 rfl (pc2 := 226) ?_
                                        refine wp_add jF_235_226 rfl (pc2 := 227) ?_
                                        refine wp_il2 jF_235_227 rfl rfl (pc2 := 229) ?_
                                        refine wp_iast (n := 408) jF_235_229 kd142 (by decide) rfl rfl (by omega) (by omega) rfl (pc2 := 230) g285 (lo := (-2147483648)) (hi := 2147483647) rfl (by omega) (by omega) ?_
                                        intro τ288 g289 f290 e291
                                        refine wp_al1 jF_235_230 rfl rfl (pc2 := 231) ?_
                                        refine wp_gr (b := 143) jF_235_231 kd117 (by decide) (c := 243) rfl rfl rfl (pc2 := 234) ?_
                                        refine wp_il1 jF_235_234 rfl rfl (pc2 := 235) ?_
                                        refine wp_du2 jF_235_235 rfl rfl (pc2 := 236) ?_
                                        refine wp_iald (n := 6) jF_235_236 kd143 (by decide) rfl rfl (by omega) (by omega) ((FRw.na f290 (by decide)).trans ((FRw.na f286 (by decide)).trans ((FRw.na f282 (by decide)).trans ((FRw.na f254 (by decide)).trans ((FRw.na f250 (by decide)).trans ((FRw.na f246 (by decide)).trans ((FR.at f237 143 2 rfl).trans ((FR.at f228 143 2 rfl).trans ((FR.at f218 143 2 rfl).trans ((FR.at f208 143 2 rfl).trans ((FR.at f197 143 2 rfl).trans ((FR.at f190 143 2 rfl).trans ((FR.at f177 143 2 rfl).trans ((FR.at f162 143 2 rfl).trans ((FR.at f150 143 2 rfl).trans ((FR.at f138 143 2 rfl).trans ((FR.at f125 143 2 rfl).trans ((FR.at f112 143 2 rfl).trans ((FR.at f99 143 2 rfl).trans ((FR.at f86 143 2 rfl).trans ((FR.at f73 143 2 rfl).trans ((FR.at f60 143 2 rfl).trans (FR.at f47 143 2 rfl))))))))))))))))))))))) rfl (pc2 := 237) ?_
                                        refine wp_ic jF_235_237 rfl (pc2 := 238) ?_
                                        refine wp_add jF_235_238 rfl (pc2 := 239) ?_
                                        refine wp_iast (n := 6) jF_235_239 kd143 (by decide) rfl rfl (by omega) (by omega) rfl (pc2 := 240) g289 (lo := 0) (hi := 16) rfl (by omega) (by omega) ?_
                                        intro τ292 g293 f294 e295
                                        refine wp_rv jF_235_240 ?_
                                        show WP 217 211 [(0, .ref 117), (1, iV (σ.1 117 2))] [] _ _ _ _
                                        have q296 : (τ292.1 117 2) = (τ235.1 117 2) := ((FRw.na f294 (by decide)).trans ((FRw.na f290 (by decide)).trans ((FRw.na f286 (by decide)).trans ((FRw.na f282 (by decide)).trans ((FRw.na f254 (by decide)).trans ((FRw.na f250 (by decide)).trans (FRw.na f246 (by decide))))))))
                                        have q297 : (τ292.1 117 5) = (τ235.1 117 5) := ((FRw.na f294 (by decide)).trans ((FRw.na f290 (by decide)).trans ((FRw.na f286 (by decide)).trans ((FRw.na f282 (by decide)).trans ((FRw.na f254 (by decide)).trans ((FRw.na f250 (by decide)).trans (FRw.na f246 (by decide))))))))
                                        have b298 := GI.b hg 143 0 kd143 (lo := 0) (hi := 16) rfl
                                        have q299 : (τ292.1 143 0) = (σ.1 143 0) := ((FRw.nj f294 (by decide)).trans ((FRw.na f290 (by decide)).trans ((FRw.na f286 (by decide)).trans ((FRw.na f282 (by decide)).trans ((FRw.na f254 (by decide)).trans ((FRw.na f250 (by decide)).trans ((FRw.na f246 (by decide)).trans ((FR.at f237 143 0 rfl).trans ((FR.at f228 143 0 rfl).trans ((FR.at f218 143 0 rfl).trans ((FR.at f208 143 0 rfl).trans ((FR.at f197 143 0 rfl).trans ((FR.at f190 143 0 rfl).trans ((FR.at f177 143 0 rfl).trans ((FR.at f162 143 0 rfl).trans ((FR.at f150 143 0 rfl).trans ((FR.at f138 143 0 rfl).trans ((FR.at f125 143 0 rfl).trans ((FR.at f112 143 0 rfl).trans ((FR.at f99 143 0 rfl).trans ((FR.at f86 143 0 rfl).trans ((FR.at f73 143 0 rfl).trans ((FR.at f60 143 0 rfl).trans (FR.at f47 143 0 rfl))))))))))))))))))))))))
                                        have b300 := GI.b hg 143 1 kd143 (lo := 0) (hi := 16) rfl
                                        have q301 : (τ292.1 143 1) = (σ.1 143 1) := ((FRw.nj f294 (by decide)).trans ((FRw.na f290 (by decide)).trans ((FRw.na f286 (by decide)).trans ((FRw.na f282 (by decide)).trans ((FRw.na f254 (by decide)).trans ((FRw.na f250 (by decide)).trans ((FRw.na f246 (by decide)).trans ((FR.at f237 143 1 rfl).trans ((FR.at f228 143 1 rfl).trans ((FR.at f218 143 1 rfl).trans ((FR.at f208 143 1 rfl).trans ((FR.at f197 143 1 rfl).trans ((FR.at f190 143 1 rfl).trans ((FR.at f177 143 1 rfl).trans ((FR.at f162 143 1 rfl).trans ((FR.at f150 143 1 rfl).trans ((FR.at f138 143 1 rfl).trans ((FR.at f125 143 1 rfl).trans ((FR.at f112 143 1 rfl).trans ((FR.at f99 143 1 rfl).trans ((FR.at f86 143 1 rfl).trans ((FR.at f73 143 1 rfl).trans ((FR.at f60 143 1 rfl).trans (FR.at f47 143 1 rfl))))))))))))))))))))))))
                                        have q302 : (τ292.1 143 2) = ((σ.1 143 2) + 1) := e295
                                        exact jn39 () τ292 ⟨g293, (FR.w (FR.w (FR.w (FR.w (FR.w (FR.w (FR.w (FR.up (FR.up (FR.up (FR.up (FR.up (FR.up (FR.up (FR.up (FR.up (FR.up (FR.up (FR.up (FR.up (FR.up (FR.up (FR.up (FR.up FR.rf f47 sb_Wtak_Wst0) f60 sb_Wtak_Wst0) f73 sb_Wtak_Wst0) f86 sb_Wtak_Wst0) f99 sb_Wtak_Wst0) f112 sb_Wtak_Wst0) f125 sb_Wtak_Wst0) f138 sb_Wtak_Wst0) f150 sb_Wask_Wst0) f162 sb_Wbad_Wst0) f177 sb_Wsp_Wst0) f190 sb_Wtak_Wst0) f197 sb_Wask_Wst0) f208 sb_Wsp_Wst0) f218 sb_Wsp_Wst0) f228 sb_Wsp_Wst0) f237 sb_Wask_Wst0) f246 rfl) f250 rfl) f254 rfl) f282 rfl) f286 rfl) f290 rfl) f294 rfl), (by omega), (by omega), (by omega), (by omega), (by omega), (by omega)⟩
                                    · intro h243
                                      clear p240
                                      refine wp_rv jF_235_157 ?_
                                      show WP 217 211 [(0, .ref 117), (1, iV (σ.1 117 2))] [] _ _ _ _
                                      have b303 := GI.b hg 143 0 kd143 (lo := 0) (hi := 16) rfl
                                      have q304 : (τ235.1 143 0) = (σ.1 143 0) := ((FR.at f237 143 0 rfl).trans ((FR.at f228 143 0 rfl).trans ((FR.at f218 143 0 rfl).trans ((FR.at f208 143 0 rfl).trans ((FR.at f197 143 0 rfl).trans ((FR.at f190 143 0 rfl).trans ((FR.at f177 143 0 rfl).trans ((FR.at f162 143 0 rfl).trans ((FR.at f150 143 0 rfl).trans ((FR.at f138 143 0 rfl).trans ((FR.at f125 143 0 rfl).trans ((FR.at f112 143 0 rfl).trans ((FR.at f99 143 0 rfl).trans ((FR.at f86 143 0 rfl).trans ((FR.at f73 143 0 rfl).trans ((FR.at f60 143 0 rfl).trans (FR.at f47 143 0 rfl)))))))))))))))))
                                      have b305 := GI.b hg 143 1 kd143 (lo := 0) (hi := 16) rfl
                                      have q306 : (τ235.1 143 1) = (σ.1 143 1) := ((FR.at f237 143 1 rfl).trans ((FR.at f228 143 1 rfl).trans ((FR.at f218 143 1 rfl).trans ((FR.at f208 143 1 rfl).trans ((FR.at f197 143 1 rfl).trans ((FR.at f190 143 1 rfl).trans ((FR.at f177 143 1 rfl).trans ((FR.at f162 143 1 rfl).trans ((FR.at f150 143 1 rfl).trans ((FR.at f138 143 1 rfl).trans ((FR.at f125 143 1 rfl).trans ((FR.at f112 143 1 rfl).trans ((FR.at f99 143 1 rfl).trans ((FR.at f86 143 1 rfl).trans ((FR.at f73 143 1 rfl).trans ((FR.at f60 143 1 rfl).trans (FR.at f47 143 1 rfl)))))))))))))))))
                                      have q307 : (τ235.1 143 2) = (σ.1 143 2) := ((FR.at f237 143 2 rfl).trans ((FR.at f228 143 2 rfl).trans ((FR.at f218 143 2 rfl).trans ((FR.at f208 143 2 rfl).trans ((FR.at f197 143 2 rfl).trans ((FR.at f190 143 2 rfl).trans ((FR.at f177 143 2 rfl).trans ((FR.at f162 143 2 rfl).trans ((FR.at f150 143 2 rfl).trans ((FR.at f138 143 2 rfl).trans ((FR.at f125 143 2 rfl).trans ((FR.at f112 143 2 rfl).trans ((FR.at f99 143 2 rfl).trans ((FR.at f86 143 2 rfl).trans ((FR.at f73 143 2 rfl).trans ((FR.at f60 143 2 rfl).trans (FR.at f47 143 2 rfl)))))))))))))))))
                                      exact jn39 () τ235 ⟨g236, (FR.up (FR.up (FR.up (FR.up (FR.up (FR.up (FR.up (FR.up (FR.up (FR.up (FR.up (FR.up (FR.up (FR.up (FR.up (FR.up (FR.up FR.rf f47 sb_Wtak_Wst0) f60 sb_Wtak_Wst0) f73 sb_Wtak_Wst0) f86 sb_Wtak_Wst0) f99 sb_Wtak_Wst0) f112 sb_Wtak_Wst0) f125 sb_Wtak_Wst0) f138 sb_Wtak_Wst0) f150 sb_Wask_Wst0) f162 sb_Wbad_Wst0) f177 sb_Wsp_Wst0) f190 sb_Wtak_Wst0) f197 sb_Wask_Wst0) f208 sb_Wsp_Wst0) f218 sb_Wsp_Wst0) f228 sb_Wsp_Wst0) f237 sb_Wask_Wst0), (by omega), (by omega), (by omega), (by omega), (by omega), (by omega)⟩
                                  · intro jn308
                                    refine wp_il1 jF_235_129 rfl rfl (pc2 := 130) ?_
                                    refine wp_z_ne jF_235_130 (m_rgl rfl) rfl (pc2 := 133) ?_ ?_
                                    · intro h309
                                      exact jn308 (0) τ226 ⟨⟨by omega, by omega⟩, g227, FR.rf, (by omega), (by omega), (by omega)⟩
                                    · intro h309; exfalso; omega
                                · intro jn310
                                  refine wp_il2 jF_235_92 rfl rfl (pc2 := 94) ?_
                                  refine wp_z_ne jF_235_94 (m_rgb h192 rfl) rfl (pc2 := 97) ?_ ?_
                                  · intro h311
                                    replace p185 := p185 (by omega)
                                    replace p180 := p180 (by omega)
                                    replace p164 := p164 (by omega)
                                    replace p165 := p165 (by omega)
                                    clear p179
                                    exact jn310 () τ188 ⟨g189, FR.rf, (by omega), (by omega), (by omega)⟩
                                  · intro h311
                                    clear p185
                                    refine wp_al1 jF_235_97 rfl rfl (pc2 := 98) ?_
                                    refine wp_al1 jF_235_98 rfl rfl (pc2 := 99) ?_
                                    refine wp_gr (b := 131) jF_235_99 kd117 (by decide) (c := 231) rfl rfl rfl (pc2 := 102) ?_
                                    refine wp_cV (as := [.ref 131]) (rest := []) (a := 117) (mx := 2) (ci := 12) jF_235_102 kd117 (by decide) rfl rfl rfl rfl rfl (by omega) (by omega) rfl (pc2 := 105) ?_
                                    have q312 : (τ188.1 117 3) = (σ.1 117 3) := ((FR.at f190 117 3 rfl).trans ((FR.at f177 117 3 rfl).trans ((FR.at f162 117 3 rfl).trans ((FR.at f150 117 3 rfl).trans ((FR.at f138 117 3 rfl).trans ((FR.at f125 117 3 rfl).trans ((FR.at f112 117 3 rfl).trans ((FR.at f99 117 3 rfl).trans ((FR.at f86 117 3 rfl).trans ((FR.at f73 117 3 rfl).trans ((FR.at f60 117 3 rfl).trans (FR.at f47 117 3 rfl))))))))))))
                                    refine wp_use (m_234 τ188 g189 131 4 cw131.1 cw131.2 (by decide)  _ _ (by omega) (by omega)) ?_
                                    rintro _ τ316 ⟨rfl, g317, f318, p313, p314, p315⟩
                                    show WP 235 105 [(0, .ref 117), (1, iV 2), (2, iV 10), (3, iV (σ.1 117 2)), (4, iV (144 + (6 * (σ.1 143 2)))), (5, iV x173), (6, iV z191)] [] _ _ _ _
                                    have b319 := GI.b g317 117 2 kd117 (lo := 0) (hi := 1601) rfl
                                    have b320 := GI.b g317 117 5 kd117 (lo := (-2147483648)) (hi := 2147483647) rfl
                                    exact jn310 () τ316 ⟨g317, f318, (by omega), (by omega), (by omega)⟩
                              · intro jn321
                                refine wp_il1 jF_235_42 rfl rfl (pc2 := 43) ?_
                                refine wp_z_ne jF_235_43 (m_rgl rfl) rfl (pc2 := 46) ?_ ?_
                                · intro h322
                                  exact jn321 ((-1)) τ160 ⟨⟨by omega, by omega⟩, g161, FR.rf, (by omega), (by omega), (by omega)⟩
                                · intro h322; exfalso; omega
                            · intro h170; exfalso; omega
                          · intro h169; exfalso; omega
                        · intro jn323
                          refine wp_al1 jF_235_0 rfl rfl (pc2 := 1) ?_
                          refine wp_gi jF_235_1 kd117 (by decide) rfl rfl rfl (pc2 := 4) ?_
                          refine wp_z_ne jF_235_4 (m_rgb b151 rfl) rfl (pc2 := 7) ?_ ?_
                          · intro h324
                            have b325 := GI.b hg 143 2 kd143 (lo := 0) (hi := 16) rfl
                            have q326 : (τ148.1 143 2) = (σ.1 143 2) := ((FR.at f150 143 2 rfl).trans ((FR.at f138 143 2 rfl).trans ((FR.at f125 143 2 rfl).trans ((FR.at f112 143 2 rfl).trans ((FR.at f99 143 2 rfl).trans ((FR.at f86 143 2 rfl).trans ((FR.at f73 143 2 rfl).trans ((FR.at f60 143 2 rfl).trans (FR.at f47 143 2 rfl)))))))))
                            exact jn323 () τ148 ⟨g149, FR.rf, (by omega), (by omega), (by omega)⟩
                          · intro h324
                            refine wp_al1 jF_235_7 rfl rfl (pc2 := 8) ?_
                            refine wp_gr (b := 143) jF_235_8 kd117 (by decide) (c := 243) rfl rfl rfl (pc2 := 11) ?_
                            refine wp_il1 jF_235_11 rfl rfl (pc2 := 12) ?_
                            have b327 := GI.b hg 143 2 kd143 (lo := 0) (hi := 16) rfl
                            refine wp_iald (n := 6) jF_235_12 kd143 (by decide) rfl rfl (by omega) (by omega) ((FR.at f150 143 2 rfl).trans ((FR.at f138 143 2 rfl).trans ((FR.at f125 143 2 rfl).trans ((FR.at f112 143 2 rfl).trans ((FR.at f99 143 2 rfl).trans ((FR.at f86 143 2 rfl).trans ((FR.at f73 143 2 rfl).trans ((FR.at f60 143 2 rfl).trans (FR.at f47 143 2 rfl))))))))) rfl (pc2 := 13) ?_
                            refine wp_il1 jF_235_13 rfl rfl (pc2 := 14) ?_
                            refine wp_i_ne jF_235_14 (m_rgb b327 rfl) (m_rgl rfl) rfl (pc2 := 17) ?_ ?_
                            · intro h328
                              have q329 : (τ148.1 143 2) = (σ.1 143 2) := ((FR.at f150 143 2 rfl).trans ((FR.at f138 143 2 rfl).trans ((FR.at f125 143 2 rfl).trans ((FR.at f112 143 2 rfl).trans ((FR.at f99 143 2 rfl).trans ((FR.at f86 143 2 rfl).trans ((FR.at f73 143 2 rfl).trans ((FR.at f60 143 2 rfl).trans (FR.at f47 143 2 rfl)))))))))
                              exact jn323 () τ148 ⟨g149, FR.rf, (by omega), (by omega), (by omega)⟩
                            · intro h328
                              refine wp_al1 jF_235_17 rfl rfl (pc2 := 18) ?_
                              refine wp_ic jF_235_18 rfl (pc2 := 19) ?_
                              refine wp_il1 jF_235_19 rfl rfl (pc2 := 20) ?_
                              refine wp_cV (as := [iV 5, iV (σ.1 117 2)]) (rest := []) (a := 117) (mx := 3) (ci := 12) jF_235_20 kd117 (by decide) rfl rfl rfl rfl rfl (by omega) (by omega) rfl (pc2 := 23) ?_
                              refine wp_use (m_218 τ148 g149 5 (by omega) (by omega) (σ.1 117 2) (by omega) (by omega)  _ _ (by omega) (by omega)) ?_
                              rintro _ τ332 ⟨rfl, g333, f334, p330, p331⟩
                              clear p330
                              replace p331 := p331 (by omega)
                              show WP 235 23 [(0, .ref 117), (1, iV 2), (2, iV 10), (3, iV (σ.1 117 2))] [] _ _ _ _
                              have b335 := GI.b g333 117 5 kd117 (lo := (-2147483648)) (hi := 2147483647) rfl
                              have q336 : (τ332.1 143 2) = (σ.1 143 2) := ((FR.at f334 143 2 rfl).trans ((FR.at f150 143 2 rfl).trans ((FR.at f138 143 2 rfl).trans ((FR.at f125 143 2 rfl).trans ((FR.at f112 143 2 rfl).trans ((FR.at f99 143 2 rfl).trans ((FR.at f86 143 2 rfl).trans ((FR.at f73 143 2 rfl).trans ((FR.at f60 143 2 rfl).trans (FR.at f47 143 2 rfl))))))))))
                              exact jn323 () τ332 ⟨g333, f334, (by omega), (by omega), (by omega)⟩
                    · intro h141
                      replace p133 := p133 (by omega)
                      refine wp_al1 jF_217_177 rfl rfl (pc2 := 178) ?_
                      refine wp_ic jF_217_178 rfl (pc2 := 179) ?_
                      refine wp_bi jF_217_179 (by decide) rfl (pc2 := 181) ?_
                      refine wp_il1 jF_217_181 rfl rfl (pc2 := 182) ?_
                      refine wp_cV (as := [iV 1, iV 8, iV (σ.1 117 2)]) (rest := []) (a := 117) (mx := 11) (ci := 12) jF_217_182 kd117 (by decide) rfl rfl rfl rfl rfl (by omega) (by omega) rfl (pc2 := 185) ?_
                      show WP 235 0 [(0, .ref 117), (1, iV 1), (2, iV 8), (3, iV (σ.1 117 2))] [] _ _ _ _
                      have q337 : (τ136.1 117 5) = (σ.1 117 5) := ((FR.at f138 117 5 rfl).trans ((FR.at f125 117 5 rfl).trans ((FR.at f112 117 5 rfl).trans ((FR.at f99 117 5 rfl).trans ((FR.at f86 117 5 rfl).trans ((FR.at f73 117 5 rfl).trans ((FR.at f60 117 5 rfl).trans (FR.at f47 117 5 rfl))))))))
                      refine wp_join (α := Unit) 23 (fun a => [(0, .ref 117), (1, iV 1), (2, iV 8), (3, iV (σ.1 117 2))]) (fun a τ => GI τ ∧ FR Wbad τ136 τ ∧ ((τ136.1 117 5) ≠ 0 → (τ.1 117 5) = (τ136.1 117 5)) ∧ ((τ.1 117 5) = 0 → (τ136.1 117 5) = 0) ∧ ((τ.1 117 5) = 0 → (τ.1 143 1) ≠ 8)) ?_ ?_
                      · rintro ⟨⟩ τ338 ⟨g339, f340, p341, p342, p343⟩
                        have b344 := GI.b g339 117 5 kd117 (lo := (-2147483648)) (hi := 2147483647) rfl
                        have b345 := GI.b hg 143 1 kd143 (lo := 0) (hi := 16) rfl
                        have q346 : (τ338.1 143 1) = (σ.1 143 1) := ((FR.at f340 143 1 rfl).trans ((FR.at f138 143 1 rfl).trans ((FR.at f125 143 1 rfl).trans ((FR.at f112 143 1 rfl).trans ((FR.at f99 143 1 rfl).trans ((FR.at f86 143 1 rfl).trans ((FR.at f73 143 1 rfl).trans ((FR.at f60 143 1 rfl).trans (FR.at f47 143 1 rfl)))))))))
                        clear p341
                        show WP 235 23 [(0, .ref 117), (1, iV 1), (2, iV 8), (3, iV (σ.1 117 2))] [] _ _ _ _
                        refine wp_il1 jF_235_23 rfl rfl (pc2 := 24) ?_
                        refine wp_cS (as := [iV 1]) (rest := []) (mx := 1) jF_235_24 rfl rfl rfl rfl (by omega) (by omega) rfl (pc2 := 27) ?_
                        show WP 236 0 [(0, iV 1)] [] _ _ _ _
                        refine wp_il1 jF_236_0 rfl rfl (pc2 := 1) ?_
                        refine wp_z_ne jF_236_1 (m_rgl rfl) rfl (pc2 := 4) ?_ ?_
                        · intro h347
                          refine wp_il1 jF_236_8 rfl rfl (pc2 := 9) ?_
                          refine wp_ic jF_236_9 rfl (pc2 := 10) ?_
                          refine wp_i_ne jF_236_10 (m_rgl rfl) (m_rgl rfl) rfl (pc2 := 13) ?_ ?_
                          · intro h348; exfalso; omega
                          · intro h348
                            refine wp_bi jF_236_13 (by decide) rfl (pc2 := 15) ?_
                            refine wp_go jF_236_15 ?_
                            refine wp_ri jF_236_21 rfl ?_
                            show WP 235 27 [(0, .ref 117), (1, iV 1), (2, iV 8), (3, iV (σ.1 117 2))] [iV 96] _ _ _ _
                            refine wp_bi jF_235_27 (by decide) rfl (pc2 := 29) ?_
                            refine wp_al1 jF_235_29 rfl rfl (pc2 := 30) ?_
                            refine wp_gr (b := 143) jF_235_30 kd117 (by decide) (c := 243) rfl rfl rfl (pc2 := 33) ?_
                            refine wp_il1 jF_235_33 rfl rfl (pc2 := 34) ?_
                            refine wp_iald (n := 6) jF_235_34 kd143 (by decide) rfl rfl (by omega) (by omega) ((FR.at f340 143 1 rfl).trans ((FR.at f138 143 1 rfl).trans ((FR.at f125 143 1 rfl).trans ((FR.at f112 143 1 rfl).trans ((FR.at f99 143 1 rfl).trans ((FR.at f86 143 1 rfl).trans ((FR.at f73 143 1 rfl).trans ((FR.at f60 143 1 rfl).trans (FR.at f47 143 1 rfl))))))))) rfl (pc2 := 35) ?_
                            refine wp_mul jF_235_35 rfl (pc2 := 36) ?_
                            refine wp_add jF_235_36 rfl (pc2 := 37) ?_
                            refine wp_is2 (lv2 := [(0, .ref 117), (1, iV 1), (2, iV 8), (3, iV (σ.1 117 2)), (4, iV (96 + (6 * (σ.1 143 1))))]) jF_235_37 rfl rfl rfl (pc2 := 39) ?_
                            refine wp_ic jF_235_39 rfl (pc2 := 40) ?_
                            refine wp_is2 (lv2 := [(0, .ref 117), (1, iV 1), (2, iV 8), (3, iV (σ.1 117 2)), (4, iV (96 + (6 * (σ.1 143 1)))), (5, iV (-1))]) jF_235_40 rfl rfl rfl (pc2 := 42) ?_
                            have b349 := GI.b g137 117 2 kd117 (lo := 0) (hi := 1601) rfl
                            have q350 : (τ338.1 117 2) = (τ136.1 117 2) := (FR.at f340 117 2 rfl)
                            refine wp_join (α := Int) 82 (fun a => [(0, .ref 117), (1, iV 1), (2, iV 8), (3, iV (σ.1 117 2)), (4, iV (96 + (6 * (σ.1 143 1)))), (5, iV (a))]) (fun a τ => ((-1) ≤ a ∧ a ≤ 5) ∧ GI τ ∧ FR Wsp τ338 τ ∧ ((τ338.1 117 2) ≤ (τ.1 117 2)) ∧ ((τ338.1 117 5) ≠ 0 → (τ.1 117 5) = (τ338.1 117 5)) ∧ ((τ.1 117 5) = 0 → (τ338.1 117 5) = 0)) ?_ ?_
                            · rintro x351 τ353 ⟨h352, g354, f355, p356, p357, p358⟩
                              have b359 := GI.b g354 117 2 kd117 (lo := 0) (hi := 1601) rfl
                              have b360 := GI.b g354 117 5 kd117 (lo := (-2147483648)) (hi := 2147483647) rfl
                              show WP 235 82 [(0, .ref 117), (1, iV 1), (2, iV 8), (3, iV (σ.1 117 2)), (4, iV (96 + (6 * (σ.1 143 1)))), (5, iV x351)] [] _ _ _ _
                              refine wp_al1 jF_235_82 rfl rfl (pc2 := 83) ?_
                              refine wp_al1 jF_235_83 rfl rfl (pc2 := 84) ?_
                              refine wp_gr (b := 130) jF_235_84 kd117 (by decide) (c := 230) rfl rfl rfl (pc2 := 87) ?_
                              refine wp_cV (as := [.ref 130]) (rest := []) (a := 117) (mx := 2) (ci := 12) jF_235_87 kd117 (by decide) rfl rfl rfl rfl rfl (by omega) (by omega) rfl (pc2 := 90) ?_
                              have q361 : (τ353.1 117 3) = (σ.1 117 3) := ((FR.at f355 117 3 rfl).trans ((FR.at f340 117 3 rfl).trans ((FR.at f138 117 3 rfl).trans ((FR.at f125 117 3 rfl).trans ((FR.at f112 117 3 rfl).trans ((FR.at f99 117 3 rfl).trans ((FR.at f86 117 3 rfl).trans ((FR.at f73 117 3 rfl).trans ((FR.at f60 117 3 rfl).trans (FR.at f47 117 3 rfl))))))))))
                              refine wp_use (m_219 τ353 g354 130 6 cw130.1 cw130.2 (by decide)  _ _ (by omega) (by omega)) ?_
                              rintro _ τ366 ⟨z369, rfl, h370, g367, f368, p362, p363, p364, p365⟩
                              show WP 235 90 [(0, .ref 117), (1, iV 1), (2, iV 8), (3, iV (σ.1 117 2)), (4, iV (96 + (6 * (σ.1 143 1)))), (5, iV x351)] [iV z369] _ _ _ _
                              refine wp_is2 (lv2 := [(0, .ref 117), (1, iV 1), (2, iV 8), (3, iV (σ.1 117 2)), (4, iV (96 + (6 * (σ.1 143 1)))), (5, iV x351), (6, iV z369)]) jF_235_90 rfl rfl rfl (pc2 := 92) ?_
                              have b371 := GI.b g367 117 2 kd117 (lo := 0) (hi := 1601) rfl
                              have q372 : (τ366.1 117 5) = (τ353.1 117 5) := (FR.at f368 117 5 rfl)
                              refine wp_join (α := Unit) 105 (fun a => [(0, .ref 117), (1, iV 1), (2, iV 8), (3, iV (σ.1 117 2)), (4, iV (96 + (6 * (σ.1 143 1)))), (5, iV x351), (6, iV z369)]) (fun a τ => GI τ ∧ FR Wask τ366 τ ∧ ((τ366.1 117 2) ≤ (τ.1 117 2)) ∧ ((τ366.1 117 5) ≠ 0 → (τ.1 117 5) = (τ366.1 117 5)) ∧ ((τ.1 117 5) = 0 → (τ366.1 117 5) = 0)) ?_ ?_
                              · rintro ⟨⟩ τ373 ⟨g374, f375, p376, p377, p378⟩
                                have b379 := GI.b g374 117 2 kd117 (lo := 0) (hi := 1601) rfl
                                have b380 := GI.b g374 117 5 kd117 (lo := (-2147483648)) (hi := 2147483647) rfl
                                show WP 235 105 [(0, .ref 117), (1, iV 1), (2, iV 8), (3, iV (σ.1 117 2)), (4, iV (96 + (6 * (σ.1 143 1)))), (5, iV x351), (6, iV z369)] [] _ _ _ _
                                refine wp_al1 jF_235_105 rfl rfl (pc2 := 106) ?_
                                refine wp_ic jF_235_106 rfl (pc2 := 107) ?_
                                refine wp_cV (as := [iV 0]) (rest := []) (a := 117) (mx := 6) (ci := 12) jF_235_107 kd117 (by decide) rfl rfl rfl rfl rfl (by omega) (by omega) rfl (pc2 := 110) ?_
                                refine wp_use (m_237 τ373 g374 0 (by omega) (by omega)  _ _ (by omega) (by omega)) ?_
                                rintro _ τ384 ⟨z387, rfl, h388, g385, f386, p381, p382, p383⟩
                                show WP 235 110 [(0, .ref 117), (1, iV 1), (2, iV 8), (3, iV (σ.1 117 2)), (4, iV (96 + (6 * (σ.1 143 1)))), (5, iV x351), (6, iV z369)] [iV z387] _ _ _ _
                                refine wp_is2 (lv2 := [(0, .ref 117), (1, iV 1), (2, iV 8), (3, iV (σ.1 117 2)), (4, iV (96 + (6 * (σ.1 143 1)))), (5, iV x351), (6, iV z369), (7, iV z387)]) jF_235_110 rfl rfl rfl (pc2 := 112) ?_
                                refine wp_al1 jF_235_112 rfl rfl (pc2 := 113) ?_
                                refine wp_ic jF_235_113 rfl (pc2 := 114) ?_
                                refine wp_cV (as := [iV 1]) (rest := []) (a := 117) (mx := 6) (ci := 12) jF_235_114 kd117 (by decide) rfl rfl rfl rfl rfl (by omega) (by omega) rfl (pc2 := 117) ?_
                                have b389 := GI.b g385 117 2 kd117 (lo := 0) (hi := 1601) rfl
                                have b390 := GI.b g385 117 5 kd117 (lo := (-2147483648)) (hi := 2147483647) rfl
                                refine wp_use (m_237 τ384 g385 1 (by omega) (by omega)  _ _ (by omega) (by omega)) ?_
                                rintro _ τ394 ⟨z397, rfl, h398, g395, f396, p391, p392, p393⟩
                                show WP 235 117 [(0, .ref 117), (1, iV 1), (2, iV 8), (3, iV (σ.1 117 2)), (4, iV (96 + (6 * (σ.1 143 1)))), (5, iV x351), (6, iV z369), (7, iV z387)] [iV z397] _ _ _ _
                                refine wp_is2 (lv2 := [(0, .ref 117), (1, iV 1), (2, iV 8), (3, iV (σ.1 117 2)), (4, iV (96 + (6 * (σ.1 143 1)))), (5, iV x351), (6, iV z369), (7, iV z387), (8, iV z397)]) jF_235_117 rfl rfl rfl (pc2 := 119) ?_
                                refine wp_al1 jF_235_119 rfl rfl (pc2 := 120) ?_
                                refine wp_ic jF_235_120 rfl (pc2 := 121) ?_
                                refine wp_cV (as := [iV 2]) (rest := []) (a := 117) (mx := 6) (ci := 12) jF_235_121 kd117 (by decide) rfl rfl rfl rfl rfl (by omega) (by omega) rfl (pc2 := 124) ?_
                                have b399 := GI.b g395 117 2 kd117 (lo := 0) (hi := 1601) rfl
                                have b400 := GI.b g395 117 5 kd117 (lo := (-2147483648)) (hi := 2147483647) rfl
                                refine wp_use (m_237 τ394 g395 2 (by omega) (by omega)  _ _ (by omega) (by omega)) ?_
                                rintro _ τ404 ⟨z407, rfl, h408, g405, f406, p401, p402, p403⟩
                                show WP 235 124 [(0, .ref 117), (1, iV 1), (2, iV 8), (3, iV (σ.1 117 2)), (4, iV (96 + (6 * (σ.1 143 1)))), (5, iV x351), (6, iV z369), (7, iV z387), (8, iV z397)] [iV z407] _ _ _ _
                                refine wp_is2 (lv2 := [(0, .ref 117), (1, iV 1), (2, iV 8), (3, iV (σ.1 117 2)), (4, iV (96 + (6 * (σ.1 143 1)))), (5, iV x351), (6, iV z369), (7, iV z387), (8, iV z397), (9, iV z407)]) jF_235_124 rfl rfl rfl (pc2 := 126) ?_
                                refine wp_ic jF_235_126 rfl (pc2 := 127) ?_
                                refine wp_is2 (lv2 := [(0, .ref 117), (1, iV 1), (2, iV 8), (3, iV (σ.1 117 2)), (4, iV (96 + (6 * (σ.1 143 1)))), (5, iV x351), (6, iV z369), (7, iV z387), (8, iV z397), (9, iV z407), (10, iV 0)]) jF_235_127 rfl rfl rfl (pc2 := 129) ?_
                                have b409 := GI.b g405 117 2 kd117 (lo := 0) (hi := 1601) rfl
                                have b410 := GI.b g405 117 5 kd117 (lo := (-2147483648)) (hi := 2147483647) rfl
                                refine wp_join (α := Int) 150 (fun a => [(0, .ref 117), (1, iV 1), (2, iV 8), (3, iV (σ.1 117 2)), (4, iV (96 + (6 * (σ.1 143 1)))), (5, iV x351), (6, iV z369), (7, iV z387), (8, iV z397), (9, iV z407), (10, iV (a))]) (fun a τ => ((-2147483648) ≤ a ∧ a ≤ 2147483647) ∧ GI τ ∧ FR Wask τ404 τ ∧ ((τ404.1 117 2) ≤ (τ.1 117 2)) ∧ ((τ404.1 117 5) ≠ 0 → (τ.1 117 5) = (τ404.1 117 5)) ∧ ((τ.1 117 5) = 0 → (τ404.1 117 5) = 0)) ?_ ?_
                                · rintro x411 τ413 ⟨h412, g414, f415, p416, p417, p418⟩
                                  have b419 := GI.b g414 117 2 kd117 (lo := 0) (hi := 1601) rfl
                                  have b420 := GI.b g414 117 5 kd117 (lo := (-2147483648)) (hi := 2147483647) rfl
                                  show WP 235 150 [(0, .ref 117), (1, iV 1), (2, iV 8), (3, iV (σ.1 117 2)), (4, iV (96 + (6 * (σ.1 143 1)))), (5, iV x351), (6, iV z369), (7, iV z387), (8, iV z397), (9, iV z407), (10, iV x411)] [] _ _ _ _
                                  refine wp_al1 jF_235_150 rfl rfl (pc2 := 151) ?_
                                  refine wp_gi jF_235_151 kd117 (by decide) rfl rfl rfl (pc2 := 154) ?_
                                  refine wp_z_eq jF_235_154 (m_rgb b420 rfl) rfl (pc2 := 157) ?_ ?_
                                  · intro h421
                                    replace p418 := p418 (by omega)
                                    replace p403 := p403 (by omega)
                                    clear p417
                                    replace p393 := p393 (by omega)
                                    clear p402
                                    replace p383 := p383 (by omega)
                                    clear p392
                                    replace p378 := p378 (by omega)
                                    clear p382
                                    replace p358 := p358 (by omega)
                                    clear p377
                                    replace p342 := p342 (by omega)
                                    replace p343 := p343 (by omega)
                                    clear p357
                                    refine wp_al1 jF_235_158 rfl rfl (pc2 := 159) ?_
                                    refine wp_gr (b := 142) jF_235_159 kd117 (by decide) (c := 242) rfl rfl rfl (pc2 := 162) ?_
                                    refine wp_il2 jF_235_162 rfl rfl (pc2 := 164) ?_
                                    refine wp_il2 jF_235_164 rfl rfl (pc2 := 166) ?_
                                    refine wp_iast (n := 408) jF_235_166 kd142 (by decide) rfl rfl (by omega) (by omega) rfl (pc2 := 167) g414 (lo := (-2147483648)) (hi := 2147483647) rfl (by omega) (by omega) ?_
                                    intro τ422 g423 f424 e425
                                    refine wp_al1 jF_235_167 rfl rfl (pc2 := 168) ?_
                                    refine wp_gr (b := 142) jF_235_168 kd117 (by decide) (c := 242) rfl rfl rfl (pc2 := 171) ?_
                                    refine wp_il2 jF_235_171 rfl rfl (pc2 := 173) ?_
                                    refine wp_ic jF_235_173 rfl (pc2 := 174) ?_
                                    refine wp_add jF_235_174 rfl (pc2 := 175) ?_
                                    refine wp_il2 jF_235_175 rfl rfl (pc2 := 177) ?_
                                    refine wp_iast (n := 408) jF_235_177 kd142 (by decide) rfl rfl (by omega) (by omega) rfl (pc2 := 178) g423 (lo := (-2147483648)) (hi := 2147483647) rfl (by omega) (by omega) ?_
                                    intro τ426 g427 f428 e429
                                    refine wp_al1 jF_235_178 rfl rfl (pc2 := 179) ?_
                                    refine wp_gr (b := 142) jF_235_179 kd117 (by decide) (c := 242) rfl rfl rfl (pc2 := 182) ?_
                                    refine wp_il2 jF_235_182 rfl rfl (pc2 := 184) ?_
                                    refine wp_ic jF_235_184 rfl (pc2 := 185) ?_
                                    refine wp_add jF_235_185 rfl (pc2 := 186) ?_
                                    refine wp_il2 jF_235_186 rfl rfl (pc2 := 188) ?_
                                    refine wp_iast (n := 408) jF_235_188 kd142 (by decide) rfl rfl (by omega) (by omega) rfl (pc2 := 189) g427 (lo := (-2147483648)) (hi := 2147483647) rfl (by omega) (by omega) ?_
                                    intro τ430 g431 f432 e433
                                    refine wp_al1 jF_235_189 rfl rfl (pc2 := 190) ?_
                                    refine wp_gr (b := 142) jF_235_190 kd117 (by decide) (c := 242) rfl rfl rfl (pc2 := 193) ?_
                                    refine wp_il2 jF_235_193 rfl rfl (pc2 := 195) ?_
                                    refine wp_ic jF_235_195 rfl (pc2 := 196) ?_
                                    refine wp_add jF_235_196 rfl (pc2 := 197) ?_
                                    refine wp_il2 jF_235_197 rfl rfl (pc2 := 199) ?_
                                    refine wp_z_eq jF_235_199 (m_rgb h370 rfl) rfl (pc2 := 202) ?_ ?_
                                    · intro h434
                                      clear p363
                                      refine wp_ic jF_235_206 rfl (pc2 := 207) ?_
                                      refine wp_iast (n := 408) jF_235_207 kd142 (by decide) rfl rfl (by omega) (by omega) rfl (pc2 := 208) g431 (lo := (-2147483648)) (hi := 2147483647) rfl (by omega) (by omega) ?_
                                      intro τ435 g436 f437 e438
                                      refine wp_al1 jF_235_208 rfl rfl (pc2 := 209) ?_
                                      refine wp_gr (b := 142) jF_235_209 kd117 (by decide) (c := 242) rfl rfl rfl (pc2 := 212) ?_
                                      refine wp_il2 jF_235_212 rfl rfl (pc2 := 214) ?_
                                      refine wp_ic jF_235_214 rfl (pc2 := 215) ?_
                                      refine wp_add jF_235_215 rfl (pc2 := 216) ?_
                                      refine wp_il2 jF_235_216 rfl rfl (pc2 := 218) ?_
                                      refine wp_iast (n := 408) jF_235_218 kd142 (by decide) rfl rfl (by omega) (by omega) rfl (pc2 := 219) g436 (lo := (-2147483648)) (hi := 2147483647) rfl (by omega) (by omega) ?_
                                      intro τ439 g440 f441 e442
                                      refine wp_al1 jF_235_219 rfl rfl (pc2 := 220) ?_
                                      refine wp_gr (b := 142) jF_235_220 kd117 (by decide) (c := 242) rfl rfl rfl (pc2 := 223) ?_
                                      refine wp_il2 jF_235_223 rfl rfl (pc2 := 225) ?_
                                      refine wp_ic jF_235_225 rfl (pc2 := 226) ?_
                                      refine wp_add jF_235_226 rfl (pc2 := 227) ?_
                                      refine wp_il2 jF_235_227 rfl rfl (pc2 := 229) ?_
                                      refine wp_iast (n := 408) jF_235_229 kd142 (by decide) rfl rfl (by omega) (by omega) rfl (pc2 := 230) g440 (lo := (-2147483648)) (hi := 2147483647) rfl (by omega) (by omega) ?_
                                      intro τ443 g444 f445 e446
                                      refine wp_al1 jF_235_230 rfl rfl (pc2 := 231) ?_
                                      refine wp_gr (b := 143) jF_235_231 kd117 (by decide) (c := 243) rfl rfl rfl (pc2 := 234) ?_
                                      refine wp_il1 jF_235_234 rfl rfl (pc2 := 235) ?_
                                      refine wp_du2 jF_235_235 rfl rfl (pc2 := 236) ?_
                                      refine wp_iald (n := 6) jF_235_236 kd143 (by decide) rfl rfl (by omega) (by omega) ((FRw.na f445 (by decide)).trans ((FRw.na f441 (by decide)).trans ((FRw.na f437 (by decide)).trans ((FRw.na f432 (by decide)).trans ((FRw.na f428 (by decide)).trans ((FRw.na f424 (by decide)).trans ((FR.at f415 143 1 rfl).trans ((FR.at f406 143 1 rfl).trans ((FR.at f396 143 1 rfl).trans ((FR.at f386 143 1 rfl).trans ((FR.at f375 143 1 rfl).trans ((FR.at f368 143 1 rfl).trans ((FR.at f355 143 1 rfl).trans ((FR.at f340 143 1 rfl).trans ((FR.at f138 143 1 rfl).trans ((FR.at f125 143 1 rfl).trans ((FR.at f112 143 1 rfl).trans ((FR.at f99 143 1 rfl).trans ((FR.at f86 143 1 rfl).trans ((FR.at f73 143 1 rfl).trans ((FR.at f60 143 1 rfl).trans (FR.at f47 143 1 rfl)))))))))))))))))))))) rfl (pc2 := 237) ?_
                                      refine wp_ic jF_235_237 rfl (pc2 := 238) ?_
                                      refine wp_add jF_235_238 rfl (pc2 := 239) ?_
                                      refine wp_iast (n := 6) jF_235_239 kd143 (by decide) rfl rfl (by omega) (by omega) rfl (pc2 := 240) g444 (lo := 0) (hi := 16) rfl (by omega) (by omega) ?_
                                      intro τ447 g448 f449 e450
                                      refine wp_rv jF_235_240 ?_
                                      show WP 217 185 [(0, .ref 117), (1, iV (σ.1 117 2))] [] _ _ _ _
                                      refine wp_go jF_217_185 ?_
                                      have q451 : (τ447.1 117 2) = (τ413.1 117 2) := ((FRw.na f449 (by decide)).trans ((FRw.na f445 (by decide)).trans ((FRw.na f441 (by decide)).trans ((FRw.na f437 (by decide)).trans ((FRw.na f432 (by decide)).trans ((FRw.na f428 (by decide)).trans (FRw.na f424 (by decide))))))))
                                      have q452 : (τ447.1 117 5) = (τ413.1 117 5) := ((FRw.na f449 (by decide)).trans ((FRw.na f445 (by decide)).trans ((FRw.na f441 (by decide)).trans ((FRw.na f437 (by decide)).trans ((FRw.na f432 (by decide)).trans ((FRw.na f428 (by decide)).trans (FRw.na f424 (by decide))))))))
                                      have b453 := GI.b hg 143 0 kd143 (lo := 0) (hi := 16) rfl
                                      have q454 : (τ447.1 143 0) = (σ.1 143 0) := ((FRw.nj f449 (by decide)).trans ((FRw.na f445 (by decide)).trans ((FRw.na f441 (by decide)).trans ((FRw.na f437 (by decide)).trans ((FRw.na f432 (by decide)).trans ((FRw.na f428 (by decide)).trans ((FRw.na f424 (by decide)).trans ((FR.at f415 143 0 rfl).trans ((FR.at f406 143 0 rfl).trans ((FR.at f396 143 0 rfl).trans ((FR.at f386 143 0 rfl).trans ((FR.at f375 143 0 rfl).trans ((FR.at f368 143 0 rfl).trans ((FR.at f355 143 0 rfl).trans ((FR.at f340 143 0 rfl).trans ((FR.at f138 143 0 rfl).trans ((FR.at f125 143 0 rfl).trans ((FR.at f112 143 0 rfl).trans ((FR.at f99 143 0 rfl).trans ((FR.at f86 143 0 rfl).trans ((FR.at f73 143 0 rfl).trans ((FR.at f60 143 0 rfl).trans (FR.at f47 143 0 rfl)))))))))))))))))))))))
                                      have q455 : (τ447.1 143 1) = ((σ.1 143 1) + 1) := e450
                                      have b456 := GI.b hg 143 2 kd143 (lo := 0) (hi := 16) rfl
                                      have q457 : (τ447.1 143 2) = (σ.1 143 2) := ((FRw.nj f449 (by decide)).trans ((FRw.na f445 (by decide)).trans ((FRw.na f441 (by decide)).trans ((FRw.na f437 (by decide)).trans ((FRw.na f432 (by decide)).trans ((FRw.na f428 (by decide)).trans ((FRw.na f424 (by decide)).trans ((FR.at f415 143 2 rfl).trans ((FR.at f406 143 2 rfl).trans ((FR.at f396 143 2 rfl).trans ((FR.at f386 143 2 rfl).trans ((FR.at f375 143 2 rfl).trans ((FR.at f368 143 2 rfl).trans ((FR.at f355 143 2 rfl).trans ((FR.at f340 143 2 rfl).trans ((FR.at f138 143 2 rfl).trans ((FR.at f125 143 2 rfl).trans ((FR.at f112 143 2 rfl).trans ((FR.at f99 143 2 rfl).trans ((FR.at f86 143 2 rfl).trans ((FR.at f73 143 2 rfl).trans ((FR.at f60 143 2 rfl).trans (FR.at f47 143 2 rfl)))))))))))))))))))))))
                                      exact jn39 () τ447 ⟨g448, (FR.w (FR.w (FR.w (FR.w (FR.w (FR.w (FR.w (FR.up (FR.up (FR.up (FR.up (FR.up (FR.up (FR.up (FR.up (FR.up (FR.up (FR.up (FR.up (FR.up (FR.up (FR.up (FR.up FR.rf f47 sb_Wtak_Wst0) f60 sb_Wtak_Wst0) f73 sb_Wtak_Wst0) f86 sb_Wtak_Wst0) f99 sb_Wtak_Wst0) f112 sb_Wtak_Wst0) f125 sb_Wtak_Wst0) f138 sb_Wtak_Wst0) f340 sb_Wbad_Wst0) f355 sb_Wsp_Wst0) f368 sb_Wtak_Wst0) f375 sb_Wask_Wst0) f386 sb_Wsp_Wst0) f396 sb_Wsp_Wst0) f406 sb_Wsp_Wst0) f415 sb_Wask_Wst0) f424 rfl) f428 rfl) f432 rfl) f437 rfl) f441 rfl) f445 rfl) f449 rfl), (by omega), (by omega), (by omega), (by omega), (by omega), (by omega)⟩
                                    · intro h434
                                      replace p363 := p363 (by omega)
                                      refine wp_ic jF_235_202 rfl (pc2 := 203) ?_
                                      refine wp_go jF_235_203 ?_
                                      refine wp_iast (n := 408) jF_235_207 kd142 (by decide) rfl rfl (by omega) (by omega) rfl (pc2 := 208) g431 (lo := (-2147483648)) (hi := 2147483647) rfl (by omega) (by omega) ?_
                                      intro τ458 g459 f460 e461
                                      refine wp_al1 jF_235_208 rfl rfl (pc2 := 209) ?_
                                      refine wp_gr (b := 142) jF_235_209 kd117 (by decide) (c := 242) rfl rfl rfl (pc2 := 212) ?_
                                      refine wp_il2 jF_235_212 rfl rfl (pc2 := 214) ?_
                                      refine wp_ic jF_235_214 rfl (pc2 := 215) ?_
                                      refine wp_add jF_235_215 rfl (pc2 := 216) ?_
                                      refine wp_il2 jF_235_216 rfl rfl (pc2 := 218) ?_
                                      refine wp_iast (n := 408) jF_235_218 kd142 (by decide) rfl rfl (by omega) (by omega) rfl (pc2 := 219) g459 (lo := (-2147483648)) (hi := 2147483647) rfl (by omega) (by omega) ?_
                                      intro τ462 g463 f464 e465
                                      refine wp_al1 jF_235_219 rfl rfl (pc2 := 220) ?_
                                      refine wp_gr (b := 142) jF_235_220 kd117 (by decide) (c := 242) rfl rfl rfl (pc2 := 223) ?_
                                      refine wp_il2 jF_235_223 rfl rfl (pc2 := 225) ?_
                                      refine wp_ic jF_235_225 rfl (pc2 := 226) ?_
                                      refine wp_add jF_235_226 rfl (pc2 := 227) ?_
                                      refine wp_il2 jF_235_227 rfl rfl (pc2 := 229) ?_
                                      refine wp_iast (n := 408) jF_235_229 kd142 (by decide) rfl rfl (by omega) (by omega) rfl (pc2 := 230) g463 (lo := (-2147483648)) (hi := 2147483647) rfl (by omega) (by omega) ?_
                                      intro τ466 g467 f468 e469
                                      refine wp_al1 jF_235_230 rfl rfl (pc2 := 231) ?_
                                      refine wp_gr (b := 143) jF_235_231 kd117 (by decide) (c := 243) rfl rfl rfl (pc2 := 234) ?_
                                      refine wp_il1 jF_235_234 rfl rfl (pc2 := 235) ?_
                                      refine wp_du2 jF_235_235 rfl rfl (pc2 := 236) ?_
                                      refine wp_iald (n := 6) jF_235_236 kd143 (by decide) rfl rfl (by omega) (by omega) ((FRw.na f468 (by decide)).trans ((FRw.na f464 (by decide)).trans ((FRw.na f460 (by decide)).trans ((FRw.na f432 (by decide)).trans ((FRw.na f428 (by decide)).trans ((FRw.na f424 (by decide)).trans ((FR.at f415 143 1 rfl).trans ((FR.at f406 143 1 rfl).trans ((FR.at f396 143 1 rfl).trans ((FR.at f386 143 1 rfl).trans ((FR.at f375 143 1 rfl).trans ((FR.at f368 143 1 rfl).trans ((FR.at f355 143 1 rfl).trans ((FR.at f340 143 1 rfl).trans ((FR.at f138 143 1 rfl).trans ((FR.at f125 143 1 rfl).trans ((FR.at f112 143 1 rfl).trans ((FR.at f99 143 1 rfl).trans ((FR.at f86 143 1 rfl).trans ((FR.at f73 143 1 rfl).trans ((FR.at f60 143 1 rfl).trans (FR.at f47 143 1 rfl)))))))))))))))))))))) rfl (pc2 := 237) ?_
                                      refine wp_ic jF_235_237 rfl (pc2 := 238) ?_
                                      refine wp_add jF_235_238 rfl (pc2 := 239) ?_
                                      refine wp_iast (n := 6) jF_235_239 kd143 (by decide) rfl rfl (by omega) (by omega) rfl (pc2 := 240) g467 (lo := 0) (hi := 16) rfl (by omega) (by omega) ?_
                                      intro τ470 g471 f472 e473
                                      refine wp_rv jF_235_240 ?_
                                      show WP 217 185 [(0, .ref 117), (1, iV (σ.1 117 2))] [] _ _ _ _
                                      refine wp_go jF_217_185 ?_
                                      have q474 : (τ470.1 117 2) = (τ413.1 117 2) := ((FRw.na f472 (by decide)).trans ((FRw.na f468 (by decide)).trans ((FRw.na f464 (by decide)).trans ((FRw.na f460 (by decide)).trans ((FRw.na f432 (by decide)).trans ((FRw.na f428 (by decide)).trans (FRw.na f424 (by decide))))))))
                                      have q475 : (τ470.1 117 5) = (τ413.1 117 5) := ((FRw.na f472 (by decide)).trans ((FRw.na f468 (by decide)).trans ((FRw.na f464 (by decide)).trans ((FRw.na f460 (by decide)).trans ((FRw.na f432 (by decide)).trans ((FRw.na f428 (by decide)).trans (FRw.na f424 (by decide))))))))
                                      have b476 := GI.b hg 143 0 kd143 (lo := 0) (hi := 16) rfl
                                      have q477 : (τ470.1 143 0) = (σ.1 143 0) := ((FRw.nj f472 (by decide)).trans ((FRw.na f468 (by decide)).trans ((FRw.na f464 (by decide)).trans ((FRw.na f460 (by decide)).trans ((FRw.na f432 (by decide)).trans ((FRw.na f428 (by decide)).trans ((FRw.na f424 (by decide)).trans ((FR.at f415 143 0 rfl).trans ((FR.at f406 143 0 rfl).trans ((FR.at f396 143 0 rfl).trans ((FR.at f386 143 0 rfl).trans ((FR.at f375 143 0 rfl).trans ((FR.at f368 143 0 rfl).trans ((FR.at f355 143 0 rfl).trans ((FR.at f340 143 0 rfl).trans ((FR.at f138 143 0 rfl).trans ((FR.at f125 143 0 rfl).trans ((FR.at f112 143 0 rfl).trans ((FR.at f99 143 0 rfl).trans ((FR.at f86 143 0 rfl).trans ((FR.at f73 143 0 rfl).trans ((FR.at f60 143 0 rfl).trans (FR.at f47 143 0 rfl)))))))))))))))))))))))
                                      have q478 : (τ470.1 143 1) = ((σ.1 143 1) + 1) := e473
                                      have b479 := GI.b hg 143 2 kd143 (lo := 0) (hi := 16) rfl
                                      have q480 : (τ470.1 143 2) = (σ.1 143 2) := ((FRw.nj f472 (by decide)).trans ((FRw.na f468 (by decide)).trans ((FRw.na f464 (by decide)).trans ((FRw.na f460 (by decide)).trans ((FRw.na f432 (by decide)).trans ((FRw.na f428 (by decide)).trans ((FRw.na f424 (by decide)).trans ((FR.at f415 143 2 rfl).trans ((FR.at f406 143 2 rfl).trans ((FR.at f396 143 2 rfl).trans ((FR.at f386 143 2 rfl).trans ((FR.at f375 143 2 rfl).trans ((FR.at f368 143 2 rfl).trans ((FR.at f355 143 2 rfl).trans ((FR.at f340 143 2 rfl).trans ((FR.at f138 143 2 rfl).trans ((FR.at f125 143 2 rfl).trans ((FR.at f112 143 2 rfl).trans ((FR.at f99 143 2 rfl).trans ((FR.at f86 143 2 rfl).trans ((FR.at f73 143 2 rfl).trans ((FR.at f60 143 2 rfl).trans (FR.at f47 143 2 rfl)))))))))))))))))))))))
                                      exact jn39 () τ470 ⟨g471, (FR.w (FR.w (FR.w (FR.w (FR.w (FR.w (FR.w (FR.up (FR.up (FR.up (FR.up (FR.up (FR.up (FR.up (FR.up (FR.up (FR.up (FR.up (FR.up (FR.up (FR.up (FR.up (FR.up FR.rf f47 sb_Wtak_Wst0) f60 sb_Wtak_Wst0) f73 sb_Wtak_Wst0) f86 sb_Wtak_Wst0) f99 sb_Wtak_Wst0) f112 sb_Wtak_Wst0) f125 sb_Wtak_Wst0) f138 sb_Wtak_Wst0) f340 sb_Wbad_Wst0) f355 sb_Wsp_Wst0) f368 sb_Wtak_Wst0) f375 sb_Wask_Wst0) f386 sb_Wsp_Wst0) f396 sb_Wsp_Wst0) f406 sb_Wsp_Wst0) f415 sb_Wask_Wst0) f424 rfl) f428 rfl) f432 rfl) f460 rfl) f464 rfl) f468 rfl) f472 rfl), (by omega), (by omega), (by omega), (by omega), (by omega), (by omega)⟩
                                  · intro h421
                                    clear p418
                                    refine wp_rv jF_235_157 ?_
                                    show WP 217 185 [(0, .ref 117), (1, iV (σ.1 117 2))] [] _ _ _ _
                                    refine wp_go jF_217_185 ?_
                                    have b481 := GI.b hg 143 0 kd143 (lo := 0) (hi := 16) rfl
                                    have q482 : (τ413.1 143 0) = (σ.1 143 0) := ((FR.at f415 143 0 rfl).trans ((FR.at f406 143 0 rfl).trans ((FR.at f396 143 0 rfl).trans ((FR.at f386 143 0 rfl).trans ((FR.at f375 143 0 rfl).trans ((FR.at f368 143 0 rfl).trans ((FR.at f355 143 0 rfl).trans ((FR.at f340 143 0 rfl).trans ((FR.at f138 143 0 rfl).trans ((FR.at f125 143 0 rfl).trans ((FR.at f112 143 0 rfl).trans ((FR.at f99 143 0 rfl).trans ((FR.at f86 143 0 rfl).trans ((FR.at f73 143 0 rfl).trans ((FR.at f60 143 0 rfl).trans (FR.at f47 143 0 rfl))))))))))))))))
                                    have q483 : (τ413.1 143 1) = (σ.1 143 1) := ((FR.at f415 143 1 rfl).trans ((FR.at f406 143 1 rfl).trans ((FR.at f396 143 1 rfl).trans ((FR.at f386 143 1 rfl).trans ((FR.at f375 143 1 rfl).trans ((FR.at f368 143 1 rfl).trans ((FR.at f355 143 1 rfl).trans ((FR.at f340 143 1 rfl).trans ((FR.at f138 143 1 rfl).trans ((FR.at f125 143 1 rfl).trans ((FR.at f112 143 1 rfl).trans ((FR.at f99 143 1 rfl).trans ((FR.at f86 143 1 rfl).trans ((FR.at f73 143 1 rfl).trans ((FR.at f60 143 1 rfl).trans (FR.at f47 143 1 rfl))))))))))))))))
                                    have b484 := GI.b hg 143 2 kd143 (lo := 0) (hi := 16) rfl
                                    have q485 : (τ413.1 143 2) = (σ.1 143 2) := ((FR.at f415 143 2 rfl).trans ((FR.at f406 143 2 rfl).trans ((FR.at f396 143 2 rfl).trans ((FR.at f386 143 2 rfl).trans ((FR.at f375 143 2 rfl).trans ((FR.at f368 143 2 rfl).trans ((FR.at f355 143 2 rfl).trans ((FR.at f340 143 2 rfl).trans ((FR.at f138 143 2 rfl).trans ((FR.at f125 143 2 rfl).trans ((FR.at f112 143 2 rfl).trans ((FR.at f99 143 2 rfl).trans ((FR.at f86 143 2 rfl).trans ((FR.at f73 143 2 rfl).trans ((FR.at f60 143 2 rfl).trans (FR.at f47 143 2 rfl))))))))))))))))
                                    exact jn39 () τ413 ⟨g414, (FR.up (FR.up (FR.up (FR.up (FR.up (FR.up (FR.up (FR.up (FR.up (FR.up (FR.up (FR.up (FR.up (FR.up (FR.up (FR.up FR.rf f47 sb_Wtak_Wst0) f60 sb_Wtak_Wst0) f73 sb_Wtak_Wst0) f86 sb_Wtak_Wst0) f99 sb_Wtak_Wst0) f112 sb_Wtak_Wst0) f125 sb_Wtak_Wst0) f138 sb_Wtak_Wst0) f340 sb_Wbad_Wst0) f355 sb_Wsp_Wst0) f368 sb_Wtak_Wst0) f375 sb_Wask_Wst0) f386 sb_Wsp_Wst0) f396 sb_Wsp_Wst0) f406 sb_Wsp_Wst0) f415 sb_Wask_Wst0), (by omega), (by omega), (by omega), (by omega), (by omega), (by omega)⟩
                                · intro jn486
                                  refine wp_il1 jF_235_129 rfl rfl (pc2 := 130) ?_
                                  refine wp_z_ne jF_235_130 (m_rgl rfl) rfl (pc2 := 133) ?_ ?_
                                  · intro h487
                                    exact jn486 (0) τ404 ⟨⟨by omega, by omega⟩, g405, FR.rf, (by omega), (by omega), (by omega)⟩
                                  · intro h487; exfalso; omega
                              · intro jn488
                                refine wp_il2 jF_235_92 rfl rfl (pc2 := 94) ?_
                                refine wp_z_ne jF_235_94 (m_rgb h370 rfl) rfl (pc2 := 97) ?_ ?_
                                · intro h489
                                  replace p363 := p363 (by omega)
                                  replace p358 := p358 (by omega)
                                  replace p342 := p342 (by omega)
                                  replace p343 := p343 (by omega)
                                  clear p357
                                  exact jn488 () τ366 ⟨g367, FR.rf, (by omega), (by omega), (by omega)⟩
                                · intro h489
                                  clear p363
                                  refine wp_al1 jF_235_97 rfl rfl (pc2 := 98) ?_
                                  refine wp_al1 jF_235_98 rfl rfl (pc2 := 99) ?_
                                  refine wp_gr (b := 131) jF_235_99 kd117 (by decide) (c := 231) rfl rfl rfl (pc2 := 102) ?_
                                  refine wp_cV (as := [.ref 131]) (rest := []) (a := 117) (mx := 2) (ci := 12) jF_235_102 kd117 (by decide) rfl rfl rfl rfl rfl (by omega) (by omega) rfl (pc2 := 105) ?_
                                  have q490 : (τ366.1 117 3) = (σ.1 117 3) := ((FR.at f368 117 3 rfl).trans ((FR.at f355 117 3 rfl).trans ((FR.at f340 117 3 rfl).trans ((FR.at f138 117 3 rfl).trans ((FR.at f125 117 3 rfl).trans ((FR.at f112 117 3 rfl).trans ((FR.at f99 117 3 rfl).trans ((FR.at f86 117 3 rfl).trans ((FR.at f73 117 3 rfl).trans ((FR.at f60 117 3 rfl).trans (FR.at f47 117 3 rfl)))))))))))
                                  refine wp_use (m_234 τ366 g367 131 4 cw131.1 cw131.2 (by decide)  _ _ (by omega) (by omega)) ?_
                                  rintro _ τ494 ⟨rfl, g495, f496, p491, p492, p493⟩
                                  show WP 235 105 [(0, .ref 117), (1, iV 1), (2, iV 8), (3, iV (σ.1 117 2)), (4, iV (96 + (6 * (σ.1 143 1)))), (5, iV x351), (6, iV z369)] [] _ _ _ _
                                  have b497 := GI.b g495 117 2 kd117 (lo := 0) (hi := 1601) rfl
                                  have b498 := GI.b g495 117 5 kd117 (lo := (-2147483648)) (hi := 2147483647) rfl
                                  exact jn488 () τ494 ⟨g495, f496, (by omega), (by omega), (by omega)⟩
                            · intro jn499
                              refine wp_il1 jF_235_42 rfl rfl (pc2 := 43) ?_
                              refine wp_z_ne jF_235_43 (m_rgl rfl) rfl (pc2 := 46) ?_ ?_
                              · intro h500
                                exact jn499 ((-1)) τ338 ⟨⟨by omega, by omega⟩, g339, FR.rf, (by omega), (by omega), (by omega)⟩
                              · intro h500; exfalso; omega
                        · intro h347; exfalso; omega
                      · intro jn501
                        refine wp_al1 jF_235_0 rfl rfl (pc2 := 1) ?_
                        refine wp_gi jF_235_1 kd117 (by decide) rfl ((FR.at f138 117 5 rfl).trans ((FR.at f125 117 5 rfl).trans ((FR.at f112 117 5 rfl).trans ((FR.at f99 117 5 rfl).trans ((FR.at f86 117 5 rfl).trans ((FR.at f73 117 5 rfl).trans ((FR.at f60 117 5 rfl).trans (FR.at f47 117 5 rfl)))))))) rfl (pc2 := 4) ?_
                        refine wp_z_ne jF_235_4 (m_rgb b4 rfl) rfl (pc2 := 7) ?_ ?_
                        · intro h502
                          have b503 := GI.b hg 143 1 kd143 (lo := 0) (hi := 16) rfl
                          have q504 : (τ136.1 143 1) = (σ.1 143 1) := ((FR.at f138 143 1 rfl).trans ((FR.at f125 143 1 rfl).trans ((FR.at f112 143 1 rfl).trans ((FR.at f99 143 1 rfl).trans ((FR.at f86 143 1 rfl).trans ((FR.at f73 143 1 rfl).trans ((FR.at f60 143 1 rfl).trans (FR.at f47 143 1 rfl))))))))
                          exact jn501 () τ136 ⟨g137, FR.rf, (by omega), (by omega), (by omega)⟩
                        · intro h502
                          refine wp_al1 jF_235_7 rfl rfl (pc2 := 8) ?_
                          refine wp_gr (b := 143) jF_235_8 kd117 (by decide) (c := 243) rfl rfl rfl (pc2 := 11) ?_
                          refine wp_il1 jF_235_11 rfl rfl (pc2 := 12) ?_
                          have b505 := GI.b hg 143 1 kd143 (lo := 0) (hi := 16) rfl
                          refine wp_iald (n := 6) jF_235_12 kd143 (by decide) rfl rfl (by omega) (by omega) ((FR.at f138 143 1 rfl).trans ((FR.at f125 143 1 rfl).trans ((FR.at f112 143 1 rfl).trans ((FR.at f99 143 1 rfl).trans ((FR.at f86 143 1 rfl).trans ((FR.at f73 143 1 rfl).trans ((FR.at f60 143 1 rfl).trans (FR.at f47 143 1 rfl)))))))) rfl (pc2 := 13) ?_
                          refine wp_il1 jF_235_13 rfl rfl (pc2 := 14) ?_
                          refine wp_i_ne jF_235_14 (m_rgb b505 rfl) (m_rgl rfl) rfl (pc2 := 17) ?_ ?_
                          · intro h506
                            have q507 : (τ136.1 143 1) = (σ.1 143 1) := ((FR.at f138 143 1 rfl).trans ((FR.at f125 143 1 rfl).trans ((FR.at f112 143 1 rfl).trans ((FR.at f99 143 1 rfl).trans ((FR.at f86 143 1 rfl).trans ((FR.at f73 143 1 rfl).trans ((FR.at f60 143 1 rfl).trans (FR.at f47 143 1 rfl))))))))
                            exact jn501 () τ136 ⟨g137, FR.rf, (by omega), (by omega), (by omega)⟩
                          · intro h506
                            refine wp_al1 jF_235_17 rfl rfl (pc2 := 18) ?_
                            refine wp_ic jF_235_18 rfl (pc2 := 19) ?_
                            refine wp_il1 jF_235_19 rfl rfl (pc2 := 20) ?_
                            refine wp_cV (as := [iV 5, iV (σ.1 117 2)]) (rest := []) (a := 117) (mx := 3) (ci := 12) jF_235_20 kd117 (by decide) rfl rfl rfl rfl rfl (by omega) (by omega) rfl (pc2 := 23) ?_
                            refine wp_use (m_218 τ136 g137 5 (by omega) (by omega) (σ.1 117 2) (by omega) (by omega)  _ _ (by omega) (by omega)) ?_
                            rintro _ τ510 ⟨rfl, g511, f512, p508, p509⟩
                            clear p508
                            replace p509 := p509 (by omega)
                            show WP 235 23 [(0, .ref 117), (1, iV 1), (2, iV 8), (3, iV (σ.1 117 2))] [] _ _ _ _
                            have b513 := GI.b g511 117 5 kd117 (lo := (-2147483648)) (hi := 2147483647) rfl
                            have q514 : (τ510.1 143 1) = (σ.1 143 1) := ((FR.at f512 143 1 rfl).trans ((FR.at f138 143 1 rfl).trans ((FR.at f125 143 1 rfl).trans ((FR.at f112 143 1 rfl).trans ((FR.at f99 143 1 rfl).trans ((FR.at f86 143 1 rfl).trans ((FR.at f73 143 1 rfl).trans ((FR.at f60 143 1 rfl).trans (FR.at f47 143 1 rfl)))))))))
                            exact jn501 () τ510 ⟨g511, f512, (by omega), (by omega), (by omega)⟩
                  · intro h128
                    replace p120 := p120 (by omega)
                    refine wp_al1 jF_217_155 rfl rfl (pc2 := 156) ?_
                    refine wp_ic jF_217_156 rfl (pc2 := 157) ?_
                    refine wp_bi jF_217_157 (by decide) rfl (pc2 := 159) ?_
                    refine wp_il1 jF_217_159 rfl rfl (pc2 := 160) ?_
                    refine wp_cV (as := [iV 0, iV 16, iV (σ.1 117 2)]) (rest := []) (a := 117) (mx := 11) (ci := 12) jF_217_160 kd117 (by decide) rfl rfl rfl rfl rfl (by omega) (by omega) rfl (pc2 := 163) ?_
                    show WP 235 0 [(0, .ref 117), (1, iV 0), (2, iV 16), (3, iV (σ.1 117 2))] [] _ _ _ _
                    have q515 : (τ123.1 117 5) = (σ.1 117 5) := ((FR.at f125 117 5 rfl).trans ((FR.at f112 117 5 rfl).trans ((FR.at f99 117 5 rfl).trans ((FR.at f86 117 5 rfl).trans ((FR.at f73 117 5 rfl).trans ((FR.at f60 117 5 rfl).trans (FR.at f47 117 5 rfl)))))))
                    refine wp_join (α := Unit) 23 (fun a => [(0, .ref 117), (1, iV 0), (2, iV 16), (3, iV (σ.1 117 2))]) (fun a τ => GI τ ∧ FR Wbad τ123 τ ∧ ((τ123.1 117 5) ≠ 0 → (τ.1 117 5) = (τ123.1 117 5)) ∧ ((τ.1 117 5) = 0 → (τ123.1 117 5) = 0) ∧ ((τ.1 117 5) = 0 → (τ.1 143 0) ≠ 16)) ?_ ?_
                    · rintro ⟨⟩ τ516 ⟨g517, f518, p519, p520, p521⟩
                      have b522 := GI.b g517 117 5 kd117 (lo := (-2147483648)) (hi := 2147483647) rfl
                      have b523 := GI.b hg 143 0 kd143 (lo := 0) (hi := 16) rfl
                      have q524 : (τ516.1 143 0) = (σ.1 143 0) := ((FR.at f518 143 0 rfl).trans ((FR.at f125 143 0 rfl).trans ((FR.at f112 143 0 rfl).trans ((FR.at f99 143 0 rfl).trans ((FR.at f86 143 0 rfl).trans ((FR.at f73 143 0 rfl).trans ((FR.at f60 143 0 rfl).trans (FR.at f47 143 0 rfl))))))))
                      clear p519
                      show WP 235 23 [(0, .ref 117), (1, iV 0), (2, iV 16), (3, iV (σ.1 117 2))] [] _ _ _ _
                      refine wp_il1 jF_235_23 rfl rfl (pc2 := 24) ?_
                      refine wp_cS (as := [iV 0]) (rest := []) (mx := 1) jF_235_24 rfl rfl rfl rfl (by omega) (by omega) rfl (pc2 := 27) ?_
                      show WP 236 0 [(0, iV 0)] [] _ _ _ _
                      refine wp_il1 jF_236_0 rfl rfl (pc2 := 1) ?_
                      refine wp_z_ne jF_236_1 (m_rgl rfl) rfl (pc2 := 4) ?_ ?_
                      · intro h525; exfalso; omega
                      · intro h525
                        refine wp_ic jF_236_4 rfl (pc2 := 5) ?_
                        refine wp_go jF_236_5 ?_
                        refine wp_ri jF_236_21 rfl ?_
                        show WP 235 27 [(0, .ref 117), (1, iV 0), (2, iV 16), (3, iV (σ.1 117 2))] [iV 0] _ _ _ _
                        refine wp_bi jF_235_27 (by decide) rfl (pc2 := 29) ?_
                        refine wp_al1 jF_235_29 rfl rfl (pc2 := 30) ?_
                        refine wp_gr (b := 143) jF_235_30 kd117 (by decide) (c := 243) rfl rfl rfl (pc2 := 33) ?_
                        refine wp_il1 jF_235_33 rfl rfl (pc2 := 34) ?_
                        refine wp_iald (n := 6) jF_235_34 kd143 (by decide) rfl rfl (by omega) (by omega) ((FR.at f518 143 0 rfl).trans ((FR.at f125 143 0 rfl).trans ((FR.at f112 143 0 rfl).trans ((FR.at f99 143 0 rfl).trans ((FR.at f86 143 0 rfl).trans ((FR.at f73 143 0 rfl).trans ((FR.at f60 143 0 rfl).trans (FR.at f47 143 0 rfl)))))))) rfl (pc2 := 35) ?_
                        refine wp_mul jF_235_35 rfl (pc2 := 36) ?_
                        refine wp_add jF_235_36 rfl (pc2 := 37) ?_
                        refine wp_is2 (lv2 := [(0, .ref 117), (1, iV 0), (2, iV 16), (3, iV (σ.1 117 2)), (4, iV (0 + (6 * (σ.1 143 0))))]) jF_235_37 rfl rfl rfl (pc2 := 39) ?_
                        refine wp_ic jF_235_39 rfl (pc2 := 40) ?_
                        refine wp_is2 (lv2 := [(0, .ref 117), (1, iV 0), (2, iV 16), (3, iV (σ.1 117 2)), (4, iV (0 + (6 * (σ.1 143 0)))), (5, iV (-1))]) jF_235_40 rfl rfl rfl (pc2 := 42) ?_
                        have b526 := GI.b g124 117 2 kd117 (lo := 0) (hi := 1601) rfl
                        have q527 : (τ516.1 117 2) = (τ123.1 117 2) := (FR.at f518 117 2 rfl)
                        refine wp_join (α := Int) 82 (fun a => [(0, .ref 117), (1, iV 0), (2, iV 16), (3, iV (σ.1 117 2)), (4, iV (0 + (6 * (σ.1 143 0)))), (5, iV (a))]) (fun a τ => ((-1) ≤ a ∧ a ≤ 5) ∧ GI τ ∧ FR Wsp τ516 τ ∧ ((τ516.1 117 2) ≤ (τ.1 117 2)) ∧ ((τ516.1 117 5) ≠ 0 → (τ.1 117 5) = (τ516.1 117 5)) ∧ ((τ.1 117 5) = 0 → (τ516.1 117 5) = 0)) ?_ ?_
                        · rintro x528 τ530 ⟨h529, g531, f532, p533, p534, p535⟩
                          have b536 := GI.b g531 117 2 kd117 (lo := 0) (hi := 1601) rfl
                          have b537 := GI.b g531 117 5 kd117 (lo := (-2147483648)) (hi := 2147483647) rfl
                          show WP 235 82 [(0, .ref 117), (1, iV 0), (2, iV 16), (3, iV (σ.1 117 2)), (4, iV (0 + (6 * (σ.1 143 0)))), (5, iV x528)] [] _ _ _ _
                          refine wp_al1 jF_235_82 rfl rfl (pc2 := 83) ?_
                          refine wp_al1 jF_235_83 rfl rfl (pc2 := 84) ?_
                          refine wp_gr (b := 130) jF_235_84 kd117 (by decide) (c := 230) rfl rfl rfl (pc2 := 87) ?_
                          refine wp_cV (as := [.ref 130]) (rest := []) (a := 117) (mx := 2) (ci := 12) jF_235_87 kd117 (by decide) rfl rfl rfl rfl rfl (by omega) (by omega) rfl (pc2 := 90) ?_
                          have q538 : (τ530.1 117 3) = (σ.1 117 3) := ((FR.at f532 117 3 rfl).trans ((FR.at f518 117 3 rfl).trans ((FR.at f125 117 3 rfl).trans ((FR.at f112 117 3 rfl).trans ((FR.at f99 117 3 rfl).trans ((FR.at f86 117 3 rfl).trans ((FR.at f73 117 3 rfl).trans ((FR.at f60 117 3 rfl).trans (FR.at f47 117 3 rfl)))))))))
                          refine wp_use (m_219 τ530 g531 130 6 cw130.1 cw130.2 (by decide)  _ _ (by omega) (by omega)) ?_
                          rintro _ τ543 ⟨z546, rfl, h547, g544, f545, p539, p540, p541, p542⟩
                          show WP 235 90 [(0, .ref 117), (1, iV 0), (2, iV 16), (3, iV (σ.1 117 2)), (4, iV (0 + (6 * (σ.1 143 0)))), (5, iV x528)] [iV z546] _ _ _ _
                          refine wp_is2 (lv2 := [(0, .ref 117), (1, iV 0), (2, iV 16), (3, iV (σ.1 117 2)), (4, iV (0 + (6 * (σ.1 143 0)))), (5, iV x528), (6, iV z546)]) jF_235_90 rfl rfl rfl (pc2 := 92) ?_
                          have b548 := GI.b g544 117 2 kd117 (lo := 0) (hi := 1601) rfl
                          have q549 : (τ543.1 117 5) = (τ530.1 117 5) := (FR.at f545 117 5 rfl)
                          refine wp_join (α := Unit) 105 (fun a => [(0, .ref 117), (1, iV 0), (2, iV 16), (3, iV (σ.1 117 2)), (4, iV (0 + (6 * (σ.1 143 0)))), (5, iV x528), (6, iV z546)]) (fun a τ => GI τ ∧ FR Wask τ543 τ ∧ ((τ543.1 117 2) ≤ (τ.1 117 2)) ∧ ((τ543.1 117 5) ≠ 0 → (τ.1 117 5) = (τ543.1 117 5)) ∧ ((τ.1 117 5) = 0 → (τ543.1 117 5) = 0)) ?_ ?_
                          · rintro ⟨⟩ τ550 ⟨g551, f552, p553, p554, p555⟩
                            have b556 := GI.b g551 117 2 kd117 (lo := 0) (hi := 1601) rfl
                            have b557 := GI.b g551 117 5 kd117 (lo := (-2147483648)) (hi := 2147483647) rfl
                            show WP 235 105 [(0, .ref 117), (1, iV 0), (2, iV 16), (3, iV (σ.1 117 2)), (4, iV (0 + (6 * (σ.1 143 0)))), (5, iV x528), (6, iV z546)] [] _ _ _ _
                            refine wp_al1 jF_235_105 rfl rfl (pc2 := 106) ?_
                            refine wp_ic jF_235_106 rfl (pc2 := 107) ?_
                            refine wp_cV (as := [iV 0]) (rest := []) (a := 117) (mx := 6) (ci := 12) jF_235_107 kd117 (by decide) rfl rfl rfl rfl rfl (by omega) (by omega) rfl (pc2 := 110) ?_
                            refine wp_use (m_237 τ550 g551 0 (by omega) (by omega)  _ _ (by omega) (by omega)) ?_
                            rintro _ τ561 ⟨z564, rfl, h565, g562, f563, p558, p559, p560⟩
                            show WP 235 110 [(0, .ref 117), (1, iV 0), (2, iV 16), (3, iV (σ.1 117 2)), (4, iV (0 + (6 * (σ.1 143 0)))), (5, iV x528), (6, iV z546)] [iV z564] _ _ _ _
                            refine wp_is2 (lv2 := [(0, .ref 117), (1, iV 0), (2, iV 16), (3, iV (σ.1 117 2)), (4, iV (0 + (6 * (σ.1 143 0)))), (5, iV x528), (6, iV z546), (7, iV z564)]) jF_235_110 rfl rfl rfl (pc2 := 112) ?_
                            refine wp_al1 jF_235_112 rfl rfl (pc2 := 113) ?_
                            refine wp_ic jF_235_113 rfl (pc2 := 114) ?_
                            refine wp_cV (as := [iV 1]) (rest := []) (a := 117) (mx := 6) (ci := 12) jF_235_114 kd117 (by decide) rfl rfl rfl rfl rfl (by omega) (by omega) rfl (pc2 := 117) ?_
                            have b566 := GI.b g562 117 2 kd117 (lo := 0) (hi := 1601) rfl
                            have b567 := GI.b g562 117 5 kd117 (lo := (-2147483648)) (hi := 2147483647) rfl
                            refine wp_use (m_237 τ561 g562 1 (by omega) (by omega)  _ _ (by omega) (by omega)) ?_
                            rintro _ τ571 ⟨z574, rfl, h575, g572, f573, p568, p569, p570⟩
                            show WP 235 117 [(0, .ref 117), (1, iV 0), (2, iV 16), (3, iV (σ.1 117 2)), (4, iV (0 + (6 * (σ.1 143 0)))), (5, iV x528), (6, iV z546), (7, iV z564)] [iV z574] _ _ _ _
                            refine wp_is2 (lv2 := [(0, .ref 117), (1, iV 0), (2, iV 16), (3, iV (σ.1 117 2)), (4, iV (0 + (6 * (σ.1 143 0)))), (5, iV x528), (6, iV z546), (7, iV z564), (8, iV z574)]) jF_235_117 rfl rfl rfl (pc2 := 119) ?_
                            refine wp_al1 jF_235_119 rfl rfl (pc2 := 120) ?_
                            refine wp_ic jF_235_120 rfl (pc2 := 121) ?_
                            refine wp_cV (as := [iV 2]) (rest := []) (a := 117) (mx := 6) (ci := 12) jF_235_121 kd117 (by decide) rfl rfl rfl rfl rfl (by omega) (by omega) rfl (pc2 := 124) ?_
                            have b576 := GI.b g572 117 2 kd117 (lo := 0) (hi := 1601) rfl
                            have b577 := GI.b g572 117 5 kd117 (lo := (-2147483648)) (hi := 2147483647) rfl
                            refine wp_use (m_237 τ571 g572 2 (by omega) (by omega)  _ _ (by omega) (by omega)) ?_
                            rintro _ τ581 ⟨z584, rfl, h585, g582, f583, p578, p579, p580⟩
                            show WP 235 124 [(0, .ref 117), (1, iV 0), (2, iV 16), (3, iV (σ.1 117 2)), (4, iV (0 + (6 * (σ.1 143 0)))), (5, iV x528), (6, iV z546), (7, iV z564), (8, iV z574)] [iV z584] _ _ _ _
                            refine wp_is2 (lv2 := [(0, .ref 117), (1, iV 0), (2, iV 16), (3, iV (σ.1 117 2)), (4, iV (0 + (6 * (σ.1 143 0)))), (5, iV x528), (6, iV z546), (7, iV z564), (8, iV z574), (9, iV z584)]) jF_235_124 rfl rfl rfl (pc2 := 126) ?_
                            refine wp_ic jF_235_126 rfl (pc2 := 127) ?_
                            refine wp_is2 (lv2 := [(0, .ref 117), (1, iV 0), (2, iV 16), (3, iV (σ.1 117 2)), (4, iV (0 + (6 * (σ.1 143 0)))), (5, iV x528), (6, iV z546), (7, iV z564), (8, iV z574), (9, iV z584), (10, iV 0)]) jF_235_127 rfl rfl rfl (pc2 := 129) ?_
                            have b586 := GI.b g582 117 2 kd117 (lo := 0) (hi := 1601) rfl
                            have b587 := GI.b g582 117 5 kd117 (lo := (-2147483648)) (hi := 2147483647) rfl
                            refine wp_join (α := Int) 150 (fun a => [(0, .ref 117), (1, iV 0), (2, iV 16), (3, iV (σ.1 117 2)), (4, iV (0 + (6 * (σ.1 143 0)))), (5, iV x528), (6, iV z546), (7, iV z564), (8, iV z574), (9, iV z584), (10, iV (a))]) (fun a τ => ((-2147483648) ≤ a ∧ a ≤ 2147483647) ∧ GI τ ∧ FR Wask τ581 τ ∧ ((τ581.1 117 2) ≤ (τ.1 117 2)) ∧ ((τ581.1 117 5) ≠ 0 → (τ.1 117 5) = (τ581.1 117 5)) ∧ ((τ.1 117 5) = 0 → (τ581.1 117 5) = 0)) ?_ ?_
                            · rintro x588 τ590 ⟨h589, g591, f592, p593, p594, p595⟩
                              have b596 := GI.b g591 117 2 kd117 (lo := 0) (hi := 1601) rfl
                              have b597 := GI.b g591 117 5 kd117 (lo := (-2147483648)) (hi := 2147483647) rfl
                              show WP 235 150 [(0, .ref 117), (1, iV 0), (2, iV 16), (3, iV (σ.1 117 2)), (4, iV (0 + (6 * (σ.1 143 0)))), (5, iV x528), (6, iV z546), (7, iV z564), (8, iV z574), (9, iV z584), (10, iV x588)] [] _ _ _ _
                              refine wp_al1 jF_235_150 rfl rfl (pc2 := 151) ?_
                              refine wp_gi jF_235_151 kd117 (by decide) rfl rfl rfl (pc2 := 154) ?_
                              refine wp_z_eq jF_235_154 (m_rgb b597 rfl) rfl (pc2 := 157) ?_ ?_
                              · intro h598
                                replace p595 := p595 (by omega)
                                replace p580 := p580 (by omega)
                                clear p594
                                replace p570 := p570 (by omega)
                                clear p579
                                replace p560 := p560 (by omega)
                                clear p569
                                replace p555 := p555 (by omega)
                                clear p559
                                replace p535 := p535 (by omega)
                                clear p554
                                replace p520 := p520 (by omega)
                                replace p521 := p521 (by omega)
                                clear p534
                                refine wp_al1 jF_235_158 rfl rfl (pc2 := 159) ?_
                                refine wp_gr (b := 142) jF_235_159 kd117 (by decide) (c := 242) rfl rfl rfl (pc2 := 162) ?_
                                refine wp_il2 jF_235_162 rfl rfl (pc2 := 164) ?_
                                refine wp_il2 jF_235_164 rfl rfl (pc2 := 166) ?_
                                refine wp_iast (n := 408) jF_235_166 kd142 (by decide) rfl rfl (by omega) (by omega) rfl (pc2 := 167) g591 (lo := (-2147483648)) (hi := 2147483647) rfl (by omega) (by omega) ?_
                                intro τ599 g600 f601 e602
                                refine wp_al1 jF_235_167 rfl rfl (pc2 := 168) ?_
                                refine wp_gr (b := 142) jF_235_168 kd117 (by decide) (c := 242) rfl rfl rfl (pc2 := 171) ?_
                                refine wp_il2 jF_235_171 rfl rfl (pc2 := 173) ?_
                                refine wp_ic jF_235_173 rfl (pc2 := 174) ?_
                                refine wp_add jF_235_174 rfl (pc2 := 175) ?_
                                refine wp_il2 jF_235_175 rfl rfl (pc2 := 177) ?_
                                refine wp_iast (n := 408) jF_235_177 kd142 (by decide) rfl rfl (by omega) (by omega) rfl (pc2 := 178) g600 (lo := (-2147483648)) (hi := 2147483647) rfl (by omega) (by omega) ?_
                                intro τ603 g604 f605 e606
                                refine wp_al1 jF_235_178 rfl rfl (pc2 := 179) ?_
                                refine wp_gr (b := 142) jF_235_179 kd117 (by decide) (c := 242) rfl rfl rfl (pc2 := 182) ?_
                                refine wp_il2 jF_235_182 rfl rfl (pc2 := 184) ?_
                                refine wp_ic jF_235_184 rfl (pc2 := 185) ?_
                                refine wp_add jF_235_185 rfl (pc2 := 186) ?_
                                refine wp_il2 jF_235_186 rfl rfl (pc2 := 188) ?_
                                refine wp_iast (n := 408) jF_235_188 kd142 (by decide) rfl rfl (by omega) (by omega) rfl (pc2 := 189) g604 (lo := (-2147483648)) (hi := 2147483647) rfl (by omega) (by omega) ?_
                                intro τ607 g608 f609 e610
                                refine wp_al1 jF_235_189 rfl rfl (pc2 := 190) ?_
                                refine wp_gr (b := 142) jF_235_190 kd117 (by decide) (c := 242) rfl rfl rfl (pc2 := 193) ?_
                                refine wp_il2 jF_235_193 rfl rfl (pc2 := 195) ?_
                                refine wp_ic jF_235_195 rfl (pc2 := 196) ?_
                                refine wp_add jF_235_196 rfl (pc2 := 197) ?_
                                refine wp_il2 jF_235_197 rfl rfl (pc2 := 199) ?_
                                refine wp_z_eq jF_235_199 (m_rgb h547 rfl) rfl (pc2 := 202) ?_ ?_
                                · intro h611
                                  clear p540
                                  refine wp_ic jF_235_206 rfl (pc2 := 207) ?_
                                  refine wp_iast (n := 408) jF_235_207 kd142 (by decide) rfl rfl (by omega) (by omega) rfl (pc2 := 208) g608 (lo := (-2147483648)) (hi := 2147483647) rfl (by omega) (by omega) ?_
                                  intro τ612 g613 f614 e615
                                  refine wp_al1 jF_235_208 rfl rfl (pc2 := 209) ?_
                                  refine wp_gr (b := 142) jF_235_209 kd117 (by decide) (c := 242) rfl rfl rfl (pc2 := 212) ?_
                                  refine wp_il2 jF_235_212 rfl rfl (pc2 := 214) ?_
                                  refine wp_ic jF_235_214 rfl (pc2 := 215) ?_
                                  refine wp_add jF_235_215 rfl (pc2 := 216) ?_
                                  refine wp_il2 jF_235_216 rfl rfl (pc2 := 218) ?_
                                  refine wp_iast (n := 408) jF_235_218 kd142 (by decide) rfl rfl (by omega) (by omega) rfl (pc2 := 219) g613 (lo := (-2147483648)) (hi := 2147483647) rfl (by omega) (by omega) ?_
                                  intro τ616 g617 f618 e619
                                  refine wp_al1 jF_235_219 rfl rfl (pc2 := 220) ?_
                                  refine wp_gr (b := 142) jF_235_220 kd117 (by decide) (c := 242) rfl rfl rfl (pc2 := 223) ?_
                                  refine wp_il2 jF_235_223 rfl rfl (pc2 := 225) ?_
                                  refine wp_ic jF_235_225 rfl (pc2 := 226) ?_
                                  refine wp_add jF_235_226 rfl (pc2 := 227) ?_
                                  refine wp_il2 jF_235_227 rfl rfl (pc2 := 229) ?_
                                  refine wp_iast (n := 408) jF_235_229 kd142 (by decide) rfl rfl (by omega) (by omega) rfl (pc2 := 230) g617 (lo := (-2147483648)) (hi := 2147483647) rfl (by omega) (by omega) ?_
                                  intro τ620 g621 f622 e623
                                  refine wp_al1 jF_235_230 rfl rfl (pc2 := 231) ?_
                                  refine wp_gr (b := 143) jF_235_231 kd117 (by decide) (c := 243) rfl rfl rfl (pc2 := 234) ?_
                                  refine wp_il1 jF_235_234 rfl rfl (pc2 := 235) ?_
                                  refine wp_du2 jF_235_235 rfl rfl (pc2 := 236) ?_
                                  refine wp_iald (n := 6) jF_235_236 kd143 (by decide) rfl rfl (by omega) (by omega) ((FRw.na f622 (by decide)).trans ((FRw.na f618 (by decide)).trans ((FRw.na f614 (by decide)).trans ((FRw.na f609 (by decide)).trans ((FRw.na f605 (by decide)).trans ((FRw.na f601 (by decide)).trans ((FR.at f592 143 0 rfl).trans ((FR.at f583 143 0 rfl).trans ((FR.at f573 143 0 rfl).trans ((FR.at f563 143 0 rfl).trans ((FR.at f552 143 0 rfl).trans ((FR.at f545 143 0 rfl).trans ((FR.at f532 143 0 rfl).trans ((FR.at f518 143 0 rfl).trans ((FR.at f125 143 0 rfl).trans ((FR.at f112 143 0 rfl).trans ((FR.at f99 143 0 rfl).trans ((FR.at f86 143 0 rfl).trans ((FR.at f73 143 0 rfl).trans ((FR.at f60 143 0 rfl).trans (FR.at f47 143 0 rfl))))))))))))))))))))) rfl (pc2 := 237) ?_
                                  refine wp_ic jF_235_237 rfl (pc2 := 238) ?_
                                  refine wp_add jF_235_238 rfl (pc2 := 239) ?_
                                  refine wp_iast (n := 6) jF_235_239 kd143 (by decide) rfl rfl (by omega) (by omega) rfl (pc2 := 240) g621 (lo := 0) (hi := 16) rfl (by omega) (by omega) ?_
                                  intro τ624 g625 f626 e627
                                  refine wp_rv jF_235_240 ?_
                                  show WP 217 163 [(0, .ref 117), (1, iV (σ.1 117 2))] [] _ _ _ _
                                  refine wp_go jF_217_163 ?_
                                  have q628 : (τ624.1 117 2) = (τ590.1 117 2) := ((FRw.na f626 (by decide)).trans ((FRw.na f622 (by decide)).trans ((FRw.na f618 (by decide)).trans ((FRw.na f614 (by decide)).trans ((FRw.na f609 (by decide)).trans ((FRw.na f605 (by decide)).trans (FRw.na f601 (by decide))))))))
                                  have q629 : (τ624.1 117 5) = (τ590.1 117 5) := ((FRw.na f626 (by decide)).trans ((FRw.na f622 (by decide)).trans ((FRw.na f618 (by decide)).trans ((FRw.na f614 (by decide)).trans ((FRw.na f609 (by decide)).trans ((FRw.na f605 (by decide)).trans (FRw.na f601 (by decide))))))))
                                  have q630 : (τ624.1 143 0) = ((σ.1 143 0) + 1) := e627
                                  have b631 := GI.b hg 143 1 kd143 (lo := 0) (hi := 16) rfl
                                  have q632 : (τ624.1 143 1) = (σ.1 143 1) := ((FRw.nj f626 (by decide)).trans ((FRw.na f622 (by decide)).trans ((FRw.na f618 (by decide)).trans ((FRw.na f614 (by decide)).trans ((FRw.na f609 (by decide)).trans ((FRw.na f605 (by decide)).trans ((FRw.na f601 (by decide)).trans ((FR.at f592 143 1 rfl).trans ((FR.at f583 143 1 rfl).trans ((FR.at f573 143 1 rfl).trans ((FR.at f563 143 1 rfl).trans ((FR.at f552 143 1 rfl).trans ((FR.at f545 143 1 rfl).trans ((FR.at f532 143 1 rfl).trans ((FR.at f518 143 1 rfl).trans ((FR.at f125 143 1 rfl).trans ((FR.at f112 143 1 rfl).trans ((FR.at f99 143 1 rfl).trans ((FR.at f86 143 1 rfl).trans ((FR.at f73 143 1 rfl).trans ((FR.at f60 143 1 rfl).trans (FR.at f47 143 1 rfl))))))))))))))))))))))
                                  have b633 := GI.b hg 143 2 kd143 (lo := 0) (hi := 16) rfl
                                  have q634 : (τ624.1 143 2) = (σ.1 143 2) := ((FRw.nj f626 (by decide)).trans ((FRw.na f622 (by decide)).trans ((FRw.na f618 (by decide)).trans ((FRw.na f614 (by decide)).trans ((FRw.na f609 (by decide)).trans ((FRw.na f605 (by decide)).trans ((FRw.na f601 (by decide)).trans ((FR.at f592 143 2 rfl).trans ((FR.at f583 143 2 rfl).trans ((FR.at f573 143 2 rfl).trans ((FR.at f563 143 2 rfl).trans ((FR.at f552 143 2 rfl).trans ((FR.at f545 143 2 rfl).trans ((FR.at f532 143 2 rfl).trans ((FR.at f518 143 2 rfl).trans ((FR.at f125 143 2 rfl).trans ((FR.at f112 143 2 rfl).trans ((FR.at f99 143 2 rfl).trans ((FR.at f86 143 2 rfl).trans ((FR.at f73 143 2 rfl).trans ((FR.at f60 143 2 rfl).trans (FR.at f47 143 2 rfl))))))))))))))))))))))
                                  exact jn39 () τ624 ⟨g625, (FR.w (FR.w (FR.w (FR.w (FR.w (FR.w (FR.w (FR.up (FR.up (FR.up (FR.up (FR.up (FR.up (FR.up (FR.up (FR.up (FR.up (FR.up (FR.up (FR.up (FR.up (FR.up FR.rf f47 sb_Wtak_Wst0) f60 sb_Wtak_Wst0) f73 sb_Wtak_Wst0) f86 sb_Wtak_Wst0) f99 sb_Wtak_Wst0) f112 sb_Wtak_Wst0) f125 sb_Wtak_Wst0) f518 sb_Wbad_Wst0) f532 sb_Wsp_Wst0) f545 sb_Wtak_Wst0) f552 sb_Wask_Wst0) f563 sb_Wsp_Wst0) f573 sb_Wsp_Wst0) f583 sb_Wsp_Wst0) f592 sb_Wask_Wst0) f601 rfl) f605 rfl) f609 rfl) f614 rfl) f618 rfl) f622 rfl) f626 rfl), (by omega), (by omega), (by omega), (by omega), (by omega), (by omega)⟩
                                · intro h611
                                  replace p540 := p540 (by omega)
                                  refine wp_ic jF_235_202 rfl (pc2 := 203) ?_
                                  refine wp_go jF_235_203 ?_
                                  refine wp_iast (n := 408) jF_235_207 kd142 (by decide) rfl rfl (by omega) (by omega) rfl (pc2 := 208) g608 (lo := (-2147483648)) (hi := 2147483647) rfl (by omega) (by omega) ?_
                                  intro τ635 g636 f637 e638
                                  refine wp_al1 jF_235_208 rfl rfl (pc2 := 209) ?_
                                  refine wp_gr (b := 142) jF_235_209 kd117 (by decide) (c := 242) rfl rfl rfl (pc2 := 212) ?_
                                  refine wp_il2 jF_235_212 rfl rfl (pc2 := 214) ?_
                                  refine wp_ic jF_235_214 rfl (pc2 := 215) ?_
                                  refine wp_add jF_235_215 rfl (pc2 := 216) ?_
                                  refine wp_il2 jF_235_216 rfl rfl (pc2 := 218) ?_
                                  refine wp_iast (n := 408) jF_235_218 kd142 (by decide) rfl rfl (by omega) (by omega) rfl (pc2 := 219) g636 (lo := (-2147483648)) (hi := 2147483647) rfl (by omega) (by omega) ?_
                                  intro τ639 g640 f641 e642
                                  refine wp_al1 jF_235_219 rfl rfl (pc2 := 220) ?_
                                  refine wp_gr (b := 142) jF_235_220 kd117 (by decide) (c := 242) rfl rfl rfl (pc2 := 223) ?_
                                  refine wp_il2 jF_235_223 rfl rfl (pc2 := 225) ?_
                                  refine wp_ic jF_235_225 rfl (pc2 := 226) ?_
                                  refine wp_add jF_235_226 rfl (pc2 := 227) ?_
                                  refine wp_il2 jF_235_227 rfl rfl (pc2 := 229) ?_
                                  refine wp_iast (n := 408) jF_235_229 kd142 (by decide) rfl rfl (by omega) (by omega) rfl (pc2 := 230) g640 (lo := (-2147483648)) (hi := 2147483647) rfl (by omega) (by omega) ?_
                                  intro τ643 g644 f645 e646
                                  refine wp_al1 jF_235_230 rfl rfl (pc2 := 231) ?_
                                  refine wp_gr (b := 143) jF_235_231 kd117 (by decide) (c := 243) rfl rfl rfl (pc2 := 234) ?_
                                  refine wp_il1 jF_235_234 rfl rfl (pc2 := 235) ?_
                                  refine wp_du2 jF_235_235 rfl rfl (pc2 := 236) ?_
                                  refine wp_iald (n := 6) jF_235_236 kd143 (by decide) rfl rfl (by omega) (by omega) ((FRw.na f645 (by decide)).trans ((FRw.na f641 (by decide)).trans ((FRw.na f637 (by decide)).trans ((FRw.na f609 (by decide)).trans ((FRw.na f605 (by decide)).trans ((FRw.na f601 (by decide)).trans ((FR.at f592 143 0 rfl).trans ((FR.at f583 143 0 rfl).trans ((FR.at f573 143 0 rfl).trans ((FR.at f563 143 0 rfl).trans ((FR.at f552 143 0 rfl).trans ((FR.at f545 143 0 rfl).trans ((FR.at f532 143 0 rfl).trans ((FR.at f518 143 0 rfl).trans ((FR.at f125 143 0 rfl).trans ((FR.at f112 143 0 rfl).trans ((FR.at f99 143 0 rfl).trans ((FR.at f86 143 0 rfl).trans ((FR.at f73 143 0 rfl).trans ((FR.at f60 143 0 rfl).trans (FR.at f47 143 0 rfl))))))))))))))))))))) rfl (pc2 := 237) ?_
                                  refine wp_ic jF_235_237 rfl (pc2 := 238) ?_
                                  refine wp_add jF_235_238 rfl (pc2 := 239) ?_
                                  refine wp_iast (n := 6) jF_235_239 kd143 (by decide) rfl rfl (by omega) (by omega) rfl (pc2 := 240) g644 (lo := 0) (hi := 16) rfl (by omega) (by omega) ?_
                                  intro τ647 g648 f649 e650
                                  refine wp_rv jF_235_240 ?_
                                  show WP 217 163 [(0, .ref 117), (1, iV (σ.1 117 2))] [] _ _ _ _
                                  refine wp_go jF_217_163 ?_
                                  have q651 : (τ647.1 117 2) = (τ590.1 117 2) := ((FRw.na f649 (by decide)).trans ((FRw.na f645 (by decide)).trans ((FRw.na f641 (by decide)).trans ((FRw.na f637 (by decide)).trans ((FRw.na f609 (by decide)).trans ((FRw.na f605 (by decide)).trans (FRw.na f601 (by decide))))))))
                                  have q652 : (τ647.1 117 5) = (τ590.1 117 5) := ((FRw.na f649 (by decide)).trans ((FRw.na f645 (by decide)).trans ((FRw.na f641 (by decide)).trans ((FRw.na f637 (by decide)).trans ((FRw.na f609 (by decide)).trans ((FRw.na f605 (by decide)).trans (FRw.na f601 (by decide))))))))
                                  have q653 : (τ647.1 143 0) = ((σ.1 143 0) + 1) := e650
                                  have b654 := GI.b hg 143 1 kd143 (lo := 0) (hi := 16) rfl
                                  have q655 : (τ647.1 143 1) = (σ.1 143 1) := ((FRw.nj f649 (by decide)).trans ((FRw.na f645 (by decide)).trans ((FRw.na f641 (by decide)).trans ((FRw.na f637 (by decide)).trans ((FRw.na f609 (by decide)).trans ((FRw.na f605 (by decide)).trans ((FRw.na f601 (by decide)).trans ((FR.at f592 143 1 rfl).trans ((FR.at f583 143 1 rfl).trans ((FR.at f573 143 1 rfl).trans ((FR.at f563 143 1 rfl).trans ((FR.at f552 143 1 rfl).trans ((FR.at f545 143 1 rfl).trans ((FR.at f532 143 1 rfl).trans ((FR.at f518 143 1 rfl).trans ((FR.at f125 143 1 rfl).trans ((FR.at f112 143 1 rfl).trans ((FR.at f99 143 1 rfl).trans ((FR.at f86 143 1 rfl).trans ((FR.at f73 143 1 rfl).trans ((FR.at f60 143 1 rfl).trans (FR.at f47 143 1 rfl))))))))))))))))))))))
                                  have b656 := GI.b hg 143 2 kd143 (lo := 0) (hi := 16) rfl
                                  have q657 : (τ647.1 143 2) = (σ.1 143 2) := ((FRw.nj f649 (by decide)).trans ((FRw.na f645 (by decide)).trans ((FRw.na f641 (by decide)).trans ((FRw.na f637 (by decide)).trans ((FRw.na f609 (by decide)).trans ((FRw.na f605 (by decide)).trans ((FRw.na f601 (by decide)).trans ((FR.at f592 143 2 rfl).trans ((FR.at f583 143 2 rfl).trans ((FR.at f573 143 2 rfl).trans ((FR.at f563 143 2 rfl).trans ((FR.at f552 143 2 rfl).trans ((FR.at f545 143 2 rfl).trans ((FR.at f532 143 2 rfl).trans ((FR.at f518 143 2 rfl).trans ((FR.at f125 143 2 rfl).trans ((FR.at f112 143 2 rfl).trans ((FR.at f99 143 2 rfl).trans ((FR.at f86 143 2 rfl).trans ((FR.at f73 143 2 rfl).trans ((FR.at f60 143 2 rfl).trans (FR.at f47 143 2 rfl))))))))))))))))))))))
                                  exact jn39 () τ647 ⟨g648, (FR.w (FR.w (FR.w (FR.w (FR.w (FR.w (FR.w (FR.up (FR.up (FR.up (FR.up (FR.up (FR.up (FR.up (FR.up (FR.up (FR.up (FR.up (FR.up (FR.up (FR.up (FR.up FR.rf f47 sb_Wtak_Wst0) f60 sb_Wtak_Wst0) f73 sb_Wtak_Wst0) f86 sb_Wtak_Wst0) f99 sb_Wtak_Wst0) f112 sb_Wtak_Wst0) f125 sb_Wtak_Wst0) f518 sb_Wbad_Wst0) f532 sb_Wsp_Wst0) f545 sb_Wtak_Wst0) f552 sb_Wask_Wst0) f563 sb_Wsp_Wst0) f573 sb_Wsp_Wst0) f583 sb_Wsp_Wst0) f592 sb_Wask_Wst0) f601 rfl) f605 rfl) f609 rfl) f637 rfl) f641 rfl) f645 rfl) f649 rfl), (by omega), (by omega), (by omega), (by omega), (by omega), (by omega)⟩
                              · intro h598
                                clear p595
                                refine wp_rv jF_235_157 ?_
                                show WP 217 163 [(0, .ref 117), (1, iV (σ.1 117 2))] [] _ _ _ _
                                refine wp_go jF_217_163 ?_
                                have q658 : (τ590.1 143 0) = (σ.1 143 0) := ((FR.at f592 143 0 rfl).trans ((FR.at f583 143 0 rfl).trans ((FR.at f573 143 0 rfl).trans ((FR.at f563 143 0 rfl).trans ((FR.at f552 143 0 rfl).trans ((FR.at f545 143 0 rfl).trans ((FR.at f532 143 0 rfl).trans ((FR.at f518 143 0 rfl).trans ((FR.at f125 143 0 rfl).trans ((FR.at f112 143 0 rfl).trans ((FR.at f99 143 0 rfl).trans ((FR.at f86 143 0 rfl).trans ((FR.at f73 143 0 rfl).trans ((FR.at f60 143 0 rfl).trans (FR.at f47 143 0 rfl)))))))))))))))
                                have b659 := GI.b hg 143 1 kd143 (lo := 0) (hi := 16) rfl
                                have q660 : (τ590.1 143 1) = (σ.1 143 1) := ((FR.at f592 143 1 rfl).trans ((FR.at f583 143 1 rfl).trans ((FR.at f573 143 1 rfl).trans ((FR.at f563 143 1 rfl).trans ((FR.at f552 143 1 rfl).trans ((FR.at f545 143 1 rfl).trans ((FR.at f532 143 1 rfl).trans ((FR.at f518 143 1 rfl).trans ((FR.at f125 143 1 rfl).trans ((FR.at f112 143 1 rfl).trans ((FR.at f99 143 1 rfl).trans ((FR.at f86 143 1 rfl).trans ((FR.at f73 143 1 rfl).trans ((FR.at f60 143 1 rfl).trans (FR.at f47 143 1 rfl)))))))))))))))
                                have b661 := GI.b hg 143 2 kd143 (lo := 0) (hi := 16) rfl
                                have q662 : (τ590.1 143 2) = (σ.1 143 2) := ((FR.at f592 143 2 rfl).trans ((FR.at f583 143 2 rfl).trans ((FR.at f573 143 2 rfl).trans ((FR.at f563 143 2 rfl).trans ((FR.at f552 143 2 rfl).trans ((FR.at f545 143 2 rfl).trans ((FR.at f532 143 2 rfl).trans ((FR.at f518 143 2 rfl).trans ((FR.at f125 143 2 rfl).trans ((FR.at f112 143 2 rfl).trans ((FR.at f99 143 2 rfl).trans ((FR.at f86 143 2 rfl).trans ((FR.at f73 143 2 rfl).trans ((FR.at f60 143 2 rfl).trans (FR.at f47 143 2 rfl)))))))))))))))
                                exact jn39 () τ590 ⟨g591, (FR.up (FR.up (FR.up (FR.up (FR.up (FR.up (FR.up (FR.up (FR.up (FR.up (FR.up (FR.up (FR.up (FR.up (FR.up FR.rf f47 sb_Wtak_Wst0) f60 sb_Wtak_Wst0) f73 sb_Wtak_Wst0) f86 sb_Wtak_Wst0) f99 sb_Wtak_Wst0) f112 sb_Wtak_Wst0) f125 sb_Wtak_Wst0) f518 sb_Wbad_Wst0) f532 sb_Wsp_Wst0) f545 sb_Wtak_Wst0) f552 sb_Wask_Wst0) f563 sb_Wsp_Wst0) f573 sb_Wsp_Wst0) f583 sb_Wsp_Wst0) f592 sb_Wask_Wst0), (by omega), (by omega), (by omega), (by omega), (by omega), (by omega)⟩
                            · intro jn663
                              refine wp_il1 jF_235_129 rfl rfl (pc2 := 130) ?_
                              refine wp_z_ne jF_235_130 (m_rgl rfl) rfl (pc2 := 133) ?_ ?_
                              · intro h664; exfalso; omega
                              · intro h664
                                refine wp_al1 jF_235_133 rfl rfl (pc2 := 134) ?_
                                refine wp_al1 jF_235_134 rfl rfl (pc2 := 135) ?_
                                refine wp_gr (b := 133) jF_235_135 kd117 (by decide) (c := 233) rfl rfl rfl (pc2 := 138) ?_
                                refine wp_cV (as := [.ref 133]) (rest := []) (a := 117) (mx := 2) (ci := 12) jF_235_138 kd117 (by decide) rfl rfl rfl rfl rfl (by omega) (by omega) rfl (pc2 := 141) ?_
                                have q665 : (τ581.1 117 3) = (σ.1 117 3) := ((FR.at f583 117 3 rfl).trans ((FR.at f573 117 3 rfl).trans ((FR.at f563 117 3 rfl).trans ((FR.at f552 117 3 rfl).trans ((FR.at f545 117 3 rfl).trans ((FR.at f532 117 3 rfl).trans ((FR.at f518 117 3 rfl).trans ((FR.at f125 117 3 rfl).trans ((FR.at f112 117 3 rfl).trans ((FR.at f99 117 3 rfl).trans ((FR.at f86 117 3 rfl).trans ((FR.at f73 117 3 rfl).trans ((FR.at f60 117 3 rfl).trans (FR.at f47 117 3 rfl))))))))))))))
                                refine wp_use (m_234 τ581 g582 133 5 cw133.1 cw133.2 (by decide)  _ _ (by omega) (by omega)) ?_
                                rintro _ τ669 ⟨rfl, g670, f671, p666, p667, p668⟩
                                show WP 235 141 [(0, .ref 117), (1, iV 0), (2, iV 16), (3, iV (σ.1 117 2)), (4, iV (0 + (6 * (σ.1 143 0)))), (5, iV x528), (6, iV z546), (7, iV z564), (8, iV z574), (9, iV z584), (10, iV 0)] [] _ _ _ _
                                refine wp_al1 jF_235_141 rfl rfl (pc2 := 142) ?_
                                refine wp_ic jF_235_142 rfl (pc2 := 143) ?_
                                refine wp_bi jF_235_143 (by decide) rfl (pc2 := 145) ?_
                                refine wp_cV (as := [iV 1, iV 99]) (rest := []) (a := 117) (mx := 5) (ci := 12) jF_235_145 kd117 (by decide) rfl rfl rfl rfl rfl (by omega) (by omega) rfl (pc2 := 148) ?_
                                have b672 := GI.b g670 117 2 kd117 (lo := 0) (hi := 1601) rfl
                                have q673 : (τ669.1 117 3) = (σ.1 117 3) := ((FR.at f671 117 3 rfl).trans ((FR.at f583 117 3 rfl).trans ((FR.at f573 117 3 rfl).trans ((FR.at f563 117 3 rfl).trans ((FR.at f552 117 3 rfl).trans ((FR.at f545 117 3 rfl).trans ((FR.at f532 117 3 rfl).trans ((FR.at f518 117 3 rfl).trans ((FR.at f125 117 3 rfl).trans ((FR.at f112 117 3 rfl).trans ((FR.at f99 117 3 rfl).trans ((FR.at f86 117 3 rfl).trans ((FR.at f73 117 3 rfl).trans ((FR.at f60 117 3 rfl).trans (FR.at f47 117 3 rfl)))))))))))))))
                                have b674 := GI.b g670 117 5 kd117 (lo := (-2147483648)) (hi := 2147483647) rfl
                                refine wp_use (m_230 τ669 g670 1 (by omega) (by omega) 99 (by omega) (by omega)  _ _ (by omega) (by omega)) ?_
                                rintro _ τ678 ⟨z681, rfl, h682, g679, f680, p675, p676, p677⟩
                                show WP 235 148 [(0, .ref 117), (1, iV 0), (2, iV 16), (3, iV (σ.1 117 2)), (4, iV (0 + (6 * (σ.1 143 0)))), (5, iV x528), (6, iV z546), (7, iV z564), (8, iV z574), (9, iV z584), (10, iV 0)] [iV z681] _ _ _ _
                                refine wp_is2 (lv2 := [(0, .ref 117), (1, iV 0), (2, iV 16), (3, iV (σ.1 117 2)), (4, iV (0 + (6 * (σ.1 143 0)))), (5, iV x528), (6, iV z546), (7, iV z564), (8, iV z574), (9, iV z584), (10, iV z681)]) jF_235_148 rfl rfl rfl (pc2 := 150) ?_
                                have b683 := GI.b g679 117 2 kd117 (lo := 0) (hi := 1601) rfl
                                have b684 := GI.b g679 117 5 kd117 (lo := (-2147483648)) (hi := 2147483647) rfl
                                exact jn663 (z681) τ678 ⟨⟨by omega, by omega⟩, g679, (FR.up f671 f680 sb_Wask_Wask), (by omega), (by omega), (by omega)⟩
                          · intro jn685
                            refine wp_il2 jF_235_92 rfl rfl (pc2 := 94) ?_
                            refine wp_z_ne jF_235_94 (m_rgb h547 rfl) rfl (pc2 := 97) ?_ ?_
                            · intro h686
                              replace p540 := p540 (by omega)
                              replace p535 := p535 (by omega)
                              replace p520 := p520 (by omega)
                              replace p521 := p521 (by omega)
                              clear p534
                              exact jn685 () τ543 ⟨g544, FR.rf, (by omega), (by omega), (by omega)⟩
                            · intro h686
                              clear p540
                              refine wp_al1 jF_235_97 rfl rfl (pc2 := 98) ?_
                              refine wp_al1 jF_235_98 rfl rfl (pc2 := 99) ?_
                              refine wp_gr (b := 131) jF_235_99 kd117 (by decide) (c := 231) rfl rfl rfl (pc2 := 102) ?_
                              refine wp_cV (as := [.ref 131]) (rest := []) (a := 117) (mx := 2) (ci := 12) jF_235_102 kd117 (by decide) rfl rfl rfl rfl rfl (by omega) (by omega) rfl (pc2 := 105) ?_
                              have q687 : (τ543.1 117 3) = (σ.1 117 3) := ((FR.at f545 117 3 rfl).trans ((FR.at f532 117 3 rfl).trans ((FR.at f518 117 3 rfl).trans ((FR.at f125 117 3 rfl).trans ((FR.at f112 117 3 rfl).trans ((FR.at f99 117 3 rfl).trans ((FR.at f86 117 3 rfl).trans ((FR.at f73 117 3 rfl).trans ((FR.at f60 117 3 rfl).trans (FR.at f47 117 3 rfl))))))))))
                              refine wp_use (m_234 τ543 g544 131 4 cw131.1 cw131.2 (by decide)  _ _ (by omega) (by omega)) ?_
                              rintro _ τ691 ⟨rfl, g692, f693, p688, p689, p690⟩
                              show WP 235 105 [(0, .ref 117), (1, iV 0), (2, iV 16), (3, iV (σ.1 117 2)), (4, iV (0 + (6 * (σ.1 143 0)))), (5, iV x528), (6, iV z546)] [] _ _ _ _
                              have b694 := GI.b g692 117 2 kd117 (lo := 0) (hi := 1601) rfl
                              have b695 := GI.b g692 117 5 kd117 (lo := (-2147483648)) (hi := 2147483647) rfl
                              exact jn685 () τ691 ⟨g692, f693, (by omega), (by omega), (by omega)⟩
                        · intro jn696
                          refine wp_il1 jF_235_42 rfl rfl (pc2 := 43) ?_
                          refine wp_z_ne jF_235_43 (m_rgl rfl) rfl (pc2 := 46) ?_ ?_
                          · intro h697; exfalso; omega
                          · intro h697
                            refine wp_al1 jF_235_46 rfl rfl (pc2 := 47) ?_
                            refine wp_cV (as := []) (rest := []) (a := 117) (mx := 3) (ci := 12) jF_235_47 kd117 (by decide) rfl rfl rfl rfl rfl (by omega) (by omega) rfl (pc2 := 50) ?_
                            have q698 : (ch τ516) = (ch τ123) := (ch_fr f518 rfl rfl (fun _ => rfl))
                            have q699 : (nb τ516) = (nb τ123) := (nb_fr f518 rfl rfl (fun _ => rfl))
                            refine wp_use (m_225 τ516 g517   _ _ (by omega) (by omega)) ?_
                            rintro _ τ704 ⟨y707, rfl, g705, f706, p700, p701, p702, p703⟩
                            show WP 235 50 [(0, .ref 117), (1, iV 0), (2, iV 16), (3, iV (σ.1 117 2)), (4, iV (0 + (6 * (σ.1 143 0)))), (5, iV (-1))] [.long y707] _ _ _ _
                            refine wp_ls2 (lv2 := [(0, .ref 117), (1, iV 0), (2, iV 16), (3, iV (σ.1 117 2)), (4, iV (0 + (6 * (σ.1 143 0)))), (5, iV (-1)), (6, .long y707)]) jF_235_50 rfl rfl rfl (pc2 := 52) ?_
                            refine wp_al1 jF_235_52 rfl rfl (pc2 := 53) ?_
                            refine wp_ll2 jF_235_53 rfl rfl (pc2 := 55) ?_
                            refine wp_cV (as := [.long y707]) (rest := []) (a := 117) (mx := 4) (ci := 12) jF_235_55 kd117 (by decide) rfl rfl rfl rfl rfl (by omega) (by omega) rfl (pc2 := 58) ?_
                            refine wp_use (m_228 τ704 g705 y707  _ _ (by omega) (by omega)) ?_
                            rintro _ _ ⟨z710, rfl, h711, rfl⟩
                            show WP 235 58 [(0, .ref 117), (1, iV 0), (2, iV 16), (3, iV (σ.1 117 2)), (4, iV (0 + (6 * (σ.1 143 0)))), (5, iV (-1)), (6, .long y707)] [iV z710] _ _ _ _
                            refine wp_is2 (lv2 := [(0, .ref 117), (1, iV 0), (2, iV 16), (3, iV (σ.1 117 2)), (4, iV (0 + (6 * (σ.1 143 0)))), (5, iV z710), (6, .long y707)]) jF_235_58 rfl rfl rfl (pc2 := 60) ?_
                            refine wp_al1 jF_235_60 rfl rfl (pc2 := 61) ?_
                            have b712 := GI.b g705 117 5 kd117 (lo := (-2147483648)) (hi := 2147483647) rfl
                            refine wp_gi jF_235_61 kd117 (by decide) rfl rfl rfl (pc2 := 64) ?_
                            refine wp_z_ne jF_235_64 (m_rgb b712 rfl) rfl (pc2 := 67) ?_ ?_
                            · intro h713
                              clear p702
                              have b714 := GI.b g705 117 2 kd117 (lo := 0) (hi := 1601) rfl
                              refine wp_less [0, 1, 2, 3, 4, 5] (lv2 := [(0, .ref 117), (1, iV 0), (2, iV 16), (3, iV (σ.1 117 2)), (4, iV (0 + (6 * (σ.1 143 0)))), (5, iV z710)]) rfl rfl ?_
                              exact jn696 (z710) τ704 ⟨⟨by omega, by omega⟩, g705, f706, (by omega), (by omega), (by omega)⟩
                            · intro h713
                              replace p702 := p702 (by omega)
                              replace p520 := p520 (by omega)
                              replace p521 := p521 (by omega)
                              clear p701
                              refine wp_il2 jF_235_67 rfl rfl (pc2 := 69) ?_
                              refine wp_ic jF_235_69 rfl (pc2 := 70) ?_
                              refine wp_i_ne jF_235_70 (m_rgb h711 rfl) (m_rgl rfl) rfl (pc2 := 73) ?_ ?_
                              · intro h715
                                have b716 := GI.b g705 117 2 kd117 (lo := 0) (hi := 1601) rfl
                                refine wp_less [0, 1, 2, 3, 4, 5] (lv2 := [(0, .ref 117), (1, iV 0), (2, iV 16), (3, iV (σ.1 117 2)), (4, iV (0 + (6 * (σ.1 143 0)))), (5, iV z710)]) rfl rfl ?_
                                exact jn696 (z710) τ704 ⟨⟨by omega, by omega⟩, g705, f706, (by omega), (by omega), (by omega)⟩
                              · intro h715
                                refine wp_al1 jF_235_73 rfl rfl (pc2 := 74) ?_
                                refine wp_ic jF_235_74 rfl (pc2 := 75) ?_
                                refine wp_al1 jF_235_75 rfl rfl (pc2 := 76) ?_
                                have b717 := GI.b g705 117 28 kd117 (lo := (-2147483648)) (hi := 2147483647) rfl
                                refine wp_gi jF_235_76 kd117 (by decide) rfl rfl rfl (pc2 := 79) ?_
                                refine wp_cV (as := [iV 3, iV (τ704.1 117 28)]) (rest := []) (a := 117) (mx := 3) (ci := 12) jF_235_79 kd117 (by decide) rfl rfl rfl rfl rfl (by omega) (by omega) rfl (pc2 := 82) ?_
                                refine wp_use (m_218 τ704 g705 3 (by omega) (by omega) (τ704.1 117 28) (by omega) (by omega)  _ _ (by omega) (by omega)) ?_
                                rintro _ τ720 ⟨rfl, g721, f722, p718, p719⟩
                                clear p718
                                replace p719 := p719 (by omega)
                                show WP 235 82 [(0, .ref 117), (1, iV 0), (2, iV 16), (3, iV (σ.1 117 2)), (4, iV (0 + (6 * (σ.1 143 0)))), (5, iV z710), (6, .long y707)] [] _ _ _ _
                                have b723 := GI.b g705 117 2 kd117 (lo := 0) (hi := 1601) rfl
                                have q724 : (τ720.1 117 2) = (τ704.1 117 2) := (FR.at f722 117 2 rfl)
                                have b725 := GI.b g721 117 5 kd117 (lo := (-2147483648)) (hi := 2147483647) rfl
                                refine wp_less [0, 1, 2, 3, 4, 5] (lv2 := [(0, .ref 117), (1, iV 0), (2, iV 16), (3, iV (σ.1 117 2)), (4, iV (0 + (6 * (σ.1 143 0)))), (5, iV z710)]) rfl rfl ?_
                                exact jn696 (z710) τ720 ⟨⟨by omega, by omega⟩, g721, (FR.up f706 f722 sb_Wbad_Wsp), (by omega), (by omega), (by omega)⟩
                    · intro jn726
                      refine wp_al1 jF_235_0 rfl rfl (pc2 := 1) ?_
                      refine wp_gi jF_235_1 kd117 (by decide) rfl ((FR.at f125 117 5 rfl).trans ((FR.at f112 117 5 rfl).trans ((FR.at f99 117 5 rfl).trans ((FR.at f86 117 5 rfl).trans ((FR.at f73 117 5 rfl).trans ((FR.at f60 117 5 rfl).trans (FR.at f47 117 5 rfl))))))) rfl (pc2 := 4) ?_
                      refine wp_z_ne jF_235_4 (m_rgb b4 rfl) rfl (pc2 := 7) ?_ ?_
                      · intro h727
                        have b728 := GI.b hg 143 0 kd143 (lo := 0) (hi := 16) rfl
                        have q729 : (τ123.1 143 0) = (σ.1 143 0) := ((FR.at f125 143 0 rfl).trans ((FR.at f112 143 0 rfl).trans ((FR.at f99 143 0 rfl).trans ((FR.at f86 143 0 rfl).trans ((FR.at f73 143 0 rfl).trans ((FR.at f60 143 0 rfl).trans (FR.at f47 143 0 rfl)))))))
                        exact jn726 () τ123 ⟨g124, FR.rf, (by omega), (by omega), (by omega)⟩
                      · intro h727
                        refine wp_al1 jF_235_7 rfl rfl (pc2 := 8) ?_
                        refine wp_gr (b := 143) jF_235_8 kd117 (by decide) (c := 243) rfl rfl rfl (pc2 := 11) ?_
                        refine wp_il1 jF_235_11 rfl rfl (pc2 := 12) ?_
                        have b730 := GI.b hg 143 0 kd143 (lo := 0) (hi := 16) rfl
                        refine wp_iald (n := 6) jF_235_12 kd143 (by decide) rfl rfl (by omega) (by omega) ((FR.at f125 143 0 rfl).trans ((FR.at f112 143 0 rfl).trans ((FR.at f99 143 0 rfl).trans ((FR.at f86 143 0 rfl).trans ((FR.at f73 143 0 rfl).trans ((FR.at f60 143 0 rfl).trans (FR.at f47 143 0 rfl))))))) rfl (pc2 := 13) ?_
                        refine wp_il1 jF_235_13 rfl rfl (pc2 := 14) ?_
                        refine wp_i_ne jF_235_14 (m_rgb b730 rfl) (m_rgl rfl) rfl (pc2 := 17) ?_ ?_
                        · intro h731
                          have q732 : (τ123.1 143 0) = (σ.1 143 0) := ((FR.at f125 143 0 rfl).trans ((FR.at f112 143 0 rfl).trans ((FR.at f99 143 0 rfl).trans ((FR.at f86 143 0 rfl).trans ((FR.at f73 143 0 rfl).trans ((FR.at f60 143 0 rfl).trans (FR.at f47 143 0 rfl)))))))
                          exact jn726 () τ123 ⟨g124, FR.rf, (by omega), (by omega), (by omega)⟩
                        · intro h731
                          refine wp_al1 jF_235_17 rfl rfl (pc2 := 18) ?_
                          refine wp_ic jF_235_18 rfl (pc2 := 19) ?_
                          refine wp_il1 jF_235_19 rfl rfl (pc2 := 20) ?_
                          refine wp_cV (as := [iV 5, iV (σ.1 117 2)]) (rest := []) (a := 117) (mx := 3) (ci := 12) jF_235_20 kd117 (by decide) rfl rfl rfl rfl rfl (by omega) (by omega) rfl (pc2 := 23) ?_
                          refine wp_use (m_218 τ123 g124 5 (by omega) (by omega) (σ.1 117 2) (by omega) (by omega)  _ _ (by omega) (by omega)) ?_
                          rintro _ τ735 ⟨rfl, g736, f737, p733, p734⟩
                          clear p733
                          replace p734 := p734 (by omega)
                          show WP 235 23 [(0, .ref 117), (1, iV 0), (2, iV 16), (3, iV (σ.1 117 2))] [] _ _ _ _
                          have b738 := GI.b g736 117 5 kd117 (lo := (-2147483648)) (hi := 2147483647) rfl
                          have q739 : (τ735.1 143 0) = (σ.1 143 0) := ((FR.at f737 143 0 rfl).trans ((FR.at f125 143 0 rfl).trans ((FR.at f112 143 0 rfl).trans ((FR.at f99 143 0 rfl).trans ((FR.at f86 143 0 rfl).trans ((FR.at f73 143 0 rfl).trans ((FR.at f60 143 0 rfl).trans (FR.at f47 143 0 rfl))))))))
                          exact jn726 () τ735 ⟨g736, f737, (by omega), (by omega), (by omega)⟩
                · intro h115
                  replace p107 := p107 (by omega)
                  refine wp_al1 jF_217_136 rfl rfl (pc2 := 137) ?_
                  refine wp_il1 jF_217_137 rfl rfl (pc2 := 138) ?_
                  refine wp_cV (as := [iV (σ.1 117 2)]) (rest := []) (a := 117) (mx := 5) (ci := 12) jF_217_138 kd117 (by decide) rfl rfl rfl rfl rfl (by omega) (by omega) rfl (pc2 := 141) ?_
                  have b740 := GI.b g111 117 2 kd117 (lo := 0) (hi := 1601) rfl
                  have q741 : (τ110.1 117 5) = (σ.1 117 5) := ((FR.at f112 117 5 rfl).trans ((FR.at f99 117 5 rfl).trans ((FR.at f86 117 5 rfl).trans ((FR.at f73 117 5 rfl).trans ((FR.at f60 117 5 rfl).trans (FR.at f47 117 5 rfl))))))
                  refine wp_use (m_233 τ110 g111 (σ.1 117 2) (by omega) (by omega)  _ _ (by omega) (by omega)) ?_
                  rintro _ τ745 ⟨rfl, g746, f747, p742, p743, p744⟩
                  clear p743
                  show WP 217 141 [(0, .ref 117), (1, iV (σ.1 117 2))] [] _ _ _ _
                  refine wp_go jF_217_141 ?_
                  have b748 := GI.b g746 117 2 kd117 (lo := 0) (hi := 1601) rfl
                  have b749 := GI.b g746 117 5 kd117 (lo := (-2147483648)) (hi := 2147483647) rfl
                  have b750 := GI.b hg 143 0 kd143 (lo := 0) (hi := 16) rfl
                  have q751 : (τ745.1 143 0) = (σ.1 143 0) := ((FR.at f747 143 0 rfl).trans ((FR.at f112 143 0 rfl).trans ((FR.at f99 143 0 rfl).trans ((FR.at f86 143 0 rfl).trans ((FR.at f73 143 0 rfl).trans ((FR.at f60 143 0 rfl).trans (FR.at f47 143 0 rfl)))))))
                  have b752 := GI.b hg 143 1 kd143 (lo := 0) (hi := 16) rfl
                  have q753 : (τ745.1 143 1) = (σ.1 143 1) := ((FR.at f747 143 1 rfl).trans ((FR.at f112 143 1 rfl).trans ((FR.at f99 143 1 rfl).trans ((FR.at f86 143 1 rfl).trans ((FR.at f73 143 1 rfl).trans ((FR.at f60 143 1 rfl).trans (FR.at f47 143 1 rfl)))))))
                  have b754 := GI.b hg 143 2 kd143 (lo := 0) (hi := 16) rfl
                  have q755 : (τ745.1 143 2) = (σ.1 143 2) := ((FR.at f747 143 2 rfl).trans ((FR.at f112 143 2 rfl).trans ((FR.at f99 143 2 rfl).trans ((FR.at f86 143 2 rfl).trans ((FR.at f73 143 2 rfl).trans ((FR.at f60 143 2 rfl).trans (FR.at f47 143 2 rfl)))))))
                  exact jn39 () τ745 ⟨g746, (FR.up (FR.up (FR.up (FR.up (FR.up (FR.up (FR.up FR.rf f47 sb_Wtak_Wst0) f60 sb_Wtak_Wst0) f73 sb_Wtak_Wst0) f86 sb_Wtak_Wst0) f99 sb_Wtak_Wst0) f112 sb_Wtak_Wst0) f747 sb_Wnp_Wst0), (by omega), (by omega), (by omega), (by omega), (by omega), (by omega)⟩
              · intro h102
                replace p94 := p94 (by omega)
                refine wp_al1 jF_217_111 rfl rfl (pc2 := 112) ?_
                refine wp_al1 jF_217_112 rfl rfl (pc2 := 113) ?_
                refine wp_ic jF_217_113 rfl (pc2 := 114) ?_
                refine wp_bi jF_217_114 (by decide) rfl (pc2 := 116) ?_
                refine wp_cV (as := [iV 1, iV 40]) (rest := [.ref 117]) (a := 117) (mx := 5) (ci := 12) jF_217_116 kd117 (by decide) rfl rfl rfl rfl rfl (by omega) (by omega) rfl (pc2 := 119) ?_
                have b756 := GI.b g98 117 2 kd117 (lo := 0) (hi := 1601) rfl
                have q757 : (τ97.1 117 3) = (σ.1 117 3) := ((FR.at f99 117 3 rfl).trans ((FR.at f86 117 3 rfl).trans ((FR.at f73 117 3 rfl).trans ((FR.at f60 117 3 rfl).trans (FR.at f47 117 3 rfl)))))
                have q758 : (τ97.1 117 5) = (σ.1 117 5) := ((FR.at f99 117 5 rfl).trans ((FR.at f86 117 5 rfl).trans ((FR.at f73 117 5 rfl).trans ((FR.at f60 117 5 rfl).trans (FR.at f47 117 5 rfl)))))
                refine wp_use (m_230 τ97 g98 1 (by omega) (by omega) 40 (by omega) (by omega)  _ _ (by omega) (by omega)) ?_
                rintro _ τ762 ⟨z765, rfl, h766, g763, f764, p759, p760, p761⟩
                clear p760
                show WP 217 119 [(0, .ref 117), (1, iV (σ.1 117 2))] [iV z765, .ref 117] _ _ _ _
                refine wp_pi jF_217_119 kd117 (by decide) rfl rfl rfl (pc2 := 122) g763 (lo := (-2147483648)) (hi := 2147483647) rfl (by omega) (by omega) ?_
                intro τ767 g768 f769 e770
                refine wp_go jF_217_122 ?_
                have b771 := GI.b g763 117 2 kd117 (lo := 0) (hi := 1601) rfl
                have q772 : (τ767.1 117 2) = (τ762.1 117 2) := (FRw.nj f769 (by decide))
                have b773 := GI.b g763 117 5 kd117 (lo := (-2147483648)) (hi := 2147483647) rfl
                have q774 : (τ767.1 117 5) = (τ762.1 117 5) := (FRw.nj f769 (by decide))
                have b775 := GI.b hg 143 0 kd143 (lo := 0) (hi := 16) rfl
                have q776 : (τ767.1 143 0) = (σ.1 143 0) := ((FRw.na f769 (by decide)).trans ((FR.at f764 143 0 rfl).trans ((FR.at f99 143 0 rfl).trans ((FR.at f86 143 0 rfl).trans ((FR.at f73 143 0 rfl).trans ((FR.at f60 143 0 rfl).trans (FR.at f47 143 0 rfl)))))))
                have b777 := GI.b hg 143 1 kd143 (lo := 0) (hi := 16) rfl
                have q778 : (τ767.1 143 1) = (σ.1 143 1) := ((FRw.na f769 (by decide)).trans ((FR.at f764 143 1 rfl).trans ((FR.at f99 143 1 rfl).trans ((FR.at f86 143 1 rfl).trans ((FR.at f73 143 1 rfl).trans ((FR.at f60 143 1 rfl).trans (FR.at f47 143 1 rfl)))))))
                have b779 := GI.b hg 143 2 kd143 (lo := 0) (hi := 16) rfl
                have q780 : (τ767.1 143 2) = (σ.1 143 2) := ((FRw.na f769 (by decide)).trans ((FR.at f764 143 2 rfl).trans ((FR.at f99 143 2 rfl).trans ((FR.at f86 143 2 rfl).trans ((FR.at f73 143 2 rfl).trans ((FR.at f60 143 2 rfl).trans (FR.at f47 143 2 rfl)))))))
                exact jn39 () τ767 ⟨g768, (FR.w (FR.up (FR.up (FR.up (FR.up (FR.up (FR.up FR.rf f47 sb_Wtak_Wst0) f60 sb_Wtak_Wst0) f73 sb_Wtak_Wst0) f86 sb_Wtak_Wst0) f99 sb_Wtak_Wst0) f764 sb_Wask_Wst0) f769 rfl), (by omega), (by omega), (by omega), (by omega), (by omega), (by omega)⟩
            · intro h89
              replace p81 := p81 (by omega)
              refine wp_al1 jF_217_92 rfl rfl (pc2 := 93) ?_
              refine wp_il1 jF_217_93 rfl rfl (pc2 := 94) ?_
              refine wp_cV (as := [iV (σ.1 117 2)]) (rest := []) (a := 117) (mx := 8) (ci := 12) jF_217_94 kd117 (by decide) rfl rfl rfl rfl rfl (by omega) (by omega) rfl (pc2 := 97) ?_
              have b781 := GI.b g85 117 2 kd117 (lo := 0) (hi := 1601) rfl
              have q782 : (τ84.1 117 5) = (σ.1 117 5) := ((FR.at f86 117 5 rfl).trans ((FR.at f73 117 5 rfl).trans ((FR.at f60 117 5 rfl).trans (FR.at f47 117 5 rfl))))
              refine wp_use (m_229 τ84 g85 (σ.1 117 2) (by omega) (by omega)  _ _ (by omega) (by omega)) ?_
              rintro _ τ786 ⟨rfl, g787, f788, p783, p784, p785⟩
              clear p784
              show WP 217 97 [(0, .ref 117), (1, iV (σ.1 117 2))] [] _ _ _ _
              refine wp_go jF_217_97 ?_
              have b789 := GI.b g787 117 2 kd117 (lo := 0) (hi := 1601) rfl
              have b790 := GI.b g787 117 5 kd117 (lo := (-2147483648)) (hi := 2147483647) rfl
              have b791 := GI.b hg 143 0 kd143 (lo := 0) (hi := 16) rfl
              have q792 : (τ786.1 143 0) = (σ.1 143 0) := ((FR.at f788 143 0 rfl).trans ((FR.at f86 143 0 rfl).trans ((FR.at f73 143 0 rfl).trans ((FR.at f60 143 0 rfl).trans (FR.at f47 143 0 rfl)))))
              have b793 := GI.b hg 143 1 kd143 (lo := 0) (hi := 16) rfl
              have q794 : (τ786.1 143 1) = (σ.1 143 1) := ((FR.at f788 143 1 rfl).trans ((FR.at f86 143 1 rfl).trans ((FR.at f73 143 1 rfl).trans ((FR.at f60 143 1 rfl).trans (FR.at f47 143 1 rfl)))))
              have b795 := GI.b hg 143 2 kd143 (lo := 0) (hi := 16) rfl
              have q796 : (τ786.1 143 2) = (σ.1 143 2) := ((FR.at f788 143 2 rfl).trans ((FR.at f86 143 2 rfl).trans ((FR.at f73 143 2 rfl).trans ((FR.at f60 143 2 rfl).trans (FR.at f47 143 2 rfl)))))
              exact jn39 () τ786 ⟨g787, (FR.up (FR.up (FR.up (FR.up (FR.up FR.rf f47 sb_Wtak_Wst0) f60 sb_Wtak_Wst0) f73 sb_Wtak_Wst0) f86 sb_Wtak_Wst0) f788 sb_Wnl_Wst0), (by omega), (by omega), (by omega), (by omega), (by omega), (by omega)⟩
          · intro h76
            replace p68 := p68 (by omega)
            refine wp_al1 jF_217_72 rfl rfl (pc2 := 73) ?_
            refine wp_ic jF_217_73 rfl (pc2 := 74) ?_
            refine wp_il1 jF_217_74 rfl rfl (pc2 := 75) ?_
            refine wp_cV (as := [iV 2, iV (σ.1 117 2)]) (rest := []) (a := 117) (mx := 6) (ci := 12) jF_217_75 kd117 (by decide) rfl rfl rfl rfl rfl (by omega) (by omega) rfl (pc2 := 78) ?_
            have b797 := GI.b g72 117 2 kd117 (lo := 0) (hi := 1601) rfl
            have q798 : (τ71.1 117 5) = (σ.1 117 5) := ((FR.at f73 117 5 rfl).trans ((FR.at f60 117 5 rfl).trans (FR.at f47 117 5 rfl)))
            refine wp_use (m_222 τ71 g72 2 (by omega) (by omega) (σ.1 117 2) (by omega) (by omega)  _ _ (by omega) (by omega)) ?_
            rintro _ τ802 ⟨rfl, g803, f804, p799, p800, p801⟩
            clear p800
            show WP 217 78 [(0, .ref 117), (1, iV (σ.1 117 2))] [] _ _ _ _
            refine wp_go jF_217_78 ?_
            have b805 := GI.b g803 117 2 kd117 (lo := 0) (hi := 1601) rfl
            have b806 := GI.b g803 117 5 kd117 (lo := (-2147483648)) (hi := 2147483647) rfl
            have b807 := GI.b hg 143 0 kd143 (lo := 0) (hi := 16) rfl
            have q808 : (τ802.1 143 0) = (σ.1 143 0) := ((FR.at f804 143 0 rfl).trans ((FR.at f73 143 0 rfl).trans ((FR.at f60 143 0 rfl).trans (FR.at f47 143 0 rfl))))
            have b809 := GI.b hg 143 1 kd143 (lo := 0) (hi := 16) rfl
            have q810 : (τ802.1 143 1) = (σ.1 143 1) := ((FR.at f804 143 1 rfl).trans ((FR.at f73 143 1 rfl).trans ((FR.at f60 143 1 rfl).trans (FR.at f47 143 1 rfl))))
            have b811 := GI.b hg 143 2 kd143 (lo := 0) (hi := 16) rfl
            have q812 : (τ802.1 143 2) = (σ.1 143 2) := ((FR.at f804 143 2 rfl).trans ((FR.at f73 143 2 rfl).trans ((FR.at f60 143 2 rfl).trans (FR.at f47 143 2 rfl))))
            exact jn39 () τ802 ⟨g803, (FR.up (FR.up (FR.up (FR.up FR.rf f47 sb_Wtak_Wst0) f60 sb_Wtak_Wst0) f73 sb_Wtak_Wst0) f804 sb_Wnw_Wst0), (by omega), (by omega), (by omega), (by omega), (by omega), (by omega)⟩
        · intro h63
          replace p55 := p55 (by omega)
          refine wp_al1 jF_217_52 rfl rfl (pc2 := 53) ?_
          refine wp_ic jF_217_53 rfl (pc2 := 54) ?_
          refine wp_il1 jF_217_54 rfl rfl (pc2 := 55) ?_
          refine wp_cV (as := [iV 1, iV (σ.1 117 2)]) (rest := []) (a := 117) (mx := 6) (ci := 12) jF_217_55 kd117 (by decide) rfl rfl rfl rfl rfl (by omega) (by omega) rfl (pc2 := 58) ?_
          have b813 := GI.b g59 117 2 kd117 (lo := 0) (hi := 1601) rfl
          have q814 : (τ58.1 117 5) = (σ.1 117 5) := ((FR.at f60 117 5 rfl).trans (FR.at f47 117 5 rfl))
          refine wp_use (m_222 τ58 g59 1 (by omega) (by omega) (σ.1 117 2) (by omega) (by omega)  _ _ (by omega) (by omega)) ?_
          rintro _ τ818 ⟨rfl, g819, f820, p815, p816, p817⟩
          clear p816
          show WP 217 58 [(0, .ref 117), (1, iV (σ.1 117 2))] [] _ _ _ _
          refine wp_go jF_217_58 ?_
          have b821 := GI.b g819 117 2 kd117 (lo := 0) (hi := 1601) rfl
          have b822 := GI.b g819 117 5 kd117 (lo := (-2147483648)) (hi := 2147483647) rfl
          have b823 := GI.b hg 143 0 kd143 (lo := 0) (hi := 16) rfl
          have q824 : (τ818.1 143 0) = (σ.1 143 0) := ((FR.at f820 143 0 rfl).trans ((FR.at f60 143 0 rfl).trans (FR.at f47 143 0 rfl)))
          have b825 := GI.b hg 143 1 kd143 (lo := 0) (hi := 16) rfl
          have q826 : (τ818.1 143 1) = (σ.1 143 1) := ((FR.at f820 143 1 rfl).trans ((FR.at f60 143 1 rfl).trans (FR.at f47 143 1 rfl)))
          have b827 := GI.b hg 143 2 kd143 (lo := 0) (hi := 16) rfl
          have q828 : (τ818.1 143 2) = (σ.1 143 2) := ((FR.at f820 143 2 rfl).trans ((FR.at f60 143 2 rfl).trans (FR.at f47 143 2 rfl)))
          exact jn39 () τ818 ⟨g819, (FR.up (FR.up (FR.up FR.rf f47 sb_Wtak_Wst0) f60 sb_Wtak_Wst0) f820 sb_Wnw_Wst0), (by omega), (by omega), (by omega), (by omega), (by omega), (by omega)⟩
      · intro h50
        replace p42 := p42 (by omega)
        refine wp_al1 jF_217_32 rfl rfl (pc2 := 33) ?_
        refine wp_ic jF_217_33 rfl (pc2 := 34) ?_
        refine wp_il1 jF_217_34 rfl rfl (pc2 := 35) ?_
        refine wp_cV (as := [iV 0, iV (σ.1 117 2)]) (rest := []) (a := 117) (mx := 6) (ci := 12) jF_217_35 kd117 (by decide) rfl rfl rfl rfl rfl (by omega) (by omega) rfl (pc2 := 38) ?_
        have b829 := GI.b g46 117 2 kd117 (lo := 0) (hi := 1601) rfl
        have q830 : (τ45.1 117 5) = (σ.1 117 5) := (FR.at f47 117 5 rfl)
        refine wp_use (m_222 τ45 g46 0 (by omega) (by omega) (σ.1 117 2) (by omega) (by omega)  _ _ (by omega) (by omega)) ?_
        rintro _ τ834 ⟨rfl, g835, f836, p831, p832, p833⟩
        clear p832
        show WP 217 38 [(0, .ref 117), (1, iV (σ.1 117 2))] [] _ _ _ _
        refine wp_go jF_217_38 ?_
        have b837 := GI.b g835 117 2 kd117 (lo := 0) (hi := 1601) rfl
        have b838 := GI.b g835 117 5 kd117 (lo := (-2147483648)) (hi := 2147483647) rfl
        have b839 := GI.b hg 143 0 kd143 (lo := 0) (hi := 16) rfl
        have q840 : (τ834.1 143 0) = (σ.1 143 0) := ((FR.at f836 143 0 rfl).trans (FR.at f47 143 0 rfl))
        have b841 := GI.b hg 143 1 kd143 (lo := 0) (hi := 16) rfl
        have q842 : (τ834.1 143 1) = (σ.1 143 1) := ((FR.at f836 143 1 rfl).trans (FR.at f47 143 1 rfl))
        have b843 := GI.b hg 143 2 kd143 (lo := 0) (hi := 16) rfl
        have q844 : (τ834.1 143 2) = (σ.1 143 2) := ((FR.at f836 143 2 rfl).trans (FR.at f47 143 2 rfl))
        exact jn39 () τ834 ⟨g835, (FR.up (FR.up FR.rf f47 sb_Wtak_Wst0) f836 sb_Wnw_Wst0), (by omega), (by omega), (by omega), (by omega), (by omega), (by omega)⟩
  · intro h3
    refine wp_al1 jF_217_14 rfl rfl (pc2 := 15) ?_
    refine wp_ic jF_217_15 rfl (pc2 := 16) ?_
    refine wp_il1 jF_217_16 rfl rfl (pc2 := 17) ?_
    refine wp_cV (as := [iV 5, iV (σ.1 117 2)]) (rest := []) (a := 117) (mx := 3) (ci := 12) jF_217_17 kd117 (by decide) rfl rfl rfl rfl rfl (by omega) (by omega) rfl (pc2 := 20) ?_
    have b845 := GI.b hg 117 5 kd117 (lo := (-2147483648)) (hi := 2147483647) rfl
    refine wp_use (m_218 σ hg 5 (by omega) (by omega) (σ.1 117 2) (by omega) (by omega)  _ _ (by omega) (by omega)) ?_
    rintro _ τ848 ⟨rfl, g849, f850, p846, p847⟩
    show WP 217 20 [(0, .ref 117), (1, iV (σ.1 117 2))] [] _ _ _ _
    refine wp_rv jF_217_20 ?_
    have q851 : (τ848.1 117 2) = (σ.1 117 2) := (FR.at f850 117 2 rfl)
    have q852 : (τ848.1 117 39) = (σ.1 117 39) := (FR.at f850 117 39 rfl)
    have b853 := GI.b g849 117 5 kd117 (lo := (-2147483648)) (hi := 2147483647) rfl
    have b854 := GI.b hg 143 0 kd143 (lo := 0) (hi := 16) rfl
    have q855 : (τ848.1 143 0) = (σ.1 143 0) := (FR.at f850 143 0 rfl)
    have b856 := GI.b hg 143 1 kd143 (lo := 0) (hi := 16) rfl
    have q857 : (τ848.1 143 1) = (σ.1 143 1) := (FR.at f850 143 1 rfl)
    have b858 := GI.b hg 143 2 kd143 (lo := 0) (hi := 16) rfl
    have q859 : (τ848.1 143 2) = (σ.1 143 2) := (FR.at f850 143 2 rfl)
    exact ⟨rfl, g849, (FR.up FR.rf f850 sb_Wbad_Wst), (by omega), (by omega), (by omega), (by omega), (by omega), (by omega), (by omega)⟩
