set_option maxHeartbeats 4000000 in
set_option maxRecDepth 20000 in
/-- M.spelt -/
theorem m_225 (σ : jM) (hg : GI σ)   (fr lo : Nat) (hfr : 3 ≤ fr) (hlo : 64 ≤ lo) : WP 225 0 (lv_args 0 [.ref 117]) [] fr lo σ (fun v τ => ∃ z : Int64, v = some (.long z) ∧ GI τ ∧ FR Wsp σ τ ∧ ((σ.1 117 2) ≤ (τ.1 117 2)) ∧ ((σ.1 117 5) ≠ 0 → (τ.1 117 5) = (σ.1 117 5)) ∧ ((τ.1 117 5) = 0 → (σ.1 117 5) = 0) ∧ ((nb σ) = 1 → (τ.1 117 5) = 0 → (97 ≤ (ch σ) ∧ (ch σ) ≤ 122))) := by
  show WP 225 0 [(0, .ref 117)] [] _ _ _ _
  refine wp_al1 jF_225_0 rfl rfl (pc2 := 1) ?_
  have b1 := GI.b hg 117 5 kd117 (lo := (-2147483648)) (hi := 2147483647) rfl
  refine wp_gi jF_225_1 kd117 (by decide) rfl rfl rfl (pc2 := 4) ?_
  refine wp_z_eq jF_225_4 (m_rgb b1 rfl) rfl (pc2 := 7) ?_ ?_
  · intro h2
    refine wp_al1 jF_225_9 rfl rfl (pc2 := 10) ?_
    refine wp_cV (as := []) (rest := []) (a := 117) (mx := 1) (ci := 12) jF_225_10 kd117 (by decide) rfl rfl rfl rfl rfl (by omega) (by omega) rfl (pc2 := 13) ?_
    have b3 := GI.b hg 117 2 kd117 (lo := 0) (hi := 1601) rfl
    have b4 := GI.b hg 117 3 kd117 (lo := 0) (hi := 1600) rfl
    refine wp_use (m_216 σ hg   _ _ (by omega) (by omega)) ?_
    rintro _ τ11 ⟨z14, rfl, h15, g12, f13, p5, p6, p7, p8, p9, p10⟩
    have b16 := GI.b hg 118 (τ11.1 117 2).toNat kd118 (lo := 0) (hi := 255) rfl
    show WP 225 13 [(0, .ref 117)] [iV z14] _ _ _ _
    refine wp_cS (as := [iV z14]) (rest := []) (mx := 1) jF_225_13 rfl rfl rfl rfl (by omega) (by omega) rfl (pc2 := 16) ?_
    show WP 221 0 [(0, iV z14)] [] _ _ _ _
    refine wp_il1 jF_221_0 rfl rfl (pc2 := 1) ?_
    refine wp_bi jF_221_1 (by decide) rfl (pc2 := 3) ?_
    refine wp_i_lt jF_221_3 (m_rgb h15 rfl) (m_rgl rfl) rfl (pc2 := 6) ?_ ?_
    · intro h17
      refine wp_ic jF_221_16 rfl (pc2 := 17) ?_
      refine wp_ri jF_221_17 rfl ?_
      show WP 225 16 [(0, .ref 117)] [iV 0] _ _ _ _
      refine wp_z_eq jF_225_16 (m_rgl rfl) rfl (pc2 := 19) ?_ ?_
      · intro h18
        refine wp_al1 jF_225_37 rfl rfl (pc2 := 38) ?_
        refine wp_ic jF_225_38 rfl (pc2 := 39) ?_
        refine wp_al1 jF_225_39 rfl rfl (pc2 := 40) ?_
        have b19 := GI.b g12 117 2 kd117 (lo := 0) (hi := 1601) rfl
        refine wp_gi jF_225_40 kd117 (by decide) rfl rfl rfl (pc2 := 43) ?_
        refine wp_cV (as := [iV 1, iV (τ11.1 117 2)]) (rest := []) (a := 117) (mx := 3) (ci := 12) jF_225_43 kd117 (by decide) rfl rfl rfl rfl rfl (by omega) (by omega) rfl (pc2 := 46) ?_
        have q20 : (τ11.1 117 5) = (σ.1 117 5) := (FR.at f13 117 5 rfl)
        refine wp_use (m_218 τ11 g12 1 (by omega) (by omega) (τ11.1 117 2) (by omega) (by omega)  _ _ (by omega) (by omega)) ?_
        rintro _ τ23 ⟨rfl, g24, f25, p21, p22⟩
        clear p21
        replace p22 := p22 (by omega)
        show WP 225 46 [(0, .ref 117)] [] _ _ _ _
        refine wp_lc jF_225_46 rfl (pc2 := 47) ?_
        refine wp_rl jF_225_47 ?_
        have q26 : (τ23.1 117 2) = (τ11.1 117 2) := (FR.at f25 117 2 rfl)
        have b27 := GI.b g24 117 5 kd117 (lo := (-2147483648)) (hi := 2147483647) rfl
        exact ⟨(Int64.ofNat 0), rfl, g24, (FR.up (FR.up FR.rf f13 sb_Wat_Wsp) f25 sb_Wbad_Wsp), (by omega), (by omega), (by omega), (by omega)⟩
      · intro h18; exfalso; omega
    · intro h17
      replace p5 := p5 (by omega)
      replace p10 := p10 (by omega)
      refine wp_il1 jF_221_6 rfl rfl (pc2 := 7) ?_
      refine wp_bi jF_221_7 (by decide) rfl (pc2 := 9) ?_
      refine wp_i_gt jF_221_9 ⟨by omega, by omega⟩ (m_rgl rfl) rfl (pc2 := 12) ?_ ?_
      · intro h28
        refine wp_ic jF_221_16 rfl (pc2 := 17) ?_
        refine wp_ri jF_221_17 rfl ?_
        show WP 225 16 [(0, .ref 117)] [iV 0] _ _ _ _
        refine wp_z_eq jF_225_16 (m_rgl rfl) rfl (pc2 := 19) ?_ ?_
        · intro h29
          refine wp_al1 jF_225_37 rfl rfl (pc2 := 38) ?_
          refine wp_ic jF_225_38 rfl (pc2 := 39) ?_
          refine wp_al1 jF_225_39 rfl rfl (pc2 := 40) ?_
          have b30 := GI.b g12 117 2 kd117 (lo := 0) (hi := 1601) rfl
          refine wp_gi jF_225_40 kd117 (by decide) rfl rfl rfl (pc2 := 43) ?_
          refine wp_cV (as := [iV 1, iV (τ11.1 117 2)]) (rest := []) (a := 117) (mx := 3) (ci := 12) jF_225_43 kd117 (by decide) rfl rfl rfl rfl rfl (by omega) (by omega) rfl (pc2 := 46) ?_
          have q31 : (τ11.1 117 5) = (σ.1 117 5) := (FR.at f13 117 5 rfl)
          refine wp_use (m_218 τ11 g12 1 (by omega) (by omega) (τ11.1 117 2) (by omega) (by omega)  _ _ (by omega) (by omega)) ?_
          rintro _ τ34 ⟨rfl, g35, f36, p32, p33⟩
          clear p32
          replace p33 := p33 (by omega)
          show WP 225 46 [(0, .ref 117)] [] _ _ _ _
          refine wp_lc jF_225_46 rfl (pc2 := 47) ?_
          refine wp_rl jF_225_47 ?_
          have q37 : (τ34.1 117 2) = (τ11.1 117 2) := (FR.at f36 117 2 rfl)
          have b38 := GI.b g35 117 5 kd117 (lo := (-2147483648)) (hi := 2147483647) rfl
          exact ⟨(Int64.ofNat 0), rfl, g35, (FR.up (FR.up FR.rf f13 sb_Wat_Wsp) f36 sb_Wbad_Wsp), (by omega), (by omega), (by omega), (by omega)⟩
        · intro h29; exfalso; omega
      · intro h28
        refine wp_ic jF_221_12 rfl (pc2 := 13) ?_
        refine wp_go jF_221_13 ?_
        refine wp_ri jF_221_17 rfl ?_
        show WP 225 16 [(0, .ref 117)] [iV 1] _ _ _ _
        refine wp_z_eq jF_225_16 (m_rgl rfl) rfl (pc2 := 19) ?_ ?_
        · intro h39; exfalso; omega
        · intro h39
          refine wp_al1 jF_225_19 rfl rfl (pc2 := 20) ?_
          have b40 := GI.b g12 117 2 kd117 (lo := 0) (hi := 1601) rfl
          refine wp_gi jF_225_20 kd117 (by decide) rfl rfl rfl (pc2 := 23) ?_
          refine wp_al1 jF_225_23 rfl rfl (pc2 := 24) ?_
          have b41 := GI.b hg 117 4 kd117 (lo := (-2147483648)) (hi := 2147483647) rfl
          refine wp_gi jF_225_24 kd117 (by decide) rfl (FR.at f13 117 4 rfl) rfl (pc2 := 27) ?_
          refine wp_i_eq jF_225_27 (m_rgb b40 rfl) (m_rgb b41 rfl) rfl (pc2 := 30) ?_ ?_
          · intro h42
            refine wp_al1 jF_225_37 rfl rfl (pc2 := 38) ?_
            refine wp_ic jF_225_38 rfl (pc2 := 39) ?_
            refine wp_al1 jF_225_39 rfl rfl (pc2 := 40) ?_
            refine wp_gi jF_225_40 kd117 (by decide) rfl rfl rfl (pc2 := 43) ?_
            refine wp_cV (as := [iV 1, iV (τ11.1 117 2)]) (rest := []) (a := 117) (mx := 3) (ci := 12) jF_225_43 kd117 (by decide) rfl rfl rfl rfl rfl (by omega) (by omega) rfl (pc2 := 46) ?_
            have q43 : (τ11.1 117 5) = (σ.1 117 5) := (FR.at f13 117 5 rfl)
            refine wp_use (m_218 τ11 g12 1 (by omega) (by omega) (τ11.1 117 2) (by omega) (by omega)  _ _ (by omega) (by omega)) ?_
            rintro _ τ46 ⟨rfl, g47, f48, p44, p45⟩
            clear p44
            replace p45 := p45 (by omega)
            show WP 225 46 [(0, .ref 117)] [] _ _ _ _
            refine wp_lc jF_225_46 rfl (pc2 := 47) ?_
            refine wp_rl jF_225_47 ?_
            have q49 : (τ46.1 117 2) = (τ11.1 117 2) := (FR.at f48 117 2 rfl)
            have b50 := GI.b g47 117 5 kd117 (lo := (-2147483648)) (hi := 2147483647) rfl
            exact ⟨(Int64.ofNat 0), rfl, g47, (FR.up (FR.up FR.rf f13 sb_Wat_Wsp) f48 sb_Wbad_Wsp), (by omega), (by omega), (by omega), (by omega)⟩
          · intro h42
            refine wp_al1 jF_225_30 rfl rfl (pc2 := 31) ?_
            refine wp_cV (as := []) (rest := []) (a := 117) (mx := 2) (ci := 12) jF_225_31 kd117 (by decide) rfl rfl rfl rfl rfl (by omega) (by omega) rfl (pc2 := 34) ?_
            refine wp_use (m_226 τ11 g12   _ _ (by omega) (by omega)) ?_
            rintro _ τ52 ⟨z55, rfl, h56, g53, f54, p51⟩
            show WP 225 34 [(0, .ref 117)] [iV z55] _ _ _ _
            refine wp_z_eq jF_225_34 (m_rgb h56 rfl) rfl (pc2 := 37) ?_ ?_
            · intro h57
              refine wp_al1 jF_225_48 rfl rfl (pc2 := 49) ?_
              refine wp_al1 jF_225_49 rfl rfl (pc2 := 50) ?_
              have b58 := GI.b g53 117 2 kd117 (lo := 0) (hi := 1601) rfl
              refine wp_gi jF_225_50 kd117 (by decide) rfl rfl rfl (pc2 := 53) ?_
              refine wp_pi jF_225_53 kd117 (by decide) rfl rfl rfl (pc2 := 56) g53 (lo := (-2147483648)) (hi := 2147483647) rfl (by omega) (by omega) ?_
              intro τ59 g60 f61 e62
              refine wp_lc jF_225_56 rfl (pc2 := 57) ?_
              refine wp_ls1 (lv2 := [(0, .ref 117), (1, .long (Int64.ofNat 0))]) jF_225_57 rfl rfl rfl (pc2 := 58) ?_
              have q63 : (τ59.1 117 2) = (τ52.1 117 2) := (FRw.nj f61 (by decide))
              refine wp_loop (α := Int64) (fun a => [(0, .ref 117), (1, .long (a))]) (fun a τ => GI τ ∧ FR Wat τ59 τ ∧ ((τ59.1 117 2) ≤ (τ.1 117 2))) (fun a τ => Int.toNat (1700 - (τ.1 117 2))) ((Int64.ofNat 0)) τ59 ?_ ?_
              · skip
                exact ⟨g60, FR.rf, (by omega)⟩
              · rintro y64 τ65 ⟨g66, f67, p68⟩ ih69
                have b70 := GI.b g66 117 2 kd117 (lo := 0) (hi := 1601) rfl
                show WP 225 58 [(0, .ref 117), (1, .long y64)] [] _ _ _ _
                refine wp_al1 jF_225_58 rfl rfl (pc2 := 59) ?_
                refine wp_gi jF_225_59 kd117 (by decide) rfl rfl rfl (pc2 := 62) ?_
                refine wp_al1 jF_225_62 rfl rfl (pc2 := 63) ?_
                refine wp_gi jF_225_63 kd117 (by decide) rfl ((FR.at f67 117 3 rfl).trans ((FRw.nj f61 (by decide)).trans ((FR.at f54 117 3 rfl).trans (FR.at f13 117 3 rfl)))) rfl (pc2 := 66) ?_
                refine wp_i_ge jF_225_66 (m_rgb b70 rfl) (m_rgb b4 rfl) rfl (pc2 := 69) ?_ ?_
                · intro h71
                  refine wp_al1 jF_225_145 rfl rfl (pc2 := 146) ?_
                  refine wp_al1 jF_225_146 rfl rfl (pc2 := 147) ?_
                  refine wp_gi jF_225_147 kd117 (by decide) rfl rfl rfl (pc2 := 150) ?_
                  refine wp_pi jF_225_150 kd117 (by decide) rfl rfl rfl (pc2 := 153) g66 (lo := (-2147483648)) (hi := 2147483647) rfl (by omega) (by omega) ?_
                  intro τ72 g73 f74 e75
                  refine wp_ll1 jF_225_153 rfl rfl (pc2 := 154) ?_
                  refine wp_rl jF_225_154 ?_
                  have q76 : (τ72.1 117 2) = (τ65.1 117 2) := (FRw.nj f74 (by decide))
                  have q77 : (τ72.1 117 5) = (σ.1 117 5) := ((FRw.nj f74 (by decide)).trans ((FR.at f67 117 5 rfl).trans ((FRw.nj f61 (by decide)).trans ((FR.at f54 117 5 rfl).trans (FR.at f13 117 5 rfl)))))
                  exact ⟨y64, rfl, g73, (FR.w (FR.up (FR.w (FR.up (FR.up FR.rf f13 sb_Wat_Wsp) f54 sb_Wat_Wsp) f61 rfl) f67 sb_Wat_Wsp) f74 rfl), (by omega), (by omega), (by omega), (by omega)⟩
                · intro h71
                  refine wp_al1 jF_225_69 rfl rfl (pc2 := 70) ?_
                  refine wp_gr (b := 118) jF_225_70 kd117 (by decide) (c := 218) rfl rfl rfl (pc2 := 73) ?_
                  refine wp_al1 jF_225_73 rfl rfl (pc2 := 74) ?_
                  refine wp_gi jF_225_74 kd117 (by decide) rfl rfl rfl (pc2 := 77) ?_
                  have b78 := GI.b hg 118 (τ65.1 117 2).toNat kd118 (lo := 0) (hi := 255) rfl
                  refine wp_iald (n := 1600) jF_225_77 kd118 (by decide) rfl rfl (by omega) (by omega) ((FR.at f67 118 (τ65.1 117 2).toNat rfl).trans ((FRw.na f61 (by decide)).trans ((FR.at f54 118 (τ65.1 117 2).toNat rfl).trans (FR.at f13 118 (τ65.1 117 2).toNat rfl)))) rfl (pc2 := 78) ?_
                  refine wp_cS (as := [iV (σ.1 118 (τ65.1 117 2).toNat)]) (rest := []) (mx := 1) jF_225_78 rfl rfl rfl rfl (by omega) (by omega) rfl (pc2 := 81) ?_
                  show WP 221 0 [(0, iV (σ.1 118 (τ65.1 117 2).toNat))] [] _ _ _ _
                  refine wp_il1 jF_221_0 rfl rfl (pc2 := 1) ?_
                  refine wp_bi jF_221_1 (by decide) rfl (pc2 := 3) ?_
                  refine wp_i_lt jF_221_3 (m_rgb b78 rfl) (m_rgl rfl) rfl (pc2 := 6) ?_ ?_
                  · intro h79
                    refine wp_ic jF_221_16 rfl (pc2 := 17) ?_
                    refine wp_ri jF_221_17 rfl ?_
                    show WP 225 81 [(0, .ref 117), (1, .long y64)] [iV 0] _ _ _ _
                    refine wp_z_eq jF_225_81 (m_rgl rfl) rfl (pc2 := 84) ?_ ?_
                    · intro h80
                      refine wp_al1 jF_225_145 rfl rfl (pc2 := 146) ?_
                      refine wp_al1 jF_225_146 rfl rfl (pc2 := 147) ?_
                      refine wp_gi jF_225_147 kd117 (by decide) rfl rfl rfl (pc2 := 150) ?_
                      refine wp_pi jF_225_150 kd117 (by decide) rfl rfl rfl (pc2 := 153) g66 (lo := (-2147483648)) (hi := 2147483647) rfl (by omega) (by omega) ?_
                      intro τ81 g82 f83 e84
                      refine wp_ll1 jF_225_153 rfl rfl (pc2 := 154) ?_
                      refine wp_rl jF_225_154 ?_
                      have q85 : (τ81.1 117 2) = (τ65.1 117 2) := (FRw.nj f83 (by decide))
                      have q86 : (τ81.1 117 5) = (σ.1 117 5) := ((FRw.nj f83 (by decide)).trans ((FR.at f67 117 5 rfl).trans ((FRw.nj f61 (by decide)).trans ((FR.at f54 117 5 rfl).trans (FR.at f13 117 5 rfl)))))
                      exact ⟨y64, rfl, g82, (FR.w (FR.up (FR.w (FR.up (FR.up FR.rf f13 sb_Wat_Wsp) f54 sb_Wat_Wsp) f61 rfl) f67 sb_Wat_Wsp) f83 rfl), (by omega), (by omega), (by omega), (by omega)⟩
                    · intro h80; exfalso; omega
                  · intro h79
                    refine wp_il1 jF_221_6 rfl rfl (pc2 := 7) ?_
                    refine wp_bi jF_221_7 (by decide) rfl (pc2 := 9) ?_
                    refine wp_i_gt jF_221_9 ⟨by omega, by omega⟩ (m_rgl rfl) rfl (pc2 := 12) ?_ ?_
                    · intro h87
                      refine wp_ic jF_221_16 rfl (pc2 := 17) ?_
                      refine wp_ri jF_221_17 rfl ?_
                      show WP 225 81 [(0, .ref 117), (1, .long y64)] [iV 0] _ _ _ _
                      refine wp_z_eq jF_225_81 (m_rgl rfl) rfl (pc2 := 84) ?_ ?_
                      · intro h88
                        refine wp_al1 jF_225_145 rfl rfl (pc2 := 146) ?_
                        refine wp_al1 jF_225_146 rfl rfl (pc2 := 147) ?_
                        refine wp_gi jF_225_147 kd117 (by decide) rfl rfl rfl (pc2 := 150) ?_
                        refine wp_pi jF_225_150 kd117 (by decide) rfl rfl rfl (pc2 := 153) g66 (lo := (-2147483648)) (hi := 2147483647) rfl (by omega) (by omega) ?_
                        intro τ89 g90 f91 e92
                        refine wp_ll1 jF_225_153 rfl rfl (pc2 := 154) ?_
                        refine wp_rl jF_225_154 ?_
                        have q93 : (τ89.1 117 2) = (τ65.1 117 2) := (FRw.nj f91 (by decide))
                        have q94 : (τ89.1 117 5) = (σ.1 117 5) := ((FRw.nj f91 (by decide)).trans ((FR.at f67 117 5 rfl).trans ((FRw.nj f61 (by decide)).trans ((FR.at f54 117 5 rfl).trans (FR.at f13 117 5 rfl)))))
                        exact ⟨y64, rfl, g90, (FR.w (FR.up (FR.w (FR.up (FR.up FR.rf f13 sb_Wat_Wsp) f54 sb_Wat_Wsp) f61 rfl) f67 sb_Wat_Wsp) f91 rfl), (by omega), (by omega), (by omega), (by omega)⟩
                      · intro h88; exfalso; omega
                    · intro h87
                      refine wp_ic jF_221_12 rfl (pc2 := 13) ?_
                      refine wp_go jF_221_13 ?_
                      refine wp_ri jF_221_17 rfl ?_
                      show WP 225 81 [(0, .ref 117), (1, .long y64)] [iV 1] _ _ _ _
                      refine wp_z_eq jF_225_81 (m_rgl rfl) rfl (pc2 := 84) ?_ ?_
                      · intro h95; exfalso; omega
                      · intro h95
                        refine wp_al1 jF_225_84 rfl rfl (pc2 := 85) ?_
                        refine wp_gi jF_225_85 kd117 (by decide) rfl rfl rfl (pc2 := 88) ?_
                        refine wp_al1 jF_225_88 rfl rfl (pc2 := 89) ?_
                        refine wp_gi jF_225_89 kd117 (by decide) rfl ((FR.at f67 117 28 rfl).trans e62) rfl (pc2 := 92) ?_
                        refine wp_sub jF_225_92 rfl (pc2 := 93) ?_
                        refine wp_bi jF_225_93 (by decide) rfl (pc2 := 95) ?_
                        refine wp_i_ne jF_225_95 ⟨by omega, by omega⟩ (m_rgl rfl) rfl (pc2 := 98) ?_ ?_
                        · intro h96
                          refine wp_ld jF_225_109 rfl (pc2 := 112) ?_
                          refine wp_ll1 jF_225_112 rfl rfl (pc2 := 113) ?_
                          refine wp_lng (pc2 := 114) jF_225_113 rfl rfl ?_
                          intro y97
                          refine wp_al1 jF_225_114 rfl rfl (pc2 := 115) ?_
                          refine wp_gr (b := 118) jF_225_115 kd117 (by decide) (c := 218) rfl rfl rfl (pc2 := 118) ?_
                          refine wp_al1 jF_225_118 rfl rfl (pc2 := 119) ?_
                          refine wp_gi jF_225_119 kd117 (by decide) rfl rfl rfl (pc2 := 122) ?_
                          refine wp_iald (n := 1600) jF_225_122 kd118 (by decide) rfl rfl (by omega) (by omega) ((FR.at f67 118 (τ65.1 117 2).toNat rfl).trans ((FRw.na f61 (by decide)).trans ((FR.at f54 118 (τ65.1 117 2).toNat rfl).trans (FR.at f13 118 (τ65.1 117 2).toNat rfl)))) rfl (pc2 := 123) ?_
                          refine wp_i2l jF_225_123 rfl (pc2 := 124) ?_
                          refine wp_lng (pc2 := 125) jF_225_124 rfl rfl ?_
                          intro y98
                          refine wp_ld jF_225_125 rfl (pc2 := 128) ?_
                          refine wp_lng (pc2 := 129) jF_225_128 rfl rfl ?_
                          intro y99
                          refine wp_lc jF_225_129 rfl (pc2 := 130) ?_
                          refine wp_lng (pc2 := 131) jF_225_130 rfl rfl ?_
                          intro y100
                          refine wp_ls1 (lv2 := [(0, .ref 117), (1, .long y100)]) jF_225_131 rfl rfl rfl (pc2 := 132) ?_
                          refine wp_al1 jF_225_132 rfl rfl (pc2 := 133) ?_
                          refine wp_dup jF_225_133 rfl rfl (pc2 := 134) ?_
                          refine wp_gi jF_225_134 kd117 (by decide) rfl rfl rfl (pc2 := 137) ?_
                          refine wp_ic jF_225_137 rfl (pc2 := 138) ?_
                          refine wp_add jF_225_138 rfl (pc2 := 139) ?_
                          refine wp_pi jF_225_139 kd117 (by decide) rfl rfl rfl (pc2 := 142) g66 (lo := 0) (hi := 1601) rfl (by omega) (by omega) ?_
                          intro τ101 g102 f103 e104
                          refine wp_go jF_225_142 ?_
                          have q105 : (τ101.1 117 2) = ((τ65.1 117 2) + 1) := e104
                          exact ih69 (y100) τ101 ⟨g102, (FR.w f67 f103 rfl), (by omega)⟩ (by show Int.toNat (1700 - (τ101.1 117 2)) < Int.toNat (1700 - (τ65.1 117 2)); omega)
                        · intro h96
                          refine wp_al1 jF_225_98 rfl rfl (pc2 := 99) ?_
                          refine wp_ic jF_225_99 rfl (pc2 := 100) ?_
                          refine wp_al1 jF_225_100 rfl rfl (pc2 := 101) ?_
                          refine wp_gi jF_225_101 kd117 (by decide) rfl rfl rfl (pc2 := 104) ?_
                          refine wp_cV (as := [iV 1, iV (τ65.1 117 2)]) (rest := []) (a := 117) (mx := 3) (ci := 12) jF_225_104 kd117 (by decide) rfl rfl rfl rfl rfl (by omega) (by omega) rfl (pc2 := 107) ?_
                          have q106 : (τ65.1 117 5) = (σ.1 117 5) := ((FR.at f67 117 5 rfl).trans ((FRw.nj f61 (by decide)).trans ((FR.at f54 117 5 rfl).trans (FR.at f13 117 5 rfl))))
                          refine wp_use (m_218 τ65 g66 1 (by omega) (by omega) (τ65.1 117 2) (by omega) (by omega)  _ _ (by omega) (by omega)) ?_
                          rintro _ τ109 ⟨rfl, g110, f111, p107, p108⟩
                          clear p107
                          replace p108 := p108 (by omega)
                          show WP 225 107 [(0, .ref 117), (1, .long y64)] [] _ _ _ _
                          refine wp_lc jF_225_107 rfl (pc2 := 108) ?_
                          refine wp_rl jF_225_108 ?_
                          have q112 : (τ109.1 117 2) = (τ65.1 117 2) := (FR.at f111 117 2 rfl)
                          have b113 := GI.b g110 117 5 kd117 (lo := (-2147483648)) (hi := 2147483647) rfl
                          exact ⟨(Int64.ofNat 0), rfl, g110, (FR.up (FR.up (FR.w (FR.up (FR.up FR.rf f13 sb_Wat_Wsp) f54 sb_Wat_Wsp) f61 rfl) f67 sb_Wat_Wsp) f111 sb_Wbad_Wsp), (by omega), (by omega), (by omega), (by omega)⟩
            · intro h57
              refine wp_al1 jF_225_37 rfl rfl (pc2 := 38) ?_
              refine wp_ic jF_225_38 rfl (pc2 := 39) ?_
              refine wp_al1 jF_225_39 rfl rfl (pc2 := 40) ?_
              have b114 := GI.b g53 117 2 kd117 (lo := 0) (hi := 1601) rfl
              refine wp_gi jF_225_40 kd117 (by decide) rfl rfl rfl (pc2 := 43) ?_
              refine wp_cV (as := [iV 1, iV (τ52.1 117 2)]) (rest := []) (a := 117) (mx := 3) (ci := 12) jF_225_43 kd117 (by decide) rfl rfl rfl rfl rfl (by omega) (by omega) rfl (pc2 := 46) ?_
              have q115 : (τ52.1 117 5) = (σ.1 117 5) := ((FR.at f54 117 5 rfl).trans (FR.at f13 117 5 rfl))
              refine wp_use (m_218 τ52 g53 1 (by omega) (by omega) (τ52.1 117 2) (by omega) (by omega)  _ _ (by omega) (by omega)) ?_
              rintro _ τ118 ⟨rfl, g119, f120, p116, p117⟩
              clear p116
              replace p117 := p117 (by omega)
              show WP 225 46 [(0, .ref 117)] [] _ _ _ _
              refine wp_lc jF_225_46 rfl (pc2 := 47) ?_
              refine wp_rl jF_225_47 ?_
              have q121 : (τ118.1 117 2) = (τ52.1 117 2) := (FR.at f120 117 2 rfl)
              have b122 := GI.b g119 117 5 kd117 (lo := (-2147483648)) (hi := 2147483647) rfl
              exact ⟨(Int64.ofNat 0), rfl, g119, (FR.up (FR.up (FR.up FR.rf f13 sb_Wat_Wsp) f54 sb_Wat_Wsp) f120 sb_Wbad_Wsp), (by omega), (by omega), (by omega), (by omega)⟩
  · intro h2
    refine wp_lc jF_225_7 rfl (pc2 := 8) ?_
    refine wp_rl jF_225_8 ?_
    have b123 := GI.b hg 117 2 kd117 (lo := 0) (hi := 1601) rfl
    exact ⟨(Int64.ofNat 0), rfl, hg, FR.rf, (by omega), (by omega), (by omega), (by omega)⟩
set_option maxHeartbeats 4000000 in
set_option maxRecDepth 20000 in
/-- M.signOf -/
theorem m_227 (σ : jM) (hg : GI σ) (v : Int64)  (fr lo : Nat) (hfr : 0 ≤ fr) (hlo : 0 ≤ lo) : WP 227 0 (lv_args 0 [.ref 117, .long v]) [] fr lo σ (fun v τ => ∃ z : Int, v = some (iV z) ∧ ((-1) ≤ z ∧ z ≤ 17) ∧ σ = τ) := by
  show WP 227 0 [(0, .ref 117), (1, .long v)] [] _ _ _ _
  refine wp_ic jF_227_0 rfl (pc2 := 1) ?_
  refine wp_is1 (lv2 := [(0, .ref 117), (1, .long v), (3, iV 0)]) jF_227_1 rfl rfl rfl (pc2 := 2) ?_
  refine wp_loop (α := Int) (fun a => [(0, .ref 117), (1, .long v), (3, iV (a))]) (fun a τ => (0 ≤ a ∧ a ≤ 18) ∧ σ = τ) (fun a τ => Int.toNat (18 - (a))) (0) σ ?_ ?_
  · skip
    exact ⟨⟨by omega, by omega⟩, rfl⟩
  · rintro x1 _ ⟨h2, rfl⟩ ih6
    show WP 227 2 [(0, .ref 117), (1, .long v), (3, iV x1)] [] _ _ _ _
    refine wp_il1 jF_227_2 rfl rfl (pc2 := 3) ?_
    refine wp_bi jF_227_3 (by decide) rfl (pc2 := 5) ?_
    refine wp_i_ge jF_227_5 (m_rgb h2 rfl) (m_rgl rfl) rfl (pc2 := 8) ?_ ?_
    · intro h7
      refine wp_ic jF_227_33 rfl (pc2 := 34) ?_
      refine wp_ri jF_227_34 rfl ?_
      exact ⟨(-1), rfl, ⟨by omega, by omega⟩, rfl⟩
    · intro h7
      refine wp_ll1 jF_227_8 rfl rfl (pc2 := 9) ?_
      refine wp_lc jF_227_9 rfl (pc2 := 10) ?_
      refine wp_anyL (pc2 := 11) jF_227_10 rfl rfl ?_
      intro z8 h9
      refine wp_z_eq jF_227_11 (m_rgb h9 rfl) rfl (pc2 := 14) ?_ ?_
      · intro h10
        refine wp_inc (lv2 := [(0, .ref 117), (1, .long v), (3, iV (x1 + 1))]) jF_227_27 rfl rfl rfl rfl (pc2 := 30) ?_
        refine wp_go jF_227_30 ?_
        exact ih6 ((x1 + 1)) σ ⟨⟨by omega, by omega⟩, rfl⟩ (by show Int.toNat (18 - (x1 + 1)) < Int.toNat (18 - x1); omega)
      · intro h10
        refine wp_al1 jF_227_14 rfl rfl (pc2 := 15) ?_
        refine wp_gr (b := 138) jF_227_15 kd117 (by decide) (c := 238) rfl rfl rfl (pc2 := 18) ?_
        refine wp_il1 jF_227_18 rfl rfl (pc2 := 19) ?_
        refine wp_lald (n := 36) jF_227_19 kd138 (by decide) rfl rfl (by omega) (by omega) rfl (pc2 := 20) ?_
        intro y11
        refine wp_ll1 jF_227_20 rfl rfl (pc2 := 21) ?_
        refine wp_anyL (pc2 := 22) jF_227_21 rfl rfl ?_
        intro z12 h13
        refine wp_z_ne jF_227_22 (m_rgb h13 rfl) rfl (pc2 := 25) ?_ ?_
        · intro h14
          refine wp_inc (lv2 := [(0, .ref 117), (1, .long v), (3, iV (x1 + 1))]) jF_227_27 rfl rfl rfl rfl (pc2 := 30) ?_
          refine wp_go jF_227_30 ?_
          exact ih6 ((x1 + 1)) σ ⟨⟨by omega, by omega⟩, rfl⟩ (by show Int.toNat (18 - (x1 + 1)) < Int.toNat (18 - x1); omega)
        · intro h14
          refine wp_il1 jF_227_25 rfl rfl (pc2 := 26) ?_
          refine wp_ri jF_227_26 rfl ?_
          exact ⟨x1, rfl, ⟨by omega, by omega⟩, rfl⟩
set_option maxHeartbeats 4000000 in
set_option maxRecDepth 20000 in
/-- M.partyOf -/
theorem m_228 (σ : jM) (hg : GI σ) (v : Int64)  (fr lo : Nat) (hfr : 0 ≤ fr) (hlo : 0 ≤ lo) : WP 228 0 (lv_args 0 [.ref 117, .long v]) [] fr lo σ (fun v τ => ∃ z : Int, v = some (iV z) ∧ ((-1) ≤ z ∧ z ≤ 4) ∧ σ = τ) := by
  show WP 228 0 [(0, .ref 117), (1, .long v)] [] _ _ _ _
  refine wp_ic jF_228_0 rfl (pc2 := 1) ?_
  refine wp_is1 (lv2 := [(0, .ref 117), (1, .long v), (3, iV 0)]) jF_228_1 rfl rfl rfl (pc2 := 2) ?_
  refine wp_loop (α := Int) (fun a => [(0, .ref 117), (1, .long v), (3, iV (a))]) (fun a τ => (0 ≤ a ∧ a ≤ 5) ∧ σ = τ) (fun a τ => Int.toNat (5 - (a))) (0) σ ?_ ?_
  · skip
    exact ⟨⟨by omega, by omega⟩, rfl⟩
  · rintro x1 _ ⟨h2, rfl⟩ ih6
    show WP 228 2 [(0, .ref 117), (1, .long v), (3, iV x1)] [] _ _ _ _
    refine wp_il1 jF_228_2 rfl rfl (pc2 := 3) ?_
    refine wp_al1 jF_228_3 rfl rfl (pc2 := 4) ?_
    have b7 := GI.b hg 117 33 kd117 (lo := 0) (hi := 5) rfl
    refine wp_gi jF_228_4 kd117 (by decide) rfl rfl rfl (pc2 := 7) ?_
    refine wp_i_ge jF_228_7 (m_rgb h2 rfl) (m_rgb b7 rfl) rfl (pc2 := 10) ?_ ?_
    · intro h8
      refine wp_ic jF_228_29 rfl (pc2 := 30) ?_
      refine wp_ri jF_228_30 rfl ?_
      exact ⟨(-1), rfl, ⟨by omega, by omega⟩, rfl⟩
    · intro h8
      refine wp_al1 jF_228_10 rfl rfl (pc2 := 11) ?_
      refine wp_gr (b := 140) jF_228_11 kd117 (by decide) (c := 240) rfl rfl rfl (pc2 := 14) ?_
      refine wp_il1 jF_228_14 rfl rfl (pc2 := 15) ?_
      refine wp_lald (n := 10) jF_228_15 kd140 (by decide) rfl rfl (by omega) (by omega) rfl (pc2 := 16) ?_
      intro y9
      refine wp_ll1 jF_228_16 rfl rfl (pc2 := 17) ?_
      refine wp_anyL (pc2 := 18) jF_228_17 rfl rfl ?_
      intro z10 h11
      refine wp_z_ne jF_228_18 (m_rgb h11 rfl) rfl (pc2 := 21) ?_ ?_
      · intro h12
        refine wp_inc (lv2 := [(0, .ref 117), (1, .long v), (3, iV (x1 + 1))]) jF_228_23 rfl rfl rfl rfl (pc2 := 26) ?_
        refine wp_go jF_228_26 ?_
        exact ih6 ((x1 + 1)) σ ⟨⟨by omega, by omega⟩, rfl⟩ (by show Int.toNat (5 - (x1 + 1)) < Int.toNat (5 - x1); omega)
      · intro h12
        refine wp_il1 jF_228_21 rfl rfl (pc2 := 22) ?_
        refine wp_ri jF_228_22 rfl ?_
        exact ⟨x1, rfl, ⟨by omega, by omega⟩, rfl⟩
set_option maxHeartbeats 4000000 in
set_option maxRecDepth 20000 in
/-- M.newSpelt -/
theorem m_224 (σ : jM) (hg : GI σ)   (fr lo : Nat) (hfr : 4 ≤ fr) (hlo : 86 ≤ lo) : WP 224 0 (lv_args 0 [.ref 117]) [] fr lo σ (fun v τ => ∃ z : Int64, v = some (.long z) ∧ GI τ ∧ FR Wsp σ τ ∧ ((σ.1 117 2) ≤ (τ.1 117 2)) ∧ ((σ.1 117 5) ≠ 0 → (τ.1 117 5) = (σ.1 117 5)) ∧ ((τ.1 117 5) = 0 → (σ.1 117 5) = 0)) := by
  show WP 224 0 [(0, .ref 117)] [] _ _ _ _
  refine wp_al1 jF_224_0 rfl rfl (pc2 := 1) ?_
  refine wp_cV (as := []) (rest := []) (a := 117) (mx := 3) (ci := 12) jF_224_1 kd117 (by decide) rfl rfl rfl rfl rfl (by omega) (by omega) rfl (pc2 := 4) ?_
  have b1 := GI.b hg 117 2 kd117 (lo := 0) (hi := 1601) rfl
  have b2 := GI.b hg 117 5 kd117 (lo := (-2147483648)) (hi := 2147483647) rfl
  refine wp_use (m_225 σ hg   _ _ (by omega) (by omega)) ?_
  rintro _ τ7 ⟨y10, rfl, g8, f9, p3, p4, p5, p6⟩
  show WP 224 4 [(0, .ref 117)] [.long y10] _ _ _ _
  refine wp_ls1 (lv2 := [(0, .ref 117), (1, .long y10)]) jF_224_4 rfl rfl rfl (pc2 := 5) ?_
  refine wp_al1 jF_224_5 rfl rfl (pc2 := 6) ?_
  have b11 := GI.b g8 117 5 kd117 (lo := (-2147483648)) (hi := 2147483647) rfl
  refine wp_gi jF_224_6 kd117 (by decide) rfl rfl rfl (pc2 := 9) ?_
  refine wp_z_ne jF_224_9 (m_rgb b11 rfl) rfl (pc2 := 12) ?_ ?_
  · intro h12
    clear p5
    refine wp_ll1 jF_224_39 rfl rfl (pc2 := 40) ?_
    refine wp_rl jF_224_40 ?_
    have b13 := GI.b g8 117 2 kd117 (lo := 0) (hi := 1601) rfl
    exact ⟨y10, rfl, g8, f9, (by omega), (by omega), (by omega)⟩
  · intro h12
    replace p5 := p5 (by omega)
    clear p4
    refine wp_al1 jF_224_12 rfl rfl (pc2 := 13) ?_
    refine wp_ll1 jF_224_13 rfl rfl (pc2 := 14) ?_
    refine wp_cV (as := [.long y10]) (rest := []) (a := 117) (mx := 4) (ci := 12) jF_224_14 kd117 (by decide) rfl rfl rfl rfl rfl (by omega) (by omega) rfl (pc2 := 17) ?_
    refine wp_use (m_227 τ7 g8 y10  _ _ (by omega) (by omega)) ?_
    rintro _ _ ⟨z16, rfl, h17, rfl⟩
    show WP 224 17 [(0, .ref 117), (1, .long y10)] [iV z16] _ _ _ _
    refine wp_ic jF_224_17 rfl (pc2 := 18) ?_
    refine wp_i_ne jF_224_18 (m_rgb h17 rfl) (m_rgl rfl) rfl (pc2 := 21) ?_ ?_
    · intro h18
      refine wp_al1 jF_224_30 rfl rfl (pc2 := 31) ?_
      refine wp_ic jF_224_31 rfl (pc2 := 32) ?_
      refine wp_al1 jF_224_32 rfl rfl (pc2 := 33) ?_
      have b19 := GI.b g8 117 28 kd117 (lo := (-2147483648)) (hi := 2147483647) rfl
      refine wp_gi jF_224_33 kd117 (by decide) rfl rfl rfl (pc2 := 36) ?_
      refine wp_cV (as := [iV 3, iV (τ7.1 117 28)]) (rest := []) (a := 117) (mx := 3) (ci := 12) jF_224_36 kd117 (by decide) rfl rfl rfl rfl rfl (by omega) (by omega) rfl (pc2 := 39) ?_
      refine wp_use (m_218 τ7 g8 3 (by omega) (by omega) (τ7.1 117 28) (by omega) (by omega)  _ _ (by omega) (by omega)) ?_
      rintro _ τ22 ⟨rfl, g23, f24, p20, p21⟩
      clear p20
      replace p21 := p21 (by omega)
      show WP 224 39 [(0, .ref 117), (1, .long y10)] [] _ _ _ _
      refine wp_ll1 jF_224_39 rfl rfl (pc2 := 40) ?_
      refine wp_rl jF_224_40 ?_
      have b25 := GI.b g8 117 2 kd117 (lo := 0) (hi := 1601) rfl
      have q26 : (τ22.1 117 2) = (τ7.1 117 2) := (FR.at f24 117 2 rfl)
      have b27 := GI.b g23 117 5 kd117 (lo := (-2147483648)) (hi := 2147483647) rfl
      exact ⟨y10, rfl, g23, (FR.up f9 f24 sb_Wbad_Wsp), (by omega), (by omega), (by omega)⟩
    · intro h18
      refine wp_al1 jF_224_21 rfl rfl (pc2 := 22) ?_
      refine wp_ll1 jF_224_22 rfl rfl (pc2 := 23) ?_
      refine wp_cV (as := [.long y10]) (rest := []) (a := 117) (mx := 4) (ci := 12) jF_224_23 kd117 (by decide) rfl rfl rfl rfl rfl (by omega) (by omega) rfl (pc2 := 26) ?_
      refine wp_use (m_228 τ7 g8 y10  _ _ (by omega) (by omega)) ?_
      rintro _ _ ⟨z30, rfl, h31, rfl⟩
      show WP 224 26 [(0, .ref 117), (1, .long y10)] [iV z30] _ _ _ _
      refine wp_ic jF_224_26 rfl (pc2 := 27) ?_
      refine wp_i_eq jF_224_27 (m_rgb h31 rfl) (m_rgl rfl) rfl (pc2 := 30) ?_ ?_
      · intro h32
        refine wp_ll1 jF_224_39 rfl rfl (pc2 := 40) ?_
        refine wp_rl jF_224_40 ?_
        have b33 := GI.b g8 117 2 kd117 (lo := 0) (hi := 1601) rfl
        exact ⟨y10, rfl, g8, f9, (by omega), (by omega), (by omega)⟩
      · intro h32
        refine wp_al1 jF_224_30 rfl rfl (pc2 := 31) ?_
        refine wp_ic jF_224_31 rfl (pc2 := 32) ?_
        refine wp_al1 jF_224_32 rfl rfl (pc2 := 33) ?_
        have b34 := GI.b g8 117 28 kd117 (lo := (-2147483648)) (hi := 2147483647) rfl
        refine wp_gi jF_224_33 kd117 (by decide) rfl rfl rfl (pc2 := 36) ?_
        refine wp_cV (as := [iV 3, iV (τ7.1 117 28)]) (rest := []) (a := 117) (mx := 3) (ci := 12) jF_224_36 kd117 (by decide) rfl rfl rfl rfl rfl (by omega) (by omega) rfl (pc2 := 39) ?_
        refine wp_use (m_218 τ7 g8 3 (by omega) (by omega) (τ7.1 117 28) (by omega) (by omega)  _ _ (by omega) (by omega)) ?_
        rintro _ τ37 ⟨rfl, g38, f39, p35, p36⟩
        clear p35
        replace p36 := p36 (by omega)
        show WP 224 39 [(0, .ref 117), (1, .long y10)] [] _ _ _ _
        refine wp_ll1 jF_224_39 rfl rfl (pc2 := 40) ?_
        refine wp_rl jF_224_40 ?_
        have b40 := GI.b g8 117 2 kd117 (lo := 0) (hi := 1601) rfl
        have q41 : (τ37.1 117 2) = (τ7.1 117 2) := (FR.at f39 117 2 rfl)
        have b42 := GI.b g38 117 5 kd117 (lo := (-2147483648)) (hi := 2147483647) rfl
        exact ⟨y10, rfl, g38, (FR.up f9 f39 sb_Wbad_Wsp), (by omega), (by omega), (by omega)⟩
set_option maxHeartbeats 4000000 in
set_option maxRecDepth 20000 in
/-- M.freeFrom -/
theorem m_223 (σ : jM) (hg : GI σ) (fr0 : Int) (hl_fr0 : 0 ≤ fr0) (hu_fr0 : fr0 ≤ 18) (many : Int) (hl_many : 0 ≤ many) (hu_many : many ≤ 6) (pre0 : fr0 + many ≤ 36) (fr lo : Nat) (hfr : 0 ≤ fr) (hlo : 0 ≤ lo) : WP 223 0 (lv_args 0 [.ref 117, iV fr0, iV many]) [] fr lo σ (fun v τ => ∃ z : Int, v = some (iV z) ∧ ((-1) ≤ z ∧ z ≤ 35) ∧ σ = τ ∧ (z = -1 ∨ (fr0 ≤ z ∧ z < fr0 + many))) := by
  show WP 223 0 [(0, .ref 117), (1, iV fr0), (2, iV many)] [] _ _ _ _
  refine wp_il1 jF_223_0 rfl rfl (pc2 := 1) ?_
  refine wp_is1 (lv2 := [(0, .ref 117), (1, iV fr0), (2, iV many), (3, iV fr0)]) jF_223_1 rfl rfl rfl (pc2 := 2) ?_
  refine wp_loop (α := Int) (fun a => [(0, .ref 117), (1, iV fr0), (2, iV many), (3, iV (a))]) (fun a τ => (0 ≤ a ∧ a ≤ 36) ∧ σ = τ ∧ (fr0 ≤ (a)) ∧ ((a) ≤ fr0 + many)) (fun a τ => Int.toNat (36 - (a))) (fr0) σ ?_ ?_
  · skip
    exact ⟨⟨by omega, by omega⟩, rfl, (by omega), (by omega)⟩
  · rintro x1 _ ⟨h2, rfl, p6, p7⟩ ih8
    show WP 223 2 [(0, .ref 117), (1, iV fr0), (2, iV many), (3, iV x1)] [] _ _ _ _
    refine wp_il1 jF_223_2 rfl rfl (pc2 := 3) ?_
    refine wp_il1 jF_223_3 rfl rfl (pc2 := 4) ?_
    refine wp_il1 jF_223_4 rfl rfl (pc2 := 5) ?_
    refine wp_add jF_223_5 rfl (pc2 := 6) ?_
    refine wp_i_ge jF_223_6 (m_rgb h2 rfl) ⟨by omega, by omega⟩ rfl (pc2 := 9) ?_ ?_
    · intro h9
      refine wp_ic jF_223_28 rfl (pc2 := 29) ?_
      refine wp_ri jF_223_29 rfl ?_
      exact ⟨(-1), rfl, ⟨by omega, by omega⟩, rfl, (by omega)⟩
    · intro h9
      refine wp_al1 jF_223_9 rfl rfl (pc2 := 10) ?_
      refine wp_gr (b := 138) jF_223_10 kd117 (by decide) (c := 238) rfl rfl rfl (pc2 := 13) ?_
      refine wp_il1 jF_223_13 rfl rfl (pc2 := 14) ?_
      refine wp_lald (n := 36) jF_223_14 kd138 (by decide) rfl rfl (by omega) (by omega) rfl (pc2 := 15) ?_
      intro y10
      refine wp_lc jF_223_15 rfl (pc2 := 16) ?_
      refine wp_anyL (pc2 := 17) jF_223_16 rfl rfl ?_
      intro z11 h12
      refine wp_z_ne jF_223_17 (m_rgb h12 rfl) rfl (pc2 := 20) ?_ ?_
      · intro h13
        refine wp_inc (lv2 := [(0, .ref 117), (1, iV fr0), (2, iV many), (3, iV (x1 + 1))]) jF_223_22 rfl rfl rfl rfl (pc2 := 25) ?_
        refine wp_go jF_223_25 ?_
        exact ih8 ((x1 + 1)) σ ⟨⟨by omega, by omega⟩, rfl, (by omega), (by omega)⟩ (by show Int.toNat (36 - (x1 + 1)) < Int.toNat (36 - x1); omega)
      · intro h13
        refine wp_il1 jF_223_20 rfl rfl (pc2 := 21) ?_
        refine wp_ri jF_223_21 rfl ?_
        exact ⟨x1, rfl, ⟨by omega, by omega⟩, rfl, (by omega)⟩
