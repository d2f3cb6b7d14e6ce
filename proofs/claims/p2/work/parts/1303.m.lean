set_option maxHeartbeats 4000000 in
set_option maxRecDepth 20000 in
/-- M.isOwnHere -/
theorem m_226 (σ : jM) (hg : GI σ)   (fr lo : Nat) (hfr : 2 ≤ fr) (hlo : 43 ≤ lo) : WP 226 0 (lv_args 0 [.ref 117]) [] fr lo σ (fun v τ => ∃ z : Int, v = some (iV z) ∧ (0 ≤ z ∧ z ≤ 1) ∧ GI τ ∧ FR Wat σ τ ∧ ((σ.1 117 2) ≤ (τ.1 117 2))) := by
  show WP 226 0 [(0, .ref 117)] [] _ _ _ _
  refine wp_al1 jF_226_0 rfl rfl (pc2 := 1) ?_
  refine wp_al1 jF_226_1 rfl rfl (pc2 := 2) ?_
  refine wp_gr (b := 120) jF_226_2 kd117 (by decide) (c := 220) rfl rfl rfl (pc2 := 5) ?_
  refine wp_cV (as := [.ref 120]) (rest := []) (a := 117) (mx := 4) (ci := 12) jF_226_5 kd117 (by decide) rfl rfl rfl rfl rfl (by omega) (by omega) rfl (pc2 := 8) ?_
  have b1 := GI.b hg 117 2 kd117 (lo := 0) (hi := 1601) rfl
  have b2 := GI.b hg 117 3 kd117 (lo := 0) (hi := 1600) rfl
  have b3 := GI.b hg 117 5 kd117 (lo := (-2147483648)) (hi := 2147483647) rfl
  refine wp_use (m_220 σ hg 120 3 cw120.1 cw120.2 (by decide)  _ _ (by omega) (by omega)) ?_
  rintro _ τ6 ⟨z9, rfl, h10, g7, f8, p4, p5⟩
  show WP 226 8 [(0, .ref 117)] [iV z9] _ _ _ _
  refine wp_z_ne jF_226_8 (m_rgb h10 rfl) rfl (pc2 := 11) ?_ ?_
  · intro h11
    replace p5 := p5 (by omega)
    refine wp_ic jF_226_66 rfl (pc2 := 67) ?_
    refine wp_go jF_226_67 ?_
    refine wp_is1 (lv2 := [(0, .ref 117), (1, iV 1)]) jF_226_71 rfl rfl rfl (pc2 := 72) ?_
    refine wp_il1 jF_226_72 rfl rfl (pc2 := 73) ?_
    refine wp_z_ne jF_226_73 (m_rgl rfl) rfl (pc2 := 76) ?_ ?_
    · intro h12
      refine wp_ic jF_226_142 rfl (pc2 := 143) ?_
      refine wp_go jF_226_143 ?_
      refine wp_is1 (lv2 := [(0, .ref 117), (1, iV 1)]) jF_226_147 rfl rfl rfl (pc2 := 148) ?_
      refine wp_il1 jF_226_148 rfl rfl (pc2 := 149) ?_
      refine wp_z_ne jF_226_149 (m_rgl rfl) rfl (pc2 := 152) ?_ ?_
      · intro h13
        refine wp_ic jF_226_218 rfl (pc2 := 219) ?_
        refine wp_go jF_226_219 ?_
        refine wp_is1 (lv2 := [(0, .ref 117), (1, iV 1)]) jF_226_223 rfl rfl rfl (pc2 := 224) ?_
        refine wp_il1 jF_226_224 rfl rfl (pc2 := 225) ?_
        refine wp_ri jF_226_225 rfl ?_
        have b14 := GI.b g7 117 2 kd117 (lo := 0) (hi := 1601) rfl
        exact ⟨1, rfl, ⟨by omega, by omega⟩, g7, f8, (by omega)⟩
      · intro h13; exfalso; omega
    · intro h12; exfalso; omega
  · intro h11
    clear p5
    refine wp_al1 jF_226_11 rfl rfl (pc2 := 12) ?_
    refine wp_al1 jF_226_12 rfl rfl (pc2 := 13) ?_
    refine wp_gr (b := 121) jF_226_13 kd117 (by decide) (c := 221) rfl rfl rfl (pc2 := 16) ?_
    refine wp_cV (as := [.ref 121]) (rest := []) (a := 117) (mx := 4) (ci := 12) jF_226_16 kd117 (by decide) rfl rfl rfl rfl rfl (by omega) (by omega) rfl (pc2 := 19) ?_
    have b15 := GI.b g7 117 2 kd117 (lo := 0) (hi := 1601) rfl
    have q16 : (τ6.1 117 3) = (σ.1 117 3) := (FR.at f8 117 3 rfl)
    have q17 : (τ6.1 117 5) = (σ.1 117 5) := (FR.at f8 117 5 rfl)
    refine wp_use (m_220 τ6 g7 121 4 cw121.1 cw121.2 (by decide)  _ _ (by omega) (by omega)) ?_
    rintro _ τ20 ⟨z23, rfl, h24, g21, f22, p18, p19⟩
    show WP 226 19 [(0, .ref 117)] [iV z23] _ _ _ _
    refine wp_z_ne jF_226_19 (m_rgb h24 rfl) rfl (pc2 := 22) ?_ ?_
    · intro h25
      replace p19 := p19 (by omega)
      refine wp_ic jF_226_66 rfl (pc2 := 67) ?_
      refine wp_go jF_226_67 ?_
      refine wp_is1 (lv2 := [(0, .ref 117), (1, iV 1)]) jF_226_71 rfl rfl rfl (pc2 := 72) ?_
      refine wp_il1 jF_226_72 rfl rfl (pc2 := 73) ?_
      refine wp_z_ne jF_226_73 (m_rgl rfl) rfl (pc2 := 76) ?_ ?_
      · intro h26
        refine wp_ic jF_226_142 rfl (pc2 := 143) ?_
        refine wp_go jF_226_143 ?_
        refine wp_is1 (lv2 := [(0, .ref 117), (1, iV 1)]) jF_226_147 rfl rfl rfl (pc2 := 148) ?_
        refine wp_il1 jF_226_148 rfl rfl (pc2 := 149) ?_
        refine wp_z_ne jF_226_149 (m_rgl rfl) rfl (pc2 := 152) ?_ ?_
        · intro h27
          refine wp_ic jF_226_218 rfl (pc2 := 219) ?_
          refine wp_go jF_226_219 ?_
          refine wp_is1 (lv2 := [(0, .ref 117), (1, iV 1)]) jF_226_223 rfl rfl rfl (pc2 := 224) ?_
          refine wp_il1 jF_226_224 rfl rfl (pc2 := 225) ?_
          refine wp_ri jF_226_225 rfl ?_
          have b28 := GI.b g21 117 2 kd117 (lo := 0) (hi := 1601) rfl
          exact ⟨1, rfl, ⟨by omega, by omega⟩, g21, (FR.up f8 f22 sb_Wat_Wat), (by omega)⟩
        · intro h27; exfalso; omega
      · intro h26; exfalso; omega
    · intro h25
      clear p19
      refine wp_al1 jF_226_22 rfl rfl (pc2 := 23) ?_
      refine wp_al1 jF_226_23 rfl rfl (pc2 := 24) ?_
      refine wp_gr (b := 122) jF_226_24 kd117 (by decide) (c := 222) rfl rfl rfl (pc2 := 27) ?_
      refine wp_cV (as := [.ref 122]) (rest := []) (a := 117) (mx := 4) (ci := 12) jF_226_27 kd117 (by decide) rfl rfl rfl rfl rfl (by omega) (by omega) rfl (pc2 := 30) ?_
      have b29 := GI.b g21 117 2 kd117 (lo := 0) (hi := 1601) rfl
      have q30 : (τ20.1 117 3) = (σ.1 117 3) := ((FR.at f22 117 3 rfl).trans (FR.at f8 117 3 rfl))
      have q31 : (τ20.1 117 5) = (σ.1 117 5) := ((FR.at f22 117 5 rfl).trans (FR.at f8 117 5 rfl))
      refine wp_use (m_220 τ20 g21 122 4 cw122.1 cw122.2 (by decide)  _ _ (by omega) (by omega)) ?_
      rintro _ τ34 ⟨z37, rfl, h38, g35, f36, p32, p33⟩
      show WP 226 30 [(0, .ref 117)] [iV z37] _ _ _ _
      refine wp_z_ne jF_226_30 (m_rgb h38 rfl) rfl (pc2 := 33) ?_ ?_
      · intro h39
        replace p33 := p33 (by omega)
        refine wp_ic jF_226_66 rfl (pc2 := 67) ?_
        refine wp_go jF_226_67 ?_
        refine wp_is1 (lv2 := [(0, .ref 117), (1, iV 1)]) jF_226_71 rfl rfl rfl (pc2 := 72) ?_
        refine wp_il1 jF_226_72 rfl rfl (pc2 := 73) ?_
        refine wp_z_ne jF_226_73 (m_rgl rfl) rfl (pc2 := 76) ?_ ?_
        · intro h40
          refine wp_ic jF_226_142 rfl (pc2 := 143) ?_
          refine wp_go jF_226_143 ?_
          refine wp_is1 (lv2 := [(0, .ref 117), (1, iV 1)]) jF_226_147 rfl rfl rfl (pc2 := 148) ?_
          refine wp_il1 jF_226_148 rfl rfl (pc2 := 149) ?_
          refine wp_z_ne jF_226_149 (m_rgl rfl) rfl (pc2 := 152) ?_ ?_
          · intro h41
            refine wp_ic jF_226_218 rfl (pc2 := 219) ?_
            refine wp_go jF_226_219 ?_
            refine wp_is1 (lv2 := [(0, .ref 117), (1, iV 1)]) jF_226_223 rfl rfl rfl (pc2 := 224) ?_
            refine wp_il1 jF_226_224 rfl rfl (pc2 := 225) ?_
            refine wp_ri jF_226_225 rfl ?_
            have b42 := GI.b g35 117 2 kd117 (lo := 0) (hi := 1601) rfl
            exact ⟨1, rfl, ⟨by omega, by omega⟩, g35, (FR.up (FR.up f8 f22 sb_Wat_Wat) f36 sb_Wat_Wat), (by omega)⟩
          · intro h41; exfalso; omega
        · intro h40; exfalso; omega
      · intro h39
        clear p33
        refine wp_al1 jF_226_33 rfl rfl (pc2 := 34) ?_
        refine wp_al1 jF_226_34 rfl rfl (pc2 := 35) ?_
        refine wp_gr (b := 123) jF_226_35 kd117 (by decide) (c := 223) rfl rfl rfl (pc2 := 38) ?_
        refine wp_cV (as := [.ref 123]) (rest := []) (a := 117) (mx := 4) (ci := 12) jF_226_38 kd117 (by decide) rfl rfl rfl rfl rfl (by omega) (by omega) rfl (pc2 := 41) ?_
        have b43 := GI.b g35 117 2 kd117 (lo := 0) (hi := 1601) rfl
        have q44 : (τ34.1 117 3) = (σ.1 117 3) := ((FR.at f36 117 3 rfl).trans ((FR.at f22 117 3 rfl).trans (FR.at f8 117 3 rfl)))
        have q45 : (τ34.1 117 5) = (σ.1 117 5) := ((FR.at f36 117 5 rfl).trans ((FR.at f22 117 5 rfl).trans (FR.at f8 117 5 rfl)))
        refine wp_use (m_220 τ34 g35 123 4 cw123.1 cw123.2 (by decide)  _ _ (by omega) (by omega)) ?_
        rintro _ τ48 ⟨z51, rfl, h52, g49, f50, p46, p47⟩
        show WP 226 41 [(0, .ref 117)] [iV z51] _ _ _ _
        refine wp_z_ne jF_226_41 (m_rgb h52 rfl) rfl (pc2 := 44) ?_ ?_
        · intro h53
          replace p47 := p47 (by omega)
          refine wp_ic jF_226_66 rfl (pc2 := 67) ?_
          refine wp_go jF_226_67 ?_
          refine wp_is1 (lv2 := [(0, .ref 117), (1, iV 1)]) jF_226_71 rfl rfl rfl (pc2 := 72) ?_
          refine wp_il1 jF_226_72 rfl rfl (pc2 := 73) ?_
          refine wp_z_ne jF_226_73 (m_rgl rfl) rfl (pc2 := 76) ?_ ?_
          · intro h54
            refine wp_ic jF_226_142 rfl (pc2 := 143) ?_
            refine wp_go jF_226_143 ?_
            refine wp_is1 (lv2 := [(0, .ref 117), (1, iV 1)]) jF_226_147 rfl rfl rfl (pc2 := 148) ?_
            refine wp_il1 jF_226_148 rfl rfl (pc2 := 149) ?_
            refine wp_z_ne jF_226_149 (m_rgl rfl) rfl (pc2 := 152) ?_ ?_
            · intro h55
              refine wp_ic jF_226_218 rfl (pc2 := 219) ?_
              refine wp_go jF_226_219 ?_
              refine wp_is1 (lv2 := [(0, .ref 117), (1, iV 1)]) jF_226_223 rfl rfl rfl (pc2 := 224) ?_
              refine wp_il1 jF_226_224 rfl rfl (pc2 := 225) ?_
              refine wp_ri jF_226_225 rfl ?_
              have b56 := GI.b g49 117 2 kd117 (lo := 0) (hi := 1601) rfl
              exact ⟨1, rfl, ⟨by omega, by omega⟩, g49, (FR.up (FR.up (FR.up f8 f22 sb_Wat_Wat) f36 sb_Wat_Wat) f50 sb_Wat_Wat), (by omega)⟩
            · intro h55; exfalso; omega
          · intro h54; exfalso; omega
        · intro h53
          clear p47
          refine wp_al1 jF_226_44 rfl rfl (pc2 := 45) ?_
          refine wp_al1 jF_226_45 rfl rfl (pc2 := 46) ?_
          refine wp_gr (b := 124) jF_226_46 kd117 (by decide) (c := 224) rfl rfl rfl (pc2 := 49) ?_
          refine wp_cV (as := [.ref 124]) (rest := []) (a := 117) (mx := 4) (ci := 12) jF_226_49 kd117 (by decide) rfl rfl rfl rfl rfl (by omega) (by omega) rfl (pc2 := 52) ?_
          have b57 := GI.b g49 117 2 kd117 (lo := 0) (hi := 1601) rfl
          have q58 : (τ48.1 117 3) = (σ.1 117 3) := ((FR.at f50 117 3 rfl).trans ((FR.at f36 117 3 rfl).trans ((FR.at f22 117 3 rfl).trans (FR.at f8 117 3 rfl))))
          have q59 : (τ48.1 117 5) = (σ.1 117 5) := ((FR.at f50 117 5 rfl).trans ((FR.at f36 117 5 rfl).trans ((FR.at f22 117 5 rfl).trans (FR.at f8 117 5 rfl))))
          refine wp_use (m_220 τ48 g49 124 5 cw124.1 cw124.2 (by decide)  _ _ (by omega) (by omega)) ?_
          rintro _ τ62 ⟨z65, rfl, h66, g63, f64, p60, p61⟩
          show WP 226 52 [(0, .ref 117)] [iV z65] _ _ _ _
          refine wp_z_ne jF_226_52 (m_rgb h66 rfl) rfl (pc2 := 55) ?_ ?_
          · intro h67
            replace p61 := p61 (by omega)
            refine wp_ic jF_226_66 rfl (pc2 := 67) ?_
            refine wp_go jF_226_67 ?_
            refine wp_is1 (lv2 := [(0, .ref 117), (1, iV 1)]) jF_226_71 rfl rfl rfl (pc2 := 72) ?_
            refine wp_il1 jF_226_72 rfl rfl (pc2 := 73) ?_
            refine wp_z_ne jF_226_73 (m_rgl rfl) rfl (pc2 := 76) ?_ ?_
            · intro h68
              refine wp_ic jF_226_142 rfl (pc2 := 143) ?_
              refine wp_go jF_226_143 ?_
              refine wp_is1 (lv2 := [(0, .ref 117), (1, iV 1)]) jF_226_147 rfl rfl rfl (pc2 := 148) ?_
              refine wp_il1 jF_226_148 rfl rfl (pc2 := 149) ?_
              refine wp_z_ne jF_226_149 (m_rgl rfl) rfl (pc2 := 152) ?_ ?_
              · intro h69
                refine wp_ic jF_226_218 rfl (pc2 := 219) ?_
                refine wp_go jF_226_219 ?_
                refine wp_is1 (lv2 := [(0, .ref 117), (1, iV 1)]) jF_226_223 rfl rfl rfl (pc2 := 224) ?_
                refine wp_il1 jF_226_224 rfl rfl (pc2 := 225) ?_
                refine wp_ri jF_226_225 rfl ?_
                have b70 := GI.b g63 117 2 kd117 (lo := 0) (hi := 1601) rfl
                exact ⟨1, rfl, ⟨by omega, by omega⟩, g63, (FR.up (FR.up (FR.up (FR.up f8 f22 sb_Wat_Wat) f36 sb_Wat_Wat) f50 sb_Wat_Wat) f64 sb_Wat_Wat), (by omega)⟩
              · intro h69; exfalso; omega
            · intro h68; exfalso; omega
          · intro h67
            clear p61
            refine wp_al1 jF_226_55 rfl rfl (pc2 := 56) ?_
            refine wp_al1 jF_226_56 rfl rfl (pc2 := 57) ?_
            refine wp_gr (b := 125) jF_226_57 kd117 (by decide) (c := 225) rfl rfl rfl (pc2 := 60) ?_
            refine wp_cV (as := [.ref 125]) (rest := []) (a := 117) (mx := 4) (ci := 12) jF_226_60 kd117 (by decide) rfl rfl rfl rfl rfl (by omega) (by omega) rfl (pc2 := 63) ?_
            have b71 := GI.b g63 117 2 kd117 (lo := 0) (hi := 1601) rfl
            have q72 : (τ62.1 117 3) = (σ.1 117 3) := ((FR.at f64 117 3 rfl).trans ((FR.at f50 117 3 rfl).trans ((FR.at f36 117 3 rfl).trans ((FR.at f22 117 3 rfl).trans (FR.at f8 117 3 rfl)))))
            have q73 : (τ62.1 117 5) = (σ.1 117 5) := ((FR.at f64 117 5 rfl).trans ((FR.at f50 117 5 rfl).trans ((FR.at f36 117 5 rfl).trans ((FR.at f22 117 5 rfl).trans (FR.at f8 117 5 rfl)))))
            refine wp_use (m_220 τ62 g63 125 5 cw125.1 cw125.2 (by decide)  _ _ (by omega) (by omega)) ?_
            rintro _ τ76 ⟨z79, rfl, h80, g77, f78, p74, p75⟩
            show WP 226 63 [(0, .ref 117)] [iV z79] _ _ _ _
            refine wp_z_eq jF_226_63 (m_rgb h80 rfl) rfl (pc2 := 66) ?_ ?_
            · intro h81
              clear p75
              refine wp_ic jF_226_70 rfl (pc2 := 71) ?_
              refine wp_is1 (lv2 := [(0, .ref 117), (1, iV 0)]) jF_226_71 rfl rfl rfl (pc2 := 72) ?_
              refine wp_il1 jF_226_72 rfl rfl (pc2 := 73) ?_
              refine wp_z_ne jF_226_73 (m_rgl rfl) rfl (pc2 := 76) ?_ ?_
              · intro h82; exfalso; omega
              · intro h82
                refine wp_al1 jF_226_76 rfl rfl (pc2 := 77) ?_
                refine wp_al1 jF_226_77 rfl rfl (pc2 := 78) ?_
                refine wp_gr (b := 126) jF_226_78 kd117 (by decide) (c := 226) rfl rfl rfl (pc2 := 81) ?_
                refine wp_cV (as := [.ref 126]) (rest := []) (a := 117) (mx := 4) (ci := 12) jF_226_81 kd117 (by decide) rfl rfl rfl rfl rfl (by omega) (by omega) rfl (pc2 := 84) ?_
                have b83 := GI.b g77 117 2 kd117 (lo := 0) (hi := 1601) rfl
                have q84 : (τ76.1 117 3) = (σ.1 117 3) := ((FR.at f78 117 3 rfl).trans ((FR.at f64 117 3 rfl).trans ((FR.at f50 117 3 rfl).trans ((FR.at f36 117 3 rfl).trans ((FR.at f22 117 3 rfl).trans (FR.at f8 117 3 rfl))))))
                have q85 : (τ76.1 117 5) = (σ.1 117 5) := ((FR.at f78 117 5 rfl).trans ((FR.at f64 117 5 rfl).trans ((FR.at f50 117 5 rfl).trans ((FR.at f36 117 5 rfl).trans ((FR.at f22 117 5 rfl).trans (FR.at f8 117 5 rfl))))))
                refine wp_use (m_220 τ76 g77 126 5 cw126.1 cw126.2 (by decide)  _ _ (by omega) (by omega)) ?_
                rintro _ τ88 ⟨z91, rfl, h92, g89, f90, p86, p87⟩
                show WP 226 84 [(0, .ref 117), (1, iV 0)] [iV z91] _ _ _ _
                refine wp_z_ne jF_226_84 (m_rgb h92 rfl) rfl (pc2 := 87) ?_ ?_
                · intro h93
                  replace p87 := p87 (by omega)
                  refine wp_ic jF_226_142 rfl (pc2 := 143) ?_
                  refine wp_go jF_226_143 ?_
                  refine wp_is1 (lv2 := [(0, .ref 117), (1, iV 1)]) jF_226_147 rfl rfl rfl (pc2 := 148) ?_
                  refine wp_il1 jF_226_148 rfl rfl (pc2 := 149) ?_
                  refine wp_z_ne jF_226_149 (m_rgl rfl) rfl (pc2 := 152) ?_ ?_
                  · intro h94
                    refine wp_ic jF_226_218 rfl (pc2 := 219) ?_
                    refine wp_go jF_226_219 ?_
                    refine wp_is1 (lv2 := [(0, .ref 117), (1, iV 1)]) jF_226_223 rfl rfl rfl (pc2 := 224) ?_
                    refine wp_il1 jF_226_224 rfl rfl (pc2 := 225) ?_
                    refine wp_ri jF_226_225 rfl ?_
                    have b95 := GI.b g89 117 2 kd117 (lo := 0) (hi := 1601) rfl
                    exact ⟨1, rfl, ⟨by omega, by omega⟩, g89, (FR.up (FR.up (FR.up (FR.up (FR.up (FR.up f8 f22 sb_Wat_Wat) f36 sb_Wat_Wat) f50 sb_Wat_Wat) f64 sb_Wat_Wat) f78 sb_Wat_Wat) f90 sb_Wat_Wat), (by omega)⟩
                  · intro h94; exfalso; omega
                · intro h93
                  clear p87
                  refine wp_al1 jF_226_87 rfl rfl (pc2 := 88) ?_
                  refine wp_al1 jF_226_88 rfl rfl (pc2 := 89) ?_
                  refine wp_gr (b := 127) jF_226_89 kd117 (by decide) (c := 227) rfl rfl rfl (pc2 := 92) ?_
                  refine wp_cV (as := [.ref 127]) (rest := []) (a := 117) (mx := 4) (ci := 12) jF_226_92 kd117 (by decide) rfl rfl rfl rfl rfl (by omega) (by omega) rfl (pc2 := 95) ?_
                  have b96 := GI.b g89 117 2 kd117 (lo := 0) (hi := 1601) rfl
                  have q97 : (τ88.1 117 3) = (σ.1 117 3) := ((FR.at f90 117 3 rfl).trans ((FR.at f78 117 3 rfl).trans ((FR.at f64 117 3 rfl).trans ((FR.at f50 117 3 rfl).trans ((FR.at f36 117 3 rfl).trans ((FR.at f22 117 3 rfl).trans (FR.at f8 117 3 rfl)))))))
                  have q98 : (τ88.1 117 5) = (σ.1 117 5) := ((FR.at f90 117 5 rfl).trans ((FR.at f78 117 5 rfl).trans ((FR.at f64 117 5 rfl).trans ((FR.at f50 117 5 rfl).trans ((FR.at f36 117 5 rfl).trans ((FR.at f22 117 5 rfl).trans (FR.at f8 117 5 rfl)))))))
                  refine wp_use (m_220 τ88 g89 127 4 cw127.1 cw127.2 (by decide)  _ _ (by omega) (by omega)) ?_
                  rintro _ τ101 ⟨z104, rfl, h105, g102, f103, p99, p100⟩
                  show WP 226 95 [(0, .ref 117), (1, iV 0)] [iV z104] _ _ _ _
                  refine wp_z_ne jF_226_95 (m_rgb h105 rfl) rfl (pc2 := 98) ?_ ?_
                  · intro h106
                    replace p100 := p100 (by omega)
                    refine wp_ic jF_226_142 rfl (pc2 := 143) ?_
                    refine wp_go jF_226_143 ?_
                    refine wp_is1 (lv2 := [(0, .ref 117), (1, iV 1)]) jF_226_147 rfl rfl rfl (pc2 := 148) ?_
                    refine wp_il1 jF_226_148 rfl rfl (pc2 := 149) ?_
                    refine wp_z_ne jF_226_149 (m_rgl rfl) rfl (pc2 := 152) ?_ ?_
                    · intro h107
                      refine wp_ic jF_226_218 rfl (pc2 := 219) ?_
                      refine wp_go jF_226_219 ?_
                      refine wp_is1 (lv2 := [(0, .ref 117), (1, iV 1)]) jF_226_223 rfl rfl rfl (pc2 := 224) ?_
                      refine wp_il1 jF_226_224 rfl rfl (pc2 := 225) ?_
                      refine wp_ri jF_226_225 rfl ?_
                      have b108 := GI.b g102 117 2 kd117 (lo := 0) (hi := 1601) rfl
                      exact ⟨1, rfl, ⟨by omega, by omega⟩, g102, (FR.up (FR.up (FR.up (FR.up (FR.up (FR.up (FR.up f8 f22 sb_Wat_Wat) f36 sb_Wat_Wat) f50 sb_Wat_Wat) f64 sb_Wat_Wat) f78 sb_Wat_Wat) f90 sb_Wat_Wat) f103 sb_Wat_Wat), (by omega)⟩
                    · intro h107; exfalso; omega
                  · intro h106
                    clear p100
                    refine wp_al1 jF_226_98 rfl rfl (pc2 := 99) ?_
                    refine wp_al1 jF_226_99 rfl rfl (pc2 := 100) ?_
                    refine wp_gr (b := 128) jF_226_100 kd117 (by decide) (c := 228) rfl rfl rfl (pc2 := 103) ?_
                    refine wp_cV (as := [.ref 128]) (rest := []) (a := 117) (mx := 4) (ci := 12) jF_226_103 kd117 (by decide) rfl rfl rfl rfl rfl (by omega) (by omega) rfl (pc2 := 106) ?_
                    have b109 := GI.b g102 117 2 kd117 (lo := 0) (hi := 1601) rfl
                    have q110 : (τ101.1 117 3) = (σ.1 117 3) := ((FR.at f103 117 3 rfl).trans ((FR.at f90 117 3 rfl).trans ((FR.at f78 117 3 rfl).trans ((FR.at f64 117 3 rfl).trans ((FR.at f50 117 3 rfl).trans ((FR.at f36 117 3 rfl).trans ((FR.at f22 117 3 rfl).trans (FR.at f8 117 3 rfl))))))))
                    have q111 : (τ101.1 117 5) = (σ.1 117 5) := ((FR.at f103 117 5 rfl).trans ((FR.at f90 117 5 rfl).trans ((FR.at f78 117 5 rfl).trans ((FR.at f64 117 5 rfl).trans ((FR.at f50 117 5 rfl).trans ((FR.at f36 117 5 rfl).trans ((FR.at f22 117 5 rfl).trans (FR.at f8 117 5 rfl))))))))
                    refine wp_use (m_220 τ101 g102 128 5 cw128.1 cw128.2 (by decide)  _ _ (by omega) (by omega)) ?_
                    rintro _ τ114 ⟨z117, rfl, h118, g115, f116, p112, p113⟩
                    show WP 226 106 [(0, .ref 117), (1, iV 0)] [iV z117] _ _ _ _
                    refine wp_z_ne jF_226_106 (m_rgb h118 rfl) rfl (pc2 := 109) ?_ ?_
                    · intro h119
                      replace p113 := p113 (by omega)
                      refine wp_ic jF_226_142 rfl (pc2 := 143) ?_
                      refine wp_go jF_226_143 ?_
                      refine wp_is1 (lv2 := [(0, .ref 117), (1, iV 1)]) jF_226_147 rfl rfl rfl (pc2 := 148) ?_
                      refine wp_il1 jF_226_148 rfl rfl (pc2 := 149) ?_
                      refine wp_z_ne jF_226_149 (m_rgl rfl) rfl (pc2 := 152) ?_ ?_
                      · intro h120
                        refine wp_ic jF_226_218 rfl (pc2 := 219) ?_
                        refine wp_go jF_226_219 ?_
                        refine wp_is1 (lv2 := [(0, .ref 117), (1, iV 1)]) jF_226_223 rfl rfl rfl (pc2 := 224) ?_
                        refine wp_il1 jF_226_224 rfl rfl (pc2 := 225) ?_
                        refine wp_ri jF_226_225 rfl ?_
                        have b121 := GI.b g115 117 2 kd117 (lo := 0) (hi := 1601) rfl
                        exact ⟨1, rfl, ⟨by omega, by omega⟩, g115, (FR.up (FR.up (FR.up (FR.up (FR.up (FR.up (FR.up (FR.up f8 f22 sb_Wat_Wat) f36 sb_Wat_Wat) f50 sb_Wat_Wat) f64 sb_Wat_Wat) f78 sb_Wat_Wat) f90 sb_Wat_Wat) f103 sb_Wat_Wat) f116 sb_Wat_Wat), (by omega)⟩
                      · intro h120; exfalso; omega
                    · intro h119
                      clear p113
                      refine wp_al1 jF_226_109 rfl rfl (pc2 := 110) ?_
                      refine wp_al1 jF_226_110 rfl rfl (pc2 := 111) ?_
                      refine wp_gr (b := 129) jF_226_111 kd117 (by decide) (c := 229) rfl rfl rfl (pc2 := 114) ?_
                      refine wp_cV (as := [.ref 129]) (rest := []) (a := 117) (mx := 4) (ci := 12) jF_226_114 kd117 (by decide) rfl rfl rfl rfl rfl (by omega) (by omega) rfl (pc2 := 117) ?_
                      have b122 := GI.b g115 117 2 kd117 (lo := 0) (hi := 1601) rfl
                      have q123 : (τ114.1 117 3) = (σ.1 117 3) := ((FR.at f116 117 3 rfl).trans ((FR.at f103 117 3 rfl).trans ((FR.at f90 117 3 rfl).trans ((FR.at f78 117 3 rfl).trans ((FR.at f64 117 3 rfl).trans ((FR.at f50 117 3 rfl).trans ((FR.at f36 117 3 rfl).trans ((FR.at f22 117 3 rfl).trans (FR.at f8 117 3 rfl)))))))))
                      have q124 : (τ114.1 117 5) = (σ.1 117 5) := ((FR.at f116 117 5 rfl).trans ((FR.at f103 117 5 rfl).trans ((FR.at f90 117 5 rfl).trans ((FR.at f78 117 5 rfl).trans ((FR.at f64 117 5 rfl).trans ((FR.at f50 117 5 rfl).trans ((FR.at f36 117 5 rfl).trans ((FR.at f22 117 5 rfl).trans (FR.at f8 117 5 rfl)))))))))
                      refine wp_use (m_220 τ114 g115 129 6 cw129.1 cw129.2 (by decide)  _ _ (by omega) (by omega)) ?_
                      rintro _ τ127 ⟨z130, rfl, h131, g128, f129, p125, p126⟩
                      show WP 226 117 [(0, .ref 117), (1, iV 0)] [iV z130] _ _ _ _
                      refine wp_z_ne jF_226_117 (m_rgb h131 rfl) rfl (pc2 := 120) ?_ ?_
                      · intro h132
                        replace p126 := p126 (by omega)
                        refine wp_ic jF_226_142 rfl (pc2 := 143) ?_
                        refine wp_go jF_226_143 ?_
                        refine wp_is1 (lv2 := [(0, .ref 117), (1, iV 1)]) jF_226_147 rfl rfl rfl (pc2 := 148) ?_
                        refine wp_il1 jF_226_148 rfl rfl (pc2 := 149) ?_
                        refine wp_z_ne jF_226_149 (m_rgl rfl) rfl (pc2 := 152) ?_ ?_
                        · intro h133
                          refine wp_ic jF_226_218 rfl (pc2 := 219) ?_
                          refine wp_go jF_226_219 ?_
                          refine wp_is1 (lv2 := [(0, .ref 117), (1, iV 1)]) jF_226_223 rfl rfl rfl (pc2 := 224) ?_
                          refine wp_il1 jF_226_224 rfl rfl (pc2 := 225) ?_
                          refine wp_ri jF_226_225 rfl ?_
                          have b134 := GI.b g128 117 2 kd117 (lo := 0) (hi := 1601) rfl
                          exact ⟨1, rfl, ⟨by omega, by omega⟩, g128, (FR.up (FR.up (FR.up (FR.up (FR.up (FR.up (FR.up (FR.up (FR.up f8 f22 sb_Wat_Wat) f36 sb_Wat_Wat) f50 sb_Wat_Wat) f64 sb_Wat_Wat) f78 sb_Wat_Wat) f90 sb_Wat_Wat) f103 sb_Wat_Wat) f116 sb_Wat_Wat) f129 sb_Wat_Wat), (by omega)⟩
                        · intro h133; exfalso; omega
                      · intro h132
                        clear p126
                        refine wp_al1 jF_226_120 rfl rfl (pc2 := 121) ?_
                        refine wp_al1 jF_226_121 rfl rfl (pc2 := 122) ?_
                        refine wp_gr (b := 130) jF_226_122 kd117 (by decide) (c := 230) rfl rfl rfl (pc2 := 125) ?_
                        refine wp_cV (as := [.ref 130]) (rest := []) (a := 117) (mx := 4) (ci := 12) jF_226_125 kd117 (by decide) rfl rfl rfl rfl rfl (by omega) (by omega) rfl (pc2 := 128) ?_
                        have b135 := GI.b g128 117 2 kd117 (lo := 0) (hi := 1601) rfl
                        have q136 : (τ127.1 117 3) = (σ.1 117 3) := ((FR.at f129 117 3 rfl).trans ((FR.at f116 117 3 rfl).trans ((FR.at f103 117 3 rfl).trans ((FR.at f90 117 3 rfl).trans ((FR.at f78 117 3 rfl).trans ((FR.at f64 117 3 rfl).trans ((FR.at f50 117 3 rfl).trans ((FR.at f36 117 3 rfl).trans ((FR.at f22 117 3 rfl).trans (FR.at f8 117 3 rfl))))))))))
                        have q137 : (τ127.1 117 5) = (σ.1 117 5) := ((FR.at f129 117 5 rfl).trans ((FR.at f116 117 5 rfl).trans ((FR.at f103 117 5 rfl).trans ((FR.at f90 117 5 rfl).trans ((FR.at f78 117 5 rfl).trans ((FR.at f64 117 5 rfl).trans ((FR.at f50 117 5 rfl).trans ((FR.at f36 117 5 rfl).trans ((FR.at f22 117 5 rfl).trans (FR.at f8 117 5 rfl))))))))))
                        refine wp_use (m_220 τ127 g128 130 6 cw130.1 cw130.2 (by decide)  _ _ (by omega) (by omega)) ?_
                        rintro _ τ140 ⟨z143, rfl, h144, g141, f142, p138, p139⟩
                        show WP 226 128 [(0, .ref 117), (1, iV 0)] [iV z143] _ _ _ _
                        refine wp_z_ne jF_226_128 (m_rgb h144 rfl) rfl (pc2 := 131) ?_ ?_
                        · intro h145
                          replace p139 := p139 (by omega)
                          refine wp_ic jF_226_142 rfl (pc2 := 143) ?_
                          refine wp_go jF_226_143 ?_
                          refine wp_is1 (lv2 := [(0, .ref 117), (1, iV 1)]) jF_226_147 rfl rfl rfl (pc2 := 148) ?_
                          refine wp_il1 jF_226_148 rfl rfl (pc2 := 149) ?_
                          refine wp_z_ne jF_226_149 (m_rgl rfl) rfl (pc2 := 152) ?_ ?_
                          · intro h146
                            refine wp_ic jF_226_218 rfl (pc2 := 219) ?_
                            refine wp_go jF_226_219 ?_
                            refine wp_is1 (lv2 := [(0, .ref 117), (1, iV 1)]) jF_226_223 rfl rfl rfl (pc2 := 224) ?_
                            refine wp_il1 jF_226_224 rfl rfl (pc2 := 225) ?_
                            refine wp_ri jF_226_225 rfl ?_
                            have b147 := GI.b g141 117 2 kd117 (lo := 0) (hi := 1601) rfl
                            exact ⟨1, rfl, ⟨by omega, by omega⟩, g141, (FR.up (FR.up (FR.up (FR.up (FR.up (FR.up (FR.up (FR.up (FR.up (FR.up f8 f22 sb_Wat_Wat) f36 sb_Wat_Wat) f50 sb_Wat_Wat) f64 sb_Wat_Wat) f78 sb_Wat_Wat) f90 sb_Wat_Wat) f103 sb_Wat_Wat) f116 sb_Wat_Wat) f129 sb_Wat_Wat) f142 sb_Wat_Wat), (by omega)⟩
                          · intro h146; exfalso; omega
                        · intro h145
                          clear p139
                          refine wp_al1 jF_226_131 rfl rfl (pc2 := 132) ?_
                          refine wp_al1 jF_226_132 rfl rfl (pc2 := 133) ?_
                          refine wp_gr (b := 131) jF_226_133 kd117 (by decide) (c := 231) rfl rfl rfl (pc2 := 136) ?_
                          refine wp_cV (as := [.ref 131]) (rest := []) (a := 117) (mx := 4) (ci := 12) jF_226_136 kd117 (by decide) rfl rfl rfl rfl rfl (by omega) (by omega) rfl (pc2 := 139) ?_
                          have b148 := GI.b g141 117 2 kd117 (lo := 0) (hi := 1601) rfl
                          have q149 : (τ140.1 117 3) = (σ.1 117 3) := ((FR.at f142 117 3 rfl).trans ((FR.at f129 117 3 rfl).trans ((FR.at f116 117 3 rfl).trans ((FR.at f103 117 3 rfl).trans ((FR.at f90 117 3 rfl).trans ((FR.at f78 117 3 rfl).trans ((FR.at f64 117 3 rfl).trans ((FR.at f50 117 3 rfl).trans ((FR.at f36 117 3 rfl).trans ((FR.at f22 117 3 rfl).trans (FR.at f8 117 3 rfl)))))))))))
                          have q150 : (τ140.1 117 5) = (σ.1 117 5) := ((FR.at f142 117 5 rfl).trans ((FR.at f129 117 5 rfl).trans ((FR.at f116 117 5 rfl).trans ((FR.at f103 117 5 rfl).trans ((FR.at f90 117 5 rfl).trans ((FR.at f78 117 5 rfl).trans ((FR.at f64 117 5 rfl).trans ((FR.at f50 117 5 rfl).trans ((FR.at f36 117 5 rfl).trans ((FR.at f22 117 5 rfl).trans (FR.at f8 117 5 rfl)))))))))))
                          refine wp_use (m_220 τ140 g141 131 4 cw131.1 cw131.2 (by decide)  _ _ (by omega) (by omega)) ?_
                          rintro _ τ153 ⟨z156, rfl, h157, g154, f155, p151, p152⟩
                          show WP 226 139 [(0, .ref 117), (1, iV 0)] [iV z156] _ _ _ _
                          refine wp_z_eq jF_226_139 (m_rgb h157 rfl) rfl (pc2 := 142) ?_ ?_
                          · intro h158
                            clear p152
                            refine wp_ic jF_226_146 rfl (pc2 := 147) ?_
                            refine wp_is1 (lv2 := [(0, .ref 117), (1, iV 0)]) jF_226_147 rfl rfl rfl (pc2 := 148) ?_
                            refine wp_il1 jF_226_148 rfl rfl (pc2 := 149) ?_
                            refine wp_z_ne jF_226_149 (m_rgl rfl) rfl (pc2 := 152) ?_ ?_
                            · intro h159; exfalso; omega
                            · intro h159
                              refine wp_al1 jF_226_152 rfl rfl (pc2 := 153) ?_
                              refine wp_al1 jF_226_153 rfl rfl (pc2 := 154) ?_
                              refine wp_gr (b := 132) jF_226_154 kd117 (by decide) (c := 232) rfl rfl rfl (pc2 := 157) ?_
                              refine wp_cV (as := [.ref 132]) (rest := []) (a := 117) (mx := 4) (ci := 12) jF_226_157 kd117 (by decide) rfl rfl rfl rfl rfl (by omega) (by omega) rfl (pc2 := 160) ?_
                              have b160 := GI.b g154 117 2 kd117 (lo := 0) (hi := 1601) rfl
                              have q161 : (τ153.1 117 3) = (σ.1 117 3) := ((FR.at f155 117 3 rfl).trans ((FR.at f142 117 3 rfl).trans ((FR.at f129 117 3 rfl).trans ((FR.at f116 117 3 rfl).trans ((FR.at f103 117 3 rfl).trans ((FR.at f90 117 3 rfl).trans ((FR.at f78 117 3 rfl).trans ((FR.at f64 117 3 rfl).trans ((FR.at f50 117 3 rfl).trans ((FR.at f36 117 3 rfl).trans ((FR.at f22 117 3 rfl).trans (FR.at f8 117 3 rfl))))))))))))
                              have q162 : (τ153.1 117 5) = (σ.1 117 5) := ((FR.at f155 117 5 rfl).trans ((FR.at f142 117 5 rfl).trans ((FR.at f129 117 5 rfl).trans ((FR.at f116 117 5 rfl).trans ((FR.at f103 117 5 rfl).trans ((FR.at f90 117 5 rfl).trans ((FR.at f78 117 5 rfl).trans ((FR.at f64 117 5 rfl).trans ((FR.at f50 117 5 rfl).trans ((FR.at f36 117 5 rfl).trans ((FR.at f22 117 5 rfl).trans (FR.at f8 117 5 rfl))))))))))))
                              refine wp_use (m_220 τ153 g154 132 3 cw132.1 cw132.2 (by decide)  _ _ (by omega) (by omega)) ?_
                              rintro _ τ165 ⟨z168, rfl, h169, g166, f167, p163, p164⟩
                              show WP 226 160 [(0, .ref 117), (1, iV 0)] [iV z168] _ _ _ _
                              refine wp_z_ne jF_226_160 (m_rgb h169 rfl) rfl (pc2 := 163) ?_ ?_
                              · intro h170
                                replace p164 := p164 (by omega)
                                refine wp_ic jF_226_218 rfl (pc2 := 219) ?_
                                refine wp_go jF_226_219 ?_
                                refine wp_is1 (lv2 := [(0, .ref 117), (1, iV 1)]) jF_226_223 rfl rfl rfl (pc2 := 224) ?_
                                refine wp_il1 jF_226_224 rfl rfl (pc2 := 225) ?_
                                refine wp_ri jF_226_225 rfl ?_
                                have b171 := GI.b g166 117 2 kd117 (lo := 0) (hi := 1601) rfl
                                exact ⟨1, rfl, ⟨by omega, by omega⟩, g166, (FR.up (FR.up (FR.up (FR.up (FR.up (FR.up (FR.up (FR.up (FR.up (FR.up (FR.up (FR.up f8 f22 sb_Wat_Wat) f36 sb_Wat_Wat) f50 sb_Wat_Wat) f64 sb_Wat_Wat) f78 sb_Wat_Wat) f90 sb_Wat_Wat) f103 sb_Wat_Wat) f116 sb_Wat_Wat) f129 sb_Wat_Wat) f142 sb_Wat_Wat) f155 sb_Wat_Wat) f167 sb_Wat_Wat), (by omega)⟩
                              · intro h170
                                clear p164
                                refine wp_al1 jF_226_163 rfl rfl (pc2 := 164) ?_
                                refine wp_al1 jF_226_164 rfl rfl (pc2 := 165) ?_
                                refine wp_gr (b := 133) jF_226_165 kd117 (by decide) (c := 233) rfl rfl rfl (pc2 := 168) ?_
                                refine wp_cV (as := [.ref 133]) (rest := []) (a := 117) (mx := 4) (ci := 12) jF_226_168 kd117 (by decide) rfl rfl rfl rfl rfl (by omega) (by omega) rfl (pc2 := 171) ?_
                                have b172 := GI.b g166 117 2 kd117 (lo := 0) (hi := 1601) rfl
                                have q173 : (τ165.1 117 3) = (σ.1 117 3) := ((FR.at f167 117 3 rfl).trans ((FR.at f155 117 3 rfl).trans ((FR.at f142 117 3 rfl).trans ((FR.at f129 117 3 rfl).trans ((FR.at f116 117 3 rfl).trans ((FR.at f103 117 3 rfl).trans ((FR.at f90 117 3 rfl).trans ((FR.at f78 117 3 rfl).trans ((FR.at f64 117 3 rfl).trans ((FR.at f50 117 3 rfl).trans ((FR.at f36 117 3 rfl).trans ((FR.at f22 117 3 rfl).trans (FR.at f8 117 3 rfl)))))))))))))
                                have q174 : (τ165.1 117 5) = (σ.1 117 5) := ((FR.at f167 117 5 rfl).trans ((FR.at f155 117 5 rfl).trans ((FR.at f142 117 5 rfl).trans ((FR.at f129 117 5 rfl).trans ((FR.at f116 117 5 rfl).trans ((FR.at f103 117 5 rfl).trans ((FR.at f90 117 5 rfl).trans ((FR.at f78 117 5 rfl).trans ((FR.at f64 117 5 rfl).trans ((FR.at f50 117 5 rfl).trans ((FR.at f36 117 5 rfl).trans ((FR.at f22 117 5 rfl).trans (FR.at f8 117 5 rfl)))))))))))))
                                refine wp_use (m_220 τ165 g166 133 5 cw133.1 cw133.2 (by decide)  _ _ (by omega) (by omega)) ?_
                                rintro _ τ177 ⟨z180, rfl, h181, g178, f179, p175, p176⟩
                                show WP 226 171 [(0, .ref 117), (1, iV 0)] [iV z180] _ _ _ _
                                refine wp_z_ne jF_226_171 (m_rgb h181 rfl) rfl (pc2 := 174) ?_ ?_
                                · intro h182
                                  replace p176 := p176 (by omega)
                                  refine wp_ic jF_226_218 rfl (pc2 := 219) ?_
                                  refine wp_go jF_226_219 ?_
                                  refine wp_is1 (lv2 := [(0, .ref 117), (1, iV 1)]) jF_226_223 rfl rfl rfl (pc2 := 224) ?_
                                  refine wp_il1 jF_226_224 rfl rfl (pc2 := 225) ?_
                                  refine wp_ri jF_226_225 rfl ?_
                                  have b183 := GI.b g178 117 2 kd117 (lo := 0) (hi := 1601) rfl
                                  exact ⟨1, rfl, ⟨by omega, by omega⟩, g178, (FR.up (FR.up (FR.up (FR.up (FR.up (FR.up (FR.up (FR.up (FR.up (FR.up (FR.up (FR.up (FR.up f8 f22 sb_Wat_Wat) f36 sb_Wat_Wat) f50 sb_Wat_Wat) f64 sb_Wat_Wat) f78 sb_Wat_Wat) f90 sb_Wat_Wat) f103 sb_Wat_Wat) f116 sb_Wat_Wat) f129 sb_Wat_Wat) f142 sb_Wat_Wat) f155 sb_Wat_Wat) f167 sb_Wat_Wat) f179 sb_Wat_Wat), (by omega)⟩
                                · intro h182
                                  clear p176
                                  refine wp_al1 jF_226_174 rfl rfl (pc2 := 175) ?_
                                  refine wp_al1 jF_226_175 rfl rfl (pc2 := 176) ?_
                                  refine wp_gr (b := 134) jF_226_176 kd117 (by decide) (c := 234) rfl rfl rfl (pc2 := 179) ?_
                                  refine wp_cV (as := [.ref 134]) (rest := []) (a := 117) (mx := 4) (ci := 12) jF_226_179 kd117 (by decide) rfl rfl rfl rfl rfl (by omega) (by omega) rfl (pc2 := 182) ?_
                                  have b184 := GI.b g178 117 2 kd117 (lo := 0) (hi := 1601) rfl
                                  have q185 : (τ177.1 117 3) = (σ.1 117 3) := ((FR.at f179 117 3 rfl).trans ((FR.at f167 117 3 rfl).trans ((FR.at f155 117 3 rfl).trans ((FR.at f142 117 3 rfl).trans ((FR.at f129 117 3 rfl).trans ((FR.at f116 117 3 rfl).trans ((FR.at f103 117 3 rfl).trans ((FR.at f90 117 3 rfl).trans ((FR.at f78 117 3 rfl).trans ((FR.at f64 117 3 rfl).trans ((FR.at f50 117 3 rfl).trans ((FR.at f36 117 3 rfl).trans ((FR.at f22 117 3 rfl).trans (FR.at f8 117 3 rfl))))))))))))))
                                  have q186 : (τ177.1 117 5) = (σ.1 117 5) := ((FR.at f179 117 5 rfl).trans ((FR.at f167 117 5 rfl).trans ((FR.at f155 117 5 rfl).trans ((FR.at f142 117 5 rfl).trans ((FR.at f129 117 5 rfl).trans ((FR.at f116 117 5 rfl).trans ((FR.at f103 117 5 rfl).trans ((FR.at f90 117 5 rfl).trans ((FR.at f78 117 5 rfl).trans ((FR.at f64 117 5 rfl).trans ((FR.at f50 117 5 rfl).trans ((FR.at f36 117 5 rfl).trans ((FR.at f22 117 5 rfl).trans (FR.at f8 117 5 rfl))))))))))))))
                                  refine wp_use (m_220 τ177 g178 134 3 cw134.1 cw134.2 (by decide)  _ _ (by omega) (by omega)) ?_
                                  rintro _ τ189 ⟨z192, rfl, h193, g190, f191, p187, p188⟩
                                  show WP 226 182 [(0, .ref 117), (1, iV 0)] [iV z192] _ _ _ _
                                  refine wp_z_ne jF_226_182 (m_rgb h193 rfl) rfl (pc2 := 185) ?_ ?_
                                  · intro h194
                                    replace p188 := p188 (by omega)
                                    refine wp_ic jF_226_218 rfl (pc2 := 219) ?_
                                    refine wp_go jF_226_219 ?_
                                    refine wp_is1 (lv2 := [(0, .ref 117), (1, iV 1)]) jF_226_223 rfl rfl rfl (pc2 := 224) ?_
                                    refine wp_il1 jF_226_224 rfl rfl (pc2 := 225) ?_
                                    refine wp_ri jF_226_225 rfl ?_
                                    have b195 := GI.b g190 117 2 kd117 (lo := 0) (hi := 1601) rfl
                                    exact ⟨1, rfl, ⟨by omega, by omega⟩, g190, (FR.up (FR.up (FR.up (FR.up (FR.up (FR.up (FR.up (FR.up (FR.up (FR.up (FR.up (FR.up (FR.up (FR.up f8 f22 sb_Wat_Wat) f36 sb_Wat_Wat) f50 sb_Wat_Wat) f64 sb_Wat_Wat) f78 sb_Wat_Wat) f90 sb_Wat_Wat) f103 sb_Wat_Wat) f116 sb_Wat_Wat) f129 sb_Wat_Wat) f142 sb_Wat_Wat) f155 sb_Wat_Wat) f167 sb_Wat_Wat) f179 sb_Wat_Wat) f191 sb_Wat_Wat), (by omega)⟩
                                  · intro h194
                                    clear p188
                                    refine wp_al1 jF_226_185 rfl rfl (pc2 := 186) ?_
                                    refine wp_al1 jF_226_186 rfl rfl (pc2 := 187) ?_
                                    refine wp_gr (b := 135) jF_226_187 kd117 (by decide) (c := 235) rfl rfl rfl (pc2 := 190) ?_
                                    refine wp_cV (as := [.ref 135]) (rest := []) (a := 117) (mx := 4) (ci := 12) jF_226_190 kd117 (by decide) rfl rfl rfl rfl rfl (by omega) (by omega) rfl (pc2 := 193) ?_
                                    have b196 := GI.b g190 117 2 kd117 (lo := 0) (hi := 1601) rfl
                                    have q197 : (τ189.1 117 3) = (σ.1 117 3) := ((FR.at f191 117 3 rfl).trans ((FR.at f179 117 3 rfl).trans ((FR.at f167 117 3 rfl).trans ((FR.at f155 117 3 rfl).trans ((FR.at f142 117 3 rfl).trans ((FR.at f129 117 3 rfl).trans ((FR.at f116 117 3 rfl).trans ((FR.at f103 117 3 rfl).trans ((FR.at f90 117 3 rfl).trans ((FR.at f78 117 3 rfl).trans ((FR.at f64 117 3 rfl).trans ((FR.at f50 117 3 rfl).trans ((FR.at f36 117 3 rfl).trans ((FR.at f22 117 3 rfl).trans (FR.at f8 117 3 rfl)))))))))))))))
                                    have q198 : (τ189.1 117 5) = (σ.1 117 5) := ((FR.at f191 117 5 rfl).trans ((FR.at f179 117 5 rfl).trans ((FR.at f167 117 5 rfl).trans ((FR.at f155 117 5 rfl).trans ((FR.at f142 117 5 rfl).trans ((FR.at f129 117 5 rfl).trans ((FR.at f116 117 5 rfl).trans ((FR.at f103 117 5 rfl).trans ((FR.at f90 117 5 rfl).trans ((FR.at f78 117 5 rfl).trans ((FR.at f64 117 5 rfl).trans ((FR.at f50 117 5 rfl).trans ((FR.at f36 117 5 rfl).trans ((FR.at f22 117 5 rfl).trans (FR.at f8 117 5 rfl)))))))))))))))
                                    refine wp_use (m_220 τ189 g190 135 2 cw135.1 cw135.2 (by decide)  _ _ (by omega) (by omega)) ?_
                                    rintro _ τ201 ⟨z204, rfl, h205, g202, f203, p199, p200⟩
                                    show WP 226 193 [(0, .ref 117), (1, iV 0)] [iV z204] _ _ _ _
                                    refine wp_z_ne jF_226_193 (m_rgb h205 rfl) rfl (pc2 := 196) ?_ ?_
                                    · intro h206
                                      replace p200 := p200 (by omega)
                                      refine wp_ic jF_226_218 rfl (pc2 := 219) ?_
                                      refine wp_go jF_226_219 ?_
                                      refine wp_is1 (lv2 := [(0, .ref 117), (1, iV 1)]) jF_226_223 rfl rfl rfl (pc2 := 224) ?_
                                      refine wp_il1 jF_226_224 rfl rfl (pc2 := 225) ?_
                                      refine wp_ri jF_226_225 rfl ?_
                                      have b207 := GI.b g202 117 2 kd117 (lo := 0) (hi := 1601) rfl
                                      exact ⟨1, rfl, ⟨by omega, by omega⟩, g202, (FR.up (FR.up (FR.up (FR.up (FR.up (FR.up (FR.up (FR.up (FR.up (FR.up (FR.up (FR.up (FR.up (FR.up (FR.up f8 f22 sb_Wat_Wat) f36 sb_Wat_Wat) f50 sb_Wat_Wat) f64 sb_Wat_Wat) f78 sb_Wat_Wat) f90 sb_Wat_Wat) f103 sb_Wat_Wat) f116 sb_Wat_Wat) f129 sb_Wat_Wat) f142 sb_Wat_Wat) f155 sb_Wat_Wat) f167 sb_Wat_Wat) f179 sb_Wat_Wat) f191 sb_Wat_Wat) f203 sb_Wat_Wat), (by omega)⟩
                                    · intro h206
                                      clear p200
                                      refine wp_al1 jF_226_196 rfl rfl (pc2 := 197) ?_
                                      refine wp_al1 jF_226_197 rfl rfl (pc2 := 198) ?_
                                      refine wp_gr (b := 136) jF_226_198 kd117 (by decide) (c := 236) rfl rfl rfl (pc2 := 201) ?_
                                      refine wp_cV (as := [.ref 136]) (rest := []) (a := 117) (mx := 4) (ci := 12) jF_226_201 kd117 (by decide) rfl rfl rfl rfl rfl (by omega) (by omega) rfl (pc2 := 204) ?_
                                      have b208 := GI.b g202 117 2 kd117 (lo := 0) (hi := 1601) rfl
                                      have q209 : (τ201.1 117 3) = (σ.1 117 3) := ((FR.at f203 117 3 rfl).trans ((FR.at f191 117 3 rfl).trans ((FR.at f179 117 3 rfl).trans ((FR.at f167 117 3 rfl).trans ((FR.at f155 117 3 rfl).trans ((FR.at f142 117 3 rfl).trans ((FR.at f129 117 3 rfl).trans ((FR.at f116 117 3 rfl).trans ((FR.at f103 117 3 rfl).trans ((FR.at f90 117 3 rfl).trans ((FR.at f78 117 3 rfl).trans ((FR.at f64 117 3 rfl).trans ((FR.at f50 117 3 rfl).trans ((FR.at f36 117 3 rfl).trans ((FR.at f22 117 3 rfl).trans (FR.at f8 117 3 rfl))))))))))))))))
                                      have q210 : (τ201.1 117 5) = (σ.1 117 5) := ((FR.at f203 117 5 rfl).trans ((FR.at f191 117 5 rfl).trans ((FR.at f179 117 5 rfl).trans ((FR.at f167 117 5 rfl).trans ((FR.at f155 117 5 rfl).trans ((FR.at f142 117 5 rfl).trans ((FR.at f129 117 5 rfl).trans ((FR.at f116 117 5 rfl).trans ((FR.at f103 117 5 rfl).trans ((FR.at f90 117 5 rfl).trans ((FR.at f78 117 5 rfl).trans ((FR.at f64 117 5 rfl).trans ((FR.at f50 117 5 rfl).trans ((FR.at f36 117 5 rfl).trans ((FR.at f22 117 5 rfl).trans (FR.at f8 117 5 rfl))))))))))))))))
                                      refine wp_use (m_220 τ201 g202 136 3 cw136.1 cw136.2 (by decide)  _ _ (by omega) (by omega)) ?_
                                      rintro _ τ213 ⟨z216, rfl, h217, g214, f215, p211, p212⟩
                                      show WP 226 204 [(0, .ref 117), (1, iV 0)] [iV z216] _ _ _ _
                                      refine wp_z_ne jF_226_204 (m_rgb h217 rfl) rfl (pc2 := 207) ?_ ?_
                                      · intro h218
                                        replace p212 := p212 (by omega)
                                        refine wp_ic jF_226_218 rfl (pc2 := 219) ?_
                                        refine wp_go jF_226_219 ?_
                                        refine wp_is1 (lv2 := [(0, .ref 117), (1, iV 1)]) jF_226_223 rfl rfl rfl (pc2 := 224) ?_
                                        refine wp_il1 jF_226_224 rfl rfl (pc2 := 225) ?_
                                        refine wp_ri jF_226_225 rfl ?_
                                        have b219 := GI.b g214 117 2 kd117 (lo := 0) (hi := 1601) rfl
                                        exact ⟨1, rfl, ⟨by omega, by omega⟩, g214, (FR.up (FR.up (FR.up (FR.up (FR.up (FR.up (FR.up (FR.up (FR.up (FR.up (FR.up (FR.up (FR.up (FR.up (FR.up (FR.up f8 f22 sb_Wat_Wat) f36 sb_Wat_Wat) f50 sb_Wat_Wat) f64 sb_Wat_Wat) f78 sb_Wat_Wat) f90 sb_Wat_Wat) f103 sb_Wat_Wat) f116 sb_Wat_Wat) f129 sb_Wat_Wat) f142 sb_Wat_Wat) f155 sb_Wat_Wat) f167 sb_Wat_Wat) f179 sb_Wat_Wat) f191 sb_Wat_Wat) f203 sb_Wat_Wat) f215 sb_Wat_Wat), (by omega)⟩
                                      · intro h218
                                        clear p212
                                        refine wp_al1 jF_226_207 rfl rfl (pc2 := 208) ?_
                                        refine wp_al1 jF_226_208 rfl rfl (pc2 := 209) ?_
                                        refine wp_gr (b := 137) jF_226_209 kd117 (by decide) (c := 237) rfl rfl rfl (pc2 := 212) ?_
                                        refine wp_cV (as := [.ref 137]) (rest := []) (a := 117) (mx := 4) (ci := 12) jF_226_212 kd117 (by decide) rfl rfl rfl rfl rfl (by omega) (by omega) rfl (pc2 := 215) ?_
                                        have b220 := GI.b g214 117 2 kd117 (lo := 0) (hi := 1601) rfl
                                        have q221 : (τ213.1 117 3) = (σ.1 117 3) := ((FR.at f215 117 3 rfl).trans ((FR.at f203 117 3 rfl).trans ((FR.at f191 117 3 rfl).trans ((FR.at f179 117 3 rfl).trans ((FR.at f167 117 3 rfl).trans ((FR.at f155 117 3 rfl).trans ((FR.at f142 117 3 rfl).trans ((FR.at f129 117 3 rfl).trans ((FR.at f116 117 3 rfl).trans ((FR.at f103 117 3 rfl).trans ((FR.at f90 117 3 rfl).trans ((FR.at f78 117 3 rfl).trans ((FR.at f64 117 3 rfl).trans ((FR.at f50 117 3 rfl).trans ((FR.at f36 117 3 rfl).trans ((FR.at f22 117 3 rfl).trans (FR.at f8 117 3 rfl)))))))))))))))))
                                        have q222 : (τ213.1 117 5) = (σ.1 117 5) := ((FR.at f215 117 5 rfl).trans ((FR.at f203 117 5 rfl).trans ((FR.at f191 117 5 rfl).trans ((FR.at f179 117 5 rfl).trans ((FR.at f167 117 5 rfl).trans ((FR.at f155 117 5 rfl).trans ((FR.at f142 117 5 rfl).trans ((FR.at f129 117 5 rfl).trans ((FR.at f116 117 5 rfl).trans ((FR.at f103 117 5 rfl).trans ((FR.at f90 117 5 rfl).trans ((FR.at f78 117 5 rfl).trans ((FR.at f64 117 5 rfl).trans ((FR.at f50 117 5 rfl).trans ((FR.at f36 117 5 rfl).trans ((FR.at f22 117 5 rfl).trans (FR.at f8 117 5 rfl)))))))))))))))))
                                        refine wp_use (m_220 τ213 g214 137 6 cw137.1 cw137.2 (by decide)  _ _ (by omega) (by omega)) ?_
                                        rintro _ τ225 ⟨z228, rfl, h229, g226, f227, p223, p224⟩
                                        show WP 226 215 [(0, .ref 117), (1, iV 0)] [iV z228] _ _ _ _
                                        refine wp_z_eq jF_226_215 (m_rgb h229 rfl) rfl (pc2 := 218) ?_ ?_
                                        · intro h230
                                          clear p224
                                          refine wp_ic jF_226_222 rfl (pc2 := 223) ?_
                                          refine wp_is1 (lv2 := [(0, .ref 117), (1, iV 0)]) jF_226_223 rfl rfl rfl (pc2 := 224) ?_
                                          refine wp_il1 jF_226_224 rfl rfl (pc2 := 225) ?_
                                          refine wp_ri jF_226_225 rfl ?_
                                          have b231 := GI.b g226 117 2 kd117 (lo := 0) (hi := 1601) rfl
                                          exact ⟨0, rfl, ⟨by omega, by omega⟩, g226, (FR.up (FR.up (FR.up (FR.up (FR.up (FR.up (FR.up (FR.up (FR.up (FR.up (FR.up (FR.up (FR.up (FR.up (FR.up (FR.up (FR.up f8 f22 sb_Wat_Wat) f36 sb_Wat_Wat) f50 sb_Wat_Wat) f64 sb_Wat_Wat) f78 sb_Wat_Wat) f90 sb_Wat_Wat) f103 sb_Wat_Wat) f116 sb_Wat_Wat) f129 sb_Wat_Wat) f142 sb_Wat_Wat) f155 sb_Wat_Wat) f167 sb_Wat_Wat) f179 sb_Wat_Wat) f191 sb_Wat_Wat) f203 sb_Wat_Wat) f215 sb_Wat_Wat) f227 sb_Wat_Wat), (by omega)⟩
                                        · intro h230
                                          replace p224 := p224 (by omega)
                                          refine wp_ic jF_226_218 rfl (pc2 := 219) ?_
                                          refine wp_go jF_226_219 ?_
                                          refine wp_is1 (lv2 := [(0, .ref 117), (1, iV 1)]) jF_226_223 rfl rfl rfl (pc2 := 224) ?_
                                          refine wp_il1 jF_226_224 rfl rfl (pc2 := 225) ?_
                                          refine wp_ri jF_226_225 rfl ?_
                                          have b232 := GI.b g226 117 2 kd117 (lo := 0) (hi := 1601) rfl
                                          exact ⟨1, rfl, ⟨by omega, by omega⟩, g226, (FR.up (FR.up (FR.up (FR.up (FR.up (FR.up (FR.up (FR.up (FR.up (FR.up (FR.up (FR.up (FR.up (FR.up (FR.up (FR.up (FR.up f8 f22 sb_Wat_Wat) f36 sb_Wat_Wat) f50 sb_Wat_Wat) f64 sb_Wat_Wat) f78 sb_Wat_Wat) f90 sb_Wat_Wat) f103 sb_Wat_Wat) f116 sb_Wat_Wat) f129 sb_Wat_Wat) f142 sb_Wat_Wat) f155 sb_Wat_Wat) f167 sb_Wat_Wat) f179 sb_Wat_Wat) f191 sb_Wat_Wat) f203 sb_Wat_Wat) f215 sb_Wat_Wat) f227 sb_Wat_Wat), (by omega)⟩
                          · intro h158
                            replace p152 := p152 (by omega)
                            refine wp_ic jF_226_142 rfl (pc2 := 143) ?_
                            refine wp_go jF_226_143 ?_
                            refine wp_is1 (lv2 := [(0, .ref 117), (1, iV 1)]) jF_226_147 rfl rfl rfl (pc2 := 148) ?_
                            refine wp_il1 jF_226_148 rfl rfl (pc2 := 149) ?_
                            refine wp_z_ne jF_226_149 (m_rgl rfl) rfl (pc2 := 152) ?_ ?_
                            · intro h233
                              refine wp_ic jF_226_218 rfl (pc2 := 219) ?_
                              refine wp_go jF_226_219 ?_
                              refine wp_is1 (lv2 := [(0, .ref 117), (1, iV 1)]) jF_226_223 rfl rfl rfl (pc2 := 224) ?_
                              refine wp_il1 jF_226_224 rfl rfl (pc2 := 225) ?_
                              refine wp_ri jF_226_225 rfl ?_
                              have b234 := GI.b g154 117 2 kd117 (lo := 0) (hi := 1601) rfl
                              exact ⟨1, rfl, ⟨by omega, by omega⟩, g154, (FR.up (FR.up (FR.up (FR.up (FR.up (FR.up (FR.up (FR.up (FR.up (FR.up (FR.up f8 f22 sb_Wat_Wat) f36 sb_Wat_Wat) f50 sb_Wat_Wat) f64 sb_Wat_Wat) f78 sb_Wat_Wat) f90 sb_Wat_Wat) f103 sb_Wat_Wat) f116 sb_Wat_Wat) f129 sb_Wat_Wat) f142 sb_Wat_Wat) f155 sb_Wat_Wat), (by omega)⟩
                            · intro h233; exfalso; omega
            · intro h81
              replace p75 := p75 (by omega)
              refine wp_ic jF_226_66 rfl (pc2 := 67) ?_
              refine wp_go jF_226_67 ?_
              refine wp_is1 (lv2 := [(0, .ref 117), (1, iV 1)]) jF_226_71 rfl rfl rfl (pc2 := 72) ?_
              refine wp_il1 jF_226_72 rfl rfl (pc2 := 73) ?_
              refine wp_z_ne jF_226_73 (m_rgl rfl) rfl (pc2 := 76) ?_ ?_
              · intro h235
                refine wp_ic jF_226_142 rfl (pc2 := 143) ?_
                refine wp_go jF_226_143 ?_
                refine wp_is1 (lv2 := [(0, .ref 117), (1, iV 1)]) jF_226_147 rfl rfl rfl (pc2 := 148) ?_
                refine wp_il1 jF_226_148 rfl rfl (pc2 := 149) ?_
                refine wp_z_ne jF_226_149 (m_rgl rfl) rfl (pc2 := 152) ?_ ?_
                · intro h236
                  refine wp_ic jF_226_218 rfl (pc2 := 219) ?_
                  refine wp_go jF_226_219 ?_
                  refine wp_is1 (lv2 := [(0, .ref 117), (1, iV 1)]) jF_226_223 rfl rfl rfl (pc2 := 224) ?_
                  refine wp_il1 jF_226_224 rfl rfl (pc2 := 225) ?_
                  refine wp_ri jF_226_225 rfl ?_
                  have b237 := GI.b g77 117 2 kd117 (lo := 0) (hi := 1601) rfl
                  exact ⟨1, rfl, ⟨by omega, by omega⟩, g77, (FR.up (FR.up (FR.up (FR.up (FR.up f8 f22 sb_Wat_Wat) f36 sb_Wat_Wat) f50 sb_Wat_Wat) f64 sb_Wat_Wat) f78 sb_Wat_Wat), (by omega)⟩
                · intro h236; exfalso; omega
              · intro h235; exfalso; omega
