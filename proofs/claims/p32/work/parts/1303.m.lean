set_option maxHeartbeats 4000000 in
set_option maxRecDepth 20000 in
/-- M.isOwnHere -/
theorem m_226 (σ : jM) (hg : GI σ)   (fr lo : Nat) (hfr : 2 ≤ fr) (hlo : 43 ≤ lo) : WP 226 0 (lv_args 0 [.ref 117]) [] fr lo σ (fun v τ => ∃ z : Int, v = some (iV z) ∧ (0 ≤ z ∧ z ≤ 1) ∧ GI τ ∧ FR Wat σ τ ∧ ((σ.1 117 2) ≤ (τ.1 117 2))) := by
  show WP 226 0 [(0, .ref 117)] [] _ _ _ _
  refine wp_al1 jF_226_0 rfl rfl (pc2 := 1) ?_
  refine wp_al1 jF_226_1 rfl rfl (pc2 := 2) ?_
  refine wp_gr (b := 120) jF_226_2 kd117 (by decide) (c := 220) rfl rfl rfl (pc2 := 5) ?_
  refine wp_cV (as := [.ref 120]) (rest := []) (a := 117) (mx := 4) (ci := 12) jF_226_5 kd117 (by decide) rfl rfl rfl rfl rfl (by omega) (by omega) rfl (pc2 := 8) ?_
  have b1 := GI.b hg 117 2 kd117 (lo := 0) (hi := 1601) rfl
  have b2 := GI.b hg 117 3 kd117 (lo := 0) (hi := 1600) rfl
  have b3 := GI.b hg 117 5 kd117 (lo := (-2147483648)) (hi := 2147483647) rfl
  refine wp_use (m_220 σ hg 120 3 cw120.1 cw120.2 (by decide)  _ _ (by omega) (by omega)) ?_
  rintro _ τ7 ⟨z10, rfl, h11, g8, f9, p4, p5, p6⟩
  show WP 226 8 [(0, .ref 117)] [iV z10] _ _ _ _
  refine wp_z_ne jF_226_8 (m_rgb h11 rfl) rfl (pc2 := 11) ?_ ?_
  · intro h12
    replace p5 := p5 (by omega)
    refine wp_ic jF_226_66 rfl (pc2 := 67) ?_
    refine wp_go jF_226_67 ?_
    refine wp_is1 (lv2 := [(0, .ref 117), (1, iV 1)]) jF_226_71 rfl rfl rfl (pc2 := 72) ?_
    refine wp_il1 jF_226_72 rfl rfl (pc2 := 73) ?_
    refine wp_z_ne jF_226_73 (m_rgl rfl) rfl (pc2 := 76) ?_ ?_
    · intro h13
      refine wp_ic jF_226_142 rfl (pc2 := 143) ?_
      refine wp_go jF_226_143 ?_
      refine wp_is1 (lv2 := [(0, .ref 117), (1, iV 1)]) jF_226_147 rfl rfl rfl (pc2 := 148) ?_
      refine wp_il1 jF_226_148 rfl rfl (pc2 := 149) ?_
      refine wp_z_ne jF_226_149 (m_rgl rfl) rfl (pc2 := 152) ?_ ?_
      · intro h14
        refine wp_ic jF_226_218 rfl (pc2 := 219) ?_
        refine wp_go jF_226_219 ?_
        refine wp_is1 (lv2 := [(0, .ref 117), (1, iV 1)]) jF_226_223 rfl rfl rfl (pc2 := 224) ?_
        refine wp_il1 jF_226_224 rfl rfl (pc2 := 225) ?_
        refine wp_ri jF_226_225 rfl ?_
        have b15 := GI.b g8 117 2 kd117 (lo := 0) (hi := 1601) rfl
        exact ⟨1, rfl, ⟨by omega, by omega⟩, g8, f9, (by omega)⟩
      · intro h14; exfalso; omega
    · intro h13; exfalso; omega
  · intro h12
    clear p5
    refine wp_al1 jF_226_11 rfl rfl (pc2 := 12) ?_
    refine wp_al1 jF_226_12 rfl rfl (pc2 := 13) ?_
    refine wp_gr (b := 121) jF_226_13 kd117 (by decide) (c := 221) rfl rfl rfl (pc2 := 16) ?_
    refine wp_cV (as := [.ref 121]) (rest := []) (a := 117) (mx := 4) (ci := 12) jF_226_16 kd117 (by decide) rfl rfl rfl rfl rfl (by omega) (by omega) rfl (pc2 := 19) ?_
    have b16 := GI.b g8 117 2 kd117 (lo := 0) (hi := 1601) rfl
    have q17 : (τ7.1 117 3) = (σ.1 117 3) := (FR.at f9 117 3 rfl)
    have q18 : (τ7.1 117 5) = (σ.1 117 5) := (FR.at f9 117 5 rfl)
    refine wp_use (m_220 τ7 g8 121 4 cw121.1 cw121.2 (by decide)  _ _ (by omega) (by omega)) ?_
    rintro _ τ22 ⟨z25, rfl, h26, g23, f24, p19, p20, p21⟩
    show WP 226 19 [(0, .ref 117)] [iV z25] _ _ _ _
    refine wp_z_ne jF_226_19 (m_rgb h26 rfl) rfl (pc2 := 22) ?_ ?_
    · intro h27
      replace p20 := p20 (by omega)
      refine wp_ic jF_226_66 rfl (pc2 := 67) ?_
      refine wp_go jF_226_67 ?_
      refine wp_is1 (lv2 := [(0, .ref 117), (1, iV 1)]) jF_226_71 rfl rfl rfl (pc2 := 72) ?_
      refine wp_il1 jF_226_72 rfl rfl (pc2 := 73) ?_
      refine wp_z_ne jF_226_73 (m_rgl rfl) rfl (pc2 := 76) ?_ ?_
      · intro h28
        refine wp_ic jF_226_142 rfl (pc2 := 143) ?_
        refine wp_go jF_226_143 ?_
        refine wp_is1 (lv2 := [(0, .ref 117), (1, iV 1)]) jF_226_147 rfl rfl rfl (pc2 := 148) ?_
        refine wp_il1 jF_226_148 rfl rfl (pc2 := 149) ?_
        refine wp_z_ne jF_226_149 (m_rgl rfl) rfl (pc2 := 152) ?_ ?_
        · intro h29
          refine wp_ic jF_226_218 rfl (pc2 := 219) ?_
          refine wp_go jF_226_219 ?_
          refine wp_is1 (lv2 := [(0, .ref 117), (1, iV 1)]) jF_226_223 rfl rfl rfl (pc2 := 224) ?_
          refine wp_il1 jF_226_224 rfl rfl (pc2 := 225) ?_
          refine wp_ri jF_226_225 rfl ?_
          have b30 := GI.b g23 117 2 kd117 (lo := 0) (hi := 1601) rfl
          exact ⟨1, rfl, ⟨by omega, by omega⟩, g23, (FR.up f9 f24 sb_Wat_Wat), (by omega)⟩
        · intro h29; exfalso; omega
      · intro h28; exfalso; omega
    · intro h27
      clear p20
      refine wp_al1 jF_226_22 rfl rfl (pc2 := 23) ?_
      refine wp_al1 jF_226_23 rfl rfl (pc2 := 24) ?_
      refine wp_gr (b := 122) jF_226_24 kd117 (by decide) (c := 222) rfl rfl rfl (pc2 := 27) ?_
      refine wp_cV (as := [.ref 122]) (rest := []) (a := 117) (mx := 4) (ci := 12) jF_226_27 kd117 (by decide) rfl rfl rfl rfl rfl (by omega) (by omega) rfl (pc2 := 30) ?_
      have b31 := GI.b g23 117 2 kd117 (lo := 0) (hi := 1601) rfl
      have q32 : (τ22.1 117 3) = (σ.1 117 3) := ((FR.at f24 117 3 rfl).trans (FR.at f9 117 3 rfl))
      have q33 : (τ22.1 117 5) = (σ.1 117 5) := ((FR.at f24 117 5 rfl).trans (FR.at f9 117 5 rfl))
      refine wp_use (m_220 τ22 g23 122 4 cw122.1 cw122.2 (by decide)  _ _ (by omega) (by omega)) ?_
      rintro _ τ37 ⟨z40, rfl, h41, g38, f39, p34, p35, p36⟩
      show WP 226 30 [(0, .ref 117)] [iV z40] _ _ _ _
      refine wp_z_ne jF_226_30 (m_rgb h41 rfl) rfl (pc2 := 33) ?_ ?_
      · intro h42
        replace p35 := p35 (by omega)
        refine wp_ic jF_226_66 rfl (pc2 := 67) ?_
        refine wp_go jF_226_67 ?_
        refine wp_is1 (lv2 := [(0, .ref 117), (1, iV 1)]) jF_226_71 rfl rfl rfl (pc2 := 72) ?_
        refine wp_il1 jF_226_72 rfl rfl (pc2 := 73) ?_
        refine wp_z_ne jF_226_73 (m_rgl rfl) rfl (pc2 := 76) ?_ ?_
        · intro h43
          refine wp_ic jF_226_142 rfl (pc2 := 143) ?_
          refine wp_go jF_226_143 ?_
          refine wp_is1 (lv2 := [(0, .ref 117), (1, iV 1)]) jF_226_147 rfl rfl rfl (pc2 := 148) ?_
          refine wp_il1 jF_226_148 rfl rfl (pc2 := 149) ?_
          refine wp_z_ne jF_226_149 (m_rgl rfl) rfl (pc2 := 152) ?_ ?_
          · intro h44
            refine wp_ic jF_226_218 rfl (pc2 := 219) ?_
            refine wp_go jF_226_219 ?_
            refine wp_is1 (lv2 := [(0, .ref 117), (1, iV 1)]) jF_226_223 rfl rfl rfl (pc2 := 224) ?_
            refine wp_il1 jF_226_224 rfl rfl (pc2 := 225) ?_
            refine wp_ri jF_226_225 rfl ?_
            have b45 := GI.b g38 117 2 kd117 (lo := 0) (hi := 1601) rfl
            exact ⟨1, rfl, ⟨by omega, by omega⟩, g38, (FR.up (FR.up f9 f24 sb_Wat_Wat) f39 sb_Wat_Wat), (by omega)⟩
          · intro h44; exfalso; omega
        · intro h43; exfalso; omega
      · intro h42
        clear p35
        refine wp_al1 jF_226_33 rfl rfl (pc2 := 34) ?_
        refine wp_al1 jF_226_34 rfl rfl (pc2 := 35) ?_
        refine wp_gr (b := 123) jF_226_35 kd117 (by decide) (c := 223) rfl rfl rfl (pc2 := 38) ?_
        refine wp_cV (as := [.ref 123]) (rest := []) (a := 117) (mx := 4) (ci := 12) jF_226_38 kd117 (by decide) rfl rfl rfl rfl rfl (by omega) (by omega) rfl (pc2 := 41) ?_
        have b46 := GI.b g38 117 2 kd117 (lo := 0) (hi := 1601) rfl
        have q47 : (τ37.1 117 3) = (σ.1 117 3) := ((FR.at f39 117 3 rfl).trans ((FR.at f24 117 3 rfl).trans (FR.at f9 117 3 rfl)))
        have q48 : (τ37.1 117 5) = (σ.1 117 5) := ((FR.at f39 117 5 rfl).trans ((FR.at f24 117 5 rfl).trans (FR.at f9 117 5 rfl)))
        refine wp_use (m_220 τ37 g38 123 4 cw123.1 cw123.2 (by decide)  _ _ (by omega) (by omega)) ?_
        rintro _ τ52 ⟨z55, rfl, h56, g53, f54, p49, p50, p51⟩
        show WP 226 41 [(0, .ref 117)] [iV z55] _ _ _ _
        refine wp_z_ne jF_226_41 (m_rgb h56 rfl) rfl (pc2 := 44) ?_ ?_
        · intro h57
          replace p50 := p50 (by omega)
          refine wp_ic jF_226_66 rfl (pc2 := 67) ?_
          refine wp_go jF_226_67 ?_
          refine wp_is1 (lv2 := [(0, .ref 117), (1, iV 1)]) jF_226_71 rfl rfl rfl (pc2 := 72) ?_
          refine wp_il1 jF_226_72 rfl rfl (pc2 := 73) ?_
          refine wp_z_ne jF_226_73 (m_rgl rfl) rfl (pc2 := 76) ?_ ?_
          · intro h58
            refine wp_ic jF_226_142 rfl (pc2 := 143) ?_
            refine wp_go jF_226_143 ?_
            refine wp_is1 (lv2 := [(0, .ref 117), (1, iV 1)]) jF_226_147 rfl rfl rfl (pc2 := 148) ?_
            refine wp_il1 jF_226_148 rfl rfl (pc2 := 149) ?_
            refine wp_z_ne jF_226_149 (m_rgl rfl) rfl (pc2 := 152) ?_ ?_
            · intro h59
              refine wp_ic jF_226_218 rfl (pc2 := 219) ?_
              refine wp_go jF_226_219 ?_
              refine wp_is1 (lv2 := [(0, .ref 117), (1, iV 1)]) jF_226_223 rfl rfl rfl (pc2 := 224) ?_
              refine wp_il1 jF_226_224 rfl rfl (pc2 := 225) ?_
              refine wp_ri jF_226_225 rfl ?_
              have b60 := GI.b g53 117 2 kd117 (lo := 0) (hi := 1601) rfl
              exact ⟨1, rfl, ⟨by omega, by omega⟩, g53, (FR.up (FR.up (FR.up f9 f24 sb_Wat_Wat) f39 sb_Wat_Wat) f54 sb_Wat_Wat), (by omega)⟩
            · intro h59; exfalso; omega
          · intro h58; exfalso; omega
        · intro h57
          clear p50
          refine wp_al1 jF_226_44 rfl rfl (pc2 := 45) ?_
          refine wp_al1 jF_226_45 rfl rfl (pc2 := 46) ?_
          refine wp_gr (b := 124) jF_226_46 kd117 (by decide) (c := 224) rfl rfl rfl (pc2 := 49) ?_
          refine wp_cV (as := [.ref 124]) (rest := []) (a := 117) (mx := 4) (ci := 12) jF_226_49 kd117 (by decide) rfl rfl rfl rfl rfl (by omega) (by omega) rfl (pc2 := 52) ?_
          have b61 := GI.b g53 117 2 kd117 (lo := 0) (hi := 1601) rfl
          have q62 : (τ52.1 117 3) = (σ.1 117 3) := ((FR.at f54 117 3 rfl).trans ((FR.at f39 117 3 rfl).trans ((FR.at f24 117 3 rfl).trans (FR.at f9 117 3 rfl))))
          have q63 : (τ52.1 117 5) = (σ.1 117 5) := ((FR.at f54 117 5 rfl).trans ((FR.at f39 117 5 rfl).trans ((FR.at f24 117 5 rfl).trans (FR.at f9 117 5 rfl))))
          refine wp_use (m_220 τ52 g53 124 5 cw124.1 cw124.2 (by decide)  _ _ (by omega) (by omega)) ?_
          rintro _ τ67 ⟨z70, rfl, h71, g68, f69, p64, p65, p66⟩
          show WP 226 52 [(0, .ref 117)] [iV z70] _ _ _ _
          refine wp_z_ne jF_226_52 (m_rgb h71 rfl) rfl (pc2 := 55) ?_ ?_
          · intro h72
            replace p65 := p65 (by omega)
            refine wp_ic jF_226_66 rfl (pc2 := 67) ?_
            refine wp_go jF_226_67 ?_
            refine wp_is1 (lv2 := [(0, .ref 117), (1, iV 1)]) jF_226_71 rfl rfl rfl (pc2 := 72) ?_
            refine wp_il1 jF_226_72 rfl rfl (pc2 := 73) ?_
            refine wp_z_ne jF_226_73 (m_rgl rfl) rfl (pc2 := 76) ?_ ?_
            · intro h73
              refine wp_ic jF_226_142 rfl (pc2 := 143) ?_
              refine wp_go jF_226_143 ?_
              refine wp_is1 (lv2 := [(0, .ref 117), (1, iV 1)]) jF_226_147 rfl rfl rfl (pc2 := 148) ?_
              refine wp_il1 jF_226_148 rfl rfl (pc2 := 149) ?_
              refine wp_z_ne jF_226_149 (m_rgl rfl) rfl (pc2 := 152) ?_ ?_
              · intro h74
                refine wp_ic jF_226_218 rfl (pc2 := 219) ?_
                refine wp_go jF_226_219 ?_
                refine wp_is1 (lv2 := [(0, .ref 117), (1, iV 1)]) jF_226_223 rfl rfl rfl (pc2 := 224) ?_
                refine wp_il1 jF_226_224 rfl rfl (pc2 := 225) ?_
                refine wp_ri jF_226_225 rfl ?_
                have b75 := GI.b g68 117 2 kd117 (lo := 0) (hi := 1601) rfl
                exact ⟨1, rfl, ⟨by omega, by omega⟩, g68, (FR.up (FR.up (FR.up (FR.up f9 f24 sb_Wat_Wat) f39 sb_Wat_Wat) f54 sb_Wat_Wat) f69 sb_Wat_Wat), (by omega)⟩
              · intro h74; exfalso; omega
            · intro h73; exfalso; omega
          · intro h72
            clear p65
            refine wp_al1 jF_226_55 rfl rfl (pc2 := 56) ?_
            refine wp_al1 jF_226_56 rfl rfl (pc2 := 57) ?_
            refine wp_gr (b := 125) jF_226_57 kd117 (by decide) (c := 225) rfl rfl rfl (pc2 := 60) ?_
            refine wp_cV (as := [.ref 125]) (rest := []) (a := 117) (mx := 4) (ci := 12) jF_226_60 kd117 (by decide) rfl rfl rfl rfl rfl (by omega) (by omega) rfl (pc2 := 63) ?_
            have b76 := GI.b g68 117 2 kd117 (lo := 0) (hi := 1601) rfl
            have q77 : (τ67.1 117 3) = (σ.1 117 3) := ((FR.at f69 117 3 rfl).trans ((FR.at f54 117 3 rfl).trans ((FR.at f39 117 3 rfl).trans ((FR.at f24 117 3 rfl).trans (FR.at f9 117 3 rfl)))))
            have q78 : (τ67.1 117 5) = (σ.1 117 5) := ((FR.at f69 117 5 rfl).trans ((FR.at f54 117 5 rfl).trans ((FR.at f39 117 5 rfl).trans ((FR.at f24 117 5 rfl).trans (FR.at f9 117 5 rfl)))))
            refine wp_use (m_220 τ67 g68 125 5 cw125.1 cw125.2 (by decide)  _ _ (by omega) (by omega)) ?_
            rintro _ τ82 ⟨z85, rfl, h86, g83, f84, p79, p80, p81⟩
            show WP 226 63 [(0, .ref 117)] [iV z85] _ _ _ _
            refine wp_z_eq jF_226_63 (m_rgb h86 rfl) rfl (pc2 := 66) ?_ ?_
            · intro h87
              clear p80
              refine wp_ic jF_226_70 rfl (pc2 := 71) ?_
              refine wp_is1 (lv2 := [(0, .ref 117), (1, iV 0)]) jF_226_71 rfl rfl rfl (pc2 := 72) ?_
              refine wp_il1 jF_226_72 rfl rfl (pc2 := 73) ?_
              refine wp_z_ne jF_226_73 (m_rgl rfl) rfl (pc2 := 76) ?_ ?_
              · intro h88; exfalso; omega
              · intro h88
                refine wp_al1 jF_226_76 rfl rfl (pc2 := 77) ?_
                refine wp_al1 jF_226_77 rfl rfl (pc2 := 78) ?_
                refine wp_gr (b := 126) jF_226_78 kd117 (by decide) (c := 226) rfl rfl rfl (pc2 := 81) ?_
                refine wp_cV (as := [.ref 126]) (rest := []) (a := 117) (mx := 4) (ci := 12) jF_226_81 kd117 (by decide) rfl rfl rfl rfl rfl (by omega) (by omega) rfl (pc2 := 84) ?_
                have b89 := GI.b g83 117 2 kd117 (lo := 0) (hi := 1601) rfl
                have q90 : (τ82.1 117 3) = (σ.1 117 3) := ((FR.at f84 117 3 rfl).trans ((FR.at f69 117 3 rfl).trans ((FR.at f54 117 3 rfl).trans ((FR.at f39 117 3 rfl).trans ((FR.at f24 117 3 rfl).trans (FR.at f9 117 3 rfl))))))
                have q91 : (τ82.1 117 5) = (σ.1 117 5) := ((FR.at f84 117 5 rfl).trans ((FR.at f69 117 5 rfl).trans ((FR.at f54 117 5 rfl).trans ((FR.at f39 117 5 rfl).trans ((FR.at f24 117 5 rfl).trans (FR.at f9 117 5 rfl))))))
                refine wp_use (m_220 τ82 g83 126 5 cw126.1 cw126.2 (by decide)  _ _ (by omega) (by omega)) ?_
                rintro _ τ95 ⟨z98, rfl, h99, g96, f97, p92, p93, p94⟩
                show WP 226 84 [(0, .ref 117), (1, iV 0)] [iV z98] _ _ _ _
                refine wp_z_ne jF_226_84 (m_rgb h99 rfl) rfl (pc2 := 87) ?_ ?_
                · intro h100
                  replace p93 := p93 (by omega)
                  refine wp_ic jF_226_142 rfl (pc2 := 143) ?_
                  refine wp_go jF_226_143 ?_
                  refine wp_is1 (lv2 := [(0, .ref 117), (1, iV 1)]) jF_226_147 rfl rfl rfl (pc2 := 148) ?_
                  refine wp_il1 jF_226_148 rfl rfl (pc2 := 149) ?_
                  refine wp_z_ne jF_226_149 (m_rgl rfl) rfl (pc2 := 152) ?_ ?_
                  · intro h101
                    refine wp_ic jF_226_218 rfl (pc2 := 219) ?_
                    refine wp_go jF_226_219 ?_
                    refine wp_is1 (lv2 := [(0, .ref 117), (1, iV 1)]) jF_226_223 rfl rfl rfl (pc2 := 224) ?_
                    refine wp_il1 jF_226_224 rfl rfl (pc2 := 225) ?_
                    refine wp_ri jF_226_225 rfl ?_
                    have b102 := GI.b g96 117 2 kd117 (lo := 0) (hi := 1601) rfl
                    exact ⟨1, rfl, ⟨by omega, by omega⟩, g96, (FR.up (FR.up (FR.up (FR.up (FR.up (FR.up f9 f24 sb_Wat_Wat) f39 sb_Wat_Wat) f54 sb_Wat_Wat) f69 sb_Wat_Wat) f84 sb_Wat_Wat) f97 sb_Wat_Wat), (by omega)⟩
                  · intro h101; exfalso; omega
                · intro h100
                  clear p93
                  refine wp_al1 jF_226_87 rfl rfl (pc2 := 88) ?_
                  refine wp_al1 jF_226_88 rfl rfl (pc2 := 89) ?_
                  refine wp_gr (b := 127) jF_226_89 kd117 (by decide) (c := 227) rfl rfl rfl (pc2 := 92) ?_
                  refine wp_cV (as := [.ref 127]) (rest := []) (a := 117) (mx := 4) (ci := 12) jF_226_92 kd117 (by decide) rfl rfl rfl rfl rfl (by omega) (by omega) rfl (pc2 := 95) ?_
                  have b103 := GI.b g96 117 2 kd117 (lo := 0) (hi := 1601) rfl
                  have q104 : (τ95.1 117 3) = (σ.1 117 3) := ((FR.at f97 117 3 rfl).trans ((FR.at f84 117 3 rfl).trans ((FR.at f69 117 3 rfl).trans ((FR.at f54 117 3 rfl).trans ((FR.at f39 117 3 rfl).trans ((FR.at f24 117 3 rfl).trans (FR.at f9 117 3 rfl)))))))
                  have q105 : (τ95.1 117 5) = (σ.1 117 5) := ((FR.at f97 117 5 rfl).trans ((FR.at f84 117 5 rfl).trans ((FR.at f69 117 5 rfl).trans ((FR.at f54 117 5 rfl).trans ((FR.at f39 117 5 rfl).trans ((FR.at f24 117 5 rfl).trans (FR.at f9 117 5 rfl)))))))
                  refine wp_use (m_220 τ95 g96 127 4 cw127.1 cw127.2 (by decide)  _ _ (by omega) (by omega)) ?_
                  rintro _ τ109 ⟨z112, rfl, h113, g110, f111, p106, p107, p108⟩
                  show WP 226 95 [(0, .ref 117), (1, iV 0)] [iV z112] _ _ _ _
                  refine wp_z_ne jF_226_95 (m_rgb h113 rfl) rfl (pc2 := 98) ?_ ?_
                  · intro h114
                    replace p107 := p107 (by omega)
                    refine wp_ic jF_226_142 rfl (pc2 := 143) ?_
                    refine wp_go jF_226_143 ?_
                    refine wp_is1 (lv2 := [(0, .ref 117), (1, iV 1)]) jF_226_147 rfl rfl rfl (pc2 := 148) ?_
                    refine wp_il1 jF_226_148 rfl rfl (pc2 := 149) ?_
                    refine wp_z_ne jF_226_149 (m_rgl rfl) rfl (pc2 := 152) ?_ ?_
                    · intro h115
                      refine wp_ic jF_226_218 rfl (pc2 := 219) ?_
                      refine wp_go jF_226_219 ?_
                      refine wp_is1 (lv2 := [(0, .ref 117), (1, iV 1)]) jF_226_223 rfl rfl rfl (pc2 := 224) ?_
                      refine wp_il1 jF_226_224 rfl rfl (pc2 := 225) ?_
                      refine wp_ri jF_226_225 rfl ?_
                      have b116 := GI.b g110 117 2 kd117 (lo := 0) (hi := 1601) rfl
                      exact ⟨1, rfl, ⟨by omega, by omega⟩, g110, (FR.up (FR.up (FR.up (FR.up (FR.up (FR.up (FR.up f9 f24 sb_Wat_Wat) f39 sb_Wat_Wat) f54 sb_Wat_Wat) f69 sb_Wat_Wat) f84 sb_Wat_Wat) f97 sb_Wat_Wat) f111 sb_Wat_Wat), (by omega)⟩
                    · intro h115; exfalso; omega
                  · intro h114
                    clear p107
                    refine wp_al1 jF_226_98 rfl rfl (pc2 := 99) ?_
                    refine wp_al1 jF_226_99 rfl rfl (pc2 := 100) ?_
                    refine wp_gr (b := 128) jF_226_100 kd117 (by decide) (c := 228) rfl rfl rfl (pc2 := 103) ?_
                    refine wp_cV (as := [.ref 128]) (rest := []) (a := 117) (mx := 4) (ci := 12) jF_226_103 kd117 (by decide) rfl rfl rfl rfl rfl (by omega) (by omega) rfl (pc2 := 106) ?_
                    have b117 := GI.b g110 117 2 kd117 (lo := 0) (hi := 1601) rfl
                    have q118 : (τ109.1 117 3) = (σ.1 117 3) := ((FR.at f111 117 3 rfl).trans ((FR.at f97 117 3 rfl).trans ((FR.at f84 117 3 rfl).trans ((FR.at f69 117 3 rfl).trans ((FR.at f54 117 3 rfl).trans ((FR.at f39 117 3 rfl).trans ((FR.at f24 117 3 rfl).trans (FR.at f9 117 3 rfl))))))))
                    have q119 : (τ109.1 117 5) = (σ.1 117 5) := ((FR.at f111 117 5 rfl).trans ((FR.at f97 117 5 rfl).trans ((FR.at f84 117 5 rfl).trans ((FR.at f69 117 5 rfl).trans ((FR.at f54 117 5 rfl).trans ((FR.at f39 117 5 rfl).trans ((FR.at f24 117 5 rfl).trans (FR.at f9 117 5 rfl))))))))
                    refine wp_use (m_220 τ109 g110 128 5 cw128.1 cw128.2 (by decide)  _ _ (by omega) (by omega)) ?_
                    rintro _ τ123 ⟨z126, rfl, h127, g124, f125, p120, p121, p122⟩
                    show WP 226 106 [(0, .ref 117), (1, iV 0)] [iV z126] _ _ _ _
                    refine wp_z_ne jF_226_106 (m_rgb h127 rfl) rfl (pc2 := 109) ?_ ?_
                    · intro h128
                      replace p121 := p121 (by omega)
                      refine wp_ic jF_226_142 rfl (pc2 := 143) ?_
                      refine wp_go jF_226_143 ?_
                      refine wp_is1 (lv2 := [(0, .ref 117), (1, iV 1)]) jF_226_147 rfl rfl rfl (pc2 := 148) ?_
                      refine wp_il1 jF_226_148 rfl rfl (pc2 := 149) ?_
                      refine wp_z_ne jF_226_149 (m_rgl rfl) rfl (pc2 := 152) ?_ ?_
                      · intro h129
                        refine wp_ic jF_226_218 rfl (pc2 := 219) ?_
                        refine wp_go jF_226_219 ?_
                        refine wp_is1 (lv2 := [(0, .ref 117), (1, iV 1)]) jF_226_223 rfl rfl rfl (pc2 := 224) ?_
                        refine wp_il1 jF_226_224 rfl rfl (pc2 := 225) ?_
                        refine wp_ri jF_226_225 rfl ?_
                        have b130 := GI.b g124 117 2 kd117 (lo := 0) (hi := 1601) rfl
                        exact ⟨1, rfl, ⟨by omega, by omega⟩, g124, (FR.up (FR.up (FR.up (FR.up (FR.up (FR.up (FR.up (FR.up f9 f24 sb_Wat_Wat) f39 sb_Wat_Wat) f54 sb_Wat_Wat) f69 sb_Wat_Wat) f84 sb_Wat_Wat) f97 sb_Wat_Wat) f111 sb_Wat_Wat) f125 sb_Wat_Wat), (by omega)⟩
                      · intro h129; exfalso; omega
                    · intro h128
                      clear p121
                      refine wp_al1 jF_226_109 rfl rfl (pc2 := 110) ?_
                      refine wp_al1 jF_226_110 rfl rfl (pc2 := 111) ?_
                      refine wp_gr (b := 129) jF_226_111 kd117 (by decide) (c := 229) rfl rfl rfl (pc2 := 114) ?_
                      refine wp_cV (as := [.ref 129]) (rest := []) (a := 117) (mx := 4) (ci := 12) jF_226_114 kd117 (by decide) rfl rfl rfl rfl rfl (by omega) (by omega) rfl (pc2 := 117) ?_
                      have b131 := GI.b g124 117 2 kd117 (lo := 0) (hi := 1601) rfl
                      have q132 : (τ123.1 117 3) = (σ.1 117 3) := ((FR.at f125 117 3 rfl).trans ((FR.at f111 117 3 rfl).trans ((FR.at f97 117 3 rfl).trans ((FR.at f84 117 3 rfl).trans ((FR.at f69 117 3 rfl).trans ((FR.at f54 117 3 rfl).trans ((FR.at f39 117 3 rfl).trans ((FR.at f24 117 3 rfl).trans (FR.at f9 117 3 rfl)))))))))
                      have q133 : (τ123.1 117 5) = (σ.1 117 5) := ((FR.at f125 117 5 rfl).trans ((FR.at f111 117 5 rfl).trans ((FR.at f97 117 5 rfl).trans ((FR.at f84 117 5 rfl).trans ((FR.at f69 117 5 rfl).trans ((FR.at f54 117 5 rfl).trans ((FR.at f39 117 5 rfl).trans ((FR.at f24 117 5 rfl).trans (FR.at f9 117 5 rfl)))))))))
                      refine wp_use (m_220 τ123 g124 129 6 cw129.1 cw129.2 (by decide)  _ _ (by omega) (by omega)) ?_
                      rintro _ τ137 ⟨z140, rfl, h141, g138, f139, p134, p135, p136⟩
                      show WP 226 117 [(0, .ref 117), (1, iV 0)] [iV z140] _ _ _ _
                      refine wp_z_ne jF_226_117 (m_rgb h141 rfl) rfl (pc2 := 120) ?_ ?_
                      · intro h142
                        replace p135 := p135 (by omega)
                        refine wp_ic jF_226_142 rfl (pc2 := 143) ?_
                        refine wp_go jF_226_143 ?_
                        refine wp_is1 (lv2 := [(0, .ref 117), (1, iV 1)]) jF_226_147 rfl rfl rfl (pc2 := 148) ?_
                        refine wp_il1 jF_226_148 rfl rfl (pc2 := 149) ?_
                        refine wp_z_ne jF_226_149 (m_rgl rfl) rfl (pc2 := 152) ?_ ?_
                        · intro h143
                          refine wp_ic jF_226_218 rfl (pc2 := 219) ?_
                          refine wp_go jF_226_219 ?_
                          refine wp_is1 (lv2 := [(0, .ref 117), (1, iV 1)]) jF_226_223 rfl rfl rfl (pc2 := 224) ?_
                          refine wp_il1 jF_226_224 rfl rfl (pc2 := 225) ?_
                          refine wp_ri jF_226_225 rfl ?_
                          have b144 := GI.b g138 117 2 kd117 (lo := 0) (hi := 1601) rfl
                          exact ⟨1, rfl, ⟨by omega, by omega⟩, g138, (FR.up (FR.up (FR.up (FR.up (FR.up (FR.up (FR.up (FR.up (FR.up f9 f24 sb_Wat_Wat) f39 sb_Wat_Wat) f54 sb_Wat_Wat) f69 sb_Wat_Wat) f84 sb_Wat_Wat) f97 sb_Wat_Wat) f111 sb_Wat_Wat) f125 sb_Wat_Wat) f139 sb_Wat_Wat), (by omega)⟩
                        · intro h143; exfalso; omega
                      · intro h142
                        clear p135
                        refine wp_al1 jF_226_120 rfl rfl (pc2 := 121) ?_
                        refine wp_al1 jF_226_121 rfl rfl (pc2 := 122) ?_
                        refine wp_gr (b := 130) jF_226_122 kd117 (by decide) (c := 230) rfl rfl rfl (pc2 := 125) ?_
                        refine wp_cV (as := [.ref 130]) (rest := []) (a := 117) (mx := 4) (ci := 12) jF_226_125 kd117 (by decide) rfl rfl rfl rfl rfl (by omega) (by omega) rfl (pc2 := 128) ?_
                        have b145 := GI.b g138 117 2 kd117 (lo := 0) (hi := 1601) rfl
                        have q146 : (τ137.1 117 3) = (σ.1 117 3) := ((FR.at f139 117 3 rfl).trans ((FR.at f125 117 3 rfl).trans ((FR.at f111 117 3 rfl).trans ((FR.at f97 117 3 rfl).trans ((FR.at f84 117 3 rfl).trans ((FR.at f69 117 3 rfl).trans ((FR.at f54 117 3 rfl).trans ((FR.at f39 117 3 rfl).trans ((FR.at f24 117 3 rfl).trans (FR.at f9 117 3 rfl))))))))))
                        have q147 : (τ137.1 117 5) = (σ.1 117 5) := ((FR.at f139 117 5 rfl).trans ((FR.at f125 117 5 rfl).trans ((FR.at f111 117 5 rfl).trans ((FR.at f97 117 5 rfl).trans ((FR.at f84 117 5 rfl).trans ((FR.at f69 117 5 rfl).trans ((FR.at f54 117 5 rfl).trans ((FR.at f39 117 5 rfl).trans ((FR.at f24 117 5 rfl).trans (FR.at f9 117 5 rfl))))))))))
                        refine wp_use (m_220 τ137 g138 130 6 cw130.1 cw130.2 (by decide)  _ _ (by omega) (by omega)) ?_
                        rintro _ τ151 ⟨z154, rfl, h155, g152, f153, p148, p149, p150⟩
                        show WP 226 128 [(0, .ref 117), (1, iV 0)] [iV z154] _ _ _ _
                        refine wp_z_ne jF_226_128 (m_rgb h155 rfl) rfl (pc2 := 131) ?_ ?_
                        · intro h156
                          replace p149 := p149 (by omega)
                          refine wp_ic jF_226_142 rfl (pc2 := 143) ?_
                          refine wp_go jF_226_143 ?_
                          refine wp_is1 (lv2 := [(0, .ref 117), (1, iV 1)]) jF_226_147 rfl rfl rfl (pc2 := 148) ?_
                          refine wp_il1 jF_226_148 rfl rfl (pc2 := 149) ?_
                          refine wp_z_ne jF_226_149 (m_rgl rfl) rfl (pc2 := 152) ?_ ?_
                          · intro h157
                            refine wp_ic jF_226_218 rfl (pc2 := 219) ?_
                            refine wp_go jF_226_219 ?_
                            refine wp_is1 (lv2 := [(0, .ref 117), (1, iV 1)]) jF_226_223 rfl rfl rfl (pc2 := 224) ?_
                            refine wp_il1 jF_226_224 rfl rfl (pc2 := 225) ?_
                            refine wp_ri jF_226_225 rfl ?_
                            have b158 := GI.b g152 117 2 kd117 (lo := 0) (hi := 1601) rfl
                            exact ⟨1, rfl, ⟨by omega, by omega⟩, g152, (FR.up (FR.up (FR.up (FR.up (FR.up (FR.up (FR.up (FR.up (FR.up (FR.up f9 f24 sb_Wat_Wat) f39 sb_Wat_Wat) f54 sb_Wat_Wat) f69 sb_Wat_Wat) f84 sb_Wat_Wat) f97 sb_Wat_Wat) f111 sb_Wat_Wat) f125 sb_Wat_Wat) f139 sb_Wat_Wat) f153 sb_Wat_Wat), (by omega)⟩
                          · intro h157; exfalso; omega
                        · intro h156
                          clear p149
                          refine wp_al1 jF_226_131 rfl rfl (pc2 := 132) ?_
                          refine wp_al1 jF_226_132 rfl rfl (pc2 := 133) ?_
                          refine wp_gr (b := 131) jF_226_133 kd117 (by decide) (c := 231) rfl rfl rfl (pc2 := 136) ?_
                          refine wp_cV (as := [.ref 131]) (rest := []) (a := 117) (mx := 4) (ci := 12) jF_226_136 kd117 (by decide) rfl rfl rfl rfl rfl (by omega) (by omega) rfl (pc2 := 139) ?_
                          have b159 := GI.b g152 117 2 kd117 (lo := 0) (hi := 1601) rfl
                          have q160 : (τ151.1 117 3) = (σ.1 117 3) := ((FR.at f153 117 3 rfl).trans ((FR.at f139 117 3 rfl).trans ((FR.at f125 117 3 rfl).trans ((FR.at f111 117 3 rfl).trans ((FR.at f97 117 3 rfl).trans ((FR.at f84 117 3 rfl).trans ((FR.at f69 117 3 rfl).trans ((FR.at f54 117 3 rfl).trans ((FR.at f39 117 3 rfl).trans ((FR.at f24 117 3 rfl).trans (FR.at f9 117 3 rfl)))))))))))
                          have q161 : (τ151.1 117 5) = (σ.1 117 5) := ((FR.at f153 117 5 rfl).trans ((FR.at f139 117 5 rfl).trans ((FR.at f125 117 5 rfl).trans ((FR.at f111 117 5 rfl).trans ((FR.at f97 117 5 rfl).trans ((FR.at f84 117 5 rfl).trans ((FR.at f69 117 5 rfl).trans ((FR.at f54 117 5 rfl).trans ((FR.at f39 117 5 rfl).trans ((FR.at f24 117 5 rfl).trans (FR.at f9 117 5 rfl)))))))))))
                          refine wp_use (m_220 τ151 g152 131 4 cw131.1 cw131.2 (by decide)  _ _ (by omega) (by omega)) ?_
                          rintro _ τ165 ⟨z168, rfl, h169, g166, f167, p162, p163, p164⟩
                          show WP 226 139 [(0, .ref 117), (1, iV 0)] [iV z168] _ _ _ _
                          refine wp_z_eq jF_226_139 (m_rgb h169 rfl) rfl (pc2 := 142) ?_ ?_
                          · intro h170
                            clear p163
                            refine wp_ic jF_226_146 rfl (pc2 := 147) ?_
                            refine wp_is1 (lv2 := [(0, .ref 117), (1, iV 0)]) jF_226_147 rfl rfl rfl (pc2 := 148) ?_
                            refine wp_il1 jF_226_148 rfl rfl (pc2 := 149) ?_
                            refine wp_z_ne jF_226_149 (m_rgl rfl) rfl (pc2 := 152) ?_ ?_
                            · intro h171; exfalso; omega
                            · intro h171
                              refine wp_al1 jF_226_152 rfl rfl (pc2 := 153) ?_
                              refine wp_al1 jF_226_153 rfl rfl (pc2 := 154) ?_
                              refine wp_gr (b := 132) jF_226_154 kd117 (by decide) (c := 232) rfl rfl rfl (pc2 := 157) ?_
                              refine wp_cV (as := [.ref 132]) (rest := []) (a := 117) (mx := 4) (ci := 12) jF_226_157 kd117 (by decide) rfl rfl rfl rfl rfl (by omega) (by omega) rfl (pc2 := 160) ?_
                              have b172 := GI.b g166 117 2 kd117 (lo := 0) (hi := 1601) rfl
                              have q173 : (τ165.1 117 3) = (σ.1 117 3) := ((FR.at f167 117 3 rfl).trans ((FR.at f153 117 3 rfl).trans ((FR.at f139 117 3 rfl).trans ((FR.at f125 117 3 rfl).trans ((FR.at f111 117 3 rfl).trans ((FR.at f97 117 3 rfl).trans ((FR.at f84 117 3 rfl).trans ((FR.at f69 117 3 rfl).trans ((FR.at f54 117 3 rfl).trans ((FR.at f39 117 3 rfl).trans ((FR.at f24 117 3 rfl).trans (FR.at f9 117 3 rfl))))))))))))
                              have q174 : (τ165.1 117 5) = (σ.1 117 5) := ((FR.at f167 117 5 rfl).trans ((FR.at f153 117 5 rfl).trans ((FR.at f139 117 5 rfl).trans ((FR.at f125 117 5 rfl).trans ((FR.at f111 117 5 rfl).trans ((FR.at f97 117 5 rfl).trans ((FR.at f84 117 5 rfl).trans ((FR.at f69 117 5 rfl).trans ((FR.at f54 117 5 rfl).trans ((FR.at f39 117 5 rfl).trans ((FR.at f24 117 5 rfl).trans (FR.at f9 117 5 rfl))))))))))))
                              refine wp_use (m_220 τ165 g166 132 3 cw132.1 cw132.2 (by decide)  _ _ (by omega) (by omega)) ?_
                              rintro _ τ178 ⟨z181, rfl, h182, g179, f180, p175, p176, p177⟩
                              show WP 226 160 [(0, .ref 117), (1, iV 0)] [iV z181] _ _ _ _
                              refine wp_z_ne jF_226_160 (m_rgb h182 rfl) rfl (pc2 := 163) ?_ ?_
                              · intro h183
                                replace p176 := p176 (by omega)
                                refine wp_ic jF_226_218 rfl (pc2 := 219) ?_
                                refine wp_go jF_226_219 ?_
                                refine wp_is1 (lv2 := [(0, .ref 117), (1, iV 1)]) jF_226_223 rfl rfl rfl (pc2 := 224) ?_
                                refine wp_il1 jF_226_224 rfl rfl (pc2 := 225) ?_
                                refine wp_ri jF_226_225 rfl ?_
                                have b184 := GI.b g179 117 2 kd117 (lo := 0) (hi := 1601) rfl
                                exact ⟨1, rfl, ⟨by omega, by omega⟩, g179, (FR.up (FR.up (FR.up (FR.up (FR.up (FR.up (FR.up (FR.up (FR.up (FR.up (FR.up (FR.up f9 f24 sb_Wat_Wat) f39 sb_Wat_Wat) f54 sb_Wat_Wat) f69 sb_Wat_Wat) f84 sb_Wat_Wat) f97 sb_Wat_Wat) f111 sb_Wat_Wat) f125 sb_Wat_Wat) f139 sb_Wat_Wat) f153 sb_Wat_Wat) f167 sb_Wat_Wat) f180 sb_Wat_Wat), (by omega)⟩
                              · intro h183
                                clear p176
                                refine wp_al1 jF_226_163 rfl rfl (pc2 := 164) ?_
                                refine wp_al1 jF_226_164 rfl rfl (pc2 := 165) ?_
                                refine wp_gr (b := 133) jF_226_165 kd117 (by decide) (c := 233) rfl rfl rfl (pc2 := 168) ?_
                                refine wp_cV (as := [.ref 133]) (rest := []) (a := 117) (mx := 4) (ci := 12) jF_226_168 kd117 (by decide) rfl rfl rfl rfl rfl (by omega) (by omega) rfl (pc2 := 171) ?_
                                have b185 := GI.b g179 117 2 kd117 (lo := 0) (hi := 1601) rfl
                                have q186 : (τ178.1 117 3) = (σ.1 117 3) := ((FR.at f180 117 3 rfl).trans ((FR.at f167 117 3 rfl).trans ((FR.at f153 117 3 rfl).trans ((FR.at f139 117 3 rfl).trans ((FR.at f125 117 3 rfl).trans ((FR.at f111 117 3 rfl).trans ((FR.at f97 117 3 rfl).trans ((FR.at f84 117 3 rfl).trans ((FR.at f69 117 3 rfl).trans ((FR.at f54 117 3 rfl).trans ((FR.at f39 117 3 rfl).trans ((FR.at f24 117 3 rfl).trans (FR.at f9 117 3 rfl)))))))))))))
                                have q187 : (τ178.1 117 5) = (σ.1 117 5) := ((FR.at f180 117 5 rfl).trans ((FR.at f167 117 5 rfl).trans ((FR.at f153 117 5 rfl).trans ((FR.at f139 117 5 rfl).trans ((FR.at f125 117 5 rfl).trans ((FR.at f111 117 5 rfl).trans ((FR.at f97 117 5 rfl).trans ((FR.at f84 117 5 rfl).trans ((FR.at f69 117 5 rfl).trans ((FR.at f54 117 5 rfl).trans ((FR.at f39 117 5 rfl).trans ((FR.at f24 117 5 rfl).trans (FR.at f9 117 5 rfl)))))))))))))
                                refine wp_use (m_220 τ178 g179 133 5 cw133.1 cw133.2 (by decide)  _ _ (by omega) (by omega)) ?_
                                rintro _ τ191 ⟨z194, rfl, h195, g192, f193, p188, p189, p190⟩
                                show WP 226 171 [(0, .ref 117), (1, iV 0)] [iV z194] _ _ _ _
                                refine wp_z_ne jF_226_171 (m_rgb h195 rfl) rfl (pc2 := 174) ?_ ?_
                                · intro h196
                                  replace p189 := p189 (by omega)
                                  refine wp_ic jF_226_218 rfl (pc2 := 219) ?_
                                  refine wp_go jF_226_219 ?_
                                  refine wp_is1 (lv2 := [(0, .ref 117), (1, iV 1)]) jF_226_223 rfl rfl rfl (pc2 := 224) ?_
                                  refine wp_il1 jF_226_224 rfl rfl (pc2 := 225) ?_
                                  refine wp_ri jF_226_225 rfl ?_
                                  have b197 := GI.b g192 117 2 kd117 (lo := 0) (hi := 1601) rfl
                                  exact ⟨1, rfl, ⟨by omega, by omega⟩, g192, (FR.up (FR.up (FR.up (FR.up (FR.up (FR.up (FR.up (FR.up (FR.up (FR.up (FR.up (FR.up (FR.up f9 f24 sb_Wat_Wat) f39 sb_Wat_Wat) f54 sb_Wat_Wat) f69 sb_Wat_Wat) f84 sb_Wat_Wat) f97 sb_Wat_Wat) f111 sb_Wat_Wat) f125 sb_Wat_Wat) f139 sb_Wat_Wat) f153 sb_Wat_Wat) f167 sb_Wat_Wat) f180 sb_Wat_Wat) f193 sb_Wat_Wat), (by omega)⟩
                                · intro h196
                                  clear p189
                                  refine wp_al1 jF_226_174 rfl rfl (pc2 := 175) ?_
                                  refine wp_al1 jF_226_175 rfl rfl (pc2 := 176) ?_
                                  refine wp_gr (b := 134) jF_226_176 kd117 (by decide) (c := 234) rfl rfl rfl (pc2 := 179) ?_
                                  refine wp_cV (as := [.ref 134]) (rest := []) (a := 117) (mx := 4) (ci := 12) jF_226_179 kd117 (by decide) rfl rfl rfl rfl rfl (by omega) (by omega) rfl (pc2 := 182) ?_
                                  have b198 := GI.b g192 117 2 kd117 (lo := 0) (hi := 1601) rfl
                                  have q199 : (τ191.1 117 3) = (σ.1 117 3) := ((FR.at f193 117 3 rfl).trans ((FR.at f180 117 3 rfl).trans ((FR.at f167 117 3 rfl).trans ((FR.at f153 117 3 rfl).trans ((FR.at f139 117 3 rfl).trans ((FR.at f125 117 3 rfl).trans ((FR.at f111 117 3 rfl).trans ((FR.at f97 117 3 rfl).trans ((FR.at f84 117 3 rfl).trans ((FR.at f69 117 3 rfl).trans ((FR.at f54 117 3 rfl).trans ((FR.at f39 117 3 rfl).trans ((FR.at f24 117 3 rfl).trans (FR.at f9 117 3 rfl))))))))))))))
                                  have q200 : (τ191.1 117 5) = (σ.1 117 5) := ((FR.at f193 117 5 rfl).trans ((FR.at f180 117 5 rfl).trans ((FR.at f167 117 5 rfl).trans ((FR.at f153 117 5 rfl).trans ((FR.at f139 117 5 rfl).trans ((FR.at f125 117 5 rfl).trans ((FR.at f111 117 5 rfl).trans ((FR.at f97 117 5 rfl).trans ((FR.at f84 117 5 rfl).trans ((FR.at f69 117 5 rfl).trans ((FR.at f54 117 5 rfl).trans ((FR.at f39 117 5 rfl).trans ((FR.at f24 117 5 rfl).trans (FR.at f9 117 5 rfl))))))))))))))
                                  refine wp_use (m_220 τ191 g192 134 3 cw134.1 cw134.2 (by decide)  _ _ (by omega) (by omega)) ?_
                                  rintro _ τ204 ⟨z207, rfl, h208, g205, f206, p201, p202, p203⟩
                                  show WP 226 182 [(0, .ref 117), (1, iV 0)] [iV z207] _ _ _ _
                                  refine wp_z_ne jF_226_182 (m_rgb h208 rfl) rfl (pc2 := 185) ?_ ?_
                                  · intro h209
                                    replace p202 := p202 (by omega)
                                    refine wp_ic jF_226_218 rfl (pc2 := 219) ?_
                                    refine wp_go jF_226_219 ?_
                                    refine wp_is1 (lv2 := [(0, .ref 117), (1, iV 1)]) jF_226_223 rfl rfl rfl (pc2 := 224) ?_
                                    refine wp_il1 jF_226_224 rfl rfl (pc2 := 225) ?_
                                    refine wp_ri jF_226_225 rfl ?_
                                    have b210 := GI.b g205 117 2 kd117 (lo := 0) (hi := 1601) rfl
                                    exact ⟨1, rfl, ⟨by omega, by omega⟩, g205, (FR.up (FR.up (FR.up (FR.up (FR.up (FR.up (FR.up (FR.up (FR.up (FR.up (FR.up (FR.up (FR.up (FR.up f9 f24 sb_Wat_Wat) f39 sb_Wat_Wat) f54 sb_Wat_Wat) f69 sb_Wat_Wat) f84 sb_Wat_Wat) f97 sb_Wat_Wat) f111 sb_Wat_Wat) f125 sb_Wat_Wat) f139 sb_Wat_Wat) f153 sb_Wat_Wat) f167 sb_Wat_Wat) f180 sb_Wat_Wat) f193 sb_Wat_Wat) f206 sb_Wat_Wat), (by omega)⟩
                                  · intro h209
                                    clear p202
                                    refine wp_al1 jF_226_185 rfl rfl (pc2 := 186) ?_
                                    refine wp_al1 jF_226_186 rfl rfl (pc2 := 187) ?_
                                    refine wp_gr (b := 135) jF_226_187 kd117 (by decide) (c := 235) rfl rfl rfl (pc2 := 190) ?_
                                    refine wp_cV (as := [.ref 135]) (rest := []) (a := 117) (mx := 4) (ci := 12) jF_226_190 kd117 (by decide) rfl rfl rfl rfl rfl (by omega) (by omega) rfl (pc2 := 193) ?_
                                    have b211 := GI.b g205 117 2 kd117 (lo := 0) (hi := 1601) rfl
                                    have q212 : (τ204.1 117 3) = (σ.1 117 3) := ((FR.at f206 117 3 rfl).trans ((FR.at f193 117 3 rfl).trans ((FR.at f180 117 3 rfl).trans ((FR.at f167 117 3 rfl).trans ((FR.at f153 117 3 rfl).trans ((FR.at f139 117 3 rfl).trans ((FR.at f125 117 3 rfl).trans ((FR.at f111 117 3 rfl).trans ((FR.at f97 117 3 rfl).trans ((FR.at f84 117 3 rfl).trans ((FR.at f69 117 3 rfl).trans ((FR.at f54 117 3 rfl).trans ((FR.at f39 117 3 rfl).trans ((FR.at f24 117 3 rfl).trans (FR.at f9 117 3 rfl)))))))))))))))
                                    have q213 : (τ204.1 117 5) = (σ.1 117 5) := ((FR.at f206 117 5 rfl).trans ((FR.at f193 117 5 rfl).trans ((FR.at f180 117 5 rfl).trans ((FR.at f167 117 5 rfl).trans ((FR.at f153 117 5 rfl).trans ((FR.at f139 117 5 rfl).trans ((FR.at f125 117 5 rfl).trans ((FR.at f111 117 5 rfl).trans ((FR.at f97 117 5 rfl).trans ((FR.at f84 117 5 rfl).trans ((FR.at f69 117 5 rfl).trans ((FR.at f54 117 5 rfl).trans ((FR.at f39 117 5 rfl).trans ((FR.at f24 117 5 rfl).trans (FR.at f9 117 5 rfl)))))))))))))))
                                    refine wp_use (m_220 τ204 g205 135 2 cw135.1 cw135.2 (by decide)  _ _ (by omega) (by omega)) ?_
                                    rintro _ τ217 ⟨z220, rfl, h221, g218, f219, p214, p215, p216⟩
                                    show WP 226 193 [(0, .ref 117), (1, iV 0)] [iV z220] _ _ _ _
                                    refine wp_z_ne jF_226_193 (m_rgb h221 rfl) rfl (pc2 := 196) ?_ ?_
                                    · intro h222
                                      replace p215 := p215 (by omega)
                                      refine wp_ic jF_226_218 rfl (pc2 := 219) ?_
                                      refine wp_go jF_226_219 ?_
                                      refine wp_is1 (lv2 := [(0, .ref 117), (1, iV 1)]) jF_226_223 rfl rfl rfl (pc2 := 224) ?_
                                      refine wp_il1 jF_226_224 rfl rfl (pc2 := 225) ?_
                                      refine wp_ri jF_226_225 rfl ?_
                                      have b223 := GI.b g218 117 2 kd117 (lo := 0) (hi := 1601) rfl
                                      exact ⟨1, rfl, ⟨by omega, by omega⟩, g218, (FR.up (FR.up (FR.up (FR.up (FR.up (FR.up (FR.up (FR.up (FR.up (FR.up (FR.up (FR.up (FR.up (FR.up (FR.up f9 f24 sb_Wat_Wat) f39 sb_Wat_Wat) f54 sb_Wat_Wat) f69 sb_Wat_Wat) f84 sb_Wat_Wat) f97 sb_Wat_Wat) f111 sb_Wat_Wat) f125 sb_Wat_Wat) f139 sb_Wat_Wat) f153 sb_Wat_Wat) f167 sb_Wat_Wat) f180 sb_Wat_Wat) f193 sb_Wat_Wat) f206 sb_Wat_Wat) f219 sb_Wat_Wat), (by omega)⟩
                                    · intro h222
                                      clear p215
                                      refine wp_al1 jF_226_196 rfl rfl (pc2 := 197) ?_
                                      refine wp_al1 jF_226_197 rfl rfl (pc2 := 198) ?_
                                      refine wp_gr (b := 136) jF_226_198 kd117 (by decide) (c := 236) rfl rfl rfl (pc2 := 201) ?_
                                      refine wp_cV (as := [.ref 136]) (rest := []) (a := 117) (mx := 4) (ci := 12) jF_226_201 kd117 (by decide) rfl rfl rfl rfl rfl (by omega) (by omega) rfl (pc2 := 204) ?_
                                      have b224 := GI.b g218 117 2 kd117 (lo := 0) (hi := 1601) rfl
                                      have q225 : (τ217.1 117 3) = (σ.1 117 3) := ((FR.at f219 117 3 rfl).trans ((FR.at f206 117 3 rfl).trans ((FR.at f193 117 3 rfl).trans ((FR.at f180 117 3 rfl).trans ((FR.at f167 117 3 rfl).trans ((FR.at f153 117 3 rfl).trans ((FR.at f139 117 3 rfl).trans ((FR.at f125 117 3 rfl).trans ((FR.at f111 117 3 rfl).trans ((FR.at f97 117 3 rfl).trans ((FR.at f84 117 3 rfl).trans ((FR.at f69 117 3 rfl).trans ((FR.at f54 117 3 rfl).trans ((FR.at f39 117 3 rfl).trans ((FR.at f24 117 3 rfl).trans (FR.at f9 117 3 rfl))))))))))))))))
                                      have q226 : (τ217.1 117 5) = (σ.1 117 5) := ((FR.at f219 117 5 rfl).trans ((FR.at f206 117 5 rfl).trans ((FR.at f193 117 5 rfl).trans ((FR.at f180 117 5 rfl).trans ((FR.at f167 117 5 rfl).trans ((FR.at f153 117 5 rfl).trans ((FR.at f139 117 5 rfl).trans ((FR.at f125 117 5 rfl).trans ((FR.at f111 117 5 rfl).trans ((FR.at f97 117 5 rfl).trans ((FR.at f84 117 5 rfl).trans ((FR.at f69 117 5 rfl).trans ((FR.at f54 117 5 rfl).trans ((FR.at f39 117 5 rfl).trans ((FR.at f24 117 5 rfl).trans (FR.at f9 117 5 rfl))))))))))))))))
                                      refine wp_use (m_220 τ217 g218 136 3 cw136.1 cw136.2 (by decide)  _ _ (by omega) (by omega)) ?_
                                      rintro _ τ230 ⟨z233, rfl, h234, g231, f232, p227, p228, p229⟩
                                      show WP 226 204 [(0, .ref 117), (1, iV 0)] [iV z233] _ _ _ _
                                      refine wp_z_ne jF_226_204 (m_rgb h234 rfl) rfl (pc2 := 207) ?_ ?_
                                      · intro h235
                                        replace p228 := p228 (by omega)
                                        refine wp_ic jF_226_218 rfl (pc2 := 219) ?_
                                        refine wp_go jF_226_219 ?_
                                        refine wp_is1 (lv2 := [(0, .ref 117), (1, iV 1)]) jF_226_223 rfl rfl rfl (pc2 := 224) ?_
                                        refine wp_il1 jF_226_224 rfl rfl (pc2 := 225) ?_
                                        refine wp_ri jF_226_225 rfl ?_
                                        have b236 := GI.b g231 117 2 kd117 (lo := 0) (hi := 1601) rfl
                                        exact ⟨1, rfl, ⟨by omega, by omega⟩, g231, (FR.up (FR.up (FR.up (FR.up (FR.up (FR.up (FR.up (FR.up (FR.up (FR.up (FR.up (FR.up (FR.up (FR.up (FR.up (FR.up f9 f24 sb_Wat_Wat) f39 sb_Wat_Wat) f54 sb_Wat_Wat) f69 sb_Wat_Wat) f84 sb_Wat_Wat) f97 sb_Wat_Wat) f111 sb_Wat_Wat) f125 sb_Wat_Wat) f139 sb_Wat_Wat) f153 sb_Wat_Wat) f167 sb_Wat_Wat) f180 sb_Wat_Wat) f193 sb_Wat_Wat) f206 sb_Wat_Wat) f219 sb_Wat_Wat) f232 sb_Wat_Wat), (by omega)⟩
                                      · intro h235
                                        clear p228
                                        refine wp_al1 jF_226_207 rfl rfl (pc2 := 208) ?_
                                        refine wp_al1 jF_226_208 rfl rfl (pc2 := 209) ?_
                                        refine wp_gr (b := 137) jF_226_209 kd117 (by decide) (c := 237) rfl rfl rfl (pc2 := 212) ?_
                                        refine wp_cV (as := [.ref 137]) (rest := []) (a := 117) (mx := 4) (ci := 12) jF_226_212 kd117 (by decide) rfl rfl rfl rfl rfl (by omega) (by omega) rfl (pc2 := 215) ?_
                                        have b237 := GI.b g231 117 2 kd117 (lo := 0) (hi := 1601) rfl
                                        have q238 : (τ230.1 117 3) = (σ.1 117 3) := ((FR.at f232 117 3 rfl).trans ((FR.at f219 117 3 rfl).trans ((FR.at f206 117 3 rfl).trans ((FR.at f193 117 3 rfl).trans ((FR.at f180 117 3 rfl).trans ((FR.at f167 117 3 rfl).trans ((FR.at f153 117 3 rfl).trans ((FR.at f139 117 3 rfl).trans ((FR.at f125 117 3 rfl).trans ((FR.at f111 117 3 rfl).trans ((FR.at f97 117 3 rfl).trans ((FR.at f84 117 3 rfl).trans ((FR.at f69 117 3 rfl).trans ((FR.at f54 117 3 rfl).trans ((FR.at f39 117 3 rfl).trans ((FR.at f24 117 3 rfl).trans (FR.at f9 117 3 rfl)))))))))))))))))
                                        have q239 : (τ230.1 117 5) = (σ.1 117 5) := ((FR.at f232 117 5 rfl).trans ((FR.at f219 117 5 rfl).trans ((FR.at f206 117 5 rfl).trans ((FR.at f193 117 5 rfl).trans ((FR.at f180 117 5 rfl).trans ((FR.at f167 117 5 rfl).trans ((FR.at f153 117 5 rfl).trans ((FR.at f139 117 5 rfl).trans ((FR.at f125 117 5 rfl).trans ((FR.at f111 117 5 rfl).trans ((FR.at f97 117 5 rfl).trans ((FR.at f84 117 5 rfl).trans ((FR.at f69 117 5 rfl).trans ((FR.at f54 117 5 rfl).trans ((FR.at f39 117 5 rfl).trans ((FR.at f24 117 5 rfl).trans (FR.at f9 117 5 rfl)))))))))))))))))
                                        refine wp_use (m_220 τ230 g231 137 6 cw137.1 cw137.2 (by decide)  _ _ (by omega) (by omega)) ?_
                                        rintro _ τ243 ⟨z246, rfl, h247, g244, f245, p240, p241, p242⟩
                                        show WP 226 215 [(0, .ref 117), (1, iV 0)] [iV z246] _ _ _ _
                                        refine wp_z_eq jF_226_215 (m_rgb h247 rfl) rfl (pc2 := 218) ?_ ?_
                                        · intro h248
                                          clear p241
                                          refine wp_ic jF_226_222 rfl (pc2 := 223) ?_
                                          refine wp_is1 (lv2 := [(0, .ref 117), (1, iV 0)]) jF_226_223 rfl rfl rfl (pc2 := 224) ?_
                                          refine wp_il1 jF_226_224 rfl rfl (pc2 := 225) ?_
                                          refine wp_ri jF_226_225 rfl ?_
                                          have b249 := GI.b g244 117 2 kd117 (lo := 0) (hi := 1601) rfl
                                          exact ⟨0, rfl, ⟨by omega, by omega⟩, g244, (FR.up (FR.up (FR.up (FR.up (FR.up (FR.up (FR.up (FR.up (FR.up (FR.up (FR.up (FR.up (FR.up (FR.up (FR.up (FR.up (FR.up f9 f24 sb_Wat_Wat) f39 sb_Wat_Wat) f54 sb_Wat_Wat) f69 sb_Wat_Wat) f84 sb_Wat_Wat) f97 sb_Wat_Wat) f111 sb_Wat_Wat) f125 sb_Wat_Wat) f139 sb_Wat_Wat) f153 sb_Wat_Wat) f167 sb_Wat_Wat) f180 sb_Wat_Wat) f193 sb_Wat_Wat) f206 sb_Wat_Wat) f219 sb_Wat_Wat) f232 sb_Wat_Wat) f245 sb_Wat_Wat), (by omega)⟩
                                        · intro h248
                                          replace p241 := p241 (by omega)
                                          refine wp_ic jF_226_218 rfl (pc2 := 219) ?_
                                          refine wp_go jF_226_219 ?_
                                          refine wp_is1 (lv2 := [(0, .ref 117), (1, iV 1)]) jF_226_223 rfl rfl rfl (pc2 := 224) ?_
                                          refine wp_il1 jF_226_224 rfl rfl (pc2 := 225) ?_
                                          refine wp_ri jF_226_225 rfl ?_
                                          have b250 := GI.b g244 117 2 kd117 (lo := 0) (hi := 1601) rfl
                                          exact ⟨1, rfl, ⟨by omega, by omega⟩, g244, (FR.up (FR.up (FR.up (FR.up (FR.up (FR.up (FR.up (FR.up (FR.up (FR.up (FR.up (FR.up (FR.up (FR.up (FR.up (FR.up (FR.up f9 f24 sb_Wat_Wat) f39 sb_Wat_Wat) f54 sb_Wat_Wat) f69 sb_Wat_Wat) f84 sb_Wat_Wat) f97 sb_Wat_Wat) f111 sb_Wat_Wat) f125 sb_Wat_Wat) f139 sb_Wat_Wat) f153 sb_Wat_Wat) f167 sb_Wat_Wat) f180 sb_Wat_Wat) f193 sb_Wat_Wat) f206 sb_Wat_Wat) f219 sb_Wat_Wat) f232 sb_Wat_Wat) f245 sb_Wat_Wat), (by omega)⟩
                          · intro h170
                            replace p163 := p163 (by omega)
                            refine wp_ic jF_226_142 rfl (pc2 := 143) ?_
                            refine wp_go jF_226_143 ?_
                            refine wp_is1 (lv2 := [(0, .ref 117), (1, iV 1)]) jF_226_147 rfl rfl rfl (pc2 := 148) ?_
                            refine wp_il1 jF_226_148 rfl rfl (pc2 := 149) ?_
                            refine wp_z_ne jF_226_149 (m_rgl rfl) rfl (pc2 := 152) ?_ ?_
                            · intro h251
                              refine wp_ic jF_226_218 rfl (pc2 := 219) ?_
                              refine wp_go jF_226_219 ?_
                              refine wp_is1 (lv2 := [(0, .ref 117), (1, iV 1)]) jF_226_223 rfl rfl rfl (pc2 := 224) ?_
                              refine wp_il1 jF_226_224 rfl rfl (pc2 := 225) ?_
                              refine wp_ri jF_226_225 rfl ?_
                              have b252 := GI.b g166 117 2 kd117 (lo := 0) (hi := 1601) rfl
                              exact ⟨1, rfl, ⟨by omega, by omega⟩, g166, (FR.up (FR.up (FR.up (FR.up (FR.up (FR.up (FR.up (FR.up (FR.up (FR.up (FR.up f9 f24 sb_Wat_Wat) f39 sb_Wat_Wat) f54 sb_Wat_Wat) f69 sb_Wat_Wat) f84 sb_Wat_Wat) f97 sb_Wat_Wat) f111 sb_Wat_Wat) f125 sb_Wat_Wat) f139 sb_Wat_Wat) f153 sb_Wat_Wat) f167 sb_Wat_Wat), (by omega)⟩
                            · intro h251; exfalso; omega
            · intro h87
              replace p80 := p80 (by omega)
              refine wp_ic jF_226_66 rfl (pc2 := 67) ?_
              refine wp_go jF_226_67 ?_
              refine wp_is1 (lv2 := [(0, .ref 117), (1, iV 1)]) jF_226_71 rfl rfl rfl (pc2 := 72) ?_
              refine wp_il1 jF_226_72 rfl rfl (pc2 := 73) ?_
              refine wp_z_ne jF_226_73 (m_rgl rfl) rfl (pc2 := 76) ?_ ?_
              · intro h253
                refine wp_ic jF_226_142 rfl (pc2 := 143) ?_
                refine wp_go jF_226_143 ?_
                refine wp_is1 (lv2 := [(0, .ref 117), (1, iV 1)]) jF_226_147 rfl rfl rfl (pc2 := 148) ?_
                refine wp_il1 jF_226_148 rfl rfl (pc2 := 149) ?_
                refine wp_z_ne jF_226_149 (m_rgl rfl) rfl (pc2 := 152) ?_ ?_
                · intro h254
                  refine wp_ic jF_226_218 rfl (pc2 := 219) ?_
                  refine wp_go jF_226_219 ?_
                  refine wp_is1 (lv2 := [(0, .ref 117), (1, iV 1)]) jF_226_223 rfl rfl rfl (pc2 := 224) ?_
                  refine wp_il1 jF_226_224 rfl rfl (pc2 := 225) ?_
                  refine wp_ri jF_226_225 rfl ?_
                  have b255 := GI.b g83 117 2 kd117 (lo := 0) (hi := 1601) rfl
                  exact ⟨1, rfl, ⟨by omega, by omega⟩, g83, (FR.up (FR.up (FR.up (FR.up (FR.up f9 f24 sb_Wat_Wat) f39 sb_Wat_Wat) f54 sb_Wat_Wat) f69 sb_Wat_Wat) f84 sb_Wat_Wat), (by omega)⟩
                · intro h254; exfalso; omega
              · intro h253; exfalso; omega
