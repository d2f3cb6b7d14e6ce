set_option maxHeartbeats 4000000 in
set_option maxRecDepth 20000 in
/-- M.termTold -/
theorem m_254 (σ : jM) (hg : GI σ)   (fr lo : Nat) (hfr : 4 ≤ fr) (hlo : 86 ≤ lo) : WP 254 0 (lv_args 0 [.ref 117]) [] fr lo σ (fun v τ => v = none ∧ GI τ ∧ FR Wlw σ τ ∧ ((σ.1 117 2) ≤ (τ.1 117 2)) ∧ ((σ.1 117 5) ≠ 0 → (τ.1 117 5) = (σ.1 117 5)) ∧ ((τ.1 117 5) = 0 → (σ.1 117 5) = 0)) := by
  show WP 254 0 [(0, .ref 117)] [] _ _ _ _
  have b1 := GI.b hg 117 2 kd117 (lo := 0) (hi := 1601) rfl
  have b2 := GI.b hg 117 5 kd117 (lo := (-2147483648)) (hi := 2147483647) rfl
  refine wp_loop (α := Unit) (fun a => [(0, .ref 117)]) (fun a τ => GI τ ∧ FR Wlw σ τ ∧ ((σ.1 117 2) ≤ (τ.1 117 2)) ∧ ((σ.1 117 5) ≠ 0 → (τ.1 117 5) = (σ.1 117 5)) ∧ ((τ.1 117 5) = 0 → (σ.1 117 5) = 0)) (fun a τ => Int.toNat (1700 - (τ.1 117 2))) () σ ?_ ?_
  · skip
    exact ⟨hg, FR.rf, (by omega), (by omega), (by omega)⟩
  · rintro ⟨⟩ τ3 ⟨g4, f5, p6, p7, p8⟩ ih9
    have b10 := GI.b g4 117 2 kd117 (lo := 0) (hi := 1601) rfl
    have b11 := GI.b g4 117 5 kd117 (lo := (-2147483648)) (hi := 2147483647) rfl
    show WP 254 0 [(0, .ref 117)] [] _ _ _ _
    refine wp_al1 jF_254_0 rfl rfl (pc2 := 1) ?_
    refine wp_cV (as := []) (rest := []) (a := 117) (mx := 2) (ci := 12) jF_254_1 kd117 (by decide) rfl rfl rfl rfl rfl (by omega) (by omega) rfl (pc2 := 4) ?_
    have b12 := GI.b g4 117 44 kd117 (lo := 0) (hi := 60) rfl
    refine wp_use (m_252 τ3 g4   _ _ (by omega) (by omega)) ?_
    rintro _ τ21 ⟨z24, rfl, h25, g22, f23, p13, p14, p15, p16, p17, p18, p19, p20⟩
    show WP 254 4 [(0, .ref 117)] [iV z24] _ _ _ _
    refine wp_z_eq jF_254_4 (m_rgb h25 rfl) rfl (pc2 := 7) ?_ ?_
    · intro h26
      clear p15
      replace p16 := p16 (by omega)
      clear p19
      clear p20
      refine wp_al1 jF_254_27 rfl rfl (pc2 := 28) ?_
      have b27 := GI.b g22 117 5 kd117 (lo := (-2147483648)) (hi := 2147483647) rfl
      refine wp_gi jF_254_28 kd117 (by decide) rfl rfl rfl (pc2 := 31) ?_
      refine wp_z_eq jF_254_31 (m_rgb b27 rfl) rfl (pc2 := 34) ?_ ?_
      · intro h28
        refine wp_al1 jF_254_35 rfl rfl (pc2 := 36) ?_
        refine wp_cV (as := []) (rest := []) (a := 117) (mx := 3) (ci := 12) jF_254_36 kd117 (by decide) rfl rfl rfl rfl rfl (by omega) (by omega) rfl (pc2 := 39) ?_
        have b29 := GI.b g22 117 2 kd117 (lo := 0) (hi := 1601) rfl
        refine wp_use (m_225 τ21 g22   _ _ (by omega) (by omega)) ?_
        rintro _ τ34 ⟨y37, rfl, g35, f36, p30, p31, p32, p33⟩
        clear p31
        replace p33 := p33 (by omega)
        show WP 254 39 [(0, .ref 117)] [.long y37] _ _ _ _
        refine wp_ls1 (lv2 := [(0, .ref 117), (1, .long y37)]) jF_254_39 rfl rfl rfl (pc2 := 40) ?_
        refine wp_al1 jF_254_40 rfl rfl (pc2 := 41) ?_
        refine wp_ll1 jF_254_41 rfl rfl (pc2 := 42) ?_
        refine wp_cV (as := [.long y37]) (rest := []) (a := 117) (mx := 4) (ci := 12) jF_254_42 kd117 (by decide) rfl rfl rfl rfl rfl (by omega) (by omega) rfl (pc2 := 45) ?_
        refine wp_use (m_256 τ34 g35 y37  _ _ (by omega) (by omega)) ?_
        rintro _ _ ⟨z40, rfl, h41, rfl⟩
        show WP 254 45 [(0, .ref 117), (1, .long y37)] [iV z40] _ _ _ _
        refine wp_is1 (lv2 := [(0, .ref 117), (1, .long y37), (3, iV z40)]) jF_254_45 rfl rfl rfl (pc2 := 46) ?_
        refine wp_al1 jF_254_46 rfl rfl (pc2 := 47) ?_
        have b42 := GI.b g35 117 5 kd117 (lo := (-2147483648)) (hi := 2147483647) rfl
        refine wp_gi jF_254_47 kd117 (by decide) rfl rfl rfl (pc2 := 50) ?_
        refine wp_z_ne jF_254_50 (m_rgb b42 rfl) rfl (pc2 := 53) ?_ ?_
        · intro h43
          clear p32
          clear p33
          refine wp_al1 jF_254_67 rfl rfl (pc2 := 68) ?_
          refine wp_gi jF_254_68 kd117 (by decide) rfl rfl rfl (pc2 := 71) ?_
          refine wp_z_ne jF_254_71 (m_rgb b42 rfl) rfl (pc2 := 74) ?_ ?_
          · intro h44
            refine wp_rv jF_254_79 ?_
            have b45 := GI.b g35 117 2 kd117 (lo := 0) (hi := 1601) rfl
            exact ⟨rfl, g35, (FR.up (FR.up f5 f23 sb_Wsgn_Wlw) f36 sb_Wsp_Wlw), (by omega), (by omega), (by omega)⟩
          · intro h44
            refine wp_al1 jF_254_74 rfl rfl (pc2 := 75) ?_
            refine wp_il1 jF_254_75 rfl rfl (pc2 := 76) ?_
            refine wp_cV (as := [iV z40]) (rest := []) (a := 117) (mx := 2) (ci := 12) jF_254_76 kd117 (by decide) rfl rfl rfl rfl rfl (by omega) (by omega) rfl (pc2 := 79) ?_
            have q46 : (τ34.1 117 44) = (τ3.1 117 44) := ((FR.at f36 117 44 rfl).trans (FR.at f23 117 44 rfl))
            refine wp_use (m_255 τ34 g35 z40 (by omega) (by omega) (by omega) _ _ (by omega) (by omega)) ?_
            rintro _ τ49 ⟨rfl, g50, f51, p47, p48⟩
            show WP 254 79 [(0, .ref 117), (1, .long y37), (3, iV z40)] [] _ _ _ _
            refine wp_rv jF_254_79 ?_
            have b52 := GI.b g35 117 2 kd117 (lo := 0) (hi := 1601) rfl
            have q53 : (τ49.1 117 2) = (τ34.1 117 2) := (FR.at f51 117 2 rfl)
            have q54 : (τ49.1 117 5) = (τ34.1 117 5) := (FR.at f51 117 5 rfl)
            exact ⟨rfl, g50, (FR.up (FR.up (FR.up f5 f23 sb_Wsgn_Wlw) f36 sb_Wsp_Wlw) f51 sb_Wrd_Wlw), (by omega), (by omega), (by omega)⟩
        · intro h43
          replace p32 := p32 (by omega)
          replace p33 := p33 (by omega)
          refine wp_il1 jF_254_53 rfl rfl (pc2 := 54) ?_
          refine wp_ic jF_254_54 rfl (pc2 := 55) ?_
          refine wp_i_ne jF_254_55 (m_rgb h41 rfl) (m_rgl rfl) rfl (pc2 := 58) ?_ ?_
          · intro h55
            refine wp_al1 jF_254_67 rfl rfl (pc2 := 68) ?_
            refine wp_gi jF_254_68 kd117 (by decide) rfl rfl rfl (pc2 := 71) ?_
            refine wp_z_ne jF_254_71 (m_rgb b42 rfl) rfl (pc2 := 74) ?_ ?_
            · intro h56
              refine wp_rv jF_254_79 ?_
              have b57 := GI.b g35 117 2 kd117 (lo := 0) (hi := 1601) rfl
              exact ⟨rfl, g35, (FR.up (FR.up f5 f23 sb_Wsgn_Wlw) f36 sb_Wsp_Wlw), (by omega), (by omega), (by omega)⟩
            · intro h56
              refine wp_al1 jF_254_74 rfl rfl (pc2 := 75) ?_
              refine wp_il1 jF_254_75 rfl rfl (pc2 := 76) ?_
              refine wp_cV (as := [iV z40]) (rest := []) (a := 117) (mx := 2) (ci := 12) jF_254_76 kd117 (by decide) rfl rfl rfl rfl rfl (by omega) (by omega) rfl (pc2 := 79) ?_
              have q58 : (τ34.1 117 44) = (τ3.1 117 44) := ((FR.at f36 117 44 rfl).trans (FR.at f23 117 44 rfl))
              refine wp_use (m_255 τ34 g35 z40 (by omega) (by omega) (by omega) _ _ (by omega) (by omega)) ?_
              rintro _ τ61 ⟨rfl, g62, f63, p59, p60⟩
              show WP 254 79 [(0, .ref 117), (1, .long y37), (3, iV z40)] [] _ _ _ _
              refine wp_rv jF_254_79 ?_
              have b64 := GI.b g35 117 2 kd117 (lo := 0) (hi := 1601) rfl
              have q65 : (τ61.1 117 2) = (τ34.1 117 2) := (FR.at f63 117 2 rfl)
              have q66 : (τ61.1 117 5) = (τ34.1 117 5) := (FR.at f63 117 5 rfl)
              exact ⟨rfl, g62, (FR.up (FR.up (FR.up f5 f23 sb_Wsgn_Wlw) f36 sb_Wsp_Wlw) f63 sb_Wrd_Wlw), (by omega), (by omega), (by omega)⟩
          · intro h55
            refine wp_al1 jF_254_58 rfl rfl (pc2 := 59) ?_
            refine wp_ic jF_254_59 rfl (pc2 := 60) ?_
            refine wp_al1 jF_254_60 rfl rfl (pc2 := 61) ?_
            have b67 := GI.b g35 117 28 kd117 (lo := (-2147483648)) (hi := 2147483647) rfl
            refine wp_gi jF_254_61 kd117 (by decide) rfl rfl rfl (pc2 := 64) ?_
            refine wp_cV (as := [iV 3, iV (τ34.1 117 28)]) (rest := []) (a := 117) (mx := 3) (ci := 12) jF_254_64 kd117 (by decide) rfl rfl rfl rfl rfl (by omega) (by omega) rfl (pc2 := 67) ?_
            refine wp_use (m_218 τ34 g35 3 (by omega) (by omega) (τ34.1 117 28) (by omega) (by omega)  _ _ (by omega) (by omega)) ?_
            rintro _ τ70 ⟨rfl, g71, f72, p68, p69⟩
            clear p68
            replace p69 := p69 (by omega)
            show WP 254 67 [(0, .ref 117), (1, .long y37), (3, iV z40)] [] _ _ _ _
            refine wp_al1 jF_254_67 rfl rfl (pc2 := 68) ?_
            have b73 := GI.b g71 117 5 kd117 (lo := (-2147483648)) (hi := 2147483647) rfl
            refine wp_gi jF_254_68 kd117 (by decide) rfl rfl rfl (pc2 := 71) ?_
            refine wp_z_ne jF_254_71 (m_rgb b73 rfl) rfl (pc2 := 74) ?_ ?_
            · intro h74
              refine wp_rv jF_254_79 ?_
              have b75 := GI.b g35 117 2 kd117 (lo := 0) (hi := 1601) rfl
              have q76 : (τ70.1 117 2) = (τ34.1 117 2) := (FR.at f72 117 2 rfl)
              exact ⟨rfl, g71, (FR.up (FR.up (FR.up f5 f23 sb_Wsgn_Wlw) f36 sb_Wsp_Wlw) f72 sb_Wbad_Wlw), (by omega), (by omega), (by omega)⟩
            · intro h74
              refine wp_al1 jF_254_74 rfl rfl (pc2 := 75) ?_
              refine wp_il1 jF_254_75 rfl rfl (pc2 := 76) ?_
              refine wp_cV (as := [iV z40]) (rest := []) (a := 117) (mx := 2) (ci := 12) jF_254_76 kd117 (by decide) rfl rfl rfl rfl rfl (by omega) (by omega) rfl (pc2 := 79) ?_
              have q77 : (τ70.1 117 44) = (τ3.1 117 44) := ((FR.at f72 117 44 rfl).trans ((FR.at f36 117 44 rfl).trans (FR.at f23 117 44 rfl)))
              refine wp_use (m_255 τ70 g71 z40 (by omega) (by omega) (by omega) _ _ (by omega) (by omega)) ?_
              rintro _ τ80 ⟨rfl, g81, f82, p78, p79⟩
              show WP 254 79 [(0, .ref 117), (1, .long y37), (3, iV z40)] [] _ _ _ _
              refine wp_rv jF_254_79 ?_
              have b83 := GI.b g35 117 2 kd117 (lo := 0) (hi := 1601) rfl
              have q84 : (τ80.1 117 2) = (τ34.1 117 2) := ((FR.at f82 117 2 rfl).trans (FR.at f72 117 2 rfl))
              have q85 : (τ80.1 117 5) = (τ70.1 117 5) := (FR.at f82 117 5 rfl)
              exact ⟨rfl, g81, (FR.up (FR.up (FR.up (FR.up f5 f23 sb_Wsgn_Wlw) f36 sb_Wsp_Wlw) f72 sb_Wbad_Wlw) f82 sb_Wrd_Wlw), (by omega), (by omega), (by omega)⟩
      · intro h28
        refine wp_rv jF_254_34 ?_
        have b86 := GI.b g22 117 2 kd117 (lo := 0) (hi := 1601) rfl
        exact ⟨rfl, g22, (FR.up f5 f23 sb_Wsgn_Wlw), (by omega), (by omega), (by omega)⟩
    · intro h26
      replace p15 := p15 (by omega)
      clear p16
      replace p19 := p19 (by omega)
      replace p20 := p20 (by omega)
      replace p8 := p8 (by omega)
      clear p14
      clear p7
      refine wp_al1 jF_254_7 rfl rfl (pc2 := 8) ?_
      refine wp_al1 jF_254_8 rfl rfl (pc2 := 9) ?_
      refine wp_gr (b := 136) jF_254_9 kd117 (by decide) (c := 236) rfl rfl rfl (pc2 := 12) ?_
      refine wp_cV (as := [.ref 136]) (rest := []) (a := 117) (mx := 2) (ci := 12) jF_254_12 kd117 (by decide) rfl rfl rfl rfl rfl (by omega) (by omega) rfl (pc2 := 15) ?_
      have b87 := GI.b g22 117 2 kd117 (lo := 0) (hi := 1601) rfl
      have b88 := GI.b hg 117 3 kd117 (lo := 0) (hi := 1600) rfl
      have q89 : (τ21.1 117 3) = (σ.1 117 3) := ((FR.at f23 117 3 rfl).trans (FR.at f5 117 3 rfl))
      have b90 := GI.b g22 117 5 kd117 (lo := (-2147483648)) (hi := 2147483647) rfl
      refine wp_use (m_219 τ21 g22 136 3 cw136.1 cw136.2 (by decide)  _ _ (by omega) (by omega)) ?_
      rintro _ τ95 ⟨z98, rfl, h99, g96, f97, p91, p92, p93, p94⟩
      replace p93 := p93 (by omega)
      replace p94 := p94 (by omega)
      show WP 254 15 [(0, .ref 117)] [iV z98] _ _ _ _
      refine wp_z_eq jF_254_15 (m_rgb h99 rfl) rfl (pc2 := 18) ?_ ?_
      · intro h100
        clear p92
        replace p93 := p93 (by omega)
        clear p94
        refine wp_al1 jF_254_27 rfl rfl (pc2 := 28) ?_
        refine wp_gi jF_254_28 kd117 (by decide) rfl (FR.at f97 117 5 rfl) rfl (pc2 := 31) ?_
        refine wp_z_eq jF_254_31 (m_rgb b90 rfl) rfl (pc2 := 34) ?_ ?_
        · intro h101
          refine wp_al1 jF_254_35 rfl rfl (pc2 := 36) ?_
          refine wp_cV (as := []) (rest := []) (a := 117) (mx := 3) (ci := 12) jF_254_36 kd117 (by decide) rfl rfl rfl rfl rfl (by omega) (by omega) rfl (pc2 := 39) ?_
          have b102 := GI.b g96 117 2 kd117 (lo := 0) (hi := 1601) rfl
          have q103 : (τ95.1 117 5) = (τ21.1 117 5) := (FR.at f97 117 5 rfl)
          refine wp_use (m_225 τ95 g96   _ _ (by omega) (by omega)) ?_
          rintro _ τ108 ⟨y111, rfl, g109, f110, p104, p105, p106, p107⟩
          clear p105
          replace p107 := p107 (by omega)
          show WP 254 39 [(0, .ref 117)] [.long y111] _ _ _ _
          refine wp_ls1 (lv2 := [(0, .ref 117), (1, .long y111)]) jF_254_39 rfl rfl rfl (pc2 := 40) ?_
          refine wp_al1 jF_254_40 rfl rfl (pc2 := 41) ?_
          refine wp_ll1 jF_254_41 rfl rfl (pc2 := 42) ?_
          refine wp_cV (as := [.long y111]) (rest := []) (a := 117) (mx := 4) (ci := 12) jF_254_42 kd117 (by decide) rfl rfl rfl rfl rfl (by omega) (by omega) rfl (pc2 := 45) ?_
          refine wp_use (m_256 τ108 g109 y111  _ _ (by omega) (by omega)) ?_
          rintro _ _ ⟨z114, rfl, h115, rfl⟩
          show WP 254 45 [(0, .ref 117), (1, .long y111)] [iV z114] _ _ _ _
          refine wp_is1 (lv2 := [(0, .ref 117), (1, .long y111), (3, iV z114)]) jF_254_45 rfl rfl rfl (pc2 := 46) ?_
          refine wp_al1 jF_254_46 rfl rfl (pc2 := 47) ?_
          have b116 := GI.b g109 117 5 kd117 (lo := (-2147483648)) (hi := 2147483647) rfl
          refine wp_gi jF_254_47 kd117 (by decide) rfl rfl rfl (pc2 := 50) ?_
          refine wp_z_ne jF_254_50 (m_rgb b116 rfl) rfl (pc2 := 53) ?_ ?_
          · intro h117
            clear p106
            clear p107
            refine wp_al1 jF_254_67 rfl rfl (pc2 := 68) ?_
            refine wp_gi jF_254_68 kd117 (by decide) rfl rfl rfl (pc2 := 71) ?_
            refine wp_z_ne jF_254_71 (m_rgb b116 rfl) rfl (pc2 := 74) ?_ ?_
            · intro h118
              refine wp_rv jF_254_79 ?_
              have b119 := GI.b g109 117 2 kd117 (lo := 0) (hi := 1601) rfl
              exact ⟨rfl, g109, (FR.up (FR.up (FR.up f5 f23 sb_Wsgn_Wlw) f97 sb_Wtak_Wlw) f110 sb_Wsp_Wlw), (by omega), (by omega), (by omega)⟩
            · intro h118
              refine wp_al1 jF_254_74 rfl rfl (pc2 := 75) ?_
              refine wp_il1 jF_254_75 rfl rfl (pc2 := 76) ?_
              refine wp_cV (as := [iV z114]) (rest := []) (a := 117) (mx := 2) (ci := 12) jF_254_76 kd117 (by decide) rfl rfl rfl rfl rfl (by omega) (by omega) rfl (pc2 := 79) ?_
              have q120 : (τ108.1 117 44) = (τ3.1 117 44) := ((FR.at f110 117 44 rfl).trans ((FR.at f97 117 44 rfl).trans (FR.at f23 117 44 rfl)))
              refine wp_use (m_255 τ108 g109 z114 (by omega) (by omega) (by omega) _ _ (by omega) (by omega)) ?_
              rintro _ τ123 ⟨rfl, g124, f125, p121, p122⟩
              show WP 254 79 [(0, .ref 117), (1, .long y111), (3, iV z114)] [] _ _ _ _
              refine wp_rv jF_254_79 ?_
              have b126 := GI.b g109 117 2 kd117 (lo := 0) (hi := 1601) rfl
              have q127 : (τ123.1 117 2) = (τ108.1 117 2) := (FR.at f125 117 2 rfl)
              have q128 : (τ123.1 117 5) = (τ108.1 117 5) := (FR.at f125 117 5 rfl)
              exact ⟨rfl, g124, (FR.up (FR.up (FR.up (FR.up f5 f23 sb_Wsgn_Wlw) f97 sb_Wtak_Wlw) f110 sb_Wsp_Wlw) f125 sb_Wrd_Wlw), (by omega), (by omega), (by omega)⟩
          · intro h117
            replace p106 := p106 (by omega)
            replace p107 := p107 (by omega)
            refine wp_il1 jF_254_53 rfl rfl (pc2 := 54) ?_
            refine wp_ic jF_254_54 rfl (pc2 := 55) ?_
            refine wp_i_ne jF_254_55 (m_rgb h115 rfl) (m_rgl rfl) rfl (pc2 := 58) ?_ ?_
            · intro h129
              refine wp_al1 jF_254_67 rfl rfl (pc2 := 68) ?_
              refine wp_gi jF_254_68 kd117 (by decide) rfl rfl rfl (pc2 := 71) ?_
              refine wp_z_ne jF_254_71 (m_rgb b116 rfl) rfl (pc2 := 74) ?_ ?_
              · intro h130
                refine wp_rv jF_254_79 ?_
                have b131 := GI.b g109 117 2 kd117 (lo := 0) (hi := 1601) rfl
                exact ⟨rfl, g109, (FR.up (FR.up (FR.up f5 f23 sb_Wsgn_Wlw) f97 sb_Wtak_Wlw) f110 sb_Wsp_Wlw), (by omega), (by omega), (by omega)⟩
              · intro h130
                refine wp_al1 jF_254_74 rfl rfl (pc2 := 75) ?_
                refine wp_il1 jF_254_75 rfl rfl (pc2 := 76) ?_
                refine wp_cV (as := [iV z114]) (rest := []) (a := 117) (mx := 2) (ci := 12) jF_254_76 kd117 (by decide) rfl rfl rfl rfl rfl (by omega) (by omega) rfl (pc2 := 79) ?_
                have q132 : (τ108.1 117 44) = (τ3.1 117 44) := ((FR.at f110 117 44 rfl).trans ((FR.at f97 117 44 rfl).trans (FR.at f23 117 44 rfl)))
                refine wp_use (m_255 τ108 g109 z114 (by omega) (by omega) (by omega) _ _ (by omega) (by omega)) ?_
                rintro _ τ135 ⟨rfl, g136, f137, p133, p134⟩
                show WP 254 79 [(0, .ref 117), (1, .long y111), (3, iV z114)] [] _ _ _ _
                refine wp_rv jF_254_79 ?_
                have b138 := GI.b g109 117 2 kd117 (lo := 0) (hi := 1601) rfl
                have q139 : (τ135.1 117 2) = (τ108.1 117 2) := (FR.at f137 117 2 rfl)
                have q140 : (τ135.1 117 5) = (τ108.1 117 5) := (FR.at f137 117 5 rfl)
                exact ⟨rfl, g136, (FR.up (FR.up (FR.up (FR.up f5 f23 sb_Wsgn_Wlw) f97 sb_Wtak_Wlw) f110 sb_Wsp_Wlw) f137 sb_Wrd_Wlw), (by omega), (by omega), (by omega)⟩
            · intro h129
              refine wp_al1 jF_254_58 rfl rfl (pc2 := 59) ?_
              refine wp_ic jF_254_59 rfl (pc2 := 60) ?_
              refine wp_al1 jF_254_60 rfl rfl (pc2 := 61) ?_
              have b141 := GI.b g109 117 28 kd117 (lo := (-2147483648)) (hi := 2147483647) rfl
              refine wp_gi jF_254_61 kd117 (by decide) rfl rfl rfl (pc2 := 64) ?_
              refine wp_cV (as := [iV 3, iV (τ108.1 117 28)]) (rest := []) (a := 117) (mx := 3) (ci := 12) jF_254_64 kd117 (by decide) rfl rfl rfl rfl rfl (by omega) (by omega) rfl (pc2 := 67) ?_
              refine wp_use (m_218 τ108 g109 3 (by omega) (by omega) (τ108.1 117 28) (by omega) (by omega)  _ _ (by omega) (by omega)) ?_
              rintro _ τ144 ⟨rfl, g145, f146, p142, p143⟩
              clear p142
              replace p143 := p143 (by omega)
              show WP 254 67 [(0, .ref 117), (1, .long y111), (3, iV z114)] [] _ _ _ _
              refine wp_al1 jF_254_67 rfl rfl (pc2 := 68) ?_
              have b147 := GI.b g145 117 5 kd117 (lo := (-2147483648)) (hi := 2147483647) rfl
              refine wp_gi jF_254_68 kd117 (by decide) rfl rfl rfl (pc2 := 71) ?_
              refine wp_z_ne jF_254_71 (m_rgb b147 rfl) rfl (pc2 := 74) ?_ ?_
              · intro h148
                refine wp_rv jF_254_79 ?_
                have b149 := GI.b g109 117 2 kd117 (lo := 0) (hi := 1601) rfl
                have q150 : (τ144.1 117 2) = (τ108.1 117 2) := (FR.at f146 117 2 rfl)
                exact ⟨rfl, g145, (FR.up (FR.up (FR.up (FR.up f5 f23 sb_Wsgn_Wlw) f97 sb_Wtak_Wlw) f110 sb_Wsp_Wlw) f146 sb_Wbad_Wlw), (by omega), (by omega), (by omega)⟩
              · intro h148
                refine wp_al1 jF_254_74 rfl rfl (pc2 := 75) ?_
                refine wp_il1 jF_254_75 rfl rfl (pc2 := 76) ?_
                refine wp_cV (as := [iV z114]) (rest := []) (a := 117) (mx := 2) (ci := 12) jF_254_76 kd117 (by decide) rfl rfl rfl rfl rfl (by omega) (by omega) rfl (pc2 := 79) ?_
                have q151 : (τ144.1 117 44) = (τ3.1 117 44) := ((FR.at f146 117 44 rfl).trans ((FR.at f110 117 44 rfl).trans ((FR.at f97 117 44 rfl).trans (FR.at f23 117 44 rfl))))
                refine wp_use (m_255 τ144 g145 z114 (by omega) (by omega) (by omega) _ _ (by omega) (by omega)) ?_
                rintro _ τ154 ⟨rfl, g155, f156, p152, p153⟩
                show WP 254 79 [(0, .ref 117), (1, .long y111), (3, iV z114)] [] _ _ _ _
                refine wp_rv jF_254_79 ?_
                have b157 := GI.b g109 117 2 kd117 (lo := 0) (hi := 1601) rfl
                have q158 : (τ154.1 117 2) = (τ108.1 117 2) := ((FR.at f156 117 2 rfl).trans (FR.at f146 117 2 rfl))
                have q159 : (τ154.1 117 5) = (τ144.1 117 5) := (FR.at f156 117 5 rfl)
                exact ⟨rfl, g155, (FR.up (FR.up (FR.up (FR.up (FR.up f5 f23 sb_Wsgn_Wlw) f97 sb_Wtak_Wlw) f110 sb_Wsp_Wlw) f146 sb_Wbad_Wlw) f156 sb_Wrd_Wlw), (by omega), (by omega), (by omega)⟩
        · intro h101
          refine wp_rv jF_254_34 ?_
          have b160 := GI.b g96 117 2 kd117 (lo := 0) (hi := 1601) rfl
          have q161 : (τ95.1 117 5) = (τ21.1 117 5) := (FR.at f97 117 5 rfl)
          exact ⟨rfl, g96, (FR.up (FR.up f5 f23 sb_Wsgn_Wlw) f97 sb_Wtak_Wlw), (by omega), (by omega), (by omega)⟩
      · intro h100
        replace p92 := p92 (by omega)
        clear p93
        replace p94 := p94 (by omega)
        refine wp_al1 jF_254_18 rfl rfl (pc2 := 19) ?_
        refine wp_bi jF_254_19 (by decide) rfl (pc2 := 21) ?_
        refine wp_cV (as := [iV 20]) (rest := []) (a := 117) (mx := 2) (ci := 12) jF_254_21 kd117 (by decide) rfl rfl rfl rfl rfl (by omega) (by omega) rfl (pc2 := 24) ?_
        have q162 : (τ95.1 117 44) = (τ3.1 117 44) := ((FR.at f97 117 44 rfl).trans (FR.at f23 117 44 rfl))
        refine wp_use (m_255 τ95 g96 20 (by omega) (by omega) (by omega) _ _ (by omega) (by omega)) ?_
        rintro _ τ165 ⟨rfl, g166, f167, p163, p164⟩
        show WP 254 24 [(0, .ref 117)] [] _ _ _ _
        refine wp_go jF_254_24 ?_
        have b168 := GI.b g96 117 2 kd117 (lo := 0) (hi := 1601) rfl
        have q169 : (τ165.1 117 2) = (τ95.1 117 2) := (FR.at f167 117 2 rfl)
        have q170 : (τ165.1 117 5) = (τ21.1 117 5) := ((FR.at f167 117 5 rfl).trans (FR.at f97 117 5 rfl))
        exact ih9 () τ165 ⟨g166, (FR.up (FR.up (FR.up f5 f23 sb_Wsgn_Wlw) f97 sb_Wtak_Wlw) f167 sb_Wrd_Wlw), (by omega), (by omega), (by omega)⟩ (by show Int.toNat (1700 - (τ165.1 117 2)) < Int.toNat (1700 - (τ3.1 117 2)); omega)
