set_option maxHeartbeats 4000000 in
set_option maxRecDepth 20000 in
/-- M.sentenceTold -/
theorem m_253 (σ : jM) (hg : GI σ)   (fr lo : Nat) (hfr : 5 ≤ fr) (hlo : 109 ≤ lo) : WP 253 0 (lv_args 0 [.ref 117]) [] fr lo σ (fun v τ => v = none ∧ GI τ ∧ FR Wlw σ τ ∧ ((σ.1 117 2) ≤ (τ.1 117 2)) ∧ ((σ.1 117 5) ≠ 0 → (τ.1 117 5) = (σ.1 117 5)) ∧ ((τ.1 117 5) = 0 → (σ.1 117 5) = 0) ∧ ((τ.1 117 5) = 0 → (rl τ) = 22) ∧ ((τ.1 117 5) = 0 → (σ.1 117 2) < (τ.1 117 2))) := by
  show WP 253 0 [(0, .ref 117)] [] _ _ _ _
  refine wp_ic jF_253_0 rfl (pc2 := 1) ?_
  refine wp_is1 (lv2 := [(0, .ref 117), (1, iV 0)]) jF_253_1 rfl rfl rfl (pc2 := 2) ?_
  refine wp_al1 jF_253_2 rfl rfl (pc2 := 3) ?_
  refine wp_cV (as := []) (rest := []) (a := 117) (mx := 4) (ci := 12) jF_253_3 kd117 (by decide) rfl rfl rfl rfl rfl (by omega) (by omega) rfl (pc2 := 6) ?_
  have b1 := GI.b hg 117 2 kd117 (lo := 0) (hi := 1601) rfl
  have b2 := GI.b hg 117 5 kd117 (lo := (-2147483648)) (hi := 2147483647) rfl
  refine wp_use (m_254 σ hg   _ _ (by omega) (by omega)) ?_
  rintro _ τ6 ⟨rfl, g7, f8, p3, p4, p5⟩
  show WP 253 6 [(0, .ref 117), (1, iV 0)] [] _ _ _ _
  have b9 := GI.b g7 117 2 kd117 (lo := 0) (hi := 1601) rfl
  have b10 := GI.b g7 117 5 kd117 (lo := (-2147483648)) (hi := 2147483647) rfl
  refine wp_loop (α := Int) (fun a => [(0, .ref 117), (1, iV (a))]) (fun a τ => (0 ≤ a ∧ a ≤ 1) ∧ GI τ ∧ FR Wlw τ6 τ ∧ ((τ6.1 117 2) ≤ (τ.1 117 2)) ∧ ((τ6.1 117 5) ≠ 0 → (τ.1 117 5) = (τ6.1 117 5)) ∧ ((τ.1 117 5) = 0 → (τ6.1 117 5) = 0)) (fun a τ => Int.toNat (1700 - (τ.1 117 2))) (0) τ6 ?_ ?_
  · skip
    exact ⟨⟨by omega, by omega⟩, g7, FR.rf, (by omega), (by omega), (by omega)⟩
  · rintro x11 τ13 ⟨h12, g14, f15, p16, p17, p18⟩ ih19
    have b20 := GI.b g14 117 2 kd117 (lo := 0) (hi := 1601) rfl
    have b21 := GI.b g14 117 5 kd117 (lo := (-2147483648)) (hi := 2147483647) rfl
    show WP 253 6 [(0, .ref 117), (1, iV x11)] [] _ _ _ _
    refine wp_al1 jF_253_6 rfl rfl (pc2 := 7) ?_
    refine wp_cV (as := []) (rest := []) (a := 117) (mx := 2) (ci := 12) jF_253_7 kd117 (by decide) rfl rfl rfl rfl rfl (by omega) (by omega) rfl (pc2 := 10) ?_
    have b22 := GI.b g14 117 44 kd117 (lo := 0) (hi := 60) rfl
    refine wp_use (m_252 τ13 g14   _ _ (by omega) (by omega)) ?_
    rintro _ τ31 ⟨z34, rfl, h35, g32, f33, p23, p24, p25, p26, p27, p28, p29, p30⟩
    show WP 253 10 [(0, .ref 117), (1, iV x11)] [iV z34] _ _ _ _
    refine wp_z_eq jF_253_10 (m_rgb h35 rfl) rfl (pc2 := 13) ?_ ?_
    · intro h36
      clear p25
      replace p26 := p26 (by omega)
      clear p29
      clear p30
      refine wp_al1 jF_253_119 rfl rfl (pc2 := 120) ?_
      refine wp_bi jF_253_120 (by decide) rfl (pc2 := 122) ?_
      refine wp_cV (as := [iV 46]) (rest := []) (a := 117) (mx := 2) (ci := 12) jF_253_122 kd117 (by decide) rfl rfl rfl rfl rfl (by omega) (by omega) rfl (pc2 := 125) ?_
      have b37 := GI.b g32 117 2 kd117 (lo := 0) (hi := 1601) rfl
      have b38 := GI.b hg 117 3 kd117 (lo := 0) (hi := 1600) rfl
      have q39 : (τ31.1 117 3) = (σ.1 117 3) := ((FR.at f33 117 3 rfl).trans ((FR.at f15 117 3 rfl).trans (FR.at f8 117 3 rfl)))
      have b40 := GI.b g32 117 5 kd117 (lo := (-2147483648)) (hi := 2147483647) rfl
      refine wp_use (m_238 τ31 g32 46 (by omega) (by omega)  _ _ (by omega) (by omega)) ?_
      rintro _ τ44 ⟨rfl, g45, f46, p41, p42, p43⟩
      replace p42 := p42 (by omega)
      show WP 253 125 [(0, .ref 117), (1, iV x11)] [] _ _ _ _
      refine wp_al1 jF_253_125 rfl rfl (pc2 := 126) ?_
      have b47 := GI.b g45 117 5 kd117 (lo := (-2147483648)) (hi := 2147483647) rfl
      refine wp_gi jF_253_126 kd117 (by decide) rfl rfl rfl (pc2 := 129) ?_
      refine wp_z_ne jF_253_129 (m_rgb b47 rfl) rfl (pc2 := 132) ?_ ?_
      · intro h48
        clear p43
        refine wp_rv jF_253_138 ?_
        have q49 : (rl τ44) = (rl τ13) := ((rl_fr f46 rfl (fun _ => rfl)).trans (rl_fr f33 rfl (fun _ => rfl)))
        have b50 := GI.b g45 117 2 kd117 (lo := 0) (hi := 1601) rfl
        exact ⟨rfl, g45, (FR.up (FR.up (FR.up f8 f15 sb_Wlw_Wlw) f33 sb_Wsgn_Wlw) f46 sb_Wsgn_Wlw), (by omega), (by omega), (by omega), (by omega), (by omega)⟩
      · intro h48
        replace p43 := p43 (by omega)
        refine wp_al1 jF_253_132 rfl rfl (pc2 := 133) ?_
        refine wp_bi jF_253_133 (by decide) rfl (pc2 := 135) ?_
        refine wp_cV (as := [iV 22]) (rest := []) (a := 117) (mx := 2) (ci := 12) jF_253_135 kd117 (by decide) rfl rfl rfl rfl rfl (by omega) (by omega) rfl (pc2 := 138) ?_
        have q51 : (τ44.1 117 44) = (τ13.1 117 44) := ((FR.at f46 117 44 rfl).trans (FR.at f33 117 44 rfl))
        refine wp_use (m_255 τ44 g45 22 (by omega) (by omega) (by omega) _ _ (by omega) (by omega)) ?_
        rintro _ τ54 ⟨rfl, g55, f56, p52, p53⟩
        show WP 253 138 [(0, .ref 117), (1, iV x11)] [] _ _ _ _
        refine wp_rv jF_253_138 ?_
        have b57 := GI.b g45 117 2 kd117 (lo := 0) (hi := 1601) rfl
        have q58 : (τ54.1 117 2) = (τ44.1 117 2) := (FR.at f56 117 2 rfl)
        have q59 : (τ54.1 117 5) = (τ44.1 117 5) := (FR.at f56 117 5 rfl)
        exact ⟨rfl, g55, (FR.up (FR.up (FR.up (FR.up f8 f15 sb_Wlw_Wlw) f33 sb_Wsgn_Wlw) f46 sb_Wsgn_Wlw) f56 sb_Wrd_Wlw), (by omega), (by omega), (by omega), (by omega), (by omega)⟩
    · intro h36
      replace p25 := p25 (by omega)
      clear p26
      replace p29 := p29 (by omega)
      replace p30 := p30 (by omega)
      replace p18 := p18 (by omega)
      clear p24
      replace p5 := p5 (by omega)
      clear p17
      clear p4
      refine wp_al1 jF_253_13 rfl rfl (pc2 := 14) ?_
      refine wp_cV (as := []) (rest := []) (a := 117) (mx := 1) (ci := 12) jF_253_14 kd117 (by decide) rfl rfl rfl rfl rfl (by omega) (by omega) rfl (pc2 := 17) ?_
      have b60 := GI.b g32 117 2 kd117 (lo := 0) (hi := 1601) rfl
      have b61 := GI.b hg 117 3 kd117 (lo := 0) (hi := 1600) rfl
      have q62 : (τ31.1 117 3) = (σ.1 117 3) := ((FR.at f33 117 3 rfl).trans ((FR.at f15 117 3 rfl).trans (FR.at f8 117 3 rfl)))
      refine wp_use (m_216 τ31 g32   _ _ (by omega) (by omega)) ?_
      rintro _ τ69 ⟨z72, rfl, h73, g70, f71, p63, p64, p65, p66, p67, p68⟩
      have b74 := GI.b hg 118 (τ69.1 117 2).toNat kd118 (lo := 0) (hi := 255) rfl
      have q75 : (τ31.1 118 (τ69.1 117 2).toNat) = (σ.1 118 (τ69.1 117 2).toNat) := ((FR.at f33 118 (τ69.1 117 2).toNat rfl).trans ((FR.at f15 118 (τ69.1 117 2).toNat rfl).trans (FR.at f8 118 (τ69.1 117 2).toNat rfl)))
      replace p67 := p67 (by omega)
      show WP 253 17 [(0, .ref 117), (1, iV x11)] [iV z72] _ _ _ _
      refine wp_bi jF_253_17 (by decide) rfl (pc2 := 19) ?_
      refine wp_i_eq jF_253_19 (m_rgb h73 rfl) (m_rgl rfl) rfl (pc2 := 22) ?_ ?_
      · intro h76
        replace p63 := p63 (by omega)
        replace p68 := p68 (by omega)
        refine wp_al1 jF_253_119 rfl rfl (pc2 := 120) ?_
        refine wp_bi jF_253_120 (by decide) rfl (pc2 := 122) ?_
        refine wp_cV (as := [iV 46]) (rest := []) (a := 117) (mx := 2) (ci := 12) jF_253_122 kd117 (by decide) rfl rfl rfl rfl rfl (by omega) (by omega) rfl (pc2 := 125) ?_
        have b77 := GI.b g70 117 2 kd117 (lo := 0) (hi := 1601) rfl
        have q78 : (τ69.1 117 3) = (σ.1 117 3) := ((FR.at f71 117 3 rfl).trans ((FR.at f33 117 3 rfl).trans ((FR.at f15 117 3 rfl).trans (FR.at f8 117 3 rfl))))
        have b79 := GI.b g32 117 5 kd117 (lo := (-2147483648)) (hi := 2147483647) rfl
        have q80 : (τ69.1 117 5) = (τ31.1 117 5) := (FR.at f71 117 5 rfl)
        refine wp_use (m_238 τ69 g70 46 (by omega) (by omega)  _ _ (by omega) (by omega)) ?_
        rintro _ τ84 ⟨rfl, g85, f86, p81, p82, p83⟩
        show WP 253 125 [(0, .ref 117), (1, iV x11)] [] _ _ _ _
        refine wp_al1 jF_253_125 rfl rfl (pc2 := 126) ?_
        have b87 := GI.b g85 117 5 kd117 (lo := (-2147483648)) (hi := 2147483647) rfl
        refine wp_gi jF_253_126 kd117 (by decide) rfl rfl rfl (pc2 := 129) ?_
        refine wp_z_ne jF_253_129 (m_rgb b87 rfl) rfl (pc2 := 132) ?_ ?_
        · intro h88
          clear p83
          refine wp_rv jF_253_138 ?_
          have q89 : (rl τ84) = (rl τ13) := ((rl_fr f86 rfl (fun _ => rfl)).trans ((rl_fr f71 rfl (fun _ => rfl)).trans (rl_fr f33 rfl (fun _ => rfl))))
          have b90 := GI.b g85 117 2 kd117 (lo := 0) (hi := 1601) rfl
          exact ⟨rfl, g85, (FR.up (FR.up (FR.up (FR.up f8 f15 sb_Wlw_Wlw) f33 sb_Wsgn_Wlw) f71 sb_Wat_Wlw) f86 sb_Wsgn_Wlw), (by omega), (by omega), (by omega), (by omega), (by omega)⟩
        · intro h88
          replace p83 := p83 (by omega)
          refine wp_al1 jF_253_132 rfl rfl (pc2 := 133) ?_
          refine wp_bi jF_253_133 (by decide) rfl (pc2 := 135) ?_
          refine wp_cV (as := [iV 22]) (rest := []) (a := 117) (mx := 2) (ci := 12) jF_253_135 kd117 (by decide) rfl rfl rfl rfl rfl (by omega) (by omega) rfl (pc2 := 138) ?_
          have q91 : (τ84.1 117 44) = (τ13.1 117 44) := ((FR.at f86 117 44 rfl).trans ((FR.at f71 117 44 rfl).trans (FR.at f33 117 44 rfl)))
          refine wp_use (m_255 τ84 g85 22 (by omega) (by omega) (by omega) _ _ (by omega) (by omega)) ?_
          rintro _ τ94 ⟨rfl, g95, f96, p92, p93⟩
          show WP 253 138 [(0, .ref 117), (1, iV x11)] [] _ _ _ _
          refine wp_rv jF_253_138 ?_
          have b97 := GI.b g85 117 2 kd117 (lo := 0) (hi := 1601) rfl
          have q98 : (τ94.1 117 2) = (τ84.1 117 2) := (FR.at f96 117 2 rfl)
          have q99 : (τ94.1 117 5) = (τ84.1 117 5) := (FR.at f96 117 5 rfl)
          exact ⟨rfl, g95, (FR.up (FR.up (FR.up (FR.up (FR.up f8 f15 sb_Wlw_Wlw) f33 sb_Wsgn_Wlw) f71 sb_Wat_Wlw) f86 sb_Wsgn_Wlw) f96 sb_Wrd_Wlw), (by omega), (by omega), (by omega), (by omega), (by omega)⟩
      · intro h76
        refine wp_al1 jF_253_22 rfl rfl (pc2 := 23) ?_
        refine wp_al1 jF_253_23 rfl rfl (pc2 := 24) ?_
        refine wp_gr (b := 134) jF_253_24 kd117 (by decide) (c := 234) rfl rfl rfl (pc2 := 27) ?_
        refine wp_cV (as := [.ref 134]) (rest := []) (a := 117) (mx := 2) (ci := 12) jF_253_27 kd117 (by decide) rfl rfl rfl rfl rfl (by omega) (by omega) rfl (pc2 := 30) ?_
        have b100 := GI.b g70 117 2 kd117 (lo := 0) (hi := 1601) rfl
        have q101 : (τ69.1 117 3) = (σ.1 117 3) := ((FR.at f71 117 3 rfl).trans ((FR.at f33 117 3 rfl).trans ((FR.at f15 117 3 rfl).trans (FR.at f8 117 3 rfl))))
        have b102 := GI.b g32 117 5 kd117 (lo := (-2147483648)) (hi := 2147483647) rfl
        have q103 : (τ69.1 117 5) = (τ31.1 117 5) := (FR.at f71 117 5 rfl)
        refine wp_use (m_219 τ69 g70 134 3 cw134.1 cw134.2 (by decide)  _ _ (by omega) (by omega)) ?_
        rintro _ τ108 ⟨z111, rfl, h112, g109, f110, p104, p105, p106, p107⟩
        replace p106 := p106 (by omega)
        replace p107 := p107 (by omega)
        show WP 253 30 [(0, .ref 117), (1, iV x11)] [iV z111] _ _ _ _
        refine wp_z_eq jF_253_30 (m_rgb h112 rfl) rfl (pc2 := 33) ?_ ?_
        · intro h113
          clear p105
          replace p106 := p106 (by omega)
          clear p107
          refine wp_al1 jF_253_38 rfl rfl (pc2 := 39) ?_
          refine wp_al1 jF_253_39 rfl rfl (pc2 := 40) ?_
          refine wp_gr (b := 135) jF_253_40 kd117 (by decide) (c := 235) rfl rfl rfl (pc2 := 43) ?_
          refine wp_cV (as := [.ref 135]) (rest := []) (a := 117) (mx := 2) (ci := 12) jF_253_43 kd117 (by decide) rfl rfl rfl rfl rfl (by omega) (by omega) rfl (pc2 := 46) ?_
          have b114 := GI.b g109 117 2 kd117 (lo := 0) (hi := 1601) rfl
          have q115 : (τ108.1 117 3) = (σ.1 117 3) := ((FR.at f110 117 3 rfl).trans ((FR.at f71 117 3 rfl).trans ((FR.at f33 117 3 rfl).trans ((FR.at f15 117 3 rfl).trans (FR.at f8 117 3 rfl)))))
          have q116 : (τ108.1 117 5) = (τ31.1 117 5) := ((FR.at f110 117 5 rfl).trans (FR.at f71 117 5 rfl))
          refine wp_use (m_219 τ108 g109 135 2 cw135.1 cw135.2 (by decide)  _ _ (by omega) (by omega)) ?_
          rintro _ τ121 ⟨z124, rfl, h125, g122, f123, p117, p118, p119, p120⟩
          replace p119 := p119 (by omega)
          replace p120 := p120 (by omega)
          show WP 253 46 [(0, .ref 117), (1, iV x11)] [iV z124] _ _ _ _
          refine wp_z_eq jF_253_46 (m_rgb h125 rfl) rfl (pc2 := 49) ?_ ?_
          · intro h126
            clear p118
            replace p119 := p119 (by omega)
            clear p120
            refine wp_il1 jF_253_54 rfl rfl (pc2 := 55) ?_
            refine wp_z_ne jF_253_55 (m_rgb h12 rfl) rfl (pc2 := 58) ?_ ?_
            · intro h127
              refine wp_ic jF_253_74 rfl (pc2 := 75) ?_
              refine wp_is1 (lv2 := [(0, .ref 117), (1, iV x11), (2, iV (-1))]) jF_253_75 rfl rfl rfl (pc2 := 76) ?_
              refine wp_il1 jF_253_76 rfl rfl (pc2 := 77) ?_
              refine wp_ic jF_253_77 rfl (pc2 := 78) ?_
              refine wp_i_ne jF_253_78 (m_rgl rfl) (m_rgl rfl) rfl (pc2 := 81) ?_ ?_
              · intro h128; exfalso; omega
              · intro h128
                refine wp_al1 jF_253_81 rfl rfl (pc2 := 82) ?_
                refine wp_ic jF_253_82 rfl (pc2 := 83) ?_
                refine wp_al1 jF_253_83 rfl rfl (pc2 := 84) ?_
                have b129 := GI.b g122 117 2 kd117 (lo := 0) (hi := 1601) rfl
                refine wp_gi jF_253_84 kd117 (by decide) rfl rfl rfl (pc2 := 87) ?_
                refine wp_cV (as := [iV 1, iV (τ121.1 117 2)]) (rest := []) (a := 117) (mx := 3) (ci := 12) jF_253_87 kd117 (by decide) rfl rfl rfl rfl rfl (by omega) (by omega) rfl (pc2 := 90) ?_
                have q130 : (τ121.1 117 5) = (τ31.1 117 5) := ((FR.at f123 117 5 rfl).trans ((FR.at f110 117 5 rfl).trans (FR.at f71 117 5 rfl)))
                refine wp_use (m_218 τ121 g122 1 (by omega) (by omega) (τ121.1 117 2) (by omega) (by omega)  _ _ (by omega) (by omega)) ?_
                rintro _ τ133 ⟨rfl, g134, f135, p131, p132⟩
                show WP 253 90 [(0, .ref 117), (1, iV x11), (2, iV (-1))] [] _ _ _ _
                refine wp_rv jF_253_90 ?_
                have q136 : (rl τ133) = (rl τ13) := ((rl_fr f135 rfl (fun _ => rfl)).trans ((rl_fr f123 rfl (fun _ => rfl)).trans ((rl_fr f110 rfl (fun _ => rfl)).trans ((rl_fr f71 rfl (fun _ => rfl)).trans (rl_fr f33 rfl (fun _ => rfl))))))
                have q137 : (τ133.1 117 2) = (τ121.1 117 2) := (FR.at f135 117 2 rfl)
                have b138 := GI.b g134 117 5 kd117 (lo := (-2147483648)) (hi := 2147483647) rfl
                exact ⟨rfl, g134, (FR.up (FR.up (FR.up (FR.up (FR.up (FR.up f8 f15 sb_Wlw_Wlw) f33 sb_Wsgn_Wlw) f71 sb_Wat_Wlw) f110 sb_Wtak_Wlw) f123 sb_Wtak_Wlw) f135 sb_Wbad_Wlw), (by omega), (by omega), (by omega), (by omega), (by omega)⟩
            · intro h127
              refine wp_al1 jF_253_58 rfl rfl (pc2 := 59) ?_
              refine wp_al1 jF_253_59 rfl rfl (pc2 := 60) ?_
              refine wp_gr (b := 137) jF_253_60 kd117 (by decide) (c := 237) rfl rfl rfl (pc2 := 63) ?_
              refine wp_cV (as := [.ref 137]) (rest := []) (a := 117) (mx := 2) (ci := 12) jF_253_63 kd117 (by decide) rfl rfl rfl rfl rfl (by omega) (by omega) rfl (pc2 := 66) ?_
              have b139 := GI.b g122 117 2 kd117 (lo := 0) (hi := 1601) rfl
              have q140 : (τ121.1 117 3) = (σ.1 117 3) := ((FR.at f123 117 3 rfl).trans ((FR.at f110 117 3 rfl).trans ((FR.at f71 117 3 rfl).trans ((FR.at f33 117 3 rfl).trans ((FR.at f15 117 3 rfl).trans (FR.at f8 117 3 rfl))))))
              have q141 : (τ121.1 117 5) = (τ31.1 117 5) := ((FR.at f123 117 5 rfl).trans ((FR.at f110 117 5 rfl).trans (FR.at f71 117 5 rfl)))
              refine wp_use (m_219 τ121 g122 137 6 cw137.1 cw137.2 (by decide)  _ _ (by omega) (by omega)) ?_
              rintro _ τ146 ⟨z149, rfl, h150, g147, f148, p142, p143, p144, p145⟩
              replace p144 := p144 (by omega)
              replace p145 := p145 (by omega)
              show WP 253 66 [(0, .ref 117), (1, iV x11)] [iV z149] _ _ _ _
              refine wp_z_eq jF_253_66 (m_rgb h150 rfl) rfl (pc2 := 69) ?_ ?_
              · intro h151
                clear p143
                replace p144 := p144 (by omega)
                clear p145
                refine wp_ic jF_253_74 rfl (pc2 := 75) ?_
                refine wp_is1 (lv2 := [(0, .ref 117), (1, iV x11), (2, iV (-1))]) jF_253_75 rfl rfl rfl (pc2 := 76) ?_
                refine wp_il1 jF_253_76 rfl rfl (pc2 := 77) ?_
                refine wp_ic jF_253_77 rfl (pc2 := 78) ?_
                refine wp_i_ne jF_253_78 (m_rgl rfl) (m_rgl rfl) rfl (pc2 := 81) ?_ ?_
                · intro h152; exfalso; omega
                · intro h152
                  refine wp_al1 jF_253_81 rfl rfl (pc2 := 82) ?_
                  refine wp_ic jF_253_82 rfl (pc2 := 83) ?_
                  refine wp_al1 jF_253_83 rfl rfl (pc2 := 84) ?_
                  have b153 := GI.b g147 117 2 kd117 (lo := 0) (hi := 1601) rfl
                  refine wp_gi jF_253_84 kd117 (by decide) rfl rfl rfl (pc2 := 87) ?_
                  refine wp_cV (as := [iV 1, iV (τ146.1 117 2)]) (rest := []) (a := 117) (mx := 3) (ci := 12) jF_253_87 kd117 (by decide) rfl rfl rfl rfl rfl (by omega) (by omega) rfl (pc2 := 90) ?_
                  have q154 : (τ146.1 117 5) = (τ31.1 117 5) := ((FR.at f148 117 5 rfl).trans ((FR.at f123 117 5 rfl).trans ((FR.at f110 117 5 rfl).trans (FR.at f71 117 5 rfl))))
                  refine wp_use (m_218 τ146 g147 1 (by omega) (by omega) (τ146.1 117 2) (by omega) (by omega)  _ _ (by omega) (by omega)) ?_
                  rintro _ τ157 ⟨rfl, g158, f159, p155, p156⟩
                  show WP 253 90 [(0, .ref 117), (1, iV x11), (2, iV (-1))] [] _ _ _ _
                  refine wp_rv jF_253_90 ?_
                  have q160 : (rl τ157) = (rl τ13) := ((rl_fr f159 rfl (fun _ => rfl)).trans ((rl_fr f148 rfl (fun _ => rfl)).trans ((rl_fr f123 rfl (fun _ => rfl)).trans ((rl_fr f110 rfl (fun _ => rfl)).trans ((rl_fr f71 rfl (fun _ => rfl)).trans (rl_fr f33 rfl (fun _ => rfl)))))))
                  have q161 : (τ157.1 117 2) = (τ146.1 117 2) := (FR.at f159 117 2 rfl)
                  have b162 := GI.b g158 117 5 kd117 (lo := (-2147483648)) (hi := 2147483647) rfl
                  exact ⟨rfl, g158, (FR.up (FR.up (FR.up (FR.up (FR.up (FR.up (FR.up f8 f15 sb_Wlw_Wlw) f33 sb_Wsgn_Wlw) f71 sb_Wat_Wlw) f110 sb_Wtak_Wlw) f123 sb_Wtak_Wlw) f148 sb_Wtak_Wlw) f159 sb_Wbad_Wlw), (by omega), (by omega), (by omega), (by omega), (by omega)⟩
              · intro h151
                replace p143 := p143 (by omega)
                clear p144
                replace p145 := p145 (by omega)
                refine wp_bi jF_253_69 (by decide) rfl (pc2 := 71) ?_
                refine wp_go jF_253_71 ?_
                refine wp_is1 (lv2 := [(0, .ref 117), (1, iV x11), (2, iV 21)]) jF_253_75 rfl rfl rfl (pc2 := 76) ?_
                refine wp_il1 jF_253_76 rfl rfl (pc2 := 77) ?_
                refine wp_ic jF_253_77 rfl (pc2 := 78) ?_
                refine wp_i_ne jF_253_78 (m_rgl rfl) (m_rgl rfl) rfl (pc2 := 81) ?_ ?_
                · intro h163
                  refine wp_il1 jF_253_91 rfl rfl (pc2 := 92) ?_
                  refine wp_z_ne jF_253_92 ⟨by omega, by omega⟩ rfl (pc2 := 95) ?_ ?_
                  · intro h164; exfalso; omega
                  · intro h164
                    refine wp_il1 jF_253_95 rfl rfl (pc2 := 96) ?_
                    refine wp_bi jF_253_96 (by decide) rfl (pc2 := 98) ?_
                    refine wp_i_ne jF_253_98 (m_rgl rfl) (m_rgl rfl) rfl (pc2 := 101) ?_ ?_
                    · intro h165; exfalso; omega
                    · intro h165
                      refine wp_ic jF_253_101 rfl (pc2 := 102) ?_
                      refine wp_go jF_253_102 ?_
                      refine wp_is1 (lv2 := [(0, .ref 117), (1, iV 1), (2, iV 21)]) jF_253_106 rfl rfl rfl (pc2 := 107) ?_
                      refine wp_al1 jF_253_107 rfl rfl (pc2 := 108) ?_
                      refine wp_il1 jF_253_108 rfl rfl (pc2 := 109) ?_
                      refine wp_cV (as := [iV 21]) (rest := []) (a := 117) (mx := 2) (ci := 12) jF_253_109 kd117 (by decide) rfl rfl rfl rfl rfl (by omega) (by omega) rfl (pc2 := 112) ?_
                      have q166 : (τ146.1 117 44) = (τ13.1 117 44) := ((FR.at f148 117 44 rfl).trans ((FR.at f123 117 44 rfl).trans ((FR.at f110 117 44 rfl).trans ((FR.at f71 117 44 rfl).trans (FR.at f33 117 44 rfl)))))
                      refine wp_use (m_255 τ146 g147 21 (by omega) (by omega) (by omega) _ _ (by omega) (by omega)) ?_
                      rintro _ τ169 ⟨rfl, g170, f171, p167, p168⟩
                      show WP 253 112 [(0, .ref 117), (1, iV 1), (2, iV 21)] [] _ _ _ _
                      refine wp_al1 jF_253_112 rfl rfl (pc2 := 113) ?_
                      refine wp_cV (as := []) (rest := []) (a := 117) (mx := 4) (ci := 12) jF_253_113 kd117 (by decide) rfl rfl rfl rfl rfl (by omega) (by omega) rfl (pc2 := 116) ?_
                      have b172 := GI.b g147 117 2 kd117 (lo := 0) (hi := 1601) rfl
                      have q173 : (τ169.1 117 2) = (τ146.1 117 2) := (FR.at f171 117 2 rfl)
                      have q174 : (τ169.1 117 5) = (τ31.1 117 5) := ((FR.at f171 117 5 rfl).trans ((FR.at f148 117 5 rfl).trans ((FR.at f123 117 5 rfl).trans ((FR.at f110 117 5 rfl).trans (FR.at f71 117 5 rfl)))))
                      refine wp_use (m_254 τ169 g170   _ _ (by omega) (by omega)) ?_
                      rintro _ τ178 ⟨rfl, g179, f180, p175, p176, p177⟩
                      clear p176
                      show WP 253 116 [(0, .ref 117), (1, iV 1), (2, iV 21)] [] _ _ _ _
                      refine wp_go jF_253_116 ?_
                      have b181 := GI.b g179 117 2 kd117 (lo := 0) (hi := 1601) rfl
                      have b182 := GI.b g179 117 5 kd117 (lo := (-2147483648)) (hi := 2147483647) rfl
                      refine wp_less [0, 1] (lv2 := [(0, .ref 117), (1, iV 1)]) rfl rfl ?_
                      exact ih19 (1) τ178 ⟨⟨by omega, by omega⟩, g179, (FR.up (FR.up (FR.up (FR.up (FR.up (FR.up (FR.up f15 f33 sb_Wsgn_Wlw) f71 sb_Wat_Wlw) f110 sb_Wtak_Wlw) f123 sb_Wtak_Wlw) f148 sb_Wtak_Wlw) f171 sb_Wrd_Wlw) f180 sb_Wlw_Wlw), (by omega), (by omega), (by omega)⟩ (by show Int.toNat (1700 - (τ178.1 117 2)) < Int.toNat (1700 - (τ13.1 117 2)); omega)
                · intro h163; exfalso; omega
          · intro h126
            replace p118 := p118 (by omega)
            clear p119
            replace p120 := p120 (by omega)
            refine wp_bi jF_253_49 (by decide) rfl (pc2 := 51) ?_
            refine wp_go jF_253_51 ?_
            refine wp_is1 (lv2 := [(0, .ref 117), (1, iV x11), (2, iV 19)]) jF_253_75 rfl rfl rfl (pc2 := 76) ?_
            refine wp_il1 jF_253_76 rfl rfl (pc2 := 77) ?_
            refine wp_ic jF_253_77 rfl (pc2 := 78) ?_
            refine wp_i_ne jF_253_78 (m_rgl rfl) (m_rgl rfl) rfl (pc2 := 81) ?_ ?_
            · intro h183
              refine wp_il1 jF_253_91 rfl rfl (pc2 := 92) ?_
              refine wp_z_ne jF_253_92 (m_rgb h12 rfl) rfl (pc2 := 95) ?_ ?_
              · intro h184
                refine wp_ic jF_253_101 rfl (pc2 := 102) ?_
                refine wp_go jF_253_102 ?_
                refine wp_is1 (lv2 := [(0, .ref 117), (1, iV 1), (2, iV 19)]) jF_253_106 rfl rfl rfl (pc2 := 107) ?_
                refine wp_al1 jF_253_107 rfl rfl (pc2 := 108) ?_
                refine wp_il1 jF_253_108 rfl rfl (pc2 := 109) ?_
                refine wp_cV (as := [iV 19]) (rest := []) (a := 117) (mx := 2) (ci := 12) jF_253_109 kd117 (by decide) rfl rfl rfl rfl rfl (by omega) (by omega) rfl (pc2 := 112) ?_
                have q185 : (τ121.1 117 44) = (τ13.1 117 44) := ((FR.at f123 117 44 rfl).trans ((FR.at f110 117 44 rfl).trans ((FR.at f71 117 44 rfl).trans (FR.at f33 117 44 rfl))))
                refine wp_use (m_255 τ121 g122 19 (by omega) (by omega) (by omega) _ _ (by omega) (by omega)) ?_
                rintro _ τ188 ⟨rfl, g189, f190, p186, p187⟩
                show WP 253 112 [(0, .ref 117), (1, iV 1), (2, iV 19)] [] _ _ _ _
                refine wp_al1 jF_253_112 rfl rfl (pc2 := 113) ?_
                refine wp_cV (as := []) (rest := []) (a := 117) (mx := 4) (ci := 12) jF_253_113 kd117 (by decide) rfl rfl rfl rfl rfl (by omega) (by omega) rfl (pc2 := 116) ?_
                have b191 := GI.b g122 117 2 kd117 (lo := 0) (hi := 1601) rfl
                have q192 : (τ188.1 117 2) = (τ121.1 117 2) := (FR.at f190 117 2 rfl)
                have q193 : (τ188.1 117 5) = (τ31.1 117 5) := ((FR.at f190 117 5 rfl).trans ((FR.at f123 117 5 rfl).trans ((FR.at f110 117 5 rfl).trans (FR.at f71 117 5 rfl))))
                refine wp_use (m_254 τ188 g189   _ _ (by omega) (by omega)) ?_
                rintro _ τ197 ⟨rfl, g198, f199, p194, p195, p196⟩
                clear p195
                show WP 253 116 [(0, .ref 117), (1, iV 1), (2, iV 19)] [] _ _ _ _
                refine wp_go jF_253_116 ?_
                have b200 := GI.b g198 117 2 kd117 (lo := 0) (hi := 1601) rfl
                have b201 := GI.b g198 117 5 kd117 (lo := (-2147483648)) (hi := 2147483647) rfl
                refine wp_less [0, 1] (lv2 := [(0, .ref 117), (1, iV 1)]) rfl rfl ?_
                exact ih19 (1) τ197 ⟨⟨by omega, by omega⟩, g198, (FR.up (FR.up (FR.up (FR.up (FR.up (FR.up f15 f33 sb_Wsgn_Wlw) f71 sb_Wat_Wlw) f110 sb_Wtak_Wlw) f123 sb_Wtak_Wlw) f190 sb_Wrd_Wlw) f199 sb_Wlw_Wlw), (by omega), (by omega), (by omega)⟩ (by show Int.toNat (1700 - (τ197.1 117 2)) < Int.toNat (1700 - (τ13.1 117 2)); omega)
              · intro h184
                refine wp_il1 jF_253_95 rfl rfl (pc2 := 96) ?_
                refine wp_bi jF_253_96 (by decide) rfl (pc2 := 98) ?_
                refine wp_i_ne jF_253_98 (m_rgl rfl) (m_rgl rfl) rfl (pc2 := 101) ?_ ?_
                · intro h202
                  refine wp_ic jF_253_105 rfl (pc2 := 106) ?_
                  refine wp_is1 (lv2 := [(0, .ref 117), (1, iV 0), (2, iV 19)]) jF_253_106 rfl rfl rfl (pc2 := 107) ?_
                  refine wp_al1 jF_253_107 rfl rfl (pc2 := 108) ?_
                  refine wp_il1 jF_253_108 rfl rfl (pc2 := 109) ?_
                  refine wp_cV (as := [iV 19]) (rest := []) (a := 117) (mx := 2) (ci := 12) jF_253_109 kd117 (by decide) rfl rfl rfl rfl rfl (by omega) (by omega) rfl (pc2 := 112) ?_
                  have q203 : (τ121.1 117 44) = (τ13.1 117 44) := ((FR.at f123 117 44 rfl).trans ((FR.at f110 117 44 rfl).trans ((FR.at f71 117 44 rfl).trans (FR.at f33 117 44 rfl))))
                  refine wp_use (m_255 τ121 g122 19 (by omega) (by omega) (by omega) _ _ (by omega) (by omega)) ?_
                  rintro _ τ206 ⟨rfl, g207, f208, p204, p205⟩
                  show WP 253 112 [(0, .ref 117), (1, iV 0), (2, iV 19)] [] _ _ _ _
                  refine wp_al1 jF_253_112 rfl rfl (pc2 := 113) ?_
                  refine wp_cV (as := []) (rest := []) (a := 117) (mx := 4) (ci := 12) jF_253_113 kd117 (by decide) rfl rfl rfl rfl rfl (by omega) (by omega) rfl (pc2 := 116) ?_
                  have b209 := GI.b g122 117 2 kd117 (lo := 0) (hi := 1601) rfl
                  have q210 : (τ206.1 117 2) = (τ121.1 117 2) := (FR.at f208 117 2 rfl)
                  have q211 : (τ206.1 117 5) = (τ31.1 117 5) := ((FR.at f208 117 5 rfl).trans ((FR.at f123 117 5 rfl).trans ((FR.at f110 117 5 rfl).trans (FR.at f71 117 5 rfl))))
                  refine wp_use (m_254 τ206 g207   _ _ (by omega) (by omega)) ?_
                  rintro _ τ215 ⟨rfl, g216, f217, p212, p213, p214⟩
                  clear p213
                  show WP 253 116 [(0, .ref 117), (1, iV 0), (2, iV 19)] [] _ _ _ _
                  refine wp_go jF_253_116 ?_
                  have b218 := GI.b g216 117 2 kd117 (lo := 0) (hi := 1601) rfl
                  have b219 := GI.b g216 117 5 kd117 (lo := (-2147483648)) (hi := 2147483647) rfl
                  refine wp_less [0, 1] (lv2 := [(0, .ref 117), (1, iV 0)]) rfl rfl ?_
                  exact ih19 (0) τ215 ⟨⟨by omega, by omega⟩, g216, (FR.up (FR.up (FR.up (FR.up (FR.up (FR.up f15 f33 sb_Wsgn_Wlw) f71 sb_Wat_Wlw) f110 sb_Wtak_Wlw) f123 sb_Wtak_Wlw) f208 sb_Wrd_Wlw) f217 sb_Wlw_Wlw), (by omega), (by omega), (by omega)⟩ (by show Int.toNat (1700 - (τ215.1 117 2)) < Int.toNat (1700 - (τ13.1 117 2)); omega)
                · intro h202; exfalso; omega
            · intro h183; exfalso; omega
        · intro h113
          replace p105 := p105 (by omega)
          clear p106
          replace p107 := p107 (by omega)
          refine wp_bi jF_253_33 (by decide) rfl (pc2 := 35) ?_
          refine wp_go jF_253_35 ?_
          refine wp_is1 (lv2 := [(0, .ref 117), (1, iV x11), (2, iV 18)]) jF_253_75 rfl rfl rfl (pc2 := 76) ?_
          refine wp_il1 jF_253_76 rfl rfl (pc2 := 77) ?_
          refine wp_ic jF_253_77 rfl (pc2 := 78) ?_
          refine wp_i_ne jF_253_78 (m_rgl rfl) (m_rgl rfl) rfl (pc2 := 81) ?_ ?_
          · intro h220
            refine wp_il1 jF_253_91 rfl rfl (pc2 := 92) ?_
            refine wp_z_ne jF_253_92 (m_rgb h12 rfl) rfl (pc2 := 95) ?_ ?_
            · intro h221
              refine wp_ic jF_253_101 rfl (pc2 := 102) ?_
              refine wp_go jF_253_102 ?_
              refine wp_is1 (lv2 := [(0, .ref 117), (1, iV 1), (2, iV 18)]) jF_253_106 rfl rfl rfl (pc2 := 107) ?_
              refine wp_al1 jF_253_107 rfl rfl (pc2 := 108) ?_
              refine wp_il1 jF_253_108 rfl rfl (pc2 := 109) ?_
              refine wp_cV (as := [iV 18]) (rest := []) (a := 117) (mx := 2) (ci := 12) jF_253_109 kd117 (by decide) rfl rfl rfl rfl rfl (by omega) (by omega) rfl (pc2 := 112) ?_
              have q222 : (τ108.1 117 44) = (τ13.1 117 44) := ((FR.at f110 117 44 rfl).trans ((FR.at f71 117 44 rfl).trans (FR.at f33 117 44 rfl)))
              refine wp_use (m_255 τ108 g109 18 (by omega) (by omega) (by omega) _ _ (by omega) (by omega)) ?_
              rintro _ τ225 ⟨rfl, g226, f227, p223, p224⟩
              show WP 253 112 [(0, .ref 117), (1, iV 1), (2, iV 18)] [] _ _ _ _
              refine wp_al1 jF_253_112 rfl rfl (pc2 := 113) ?_
              refine wp_cV (as := []) (rest := []) (a := 117) (mx := 4) (ci := 12) jF_253_113 kd117 (by decide) rfl rfl rfl rfl rfl (by omega) (by omega) rfl (pc2 := 116) ?_
              have b228 := GI.b g109 117 2 kd117 (lo := 0) (hi := 1601) rfl
              have q229 : (τ225.1 117 2) = (τ108.1 117 2) := (FR.at f227 117 2 rfl)
              have q230 : (τ225.1 117 5) = (τ31.1 117 5) := ((FR.at f227 117 5 rfl).trans ((FR.at f110 117 5 rfl).trans (FR.at f71 117 5 rfl)))
              refine wp_use (m_254 τ225 g226   _ _ (by omega) (by omega)) ?_
              rintro _ τ234 ⟨rfl, g235, f236, p231, p232, p233⟩
              clear p232
              show WP 253 116 [(0, .ref 117), (1, iV 1), (2, iV 18)] [] _ _ _ _
              refine wp_go jF_253_116 ?_
              have b237 := GI.b g235 117 2 kd117 (lo := 0) (hi := 1601) rfl
              have b238 := GI.b g235 117 5 kd117 (lo := (-2147483648)) (hi := 2147483647) rfl
              refine wp_less [0, 1] (lv2 := [(0, .ref 117), (1, iV 1)]) rfl rfl ?_
              exact ih19 (1) τ234 ⟨⟨by omega, by omega⟩, g235, (FR.up (FR.up (FR.up (FR.up (FR.up f15 f33 sb_Wsgn_Wlw) f71 sb_Wat_Wlw) f110 sb_Wtak_Wlw) f227 sb_Wrd_Wlw) f236 sb_Wlw_Wlw), (by omega), (by omega), (by omega)⟩ (by show Int.toNat (1700 - (τ234.1 117 2)) < Int.toNat (1700 - (τ13.1 117 2)); omega)
            · intro h221
              refine wp_il1 jF_253_95 rfl rfl (pc2 := 96) ?_
              refine wp_bi jF_253_96 (by decide) rfl (pc2 := 98) ?_
              refine wp_i_ne jF_253_98 (m_rgl rfl) (m_rgl rfl) rfl (pc2 := 101) ?_ ?_
              · intro h239
                refine wp_ic jF_253_105 rfl (pc2 := 106) ?_
                refine wp_is1 (lv2 := [(0, .ref 117), (1, iV 0), (2, iV 18)]) jF_253_106 rfl rfl rfl (pc2 := 107) ?_
                refine wp_al1 jF_253_107 rfl rfl (pc2 := 108) ?_
                refine wp_il1 jF_253_108 rfl rfl (pc2 := 109) ?_
                refine wp_cV (as := [iV 18]) (rest := []) (a := 117) (mx := 2) (ci := 12) jF_253_109 kd117 (by decide) rfl rfl rfl rfl rfl (by omega) (by omega) rfl (pc2 := 112) ?_
                have q240 : (τ108.1 117 44) = (τ13.1 117 44) := ((FR.at f110 117 44 rfl).trans ((FR.at f71 117 44 rfl).trans (FR.at f33 117 44 rfl)))
                refine wp_use (m_255 τ108 g109 18 (by omega) (by omega) (by omega) _ _ (by omega) (by omega)) ?_
                rintro _ τ243 ⟨rfl, g244, f245, p241, p242⟩
                show WP 253 112 [(0, .ref 117), (1, iV 0), (2, iV 18)] [] _ _ _ _
                refine wp_al1 jF_253_112 rfl rfl (pc2 := 113) ?_
                refine wp_cV (as := []) (rest := []) (a := 117) (mx := 4) (ci := 12) jF_253_113 kd117 (by decide) rfl rfl rfl rfl rfl (by omega) (by omega) rfl (pc2 := 116) ?_
                have b246 := GI.b g109 117 2 kd117 (lo := 0) (hi := 1601) rfl
                have q247 : (τ243.1 117 2) = (τ108.1 117 2) := (FR.at f245 117 2 rfl)
                have q248 : (τ243.1 117 5) = (τ31.1 117 5) := ((FR.at f245 117 5 rfl).trans ((FR.at f110 117 5 rfl).trans (FR.at f71 117 5 rfl)))
                refine wp_use (m_254 τ243 g244   _ _ (by omega) (by omega)) ?_
                rintro _ τ252 ⟨rfl, g253, f254, p249, p250, p251⟩
                clear p250
                show WP 253 116 [(0, .ref 117), (1, iV 0), (2, iV 18)] [] _ _ _ _
                refine wp_go jF_253_116 ?_
                have b255 := GI.b g253 117 2 kd117 (lo := 0) (hi := 1601) rfl
                have b256 := GI.b g253 117 5 kd117 (lo := (-2147483648)) (hi := 2147483647) rfl
                refine wp_less [0, 1] (lv2 := [(0, .ref 117), (1, iV 0)]) rfl rfl ?_
                exact ih19 (0) τ252 ⟨⟨by omega, by omega⟩, g253, (FR.up (FR.up (FR.up (FR.up (FR.up f15 f33 sb_Wsgn_Wlw) f71 sb_Wat_Wlw) f110 sb_Wtak_Wlw) f245 sb_Wrd_Wlw) f254 sb_Wlw_Wlw), (by omega), (by omega), (by omega)⟩ (by show Int.toNat (1700 - (τ252.1 117 2)) < Int.toNat (1700 - (τ13.1 117 2)); omega)
              · intro h239; exfalso; omega
          · intro h220; exfalso; omega
