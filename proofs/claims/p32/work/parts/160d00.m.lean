set_option maxHeartbeats 4000000 in
set_option maxRecDepth 20000 in
/-- M.qKind -/
theorem m_325 (σ : jM) (hg : GI σ)   (fr lo : Nat) (hfr : 4 ≤ fr) (hlo : 85 ≤ lo) : WP 325 0 (lv_args 0 [.ref 117]) [] fr lo σ (fun v τ => ∃ z : Int, v = some (iV z) ∧ (0 ≤ z ∧ z ≤ 5) ∧ GI τ ∧ FR Wask σ τ ∧ ((σ.1 117 2) ≤ (τ.1 117 2))) := by
  show WP 325 0 [(0, .ref 117)] [] _ _ _ _
  refine wp_al1 jF_325_0 rfl rfl (pc2 := 1) ?_
  refine wp_al1 jF_325_1 rfl rfl (pc2 := 2) ?_
  refine wp_gr (b := 157) jF_325_2 kd117 (by decide) (c := 257) rfl rfl rfl (pc2 := 5) ?_
  refine wp_cV (as := [.ref 157]) (rest := []) (a := 117) (mx := 2) (ci := 12) jF_325_5 kd117 (by decide) rfl rfl rfl rfl rfl (by omega) (by omega) rfl (pc2 := 8) ?_
  have b1 := GI.b hg 117 2 kd117 (lo := 0) (hi := 1601) rfl
  have b2 := GI.b hg 117 3 kd117 (lo := 0) (hi := 1600) rfl
  have b3 := GI.b hg 117 5 kd117 (lo := (-2147483648)) (hi := 2147483647) rfl
  refine wp_use (m_219 σ hg 157 5 cw157.1 cw157.2 (by decide)  _ _ (by omega) (by omega)) ?_
  rintro _ τ8 ⟨z11, rfl, h12, g9, f10, p4, p5, p6, p7⟩
  show WP 325 8 [(0, .ref 117)] [iV z11] _ _ _ _
  refine wp_z_eq jF_325_8 (m_rgb h12 rfl) rfl (pc2 := 11) ?_ ?_
  · intro h13
    clear p5
    refine wp_al1 jF_325_15 rfl rfl (pc2 := 16) ?_
    refine wp_al1 jF_325_16 rfl rfl (pc2 := 17) ?_
    refine wp_gr (b := 158) jF_325_17 kd117 (by decide) (c := 258) rfl rfl rfl (pc2 := 20) ?_
    refine wp_cV (as := [.ref 158]) (rest := []) (a := 117) (mx := 2) (ci := 12) jF_325_20 kd117 (by decide) rfl rfl rfl rfl rfl (by omega) (by omega) rfl (pc2 := 23) ?_
    have b14 := GI.b g9 117 2 kd117 (lo := 0) (hi := 1601) rfl
    have q15 : (τ8.1 117 3) = (σ.1 117 3) := (FR.at f10 117 3 rfl)
    have q16 : (τ8.1 117 5) = (σ.1 117 5) := (FR.at f10 117 5 rfl)
    refine wp_use (m_219 τ8 g9 158 4 cw158.1 cw158.2 (by decide)  _ _ (by omega) (by omega)) ?_
    rintro _ τ21 ⟨z24, rfl, h25, g22, f23, p17, p18, p19, p20⟩
    show WP 325 23 [(0, .ref 117)] [iV z24] _ _ _ _
    refine wp_z_eq jF_325_23 (m_rgb h25 rfl) rfl (pc2 := 26) ?_ ?_
    · intro h26
      clear p18
      refine wp_al1 jF_325_30 rfl rfl (pc2 := 31) ?_
      refine wp_al1 jF_325_31 rfl rfl (pc2 := 32) ?_
      refine wp_gr (b := 159) jF_325_32 kd117 (by decide) (c := 259) rfl rfl rfl (pc2 := 35) ?_
      refine wp_cV (as := [.ref 159]) (rest := []) (a := 117) (mx := 2) (ci := 12) jF_325_35 kd117 (by decide) rfl rfl rfl rfl rfl (by omega) (by omega) rfl (pc2 := 38) ?_
      have b27 := GI.b g22 117 2 kd117 (lo := 0) (hi := 1601) rfl
      have q28 : (τ21.1 117 3) = (σ.1 117 3) := ((FR.at f23 117 3 rfl).trans (FR.at f10 117 3 rfl))
      have q29 : (τ21.1 117 5) = (σ.1 117 5) := ((FR.at f23 117 5 rfl).trans (FR.at f10 117 5 rfl))
      refine wp_use (m_219 τ21 g22 159 5 cw159.1 cw159.2 (by decide)  _ _ (by omega) (by omega)) ?_
      rintro _ τ34 ⟨z37, rfl, h38, g35, f36, p30, p31, p32, p33⟩
      show WP 325 38 [(0, .ref 117)] [iV z37] _ _ _ _
      refine wp_z_eq jF_325_38 (m_rgb h38 rfl) rfl (pc2 := 41) ?_ ?_
      · intro h39
        clear p31
        refine wp_al1 jF_325_45 rfl rfl (pc2 := 46) ?_
        refine wp_al1 jF_325_46 rfl rfl (pc2 := 47) ?_
        refine wp_gr (b := 160) jF_325_47 kd117 (by decide) (c := 260) rfl rfl rfl (pc2 := 50) ?_
        refine wp_cV (as := [.ref 160]) (rest := []) (a := 117) (mx := 2) (ci := 12) jF_325_50 kd117 (by decide) rfl rfl rfl rfl rfl (by omega) (by omega) rfl (pc2 := 53) ?_
        have b40 := GI.b g35 117 2 kd117 (lo := 0) (hi := 1601) rfl
        have q41 : (τ34.1 117 3) = (σ.1 117 3) := ((FR.at f36 117 3 rfl).trans ((FR.at f23 117 3 rfl).trans (FR.at f10 117 3 rfl)))
        have q42 : (τ34.1 117 5) = (σ.1 117 5) := ((FR.at f36 117 5 rfl).trans ((FR.at f23 117 5 rfl).trans (FR.at f10 117 5 rfl)))
        refine wp_use (m_219 τ34 g35 160 5 cw160.1 cw160.2 (by decide)  _ _ (by omega) (by omega)) ?_
        rintro _ τ47 ⟨z50, rfl, h51, g48, f49, p43, p44, p45, p46⟩
        show WP 325 53 [(0, .ref 117)] [iV z50] _ _ _ _
        refine wp_z_eq jF_325_53 (m_rgb h51 rfl) rfl (pc2 := 56) ?_ ?_
        · intro h52
          clear p44
          refine wp_al1 jF_325_60 rfl rfl (pc2 := 61) ?_
          refine wp_al1 jF_325_61 rfl rfl (pc2 := 62) ?_
          refine wp_gr (b := 161) jF_325_62 kd117 (by decide) (c := 261) rfl rfl rfl (pc2 := 65) ?_
          refine wp_cV (as := [.ref 161]) (rest := []) (a := 117) (mx := 2) (ci := 12) jF_325_65 kd117 (by decide) rfl rfl rfl rfl rfl (by omega) (by omega) rfl (pc2 := 68) ?_
          have b53 := GI.b g48 117 2 kd117 (lo := 0) (hi := 1601) rfl
          have q54 : (τ47.1 117 3) = (σ.1 117 3) := ((FR.at f49 117 3 rfl).trans ((FR.at f36 117 3 rfl).trans ((FR.at f23 117 3 rfl).trans (FR.at f10 117 3 rfl))))
          have q55 : (τ47.1 117 5) = (σ.1 117 5) := ((FR.at f49 117 5 rfl).trans ((FR.at f36 117 5 rfl).trans ((FR.at f23 117 5 rfl).trans (FR.at f10 117 5 rfl))))
          refine wp_use (m_219 τ47 g48 161 4 cw161.1 cw161.2 (by decide)  _ _ (by omega) (by omega)) ?_
          rintro _ τ60 ⟨z63, rfl, h64, g61, f62, p56, p57, p58, p59⟩
          show WP 325 68 [(0, .ref 117)] [iV z63] _ _ _ _
          refine wp_z_eq jF_325_68 (m_rgb h64 rfl) rfl (pc2 := 71) ?_ ?_
          · intro h65
            clear p57
            refine wp_ic jF_325_75 rfl (pc2 := 76) ?_
            refine wp_is1 (lv2 := [(0, .ref 117), (1, iV 5)]) jF_325_76 rfl rfl rfl (pc2 := 77) ?_
            refine wp_il1 jF_325_77 rfl rfl (pc2 := 78) ?_
            refine wp_ic jF_325_78 rfl (pc2 := 79) ?_
            refine wp_i_ne jF_325_79 (m_rgl rfl) (m_rgl rfl) rfl (pc2 := 82) ?_ ?_
            · intro h66; exfalso; omega
            · intro h66
              refine wp_al1 jF_325_82 rfl rfl (pc2 := 83) ?_
              refine wp_al1 jF_325_83 rfl rfl (pc2 := 84) ?_
              refine wp_gr (b := 162) jF_325_84 kd117 (by decide) (c := 262) rfl rfl rfl (pc2 := 87) ?_
              refine wp_cV (as := [.ref 162]) (rest := []) (a := 117) (mx := 2) (ci := 12) jF_325_87 kd117 (by decide) rfl rfl rfl rfl rfl (by omega) (by omega) rfl (pc2 := 90) ?_
              have b67 := GI.b g61 117 2 kd117 (lo := 0) (hi := 1601) rfl
              have q68 : (τ60.1 117 3) = (σ.1 117 3) := ((FR.at f62 117 3 rfl).trans ((FR.at f49 117 3 rfl).trans ((FR.at f36 117 3 rfl).trans ((FR.at f23 117 3 rfl).trans (FR.at f10 117 3 rfl)))))
              have q69 : (τ60.1 117 5) = (σ.1 117 5) := ((FR.at f62 117 5 rfl).trans ((FR.at f49 117 5 rfl).trans ((FR.at f36 117 5 rfl).trans ((FR.at f23 117 5 rfl).trans (FR.at f10 117 5 rfl)))))
              refine wp_use (m_234 τ60 g61 162 5 cw162.1 cw162.2 (by decide)  _ _ (by omega) (by omega)) ?_
              rintro _ τ73 ⟨rfl, g74, f75, p70, p71, p72⟩
              show WP 325 90 [(0, .ref 117), (1, iV 5)] [] _ _ _ _
              refine wp_il1 jF_325_90 rfl rfl (pc2 := 91) ?_
              refine wp_ri jF_325_91 rfl ?_
              have b76 := GI.b g74 117 2 kd117 (lo := 0) (hi := 1601) rfl
              exact ⟨5, rfl, ⟨by omega, by omega⟩, g74, (FR.up (FR.up (FR.up (FR.up (FR.up (FR.up FR.rf f10 sb_Wtak_Wask) f23 sb_Wtak_Wask) f36 sb_Wtak_Wask) f49 sb_Wtak_Wask) f62 sb_Wtak_Wask) f75 sb_Wask_Wask), (by omega)⟩
          · intro h65
            replace p57 := p57 (by omega)
            refine wp_ic jF_325_71 rfl (pc2 := 72) ?_
            refine wp_go jF_325_72 ?_
            refine wp_is1 (lv2 := [(0, .ref 117), (1, iV 4)]) jF_325_76 rfl rfl rfl (pc2 := 77) ?_
            refine wp_il1 jF_325_77 rfl rfl (pc2 := 78) ?_
            refine wp_ic jF_325_78 rfl (pc2 := 79) ?_
            refine wp_i_ne jF_325_79 (m_rgl rfl) (m_rgl rfl) rfl (pc2 := 82) ?_ ?_
            · intro h77
              refine wp_il1 jF_325_90 rfl rfl (pc2 := 91) ?_
              refine wp_ri jF_325_91 rfl ?_
              have b78 := GI.b g61 117 2 kd117 (lo := 0) (hi := 1601) rfl
              exact ⟨4, rfl, ⟨by omega, by omega⟩, g61, (FR.up (FR.up (FR.up (FR.up (FR.up FR.rf f10 sb_Wtak_Wask) f23 sb_Wtak_Wask) f36 sb_Wtak_Wask) f49 sb_Wtak_Wask) f62 sb_Wtak_Wask), (by omega)⟩
            · intro h77; exfalso; omega
        · intro h52
          replace p44 := p44 (by omega)
          refine wp_ic jF_325_56 rfl (pc2 := 57) ?_
          refine wp_go jF_325_57 ?_
          refine wp_is1 (lv2 := [(0, .ref 117), (1, iV 3)]) jF_325_76 rfl rfl rfl (pc2 := 77) ?_
          refine wp_il1 jF_325_77 rfl rfl (pc2 := 78) ?_
          refine wp_ic jF_325_78 rfl (pc2 := 79) ?_
          refine wp_i_ne jF_325_79 (m_rgl rfl) (m_rgl rfl) rfl (pc2 := 82) ?_ ?_
          · intro h79
            refine wp_il1 jF_325_90 rfl rfl (pc2 := 91) ?_
            refine wp_ri jF_325_91 rfl ?_
            have b80 := GI.b g48 117 2 kd117 (lo := 0) (hi := 1601) rfl
            exact ⟨3, rfl, ⟨by omega, by omega⟩, g48, (FR.up (FR.up (FR.up (FR.up FR.rf f10 sb_Wtak_Wask) f23 sb_Wtak_Wask) f36 sb_Wtak_Wask) f49 sb_Wtak_Wask), (by omega)⟩
          · intro h79; exfalso; omega
      · intro h39
        replace p31 := p31 (by omega)
        refine wp_ic jF_325_41 rfl (pc2 := 42) ?_
        refine wp_go jF_325_42 ?_
        refine wp_is1 (lv2 := [(0, .ref 117), (1, iV 2)]) jF_325_76 rfl rfl rfl (pc2 := 77) ?_
        refine wp_il1 jF_325_77 rfl rfl (pc2 := 78) ?_
        refine wp_ic jF_325_78 rfl (pc2 := 79) ?_
        refine wp_i_ne jF_325_79 (m_rgl rfl) (m_rgl rfl) rfl (pc2 := 82) ?_ ?_
        · intro h81
          refine wp_il1 jF_325_90 rfl rfl (pc2 := 91) ?_
          refine wp_ri jF_325_91 rfl ?_
          have b82 := GI.b g35 117 2 kd117 (lo := 0) (hi := 1601) rfl
          exact ⟨2, rfl, ⟨by omega, by omega⟩, g35, (FR.up (FR.up (FR.up FR.rf f10 sb_Wtak_Wask) f23 sb_Wtak_Wask) f36 sb_Wtak_Wask), (by omega)⟩
        · intro h81; exfalso; omega
    · intro h26
      replace p18 := p18 (by omega)
      refine wp_ic jF_325_26 rfl (pc2 := 27) ?_
      refine wp_go jF_325_27 ?_
      refine wp_is1 (lv2 := [(0, .ref 117), (1, iV 1)]) jF_325_76 rfl rfl rfl (pc2 := 77) ?_
      refine wp_il1 jF_325_77 rfl rfl (pc2 := 78) ?_
      refine wp_ic jF_325_78 rfl (pc2 := 79) ?_
      refine wp_i_ne jF_325_79 (m_rgl rfl) (m_rgl rfl) rfl (pc2 := 82) ?_ ?_
      · intro h83
        refine wp_il1 jF_325_90 rfl rfl (pc2 := 91) ?_
        refine wp_ri jF_325_91 rfl ?_
        have b84 := GI.b g22 117 2 kd117 (lo := 0) (hi := 1601) rfl
        exact ⟨1, rfl, ⟨by omega, by omega⟩, g22, (FR.up (FR.up FR.rf f10 sb_Wtak_Wask) f23 sb_Wtak_Wask), (by omega)⟩
      · intro h83; exfalso; omega
  · intro h13
    replace p5 := p5 (by omega)
    refine wp_ic jF_325_11 rfl (pc2 := 12) ?_
    refine wp_go jF_325_12 ?_
    refine wp_is1 (lv2 := [(0, .ref 117), (1, iV 0)]) jF_325_76 rfl rfl rfl (pc2 := 77) ?_
    refine wp_il1 jF_325_77 rfl rfl (pc2 := 78) ?_
    refine wp_ic jF_325_78 rfl (pc2 := 79) ?_
    refine wp_i_ne jF_325_79 (m_rgl rfl) (m_rgl rfl) rfl (pc2 := 82) ?_ ?_
    · intro h85
      refine wp_il1 jF_325_90 rfl rfl (pc2 := 91) ?_
      refine wp_ri jF_325_91 rfl ?_
      have b86 := GI.b g9 117 2 kd117 (lo := 0) (hi := 1601) rfl
      exact ⟨0, rfl, ⟨by omega, by omega⟩, g9, (FR.up FR.rf f10 sb_Wtak_Wask), (by omega)⟩
    · intro h85; exfalso; omega
set_option maxHeartbeats 4000000 in
set_option maxRecDepth 20000 in
/-- M.qPuts -/
theorem m_346 (σ : jM) (hg : GI σ) (v : Int64) (pre0 : (σ.1 117 93) ≤ 1699) (fr lo : Nat) (hfr : 0 ≤ fr) (hlo : 0 ≤ lo) : WP 346 0 (lv_args 0 [.ref 117, .long v]) [] fr lo σ (fun v τ => v = none ∧ GI τ ∧ FR Wqu σ τ ∧ ((τ.1 117 93) = (σ.1 117 93) + 1)) := by
  show WP 346 0 [(0, .ref 117), (1, .long v)] [] _ _ _ _
  refine wp_al1 jF_346_0 rfl rfl (pc2 := 1) ?_
  refine wp_gr (b := 178) jF_346_1 kd117 (by decide) (c := 278) rfl rfl rfl (pc2 := 4) ?_
  refine wp_al1 jF_346_4 rfl rfl (pc2 := 5) ?_
  have b1 := GI.b hg 117 93 kd117 (lo := 0) (hi := 1700) rfl
  refine wp_gi jF_346_5 kd117 (by decide) rfl rfl rfl (pc2 := 8) ?_
  refine wp_ll1 jF_346_8 rfl rfl (pc2 := 9) ?_
  refine wp_last (n := 1700) jF_346_9 kd178 (by decide) rfl rfl (by omega) (by omega) rfl (pc2 := 10) hg ?_
  intro τ2 g3 f4
  refine wp_al1 jF_346_10 rfl rfl (pc2 := 11) ?_
  refine wp_dup jF_346_11 rfl rfl (pc2 := 12) ?_
  refine wp_gi jF_346_12 kd117 (by decide) rfl (FRw.na f4 (by decide)) rfl (pc2 := 15) ?_
  refine wp_ic jF_346_15 rfl (pc2 := 16) ?_
  refine wp_add jF_346_16 rfl (pc2 := 17) ?_
  refine wp_pi jF_346_17 kd117 (by decide) rfl rfl rfl (pc2 := 20) g3 (lo := 0) (hi := 1700) rfl (by omega) (by omega) ?_
  intro τ5 g6 f7 e8
  refine wp_rv jF_346_20 ?_
  have q9 : (τ5.1 117 93) = ((σ.1 117 93) + 1) := e8
  exact ⟨rfl, g6, (FR.w (FR.w FR.rf f4 rfl) f7 rfl), (by omega)⟩
set_option maxHeartbeats 4000000 in
set_option maxRecDepth 20000 in
/-- M.qClip -/
theorem m_349 (σ : jM) (hg : GI σ) (v : Int64)  (fr lo : Nat) (hfr : 0 ≤ fr) (hlo : 0 ≤ lo) : WP 349 0 (lv_args 0 [.long v]) [] fr lo σ (fun v τ => ∃ z : Int64, v = some (.long z) ∧ σ = τ) := by
  show WP 349 0 [(0, .long v)] [] _ _ _ _
  refine wp_ll1 jF_349_0 rfl rfl (pc2 := 1) ?_
  refine wp_ld jF_349_1 rfl (pc2 := 4) ?_
  refine wp_anyL (pc2 := 5) jF_349_4 rfl rfl ?_
  intro z1 h2
  refine wp_z_le jF_349_5 (m_rgb h2 rfl) rfl (pc2 := 8) ?_ ?_
  · intro h3
    refine wp_ll1 jF_349_14 rfl rfl (pc2 := 15) ?_
    refine wp_ld jF_349_15 rfl (pc2 := 18) ?_
    refine wp_anyL (pc2 := 19) jF_349_18 rfl rfl ?_
    intro z4 h5
    refine wp_z_ge jF_349_19 (m_rgb h5 rfl) rfl (pc2 := 22) ?_ ?_
    · intro h6
      refine wp_ll1 jF_349_28 rfl rfl (pc2 := 29) ?_
      refine wp_rl jF_349_29 ?_
      exact ⟨v, rfl, rfl⟩
    · intro h6
      refine wp_ld jF_349_22 rfl (pc2 := 25) ?_
      refine wp_go jF_349_25 ?_
      refine wp_rl jF_349_29 ?_
      exact ⟨(-1000000), rfl, rfl⟩
  · intro h3
    refine wp_ld jF_349_8 rfl (pc2 := 11) ?_
    refine wp_go jF_349_11 ?_
    refine wp_rl jF_349_29 ?_
    exact ⟨(1000000), rfl, rfl⟩
set_option maxHeartbeats 4000000 in
set_option maxRecDepth 20000 in
/-- M.qFloor -/
theorem m_352 (σ : jM) (hg : GI σ) (v : Int64) (w : Int64)  (fr lo : Nat) (hfr : 0 ≤ fr) (hlo : 0 ≤ lo) : WP 352 0 (lv_args 0 [.long v, .long w]) [] fr lo σ (fun v τ => ∃ z : Int64, v = some (.long z) ∧ σ = τ) := by
  show WP 352 0 [(0, .long v), (2, .long w)] [] _ _ _ _
  refine wp_ll1 jF_352_0 rfl rfl (pc2 := 1) ?_
  refine wp_lc jF_352_1 rfl (pc2 := 2) ?_
  refine wp_lcmp2 (a := (Int64.toInt w)) (b := 0) jF_352_2 rfl (by decide) rfl (pc2 := 3) ?_
  intro z1 h2
  refine wp_z_ne jF_352_3 ⟨by omega, by omega⟩ rfl (pc2 := 6) ?_ ?_
  · intro h3
    refine wp_ll1 jF_352_8 rfl rfl (pc2 := 9) ?_
    refine wp_ll1 jF_352_9 rfl rfl (pc2 := 10) ?_
    refine wp_ldx jF_352_10 (m_lnz (by omega)) rfl (pc2 := 11) ?_
    refine wp_ls2 (lv2 := [(0, .long v), (2, .long w), (4, .long (v / w))]) jF_352_11 rfl rfl rfl (pc2 := 13) ?_
    refine wp_ll1 jF_352_13 rfl rfl (pc2 := 14) ?_
    refine wp_ll1 jF_352_14 rfl rfl (pc2 := 15) ?_
    refine wp_lrem jF_352_15 (m_lnz (by omega)) rfl (pc2 := 16) ?_
    intro y4
    refine wp_lc jF_352_16 rfl (pc2 := 17) ?_
    refine wp_lcmp2 (a := (Int64.toInt y4)) (b := 0) jF_352_17 rfl (by decide) rfl (pc2 := 18) ?_
    intro z5 h6
    refine wp_z_eq jF_352_18 ⟨by omega, by omega⟩ rfl (pc2 := 21) ?_ ?_
    · intro h7
      refine wp_ll2 jF_352_53 rfl rfl (pc2 := 55) ?_
      refine wp_rl jF_352_55 ?_
      exact ⟨(v / w), rfl, rfl⟩
    · intro h7
      refine wp_ll1 jF_352_21 rfl rfl (pc2 := 22) ?_
      refine wp_lc jF_352_22 rfl (pc2 := 23) ?_
      refine wp_lcmp2 (a := (Int64.toInt v)) (b := 0) jF_352_23 rfl (by decide) rfl (pc2 := 24) ?_
      intro z8 h9
      refine wp_z_ge jF_352_24 ⟨by omega, by omega⟩ rfl (pc2 := 27) ?_ ?_
      · intro h10
        refine wp_ic jF_352_31 rfl (pc2 := 32) ?_
        refine wp_ll1 jF_352_32 rfl rfl (pc2 := 33) ?_
        refine wp_lc jF_352_33 rfl (pc2 := 34) ?_
        refine wp_lcmp2 (a := (Int64.toInt w)) (b := 0) jF_352_34 rfl (by decide) rfl (pc2 := 35) ?_
        intro z11 h12
        refine wp_z_ge jF_352_35 ⟨by omega, by omega⟩ rfl (pc2 := 38) ?_ ?_
        · intro h13
          refine wp_ic jF_352_42 rfl (pc2 := 43) ?_
          refine wp_i_eq jF_352_43 (m_rgl rfl) (m_rgl rfl) rfl (pc2 := 46) ?_ ?_
          · intro h14
            refine wp_ll2 jF_352_53 rfl rfl (pc2 := 55) ?_
            refine wp_rl jF_352_55 ?_
            exact ⟨(v / w), rfl, rfl⟩
          · intro h14; exfalso; omega
        · intro h13
          refine wp_ic jF_352_38 rfl (pc2 := 39) ?_
          refine wp_go jF_352_39 ?_
          refine wp_i_eq jF_352_43 (m_rgl rfl) (m_rgl rfl) rfl (pc2 := 46) ?_ ?_
          · intro h15; exfalso; omega
          · intro h15
            refine wp_ll2 jF_352_46 rfl rfl (pc2 := 48) ?_
            refine wp_lc jF_352_48 rfl (pc2 := 49) ?_
            refine wp_lgx ((v / w) - (Int64.ofNat 1)) jF_352_49 rfl rfl (pc2 := 50) ?_
            refine wp_go jF_352_50 ?_
            refine wp_rl jF_352_55 ?_
            exact ⟨((v / w) - (Int64.ofNat 1)), rfl, rfl⟩
      · intro h10
        refine wp_ic jF_352_27 rfl (pc2 := 28) ?_
        refine wp_go jF_352_28 ?_
        refine wp_ll1 jF_352_32 rfl rfl (pc2 := 33) ?_
        refine wp_lc jF_352_33 rfl (pc2 := 34) ?_
        refine wp_lcmp2 (a := (Int64.toInt w)) (b := 0) jF_352_34 rfl (by decide) rfl (pc2 := 35) ?_
        intro z16 h17
        refine wp_z_ge jF_352_35 ⟨by omega, by omega⟩ rfl (pc2 := 38) ?_ ?_
        · intro h18
          refine wp_ic jF_352_42 rfl (pc2 := 43) ?_
          refine wp_i_eq jF_352_43 (m_rgl rfl) (m_rgl rfl) rfl (pc2 := 46) ?_ ?_
          · intro h19; exfalso; omega
          · intro h19
            refine wp_ll2 jF_352_46 rfl rfl (pc2 := 48) ?_
            refine wp_lc jF_352_48 rfl (pc2 := 49) ?_
            refine wp_lgx ((v / w) - (Int64.ofNat 1)) jF_352_49 rfl rfl (pc2 := 50) ?_
            refine wp_go jF_352_50 ?_
            refine wp_rl jF_352_55 ?_
            exact ⟨((v / w) - (Int64.ofNat 1)), rfl, rfl⟩
        · intro h18
          refine wp_ic jF_352_38 rfl (pc2 := 39) ?_
          refine wp_go jF_352_39 ?_
          refine wp_i_eq jF_352_43 (m_rgl rfl) (m_rgl rfl) rfl (pc2 := 46) ?_ ?_
          · intro h20
            refine wp_ll2 jF_352_53 rfl rfl (pc2 := 55) ?_
            refine wp_rl jF_352_55 ?_
            exact ⟨(v / w), rfl, rfl⟩
          · intro h20; exfalso; omega
  · intro h3
    refine wp_lc jF_352_6 rfl (pc2 := 7) ?_
    refine wp_rl jF_352_7 ?_
    exact ⟨(Int64.ofNat 0), rfl, rfl⟩
set_option maxHeartbeats 4000000 in
set_option maxRecDepth 20000 in
/-- M.qPartOf -/
theorem m_350 (σ : jM) (hg : GI σ) (w : Int) (hl_w : 0 ≤ w) (hu_w : w ≤ 19) (k : Int) (hl_k : 0 ≤ k) (hu_k : k ≤ 63) (pre0 : ((m0 σ) ≠ 0 ∧ (m1 σ) ≠ 0 ∧ (m2 σ) ≠ 0)) (pre1 : k < (cm σ)) (pre2 : (l0 σ) = 22) (pre3 : (l1 σ) = 22) (fr lo : Nat) (hfr : 3 ≤ fr) (hlo : 76 ≤ lo) : WP 350 0 (lv_args 0 [.ref 117, iV w, iV k]) [] fr lo σ (fun v τ => ∃ z : Int64, v = some (.long z) ∧ GI τ ∧ FR Wtr σ τ) := by
  show WP 350 0 [(0, .ref 117), (1, iV w), (2, iV k)] [] _ _ _ _
  refine wp_il1 jF_350_0 rfl rfl (pc2 := 1) ?_
  rcases m_tsw w 0 4 with h1 | h1
  · refine wp_tswd (tgt := 73) jF_350_1 ⟨by omega, by omega⟩ h1 (by decide) ?_
    refine wp_al1 jF_350_73 rfl rfl (pc2 := 74) ?_
    refine wp_ic jF_350_74 rfl (pc2 := 75) ?_
    refine wp_cV (as := [iV 1]) (rest := []) (a := 117) (mx := 2) (ci := 12) jF_350_75 kd117 (by decide) rfl rfl rfl rfl rfl (by omega) (by omega) rfl (pc2 := 78) ?_
    have b2 := GI.b hg 148 1 kd148 (lo := 0) (hi := 60) rfl
    refine wp_use (m_277_1 σ hg  (by omega) _ _ (by omega) (by omega)) ?_
    rintro _ τ5 ⟨y8, rfl, g6, f7, p3, p4⟩
    show WP 350 78 [(0, .ref 117), (1, iV w), (2, iV k)] [.long y8] _ _ _ _
    refine wp_il1 jF_350_78 rfl rfl (pc2 := 79) ?_
    refine wp_lng (pc2 := 80) jF_350_79 rfl rfl ?_
    intro y9
    refine wp_lc jF_350_80 rfl (pc2 := 81) ?_
    refine wp_lng (pc2 := 82) jF_350_81 rfl rfl ?_
    intro y10
    refine wp_rl jF_350_82 ?_
    exact ⟨y10, rfl, g6, f7⟩
  · have h1c : w = 0 ∨ w = 1 ∨ w = 2 ∨ w = 3 ∨ w = 4 := by omega
    rcases h1c with hh | hh | hh | hh | hh
    · refine wp_tswx (x := 0) (tgt := 36) jF_350_1 hh (by decide) ?_
      subst hh
      refine wp_il1 jF_350_36 rfl rfl (pc2 := 37) ?_
      refine wp_i2l jF_350_37 rfl (pc2 := 38) ?_
      refine wp_rl jF_350_38 ?_
      exact ⟨(Int32.toInt64 (Int32.ofInt k)), rfl, hg, FR.rf⟩
    · refine wp_tswx (x := 1) (tgt := 39) jF_350_1 hh (by decide) ?_
      subst hh
      refine wp_al1 jF_350_39 rfl rfl (pc2 := 40) ?_
      refine wp_il1 jF_350_40 rfl rfl (pc2 := 41) ?_
      refine wp_ic jF_350_41 rfl (pc2 := 42) ?_
      refine wp_cV (as := [iV k, iV 0]) (rest := []) (a := 117) (mx := 3) (ci := 12) jF_350_42 kd117 (by decide) rfl rfl rfl rfl rfl (by omega) (by omega) rfl (pc2 := 45) ?_
      refine wp_use (m_245_0 σ hg k (by omega) (by omega) (by omega) _ _ (by omega) (by omega)) ?_
      rintro _ _ ⟨z13, rfl, h14, rfl⟩
      show WP 350 45 [(0, .ref 117), (1, iV 1), (2, iV k)] [iV z13] _ _ _ _
      refine wp_i2l jF_350_45 rfl (pc2 := 46) ?_
      refine wp_rl jF_350_46 ?_
      exact ⟨(Int32.toInt64 (Int32.ofInt z13)), rfl, hg, FR.rf⟩
    · refine wp_tswx (x := 2) (tgt := 47) jF_350_1 hh (by decide) ?_
      subst hh
      refine wp_al1 jF_350_47 rfl rfl (pc2 := 48) ?_
      refine wp_il1 jF_350_48 rfl rfl (pc2 := 49) ?_
      refine wp_ic jF_350_49 rfl (pc2 := 50) ?_
      refine wp_cV (as := [iV k, iV 1]) (rest := []) (a := 117) (mx := 3) (ci := 12) jF_350_50 kd117 (by decide) rfl rfl rfl rfl rfl (by omega) (by omega) rfl (pc2 := 53) ?_
      refine wp_use (m_245_1 σ hg k (by omega) (by omega) (by omega) _ _ (by omega) (by omega)) ?_
      rintro _ _ ⟨z17, rfl, h18, rfl⟩
      show WP 350 53 [(0, .ref 117), (1, iV 2), (2, iV k)] [iV z17] _ _ _ _
      refine wp_i2l jF_350_53 rfl (pc2 := 54) ?_
      refine wp_rl jF_350_54 ?_
      exact ⟨(Int32.toInt64 (Int32.ofInt z17)), rfl, hg, FR.rf⟩
    · refine wp_tswx (x := 3) (tgt := 55) jF_350_1 hh (by decide) ?_
      subst hh
      refine wp_al1 jF_350_55 rfl rfl (pc2 := 56) ?_
      refine wp_il1 jF_350_56 rfl rfl (pc2 := 57) ?_
      refine wp_ic jF_350_57 rfl (pc2 := 58) ?_
      refine wp_cV (as := [iV k, iV 2]) (rest := []) (a := 117) (mx := 3) (ci := 12) jF_350_58 kd117 (by decide) rfl rfl rfl rfl rfl (by omega) (by omega) rfl (pc2 := 61) ?_
      refine wp_use (m_245_2 σ hg k (by omega) (by omega) (by omega) (by omega) _ _ (by omega) (by omega)) ?_
      rintro _ _ ⟨z22, rfl, h23, rfl, p19⟩
      show WP 350 61 [(0, .ref 117), (1, iV 3), (2, iV k)] [iV z22] _ _ _ _
      refine wp_i2l jF_350_61 rfl (pc2 := 62) ?_
      refine wp_rl jF_350_62 ?_
      exact ⟨(Int32.toInt64 (Int32.ofInt z22)), rfl, hg, FR.rf⟩
    · refine wp_tswx (x := 4) (tgt := 63) jF_350_1 hh (by decide) ?_
      subst hh
      refine wp_al1 jF_350_63 rfl rfl (pc2 := 64) ?_
      refine wp_ic jF_350_64 rfl (pc2 := 65) ?_
      refine wp_cV (as := [iV 0]) (rest := []) (a := 117) (mx := 2) (ci := 12) jF_350_65 kd117 (by decide) rfl rfl rfl rfl rfl (by omega) (by omega) rfl (pc2 := 68) ?_
      have b24 := GI.b hg 148 0 kd148 (lo := 0) (hi := 60) rfl
      refine wp_use (m_277_0 σ hg  (by omega) _ _ (by omega) (by omega)) ?_
      rintro _ τ27 ⟨y30, rfl, g28, f29, p25, p26⟩
      show WP 350 68 [(0, .ref 117), (1, iV 4), (2, iV k)] [.long y30] _ _ _ _
      refine wp_il1 jF_350_68 rfl rfl (pc2 := 69) ?_
      refine wp_lng (pc2 := 70) jF_350_69 rfl rfl ?_
      intro y31
      refine wp_lc jF_350_70 rfl (pc2 := 71) ?_
      refine wp_lng (pc2 := 72) jF_350_71 rfl rfl ?_
      intro y32
      refine wp_rl jF_350_72 ?_
      exact ⟨y32, rfl, g28, f29⟩
set_option maxHeartbeats 4000000 in
set_option maxRecDepth 20000 in
/-- M.qJoins -/
theorem m_351 (σ : jM) (hg : GI σ) (c : Int) (hl_c : (-2147483648) ≤ c) (hu_c : c ≤ 2147483647) (pre0 : 2 ≤ (σ.1 117 93)) (fr lo : Nat) (hfr : 1 ≤ fr) (hlo : 25 ≤ lo) : WP 351 0 (lv_args 0 [.ref 117, iV c]) [] fr lo σ (fun v τ => v = none ∧ GI τ ∧ FR Wqu σ τ ∧ ((τ.1 117 93) = (σ.1 117 93) - 1)) := by
  show WP 351 0 [(0, .ref 117), (1, iV c)] [] _ _ _ _
  refine wp_al1 jF_351_0 rfl rfl (pc2 := 1) ?_
  refine wp_gr (b := 178) jF_351_1 kd117 (by decide) (c := 278) rfl rfl rfl (pc2 := 4) ?_
  refine wp_al1 jF_351_4 rfl rfl (pc2 := 5) ?_
  have b1 := GI.b hg 117 93 kd117 (lo := 0) (hi := 1700) rfl
  refine wp_gi jF_351_5 kd117 (by decide) rfl rfl rfl (pc2 := 8) ?_
  refine wp_ic jF_351_8 rfl (pc2 := 9) ?_
  refine wp_sub jF_351_9 rfl (pc2 := 10) ?_
  refine wp_lald (n := 1700) jF_351_10 kd178 (by decide) rfl rfl (by omega) (by omega) rfl (pc2 := 11) ?_
  intro y2
  refine wp_ls1 (lv2 := [(0, .ref 117), (1, iV c), (2, .long y2)]) jF_351_11 rfl rfl rfl (pc2 := 12) ?_
  refine wp_al1 jF_351_12 rfl rfl (pc2 := 13) ?_
  refine wp_gr (b := 178) jF_351_13 kd117 (by decide) (c := 278) rfl rfl rfl (pc2 := 16) ?_
  refine wp_al1 jF_351_16 rfl rfl (pc2 := 17) ?_
  refine wp_gi jF_351_17 kd117 (by decide) rfl rfl rfl (pc2 := 20) ?_
  refine wp_ic jF_351_20 rfl (pc2 := 21) ?_
  refine wp_sub jF_351_21 rfl (pc2 := 22) ?_
  refine wp_lald (n := 1700) jF_351_22 kd178 (by decide) rfl rfl (by omega) (by omega) rfl (pc2 := 23) ?_
  intro y3
  refine wp_ls2 (lv2 := [(0, .ref 117), (1, iV c), (2, .long y2), (4, .long y3)]) jF_351_23 rfl rfl rfl (pc2 := 25) ?_
  refine wp_al1 jF_351_25 rfl rfl (pc2 := 26) ?_
  refine wp_dup jF_351_26 rfl rfl (pc2 := 27) ?_
  refine wp_gi jF_351_27 kd117 (by decide) rfl rfl rfl (pc2 := 30) ?_
  refine wp_ic jF_351_30 rfl (pc2 := 31) ?_
  refine wp_sub jF_351_31 rfl (pc2 := 32) ?_
  refine wp_pi jF_351_32 kd117 (by decide) rfl rfl rfl (pc2 := 35) hg (lo := 0) (hi := 1700) rfl (by omega) (by omega) ?_
  intro τ4 g5 f6 e7
  refine wp_il1 jF_351_35 rfl rfl (pc2 := 36) ?_
  rcases m_tsw c 1 10 with h8 | h8
  · refine wp_tswd (tgt := 255) jF_351_36 ⟨by omega, by omega⟩ h8 (by decide) ?_
    refine wp_al1 jF_351_255 rfl rfl (pc2 := 256) ?_
    refine wp_ll2 jF_351_256 rfl rfl (pc2 := 258) ?_
    refine wp_ll1 jF_351_258 rfl rfl (pc2 := 259) ?_
    refine wp_lng (pc2 := 260) jF_351_259 rfl rfl ?_
    intro y9
    refine wp_lc jF_351_260 rfl (pc2 := 261) ?_
    refine wp_anyL (pc2 := 262) jF_351_261 rfl rfl ?_
    intro z10 h11
    refine wp_z_le jF_351_262 (m_rgb h11 rfl) rfl (pc2 := 265) ?_ ?_
    · intro h12
      refine wp_lc jF_351_269 rfl (pc2 := 270) ?_
      refine wp_cV (as := [.long (Int64.ofNat 0)]) (rest := []) (a := 117) (mx := 3) (ci := 12) jF_351_270 kd117 (by decide) rfl rfl rfl rfl rfl (by omega) (by omega) rfl (pc2 := 273) ?_
      have q13 : (τ4.1 117 93) = ((σ.1 117 93) - 2) := e7
      refine wp_use (m_346 τ4 g5 (Int64.ofNat 0) (by omega) _ _ (by omega) (by omega)) ?_
      rintro _ τ15 ⟨rfl, g16, f17, p14⟩
      show WP 351 273 [(0, .ref 117), (1, iV c), (2, .long y2), (4, .long y3)] [] _ _ _ _
      refine wp_rv jF_351_273 ?_
      have b18 := GI.b g16 117 93 kd117 (lo := 0) (hi := 1700) rfl
      exact ⟨rfl, g16, (FR.up (FR.w FR.rf f6 rfl) f17 sb_Wqu_Wqu), (by omega)⟩
    · intro h12
      refine wp_lc jF_351_265 rfl (pc2 := 266) ?_
      refine wp_go jF_351_266 ?_
      refine wp_cV (as := [.long (Int64.ofNat 1)]) (rest := []) (a := 117) (mx := 3) (ci := 12) jF_351_270 kd117 (by decide) rfl rfl rfl rfl rfl (by omega) (by omega) rfl (pc2 := 273) ?_
      have q19 : (τ4.1 117 93) = ((σ.1 117 93) - 2) := e7
      refine wp_use (m_346 τ4 g5 (Int64.ofNat 1) (by omega) _ _ (by omega) (by omega)) ?_
      rintro _ τ21 ⟨rfl, g22, f23, p20⟩
      show WP 351 273 [(0, .ref 117), (1, iV c), (2, .long y2), (4, .long y3)] [] _ _ _ _
      refine wp_rv jF_351_273 ?_
      have b24 := GI.b g22 117 93 kd117 (lo := 0) (hi := 1700) rfl
      exact ⟨rfl, g22, (FR.up (FR.w FR.rf f6 rfl) f23 sb_Wqu_Wqu), (by omega)⟩
  · have h8c : c = 1 ∨ c = 2 ∨ c = 3 ∨ c = 4 ∨ c = 5 ∨ c = 6 ∨ c = 7 ∨ c = 8 ∨ c = 9 ∨ c = 10 := by omega
    rcases h8c with hh | hh | hh | hh | hh | hh | hh | hh | hh | hh
    · refine wp_tswx (x := 1) (tgt := 92) jF_351_36 hh (by decide) ?_
      subst hh
      refine wp_al1 jF_351_92 rfl rfl (pc2 := 93) ?_
      refine wp_ll2 jF_351_93 rfl rfl (pc2 := 95) ?_
      refine wp_ll1 jF_351_95 rfl rfl (pc2 := 96) ?_
      refine wp_lng (pc2 := 97) jF_351_96 rfl rfl ?_
      intro y25
      refine wp_cS (as := [.long y25]) (rest := [.ref 117]) (mx := 2) jF_351_97 rfl rfl rfl rfl (by omega) (by omega) rfl (pc2 := 100) ?_
      refine wp_use (m_349 τ4 g5 y25  _ _ (by omega) (by omega)) ?_
      rintro _ _ ⟨y28, rfl, rfl⟩
      show WP 351 100 [(0, .ref 117), (1, iV 1), (2, .long y2), (4, .long y3)] [.long y28, .ref 117] _ _ _ _
      refine wp_cV (as := [.long y28]) (rest := []) (a := 117) (mx := 3) (ci := 12) jF_351_100 kd117 (by decide) rfl rfl rfl rfl rfl (by omega) (by omega) rfl (pc2 := 103) ?_
      have q29 : (τ4.1 117 93) = ((σ.1 117 93) - 2) := e7
      refine wp_use (m_346 τ4 g5 y28 (by omega) _ _ (by omega) (by omega)) ?_
      rintro _ τ31 ⟨rfl, g32, f33, p30⟩
      show WP 351 103 [(0, .ref 117), (1, iV 1), (2, .long y2), (4, .long y3)] [] _ _ _ _
      refine wp_go jF_351_103 ?_
      refine wp_rv jF_351_273 ?_
      have b34 := GI.b g32 117 93 kd117 (lo := 0) (hi := 1700) rfl
      exact ⟨rfl, g32, (FR.up (FR.w FR.rf f6 rfl) f33 sb_Wqu_Wqu), (by omega)⟩
    · refine wp_tswx (x := 2) (tgt := 106) jF_351_36 hh (by decide) ?_
      subst hh
      refine wp_al1 jF_351_106 rfl rfl (pc2 := 107) ?_
      refine wp_ll2 jF_351_107 rfl rfl (pc2 := 109) ?_
      refine wp_ll1 jF_351_109 rfl rfl (pc2 := 110) ?_
      refine wp_lng (pc2 := 111) jF_351_110 rfl rfl ?_
      intro y35
      refine wp_cS (as := [.long y35]) (rest := [.ref 117]) (mx := 2) jF_351_111 rfl rfl rfl rfl (by omega) (by omega) rfl (pc2 := 114) ?_
      refine wp_use (m_349 τ4 g5 y35  _ _ (by omega) (by omega)) ?_
      rintro _ _ ⟨y38, rfl, rfl⟩
      show WP 351 114 [(0, .ref 117), (1, iV 2), (2, .long y2), (4, .long y3)] [.long y38, .ref 117] _ _ _ _
      refine wp_cV (as := [.long y38]) (rest := []) (a := 117) (mx := 3) (ci := 12) jF_351_114 kd117 (by decide) rfl rfl rfl rfl rfl (by omega) (by omega) rfl (pc2 := 117) ?_
      have q39 : (τ4.1 117 93) = ((σ.1 117 93) - 2) := e7
      refine wp_use (m_346 τ4 g5 y38 (by omega) _ _ (by omega) (by omega)) ?_
      rintro _ τ41 ⟨rfl, g42, f43, p40⟩
      show WP 351 117 [(0, .ref 117), (1, iV 2), (2, .long y2), (4, .long y3)] [] _ _ _ _
      refine wp_go jF_351_117 ?_
      refine wp_rv jF_351_273 ?_
      have b44 := GI.b g42 117 93 kd117 (lo := 0) (hi := 1700) rfl
      exact ⟨rfl, g42, (FR.up (FR.w FR.rf f6 rfl) f43 sb_Wqu_Wqu), (by omega)⟩
    · refine wp_tswx (x := 3) (tgt := 120) jF_351_36 hh (by decide) ?_
      subst hh
      refine wp_al1 jF_351_120 rfl rfl (pc2 := 121) ?_
      refine wp_ll2 jF_351_121 rfl rfl (pc2 := 123) ?_
      refine wp_ll1 jF_351_123 rfl rfl (pc2 := 124) ?_
      refine wp_lng (pc2 := 125) jF_351_124 rfl rfl ?_
      intro y45
      refine wp_cS (as := [.long y45]) (rest := [.ref 117]) (mx := 2) jF_351_125 rfl rfl rfl rfl (by omega) (by omega) rfl (pc2 := 128) ?_
      refine wp_use (m_349 τ4 g5 y45  _ _ (by omega) (by omega)) ?_
      rintro _ _ ⟨y48, rfl, rfl⟩
      show WP 351 128 [(0, .ref 117), (1, iV 3), (2, .long y2), (4, .long y3)] [.long y48, .ref 117] _ _ _ _
      refine wp_cV (as := [.long y48]) (rest := []) (a := 117) (mx := 3) (ci := 12) jF_351_128 kd117 (by decide) rfl rfl rfl rfl rfl (by omega) (by omega) rfl (pc2 := 131) ?_
      have q49 : (τ4.1 117 93) = ((σ.1 117 93) - 2) := e7
      refine wp_use (m_346 τ4 g5 y48 (by omega) _ _ (by omega) (by omega)) ?_
      rintro _ τ51 ⟨rfl, g52, f53, p50⟩
      show WP 351 131 [(0, .ref 117), (1, iV 3), (2, .long y2), (4, .long y3)] [] _ _ _ _
      refine wp_go jF_351_131 ?_
      refine wp_rv jF_351_273 ?_
      have b54 := GI.b g52 117 93 kd117 (lo := 0) (hi := 1700) rfl
      exact ⟨rfl, g52, (FR.up (FR.w FR.rf f6 rfl) f53 sb_Wqu_Wqu), (by omega)⟩
    · refine wp_tswx (x := 4) (tgt := 134) jF_351_36 hh (by decide) ?_
      subst hh
      refine wp_al1 jF_351_134 rfl rfl (pc2 := 135) ?_
      refine wp_ll2 jF_351_135 rfl rfl (pc2 := 137) ?_
      refine wp_ll1 jF_351_137 rfl rfl (pc2 := 138) ?_
      refine wp_cS (as := [.long y3, .long y2]) (rest := [.ref 117]) (mx := 6) jF_351_138 rfl rfl rfl rfl (by omega) (by omega) rfl (pc2 := 141) ?_
      refine wp_use (m_352 τ4 g5 y3 y2  _ _ (by omega) (by omega)) ?_
      rintro _ _ ⟨y57, rfl, rfl⟩
      show WP 351 141 [(0, .ref 117), (1, iV 4), (2, .long y2), (4, .long y3)] [.long y57, .ref 117] _ _ _ _
      refine wp_cV (as := [.long y57]) (rest := []) (a := 117) (mx := 3) (ci := 12) jF_351_141 kd117 (by decide) rfl rfl rfl rfl rfl (by omega) (by omega) rfl (pc2 := 144) ?_
      have q58 : (τ4.1 117 93) = ((σ.1 117 93) - 2) := e7
      refine wp_use (m_346 τ4 g5 y57 (by omega) _ _ (by omega) (by omega)) ?_
      rintro _ τ60 ⟨rfl, g61, f62, p59⟩
      show WP 351 144 [(0, .ref 117), (1, iV 4), (2, .long y2), (4, .long y3)] [] _ _ _ _
      refine wp_go jF_351_144 ?_
      refine wp_rv jF_351_273 ?_
      have b63 := GI.b g61 117 93 kd117 (lo := 0) (hi := 1700) rfl
      exact ⟨rfl, g61, (FR.up (FR.w FR.rf f6 rfl) f62 sb_Wqu_Wqu), (by omega)⟩
    · refine wp_tswx (x := 5) (tgt := 147) jF_351_36 hh (by decide) ?_
      subst hh
      refine wp_al1 jF_351_147 rfl rfl (pc2 := 148) ?_
      refine wp_ll2 jF_351_148 rfl rfl (pc2 := 150) ?_
      refine wp_ll1 jF_351_150 rfl rfl (pc2 := 151) ?_
      refine wp_anyL (pc2 := 152) jF_351_151 rfl rfl ?_
      intro z64 h65
      refine wp_z_ge jF_351_152 (m_rgb h65 rfl) rfl (pc2 := 155) ?_ ?_
      · intro h66
        refine wp_ll1 jF_351_160 rfl rfl (pc2 := 161) ?_
        refine wp_cV (as := [.long y2]) (rest := []) (a := 117) (mx := 3) (ci := 12) jF_351_161 kd117 (by decide) rfl rfl rfl rfl rfl (by omega) (by omega) rfl (pc2 := 164) ?_
        have q67 : (τ4.1 117 93) = ((σ.1 117 93) - 2) := e7
        refine wp_use (m_346 τ4 g5 y2 (by omega) _ _ (by omega) (by omega)) ?_
        rintro _ τ69 ⟨rfl, g70, f71, p68⟩
        show WP 351 164 [(0, .ref 117), (1, iV 5), (2, .long y2), (4, .long y3)] [] _ _ _ _
        refine wp_go jF_351_164 ?_
        refine wp_rv jF_351_273 ?_
        have b72 := GI.b g70 117 93 kd117 (lo := 0) (hi := 1700) rfl
        exact ⟨rfl, g70, (FR.up (FR.w FR.rf f6 rfl) f71 sb_Wqu_Wqu), (by omega)⟩
      · intro h66
        refine wp_ll2 jF_351_155 rfl rfl (pc2 := 157) ?_
        refine wp_go jF_351_157 ?_
        refine wp_cV (as := [.long y3]) (rest := []) (a := 117) (mx := 3) (ci := 12) jF_351_161 kd117 (by decide) rfl rfl rfl rfl rfl (by omega) (by omega) rfl (pc2 := 164) ?_
        have q73 : (τ4.1 117 93) = ((σ.1 117 93) - 2) := e7
        refine wp_use (m_346 τ4 g5 y3 (by omega) _ _ (by omega) (by omega)) ?_
        rintro _ τ75 ⟨rfl, g76, f77, p74⟩
        show WP 351 164 [(0, .ref 117), (1, iV 5), (2, .long y2), (4, .long y3)] [] _ _ _ _
        refine wp_go jF_351_164 ?_
        refine wp_rv jF_351_273 ?_
        have b78 := GI.b g76 117 93 kd117 (lo := 0) (hi := 1700) rfl
        exact ⟨rfl, g76, (FR.up (FR.w FR.rf f6 rfl) f77 sb_Wqu_Wqu), (by omega)⟩
    · refine wp_tswx (x := 6) (tgt := 167) jF_351_36 hh (by decide) ?_
      subst hh
      refine wp_al1 jF_351_167 rfl rfl (pc2 := 168) ?_
      refine wp_ll2 jF_351_168 rfl rfl (pc2 := 170) ?_
      refine wp_ll1 jF_351_170 rfl rfl (pc2 := 171) ?_
      refine wp_anyL (pc2 := 172) jF_351_171 rfl rfl ?_
      intro z79 h80
      refine wp_z_le jF_351_172 (m_rgb h80 rfl) rfl (pc2 := 175) ?_ ?_
      · intro h81
        refine wp_ll1 jF_351_180 rfl rfl (pc2 := 181) ?_
        refine wp_cV (as := [.long y2]) (rest := []) (a := 117) (mx := 3) (ci := 12) jF_351_181 kd117 (by decide) rfl rfl rfl rfl rfl (by omega) (by omega) rfl (pc2 := 184) ?_
        have q82 : (τ4.1 117 93) = ((σ.1 117 93) - 2) := e7
        refine wp_use (m_346 τ4 g5 y2 (by omega) _ _ (by omega) (by omega)) ?_
        rintro _ τ84 ⟨rfl, g85, f86, p83⟩
        show WP 351 184 [(0, .ref 117), (1, iV 6), (2, .long y2), (4, .long y3)] [] _ _ _ _
        refine wp_go jF_351_184 ?_
        refine wp_rv jF_351_273 ?_
        have b87 := GI.b g85 117 93 kd117 (lo := 0) (hi := 1700) rfl
        exact ⟨rfl, g85, (FR.up (FR.w FR.rf f6 rfl) f86 sb_Wqu_Wqu), (by omega)⟩
      · intro h81
        refine wp_ll2 jF_351_175 rfl rfl (pc2 := 177) ?_
        refine wp_go jF_351_177 ?_
        refine wp_cV (as := [.long y3]) (rest := []) (a := 117) (mx := 3) (ci := 12) jF_351_181 kd117 (by decide) rfl rfl rfl rfl rfl (by omega) (by omega) rfl (pc2 := 184) ?_
        have q88 : (τ4.1 117 93) = ((σ.1 117 93) - 2) := e7
        refine wp_use (m_346 τ4 g5 y3 (by omega) _ _ (by omega) (by omega)) ?_
        rintro _ τ90 ⟨rfl, g91, f92, p89⟩
        show WP 351 184 [(0, .ref 117), (1, iV 6), (2, .long y2), (4, .long y3)] [] _ _ _ _
        refine wp_go jF_351_184 ?_
        refine wp_rv jF_351_273 ?_
        have b93 := GI.b g91 117 93 kd117 (lo := 0) (hi := 1700) rfl
        exact ⟨rfl, g91, (FR.up (FR.w FR.rf f6 rfl) f92 sb_Wqu_Wqu), (by omega)⟩
    · refine wp_tswx (x := 7) (tgt := 187) jF_351_36 hh (by decide) ?_
      subst hh
      refine wp_al1 jF_351_187 rfl rfl (pc2 := 188) ?_
      refine wp_ll2 jF_351_188 rfl rfl (pc2 := 190) ?_
      refine wp_ll1 jF_351_190 rfl rfl (pc2 := 191) ?_
      refine wp_anyL (pc2 := 192) jF_351_191 rfl rfl ?_
      intro z94 h95
      refine wp_z_ge jF_351_192 (m_rgb h95 rfl) rfl (pc2 := 195) ?_ ?_
      · intro h96
        refine wp_lc jF_351_199 rfl (pc2 := 200) ?_
        refine wp_cV (as := [.long (Int64.ofNat 0)]) (rest := []) (a := 117) (mx := 3) (ci := 12) jF_351_200 kd117 (by decide) rfl rfl rfl rfl rfl (by omega) (by omega) rfl (pc2 := 203) ?_
        have q97 : (τ4.1 117 93) = ((σ.1 117 93) - 2) := e7
        refine wp_use (m_346 τ4 g5 (Int64.ofNat 0) (by omega) _ _ (by omega) (by omega)) ?_
        rintro _ τ99 ⟨rfl, g100, f101, p98⟩
        show WP 351 203 [(0, .ref 117), (1, iV 7), (2, .long y2), (4, .long y3)] [] _ _ _ _
        refine wp_go jF_351_203 ?_
        refine wp_rv jF_351_273 ?_
        have b102 := GI.b g100 117 93 kd117 (lo := 0) (hi := 1700) rfl
        exact ⟨rfl, g100, (FR.up (FR.w FR.rf f6 rfl) f101 sb_Wqu_Wqu), (by omega)⟩
      · intro h96
        refine wp_lc jF_351_195 rfl (pc2 := 196) ?_
        refine wp_go jF_351_196 ?_
        refine wp_cV (as := [.long (Int64.ofNat 1)]) (rest := []) (a := 117) (mx := 3) (ci := 12) jF_351_200 kd117 (by decide) rfl rfl rfl rfl rfl (by omega) (by omega) rfl (pc2 := 203) ?_
        have q103 : (τ4.1 117 93) = ((σ.1 117 93) - 2) := e7
        refine wp_use (m_346 τ4 g5 (Int64.ofNat 1) (by omega) _ _ (by omega) (by omega)) ?_
        rintro _ τ105 ⟨rfl, g106, f107, p104⟩
        show WP 351 203 [(0, .ref 117), (1, iV 7), (2, .long y2), (4, .long y3)] [] _ _ _ _
        refine wp_go jF_351_203 ?_
        refine wp_rv jF_351_273 ?_
        have b108 := GI.b g106 117 93 kd117 (lo := 0) (hi := 1700) rfl
        exact ⟨rfl, g106, (FR.up (FR.w FR.rf f6 rfl) f107 sb_Wqu_Wqu), (by omega)⟩
    · refine wp_tswx (x := 8) (tgt := 206) jF_351_36 hh (by decide) ?_
      subst hh
      refine wp_al1 jF_351_206 rfl rfl (pc2 := 207) ?_
      refine wp_ll2 jF_351_207 rfl rfl (pc2 := 209) ?_
      refine wp_ll1 jF_351_209 rfl rfl (pc2 := 210) ?_
      refine wp_anyL (pc2 := 211) jF_351_210 rfl rfl ?_
      intro z109 h110
      refine wp_z_le jF_351_211 (m_rgb h110 rfl) rfl (pc2 := 214) ?_ ?_
      · intro h111
        refine wp_lc jF_351_218 rfl (pc2 := 219) ?_
        refine wp_cV (as := [.long (Int64.ofNat 0)]) (rest := []) (a := 117) (mx := 3) (ci := 12) jF_351_219 kd117 (by decide) rfl rfl rfl rfl rfl (by omega) (by omega) rfl (pc2 := 222) ?_
        have q112 : (τ4.1 117 93) = ((σ.1 117 93) - 2) := e7
        refine wp_use (m_346 τ4 g5 (Int64.ofNat 0) (by omega) _ _ (by omega) (by omega)) ?_
        rintro _ τ114 ⟨rfl, g115, f116, p113⟩
        show WP 351 222 [(0, .ref 117), (1, iV 8), (2, .long y2), (4, .long y3)] [] _ _ _ _
        refine wp_go jF_351_222 ?_
        refine wp_rv jF_351_273 ?_
        have b117 := GI.b g115 117 93 kd117 (lo := 0) (hi := 1700) rfl
        exact ⟨rfl, g115, (FR.up (FR.w FR.rf f6 rfl) f116 sb_Wqu_Wqu), (by omega)⟩
      · intro h111
        refine wp_lc jF_351_214 rfl (pc2 := 215) ?_
        refine wp_go jF_351_215 ?_
        refine wp_cV (as := [.long (Int64.ofNat 1)]) (rest := []) (a := 117) (mx := 3) (ci := 12) jF_351_219 kd117 (by decide) rfl rfl rfl rfl rfl (by omega) (by omega) rfl (pc2 := 222) ?_
        have q118 : (τ4.1 117 93) = ((σ.1 117 93) - 2) := e7
        refine wp_use (m_346 τ4 g5 (Int64.ofNat 1) (by omega) _ _ (by omega) (by omega)) ?_
        rintro _ τ120 ⟨rfl, g121, f122, p119⟩
        show WP 351 222 [(0, .ref 117), (1, iV 8), (2, .long y2), (4, .long y3)] [] _ _ _ _
        refine wp_go jF_351_222 ?_
        refine wp_rv jF_351_273 ?_
        have b123 := GI.b g121 117 93 kd117 (lo := 0) (hi := 1700) rfl
        exact ⟨rfl, g121, (FR.up (FR.w FR.rf f6 rfl) f122 sb_Wqu_Wqu), (by omega)⟩
    · refine wp_tswx (x := 9) (tgt := 225) jF_351_36 hh (by decide) ?_
      subst hh
      refine wp_al1 jF_351_225 rfl rfl (pc2 := 226) ?_
      refine wp_ll2 jF_351_226 rfl rfl (pc2 := 228) ?_
      refine wp_ll1 jF_351_228 rfl rfl (pc2 := 229) ?_
      refine wp_anyL (pc2 := 230) jF_351_229 rfl rfl ?_
      intro z124 h125
      refine wp_z_ne jF_351_230 (m_rgb h125 rfl) rfl (pc2 := 233) ?_ ?_
      · intro h126
        refine wp_lc jF_351_237 rfl (pc2 := 238) ?_
        refine wp_cV (as := [.long (Int64.ofNat 0)]) (rest := []) (a := 117) (mx := 3) (ci := 12) jF_351_238 kd117 (by decide) rfl rfl rfl rfl rfl (by omega) (by omega) rfl (pc2 := 241) ?_
        have q127 : (τ4.1 117 93) = ((σ.1 117 93) - 2) := e7
        refine wp_use (m_346 τ4 g5 (Int64.ofNat 0) (by omega) _ _ (by omega) (by omega)) ?_
        rintro _ τ129 ⟨rfl, g130, f131, p128⟩
        show WP 351 241 [(0, .ref 117), (1, iV 9), (2, .long y2), (4, .long y3)] [] _ _ _ _
        refine wp_go jF_351_241 ?_
        refine wp_rv jF_351_273 ?_
        have b132 := GI.b g130 117 93 kd117 (lo := 0) (hi := 1700) rfl
        exact ⟨rfl, g130, (FR.up (FR.w FR.rf f6 rfl) f131 sb_Wqu_Wqu), (by omega)⟩
      · intro h126
        refine wp_lc jF_351_233 rfl (pc2 := 234) ?_
        refine wp_go jF_351_234 ?_
        refine wp_cV (as := [.long (Int64.ofNat 1)]) (rest := []) (a := 117) (mx := 3) (ci := 12) jF_351_238 kd117 (by decide) rfl rfl rfl rfl rfl (by omega) (by omega) rfl (pc2 := 241) ?_
        have q133 : (τ4.1 117 93) = ((σ.1 117 93) - 2) := e7
        refine wp_use (m_346 τ4 g5 (Int64.ofNat 1) (by omega) _ _ (by omega) (by omega)) ?_
        rintro _ τ135 ⟨rfl, g136, f137, p134⟩
        show WP 351 241 [(0, .ref 117), (1, iV 9), (2, .long y2), (4, .long y3)] [] _ _ _ _
        refine wp_go jF_351_241 ?_
        refine wp_rv jF_351_273 ?_
        have b138 := GI.b g136 117 93 kd117 (lo := 0) (hi := 1700) rfl
        exact ⟨rfl, g136, (FR.up (FR.w FR.rf f6 rfl) f137 sb_Wqu_Wqu), (by omega)⟩
    · refine wp_tswx (x := 10) (tgt := 244) jF_351_36 hh (by decide) ?_
      subst hh
      refine wp_al1 jF_351_244 rfl rfl (pc2 := 245) ?_
      refine wp_ll2 jF_351_245 rfl rfl (pc2 := 247) ?_
      refine wp_ll1 jF_351_247 rfl rfl (pc2 := 248) ?_
      refine wp_lng (pc2 := 249) jF_351_248 rfl rfl ?_
      intro y139
      refine wp_cV (as := [.long y139]) (rest := []) (a := 117) (mx := 3) (ci := 12) jF_351_249 kd117 (by decide) rfl rfl rfl rfl rfl (by omega) (by omega) rfl (pc2 := 252) ?_
      have q140 : (τ4.1 117 93) = ((σ.1 117 93) - 2) := e7
      refine wp_use (m_346 τ4 g5 y139 (by omega) _ _ (by omega) (by omega)) ?_
      rintro _ τ142 ⟨rfl, g143, f144, p141⟩
      show WP 351 252 [(0, .ref 117), (1, iV 10), (2, .long y2), (4, .long y3)] [] _ _ _ _
      refine wp_go jF_351_252 ?_
      refine wp_rv jF_351_273 ?_
      have b145 := GI.b g143 117 93 kd117 (lo := 0) (hi := 1700) rfl
      exact ⟨rfl, g143, (FR.up (FR.w FR.rf f6 rfl) f144 sb_Wqu_Wqu), (by omega)⟩
set_option maxHeartbeats 4000000 in
set_option maxRecDepth 20000 in
/-- M.qOf -/
theorem m_347 (σ : jM) (hg : GI σ) (n : Int) (hl_n : (-2147483648) ≤ n) (hu_n : n ≤ 2147483647) (v : Int64) (k : Int) (hl_k : 0 ≤ k) (hu_k : k ≤ 63) (pre0 : (l0 σ) = 22) (fr lo : Nat) (hfr : 2 ≤ fr) (hlo : 57 ≤ lo) : WP 347 0 (lv_args 0 [.ref 117, iV n, .long v, iV k]) [] fr lo σ (fun v τ => ∃ z : Int64, v = some (.long z) ∧ GI τ ∧ FR Wtr σ τ) := by
  show WP 347 0 [(0, .ref 117), (1, iV n), (2, .long v), (4, iV k)] [] _ _ _ _
  refine wp_il1 jF_347_0 rfl rfl (pc2 := 1) ?_
  refine wp_lsw0 (tgt := 12) jF_347_1 (by decide) ?_
  refine wp_al1 jF_347_12 rfl rfl (pc2 := 13) ?_
  refine wp_ll1 jF_347_13 rfl rfl (pc2 := 14) ?_
  refine wp_il2 jF_347_14 rfl rfl (pc2 := 16) ?_
  refine wp_cV (as := [.long v, iV k]) (rest := []) (a := 117) (mx := 6) (ci := 12) jF_347_16 kd117 (by decide) rfl rfl rfl rfl rfl (by omega) (by omega) rfl (pc2 := 19) ?_
  refine wp_use (m_348 σ hg v k (by omega) (by omega) (by omega) _ _ (by omega) (by omega)) ?_
  rintro _ τ1 ⟨y4, rfl, g2, f3⟩
  show WP 347 19 [(0, .ref 117), (1, iV n), (2, .long v), (4, iV k)] [.long y4] _ _ _ _
  refine wp_rl jF_347_19 ?_
  exact ⟨y4, rfl, g2, f3⟩
