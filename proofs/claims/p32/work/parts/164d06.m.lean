set_option maxHeartbeats 4000000 in
set_option maxRecDepth 20000 in
/-- Row.weigh -/
theorem m_82_r80_20 (σ : jM) (hg : GI σ)   (fr lo : Nat) (hfr : 1 ≤ fr) (hlo : 31 ≤ lo) : WP 82 0 (lv_args 0 [.ref 80, .ref 20]) [] fr lo σ (fun v τ => v = none ∧ GI τ ∧ FR WW80 σ τ) := by
  show WP 82 0 [(0, .ref 80), (1, .ref 20)] [] _ _ _ _
  refine wp_al1 jF_82_0 rfl rfl (pc2 := 1) ?_
  refine wp_ic jF_82_1 rfl (pc2 := 2) ?_
  refine wp_pi jF_82_2 kd80 (by decide) rfl rfl rfl (pc2 := 5) hg (lo := (-2147483648)) (hi := 2147483647) rfl (by omega) (by omega) ?_
  intro τ1 g2 f3 e4
  refine wp_ic jF_82_5 rfl (pc2 := 6) ?_
  refine wp_is1 (lv2 := [(0, .ref 80), (1, .ref 20), (2, iV 0)]) jF_82_6 rfl rfl rfl (pc2 := 7) ?_
  refine wp_ic jF_82_7 rfl (pc2 := 8) ?_
  refine wp_is1 (lv2 := [(0, .ref 80), (1, .ref 20), (2, iV 0), (3, iV 0)]) jF_82_8 rfl rfl rfl (pc2 := 9) ?_
  refine wp_loop (α := Int × Int) (fun a => [(0, .ref 80), (1, .ref 20), (2, iV (a.1)), (3, iV (a.2))]) (fun a τ => ((-1) ≤ a.1 ∧ a.1 ≤ 4) ∧ (0 ≤ a.2 ∧ a.2 ≤ 60) ∧ GI τ ∧ FR WW80 τ1 τ) (fun a τ => Int.toNat (60 - (a.2))) (0, 0) τ1 ?_ ?_
  · skip
    exact ⟨⟨by (try dsimp only); omega, by (try dsimp only); omega⟩, ⟨by (try dsimp only); omega, by (try dsimp only); omega⟩, g2, FR.rf⟩
  · rintro ⟨x5, x6⟩ τ9 ⟨h7, h8, g10, f11⟩ ih12
    try dsimp only at h7 h8 g10 f11
    show WP 82 9 [(0, .ref 80), (1, .ref 20), (2, iV x5), (3, iV x6)] [] _ _ _ _
    show WP 82 9 [(0, .ref 80), (1, .ref 20), (2, iV x5), (3, iV x6)] [] _ _ _ _
    refine wp_il1 jF_82_9 rfl rfl (pc2 := 10) ?_
    refine wp_al1 jF_82_10 rfl rfl (pc2 := 11) ?_
    have b13 := GI.b g10 80 1 kd80 (lo := 0) (hi := 60) rfl
    refine wp_gi jF_82_11 kd80 (by decide) rfl rfl rfl (pc2 := 14) ?_
    refine wp_i_ge jF_82_14 (m_rgb h8 rfl) (m_rgb b13 rfl) rfl (pc2 := 17) ?_ ?_
    · intro h14
      refine wp_al1 jF_82_59 rfl rfl (pc2 := 60) ?_
      refine wp_gr (b := 82) jF_82_60 kd80 (by decide) (c := 5) rfl rfl rfl (pc2 := 63) ?_
      refine wp_al1 jF_82_63 rfl rfl (pc2 := 64) ?_
      refine wp_gi jF_82_64 kd80 (by decide) rfl rfl rfl (pc2 := 67) ?_
      refine wp_il1 jF_82_67 rfl rfl (pc2 := 68) ?_
      refine wp_iast (n := 61) jF_82_68 kd82 (by decide) rfl rfl (by omega) (by omega) rfl (pc2 := 69) g10 (lo := (-1)) (hi := 4) rfl (by omega) (by omega) ?_
      intro τ15 g16 f17 e18
      refine wp_al1 jF_82_69 rfl rfl (pc2 := 70) ?_
      refine wp_ic jF_82_70 rfl (pc2 := 71) ?_
      refine wp_pi jF_82_71 kd80 (by decide) rfl rfl rfl (pc2 := 74) g16 (lo := 0) (hi := 30) rfl (by omega) (by omega) ?_
      intro τ19 g20 f21 e22
      refine wp_al1 jF_82_74 rfl rfl (pc2 := 75) ?_
      refine wp_lc jF_82_75 rfl (pc2 := 76) ?_
      refine wp_pl jF_82_76 kd80 (by decide) rfl rfl (pc2 := 79) g20 ?_
      intro τ23 g24 f25
      refine wp_al1 jF_82_79 rfl rfl (pc2 := 80) ?_
      refine wp_ic jF_82_80 rfl (pc2 := 81) ?_
      refine wp_pi jF_82_81 kd80 (by decide) rfl rfl rfl (pc2 := 84) g24 (lo := 0) (hi := 61) rfl (by omega) (by omega) ?_
      intro τ26 g27 f28 e29
      refine wp_ic jF_82_84 rfl (pc2 := 85) ?_
      refine wp_is1 (lv2 := [(0, .ref 80), (1, .ref 20), (2, iV x5), (3, iV 0)]) jF_82_85 rfl rfl rfl (pc2 := 86) ?_
      refine wp_loop (α := Int) (fun a => [(0, .ref 80), (1, .ref 20), (2, iV x5), (3, iV (a))]) (fun a τ => (0 ≤ a ∧ a ≤ 30) ∧ GI τ ∧ FR WW80 τ26 τ ∧ ((τ.1 80 6) = (a))) (fun a τ => Int.toNat (30 - (a))) (0) τ26 ?_ ?_
      · skip
        have q30 : (τ26.1 80 6) = 0 := ((FRw.nj f28 (by decide)).trans ((FRw.nj f25 (by decide)).trans e22))
        exact ⟨⟨by omega, by omega⟩, g27, FR.rf, (by omega)⟩
      · rintro x31 τ33 ⟨h32, g34, f35, p36⟩ ih37
        have b38 := GI.b g34 80 6 kd80 (lo := 0) (hi := 30) rfl
        show WP 82 86 [(0, .ref 80), (1, .ref 20), (2, iV x5), (3, iV x31)] [] _ _ _ _
        show WP 82 86 [(0, .ref 80), (1, .ref 20), (2, iV x5), (3, iV x31)] [] _ _ _ _
        refine wp_il1 jF_82_86 rfl rfl (pc2 := 87) ?_
        refine wp_bi jF_82_87 (by decide) rfl (pc2 := 89) ?_
        refine wp_i_ge jF_82_89 (m_rgb h32 rfl) (m_rgl rfl) rfl (pc2 := 92) ?_ ?_
        · intro h39
          refine wp_al1 jF_82_155 rfl rfl (pc2 := 156) ?_
          refine wp_gr (b := 83) jF_82_156 kd80 (by decide) (c := 6) rfl rfl rfl (pc2 := 159) ?_
          refine wp_al1 jF_82_159 rfl rfl (pc2 := 160) ?_
          refine wp_gi jF_82_160 kd80 (by decide) rfl rfl rfl (pc2 := 163) ?_
          refine wp_al1 jF_82_163 rfl rfl (pc2 := 164) ?_
          have b40 := GI.b g34 80 1 kd80 (lo := 0) (hi := 60) rfl
          refine wp_gi jF_82_164 kd80 (by decide) rfl rfl rfl (pc2 := 167) ?_
          refine wp_iast (n := 31) jF_82_167 kd83 (by decide) rfl rfl (by omega) (by omega) rfl (pc2 := 168) g34 (lo := 0) (hi := 60) rfl (by omega) (by omega) ?_
          intro τ41 g42 f43 e44
          refine wp_rv jF_82_168 ?_
          exact ⟨rfl, g42, (FR.w (FR.up (FR.w (FR.w (FR.w (FR.w (FR.up (FR.w FR.rf f3 rfl) f11 sb_WW80_WW80) f17 rfl) f21 rfl) f25 rfl) f28 rfl) f35 sb_WW80_WW80) f43 rfl)⟩
        · intro h39
          refine wp_al1 jF_82_92 rfl rfl (pc2 := 93) ?_
          have b45 := GI.b g34 80 8 kd80 (lo := 0) (hi := 61) rfl
          refine wp_gi jF_82_93 kd80 (by decide) rfl rfl rfl (pc2 := 96) ?_
          refine wp_al1 jF_82_96 rfl rfl (pc2 := 97) ?_
          have b46 := GI.b g34 80 1 kd80 (lo := 0) (hi := 60) rfl
          refine wp_gi jF_82_97 kd80 (by decide) rfl rfl rfl (pc2 := 100) ?_
          refine wp_i_ge jF_82_100 (m_rgb b45 rfl) (m_rgb b46 rfl) rfl (pc2 := 103) ?_ ?_
          · intro h47
            refine wp_al1 jF_82_155 rfl rfl (pc2 := 156) ?_
            refine wp_gr (b := 83) jF_82_156 kd80 (by decide) (c := 6) rfl rfl rfl (pc2 := 159) ?_
            refine wp_al1 jF_82_159 rfl rfl (pc2 := 160) ?_
            refine wp_gi jF_82_160 kd80 (by decide) rfl rfl rfl (pc2 := 163) ?_
            refine wp_al1 jF_82_163 rfl rfl (pc2 := 164) ?_
            refine wp_gi jF_82_164 kd80 (by decide) rfl rfl rfl (pc2 := 167) ?_
            refine wp_iast (n := 31) jF_82_167 kd83 (by decide) rfl rfl (by omega) (by omega) rfl (pc2 := 168) g34 (lo := 0) (hi := 60) rfl (by omega) (by omega) ?_
            intro τ48 g49 f50 e51
            refine wp_rv jF_82_168 ?_
            exact ⟨rfl, g49, (FR.w (FR.up (FR.w (FR.w (FR.w (FR.w (FR.up (FR.w FR.rf f3 rfl) f11 sb_WW80_WW80) f17 rfl) f21 rfl) f25 rfl) f28 rfl) f35 sb_WW80_WW80) f50 rfl)⟩
          · intro h47
            refine wp_al1 jF_82_103 rfl rfl (pc2 := 104) ?_
            refine wp_gr (b := 83) jF_82_104 kd80 (by decide) (c := 6) rfl rfl rfl (pc2 := 107) ?_
            refine wp_il1 jF_82_107 rfl rfl (pc2 := 108) ?_
            refine wp_al1 jF_82_108 rfl rfl (pc2 := 109) ?_
            refine wp_gi jF_82_109 kd80 (by decide) rfl rfl rfl (pc2 := 112) ?_
            refine wp_iast (n := 31) jF_82_112 kd83 (by decide) rfl rfl (by omega) (by omega) rfl (pc2 := 113) g34 (lo := 0) (hi := 60) rfl (by omega) (by omega) ?_
            intro τ52 g53 f54 e55
            refine wp_al1 jF_82_113 rfl rfl (pc2 := 114) ?_
            refine wp_gr (b := 84) jF_82_114 kd80 (by decide) (c := 7) rfl rfl rfl (pc2 := 117) ?_
            refine wp_il1 jF_82_117 rfl rfl (pc2 := 118) ?_
            refine wp_al1 jF_82_118 rfl rfl (pc2 := 119) ?_
            refine wp_al1 jF_82_119 rfl rfl (pc2 := 120) ?_
            refine wp_cV (as := [.ref 20]) (rest := [iV x31, .ref 84]) (a := 80) (mx := 12) (ci := 4) jF_82_120 kd80 (by decide) rfl rfl rfl rfl rfl (by omega) (by omega) rfl (pc2 := 123) ?_
            have q56 : (τ52.1 80 8) = (τ33.1 80 8) := (FRw.na f54 (by decide))
            refine wp_use (m_83_r80_20 τ52 g53  (by omega) _ _ (by omega) (by omega)) ?_
            rintro _ τ57 ⟨y60, rfl, g58, f59⟩
            show WP 82 123 [(0, .ref 80), (1, .ref 20), (2, iV x5), (3, iV x31)] [.long y60, iV x31, .ref 84] _ _ _ _
            refine wp_last (n := 30) jF_82_123 kd84 (by decide) rfl rfl (by omega) (by omega) rfl (pc2 := 124) g58 ?_
            intro τ61 g62 f63
            refine wp_al1 jF_82_124 rfl rfl (pc2 := 125) ?_
            refine wp_dup jF_82_125 rfl rfl (pc2 := 126) ?_
            refine wp_glA jF_82_126 kd80 (by decide) rfl rfl (pc2 := 129) ?_
            intro y64
            refine wp_al1 jF_82_129 rfl rfl (pc2 := 130) ?_
            refine wp_gr (b := 84) jF_82_130 kd80 (by decide) (c := 7) rfl rfl rfl (pc2 := 133) ?_
            refine wp_il1 jF_82_133 rfl rfl (pc2 := 134) ?_
            refine wp_lald (n := 30) jF_82_134 kd84 (by decide) rfl rfl (by omega) (by omega) rfl (pc2 := 135) ?_
            intro y65
            refine wp_lng (pc2 := 136) jF_82_135 rfl rfl ?_
            intro y66
            refine wp_pl jF_82_136 kd80 (by decide) rfl rfl (pc2 := 139) g62 ?_
            intro τ67 g68 f69
            refine wp_al1 jF_82_139 rfl rfl (pc2 := 140) ?_
            refine wp_dup jF_82_140 rfl rfl (pc2 := 141) ?_
            refine wp_gi jF_82_141 kd80 (by decide) rfl ((FRw.nj f69 (by decide)).trans ((FRw.na f63 (by decide)).trans ((FR.at f59 80 6 rfl).trans (FRw.na f54 (by decide))))) rfl (pc2 := 144) ?_
            refine wp_ic jF_82_144 rfl (pc2 := 145) ?_
            refine wp_add jF_82_145 rfl (pc2 := 146) ?_
            refine wp_pi jF_82_146 kd80 (by decide) rfl rfl rfl (pc2 := 149) g68 (lo := 0) (hi := 30) rfl (by omega) (by omega) ?_
            intro τ70 g71 f72 e73
            refine wp_inc (lv2 := [(0, .ref 80), (1, .ref 20), (2, iV x5), (3, iV (x31 + 1))]) jF_82_149 rfl rfl rfl rfl (pc2 := 152) ?_
            refine wp_go jF_82_152 ?_
            have q74 : (τ70.1 80 6) = ((τ33.1 80 6) + 1) := e73
            exact ih37 ((x31 + 1)) τ70 ⟨⟨by omega, by omega⟩, g71, (FR.w (FR.w (FR.w (FR.up (FR.w f35 f54 rfl) f59 sb_Wra80_WW80) f63 rfl) f69 rfl) f72 rfl), (by omega)⟩ (by show Int.toNat (30 - (x31 + 1)) < Int.toNat (30 - x31); omega)
    · intro h14
      refine wp_al1 jF_82_17 rfl rfl (pc2 := 18) ?_
      refine wp_gr (b := 82) jF_82_18 kd80 (by decide) (c := 5) rfl rfl rfl (pc2 := 21) ?_
      refine wp_il1 jF_82_21 rfl rfl (pc2 := 22) ?_
      refine wp_il1 jF_82_22 rfl rfl (pc2 := 23) ?_
      refine wp_iast (n := 61) jF_82_23 kd82 (by decide) rfl rfl (by omega) (by omega) rfl (pc2 := 24) g10 (lo := (-1)) (hi := 4) rfl (by omega) (by omega) ?_
      intro τ75 g76 f77 e78
      refine wp_il1 jF_82_24 rfl rfl (pc2 := 25) ?_
      refine wp_al1 jF_82_25 rfl rfl (pc2 := 26) ?_
      refine wp_gr (b := 81) jF_82_26 kd80 (by decide) (c := 4) rfl rfl rfl (pc2 := 29) ?_
      refine wp_il1 jF_82_29 rfl rfl (pc2 := 30) ?_
      have b79 := GI.b g10 81 x6.toNat kd81 (lo := 0) (hi := 255) rfl
      refine wp_iald (n := 60) (e := (τ9.1 81 x6.toNat)) jF_82_30 kd81 (by decide) rfl rfl (by omega) (by omega) (FRw.na f77 (by decide)) rfl (pc2 := 31) ?_
      refine wp_cS (as := [iV x5, iV (τ9.1 81 x6.toNat)]) (rest := []) (mx := 4) jF_82_31 rfl rfl rfl rfl (by omega) (by omega) rfl (pc2 := 34) ?_
      refine wp_use (m_78_r τ75 g76 x5 (by omega) (by omega) (τ9.1 81 x6.toNat) (by omega) (by omega)  _ _ (by omega) (by omega)) ?_
      rintro _ _ ⟨z82, rfl, h83, rfl⟩
      show WP 82 34 [(0, .ref 80), (1, .ref 20), (2, iV x5), (3, iV x6)] [iV z82] _ _ _ _
      refine wp_is1 (lv2 := [(0, .ref 80), (1, .ref 20), (2, iV z82), (3, iV x6)]) jF_82_34 rfl rfl rfl (pc2 := 35) ?_
      refine wp_al1 jF_82_35 rfl rfl (pc2 := 36) ?_
      refine wp_dup jF_82_36 rfl rfl (pc2 := 37) ?_
      have b84 := GI.b g10 80 2 kd80 (lo := (-2147483648)) (hi := 2147483647) rfl
      refine wp_gi jF_82_37 kd80 (by decide) rfl (FRw.na f77 (by decide)) rfl (pc2 := 40) ?_
      refine wp_al1 jF_82_40 rfl rfl (pc2 := 41) ?_
      refine wp_gr (b := 81) jF_82_41 kd80 (by decide) (c := 4) rfl rfl rfl (pc2 := 44) ?_
      refine wp_il1 jF_82_44 rfl rfl (pc2 := 45) ?_
      refine wp_iald (n := 60) (e := (τ9.1 81 x6.toNat)) jF_82_45 kd81 (by decide) rfl rfl (by omega) (by omega) (FRw.na f77 (by decide)) rfl (pc2 := 46) ?_
      refine wp_cS (as := [iV (τ9.1 81 x6.toNat)]) (rest := [iV (τ9.1 80 2), .ref 80]) (mx := 1) jF_82_46 rfl rfl rfl rfl (by omega) (by omega) rfl (pc2 := 49) ?_
      show WP 81 0 [(0, iV (τ9.1 81 x6.toNat))] [] _ _ _ _
      refine wp_il1 jF_81_0 rfl rfl (pc2 := 1) ?_
      refine wp_bi jF_81_1 (by decide) rfl (pc2 := 3) ?_
      refine wp_i_ne jF_81_3 (m_rgb b79 rfl) (m_rgl rfl) rfl (pc2 := 6) ?_ ?_
      · intro h85
        refine wp_ic jF_81_10 rfl (pc2 := 11) ?_
        refine wp_ri jF_81_11 rfl ?_
        show WP 82 49 [(0, .ref 80), (1, .ref 20), (2, iV z82), (3, iV x6)] [iV 1, iV (τ9.1 80 2), .ref 80] _ _ _ _
        refine wp_any2 (pc2 := 50) jF_82_49 rfl rfl ?_
        intro z86 h87
        refine wp_pi jF_82_50 kd80 (by decide) rfl rfl rfl (pc2 := 53) g76 (lo := (-2147483648)) (hi := 2147483647) rfl (by omega) (by omega) ?_
        intro τ88 g89 f90 e91
        refine wp_inc (lv2 := [(0, .ref 80), (1, .ref 20), (2, iV z82), (3, iV (x6 + 1))]) jF_82_53 rfl rfl rfl rfl (pc2 := 56) ?_
        refine wp_go jF_82_56 ?_
        exact ih12 (z82, (x6 + 1)) τ88 ⟨⟨by (try dsimp only); omega, by (try dsimp only); omega⟩, ⟨by (try dsimp only); omega, by (try dsimp only); omega⟩, g89, (FR.w (FR.w f11 f77 rfl) f90 rfl)⟩ (by show Int.toNat (60 - (x6 + 1)) < Int.toNat (60 - x6); omega)
      · intro h85
        refine wp_ic jF_81_6 rfl (pc2 := 7) ?_
        refine wp_go jF_81_7 ?_
        refine wp_ri jF_81_11 rfl ?_
        show WP 82 49 [(0, .ref 80), (1, .ref 20), (2, iV z82), (3, iV x6)] [iV 0, iV (τ9.1 80 2), .ref 80] _ _ _ _
        refine wp_add jF_82_49 rfl (pc2 := 50) ?_
        refine wp_pi jF_82_50 kd80 (by decide) rfl rfl rfl (pc2 := 53) g76 (lo := (-2147483648)) (hi := 2147483647) rfl (by omega) (by omega) ?_
        intro τ92 g93 f94 e95
        refine wp_inc (lv2 := [(0, .ref 80), (1, .ref 20), (2, iV z82), (3, iV (x6 + 1))]) jF_82_53 rfl rfl rfl rfl (pc2 := 56) ?_
        refine wp_go jF_82_56 ?_
        exact ih12 (z82, (x6 + 1)) τ92 ⟨⟨by (try dsimp only); omega, by (try dsimp only); omega⟩, ⟨by (try dsimp only); omega, by (try dsimp only); omega⟩, g93, (FR.w (FR.w f11 f77 rfl) f94 rfl)⟩ (by show Int.toNat (60 - (x6 + 1)) < Int.toNat (60 - x6); omega)
set_option maxHeartbeats 4000000 in
set_option maxRecDepth 20000 in
/-- Row.weigh -/
theorem m_82_r80_45 (σ : jM) (hg : GI σ)   (fr lo : Nat) (hfr : 1 ≤ fr) (hlo : 31 ≤ lo) : WP 82 0 (lv_args 0 [.ref 80, .ref 45]) [] fr lo σ (fun v τ => v = none ∧ GI τ ∧ FR WW80 σ τ) := by
  show WP 82 0 [(0, .ref 80), (1, .ref 45)] [] _ _ _ _
  refine wp_al1 jF_82_0 rfl rfl (pc2 := 1) ?_
  refine wp_ic jF_82_1 rfl (pc2 := 2) ?_
  refine wp_pi jF_82_2 kd80 (by decide) rfl rfl rfl (pc2 := 5) hg (lo := (-2147483648)) (hi := 2147483647) rfl (by omega) (by omega) ?_
  intro τ1 g2 f3 e4
  refine wp_ic jF_82_5 rfl (pc2 := 6) ?_
  refine wp_is1 (lv2 := [(0, .ref 80), (1, .ref 45), (2, iV 0)]) jF_82_6 rfl rfl rfl (pc2 := 7) ?_
  refine wp_ic jF_82_7 rfl (pc2 := 8) ?_
  refine wp_is1 (lv2 := [(0, .ref 80), (1, .ref 45), (2, iV 0), (3, iV 0)]) jF_82_8 rfl rfl rfl (pc2 := 9) ?_
  refine wp_loop (α := Int × Int) (fun a => [(0, .ref 80), (1, .ref 45), (2, iV (a.1)), (3, iV (a.2))]) (fun a τ => ((-1) ≤ a.1 ∧ a.1 ≤ 4) ∧ (0 ≤ a.2 ∧ a.2 ≤ 60) ∧ GI τ ∧ FR WW80 τ1 τ) (fun a τ => Int.toNat (60 - (a.2))) (0, 0) τ1 ?_ ?_
  · skip
    exact ⟨⟨by (try dsimp only); omega, by (try dsimp only); omega⟩, ⟨by (try dsimp only); omega, by (try dsimp only); omega⟩, g2, FR.rf⟩
  · rintro ⟨x5, x6⟩ τ9 ⟨h7, h8, g10, f11⟩ ih12
    try dsimp only at h7 h8 g10 f11
    show WP 82 9 [(0, .ref 80), (1, .ref 45), (2, iV x5), (3, iV x6)] [] _ _ _ _
    show WP 82 9 [(0, .ref 80), (1, .ref 45), (2, iV x5), (3, iV x6)] [] _ _ _ _
    refine wp_il1 jF_82_9 rfl rfl (pc2 := 10) ?_
    refine wp_al1 jF_82_10 rfl rfl (pc2 := 11) ?_
    have b13 := GI.b g10 80 1 kd80 (lo := 0) (hi := 60) rfl
    refine wp_gi jF_82_11 kd80 (by decide) rfl rfl rfl (pc2 := 14) ?_
    refine wp_i_ge jF_82_14 (m_rgb h8 rfl) (m_rgb b13 rfl) rfl (pc2 := 17) ?_ ?_
    · intro h14
      refine wp_al1 jF_82_59 rfl rfl (pc2 := 60) ?_
      refine wp_gr (b := 82) jF_82_60 kd80 (by decide) (c := 5) rfl rfl rfl (pc2 := 63) ?_
      refine wp_al1 jF_82_63 rfl rfl (pc2 := 64) ?_
      refine wp_gi jF_82_64 kd80 (by decide) rfl rfl rfl (pc2 := 67) ?_
      refine wp_il1 jF_82_67 rfl rfl (pc2 := 68) ?_
      refine wp_iast (n := 61) jF_82_68 kd82 (by decide) rfl rfl (by omega) (by omega) rfl (pc2 := 69) g10 (lo := (-1)) (hi := 4) rfl (by omega) (by omega) ?_
      intro τ15 g16 f17 e18
      refine wp_al1 jF_82_69 rfl rfl (pc2 := 70) ?_
      refine wp_ic jF_82_70 rfl (pc2 := 71) ?_
      refine wp_pi jF_82_71 kd80 (by decide) rfl rfl rfl (pc2 := 74) g16 (lo := 0) (hi := 30) rfl (by omega) (by omega) ?_
      intro τ19 g20 f21 e22
      refine wp_al1 jF_82_74 rfl rfl (pc2 := 75) ?_
      refine wp_lc jF_82_75 rfl (pc2 := 76) ?_
      refine wp_pl jF_82_76 kd80 (by decide) rfl rfl (pc2 := 79) g20 ?_
      intro τ23 g24 f25
      refine wp_al1 jF_82_79 rfl rfl (pc2 := 80) ?_
      refine wp_ic jF_82_80 rfl (pc2 := 81) ?_
      refine wp_pi jF_82_81 kd80 (by decide) rfl rfl rfl (pc2 := 84) g24 (lo := 0) (hi := 61) rfl (by omega) (by omega) ?_
      intro τ26 g27 f28 e29
      refine wp_ic jF_82_84 rfl (pc2 := 85) ?_
      refine wp_is1 (lv2 := [(0, .ref 80), (1, .ref 45), (2, iV x5), (3, iV 0)]) jF_82_85 rfl rfl rfl (pc2 := 86) ?_
      refine wp_loop (α := Int) (fun a => [(0, .ref 80), (1, .ref 45), (2, iV x5), (3, iV (a))]) (fun a τ => (0 ≤ a ∧ a ≤ 30) ∧ GI τ ∧ FR WW80 τ26 τ ∧ ((τ.1 80 6) = (a))) (fun a τ => Int.toNat (30 - (a))) (0) τ26 ?_ ?_
      · skip
        have q30 : (τ26.1 80 6) = 0 := ((FRw.nj f28 (by decide)).trans ((FRw.nj f25 (by decide)).trans e22))
        exact ⟨⟨by omega, by omega⟩, g27, FR.rf, (by omega)⟩
      · rintro x31 τ33 ⟨h32, g34, f35, p36⟩ ih37
        have b38 := GI.b g34 80 6 kd80 (lo := 0) (hi := 30) rfl
        show WP 82 86 [(0, .ref 80), (1, .ref 45), (2, iV x5), (3, iV x31)] [] _ _ _ _
        show WP 82 86 [(0, .ref 80), (1, .ref 45), (2, iV x5), (3, iV x31)] [] _ _ _ _
        refine wp_il1 jF_82_86 rfl rfl (pc2 := 87) ?_
        refine wp_bi jF_82_87 (by decide) rfl (pc2 := 89) ?_
        refine wp_i_ge jF_82_89 (m_rgb h32 rfl) (m_rgl rfl) rfl (pc2 := 92) ?_ ?_
        · intro h39
          refine wp_al1 jF_82_155 rfl rfl (pc2 := 156) ?_
          refine wp_gr (b := 83) jF_82_156 kd80 (by decide) (c := 6) rfl rfl rfl (pc2 := 159) ?_
          refine wp_al1 jF_82_159 rfl rfl (pc2 := 160) ?_
          refine wp_gi jF_82_160 kd80 (by decide) rfl rfl rfl (pc2 := 163) ?_
          refine wp_al1 jF_82_163 rfl rfl (pc2 := 164) ?_
          have b40 := GI.b g34 80 1 kd80 (lo := 0) (hi := 60) rfl
          refine wp_gi jF_82_164 kd80 (by decide) rfl rfl rfl (pc2 := 167) ?_
          refine wp_iast (n := 31) jF_82_167 kd83 (by decide) rfl rfl (by omega) (by omega) rfl (pc2 := 168) g34 (lo := 0) (hi := 60) rfl (by omega) (by omega) ?_
          intro τ41 g42 f43 e44
          refine wp_rv jF_82_168 ?_
          exact ⟨rfl, g42, (FR.w (FR.up (FR.w (FR.w (FR.w (FR.w (FR.up (FR.w FR.rf f3 rfl) f11 sb_WW80_WW80) f17 rfl) f21 rfl) f25 rfl) f28 rfl) f35 sb_WW80_WW80) f43 rfl)⟩
        · intro h39
          refine wp_al1 jF_82_92 rfl rfl (pc2 := 93) ?_
          have b45 := GI.b g34 80 8 kd80 (lo := 0) (hi := 61) rfl
          refine wp_gi jF_82_93 kd80 (by decide) rfl rfl rfl (pc2 := 96) ?_
          refine wp_al1 jF_82_96 rfl rfl (pc2 := 97) ?_
          have b46 := GI.b g34 80 1 kd80 (lo := 0) (hi := 60) rfl
          refine wp_gi jF_82_97 kd80 (by decide) rfl rfl rfl (pc2 := 100) ?_
          refine wp_i_ge jF_82_100 (m_rgb b45 rfl) (m_rgb b46 rfl) rfl (pc2 := 103) ?_ ?_
          · intro h47
            refine wp_al1 jF_82_155 rfl rfl (pc2 := 156) ?_
            refine wp_gr (b := 83) jF_82_156 kd80 (by decide) (c := 6) rfl rfl rfl (pc2 := 159) ?_
            refine wp_al1 jF_82_159 rfl rfl (pc2 := 160) ?_
            refine wp_gi jF_82_160 kd80 (by decide) rfl rfl rfl (pc2 := 163) ?_
            refine wp_al1 jF_82_163 rfl rfl (pc2 := 164) ?_
            refine wp_gi jF_82_164 kd80 (by decide) rfl rfl rfl (pc2 := 167) ?_
            refine wp_iast (n := 31) jF_82_167 kd83 (by decide) rfl rfl (by omega) (by omega) rfl (pc2 := 168) g34 (lo := 0) (hi := 60) rfl (by omega) (by omega) ?_
            intro τ48 g49 f50 e51
            refine wp_rv jF_82_168 ?_
            exact ⟨rfl, g49, (FR.w (FR.up (FR.w (FR.w (FR.w (FR.w (FR.up (FR.w FR.rf f3 rfl) f11 sb_WW80_WW80) f17 rfl) f21 rfl) f25 rfl) f28 rfl) f35 sb_WW80_WW80) f50 rfl)⟩
          · intro h47
            refine wp_al1 jF_82_103 rfl rfl (pc2 := 104) ?_
            refine wp_gr (b := 83) jF_82_104 kd80 (by decide) (c := 6) rfl rfl rfl (pc2 := 107) ?_
            refine wp_il1 jF_82_107 rfl rfl (pc2 := 108) ?_
            refine wp_al1 jF_82_108 rfl rfl (pc2 := 109) ?_
            refine wp_gi jF_82_109 kd80 (by decide) rfl rfl rfl (pc2 := 112) ?_
            refine wp_iast (n := 31) jF_82_112 kd83 (by decide) rfl rfl (by omega) (by omega) rfl (pc2 := 113) g34 (lo := 0) (hi := 60) rfl (by omega) (by omega) ?_
            intro τ52 g53 f54 e55
            refine wp_al1 jF_82_113 rfl rfl (pc2 := 114) ?_
            refine wp_gr (b := 84) jF_82_114 kd80 (by decide) (c := 7) rfl rfl rfl (pc2 := 117) ?_
            refine wp_il1 jF_82_117 rfl rfl (pc2 := 118) ?_
            refine wp_al1 jF_82_118 rfl rfl (pc2 := 119) ?_
            refine wp_al1 jF_82_119 rfl rfl (pc2 := 120) ?_
            refine wp_cV (as := [.ref 45]) (rest := [iV x31, .ref 84]) (a := 80) (mx := 12) (ci := 4) jF_82_120 kd80 (by decide) rfl rfl rfl rfl rfl (by omega) (by omega) rfl (pc2 := 123) ?_
            have q56 : (τ52.1 80 8) = (τ33.1 80 8) := (FRw.na f54 (by decide))
            refine wp_use (m_83_r80_45 τ52 g53  (by omega) _ _ (by omega) (by omega)) ?_
            rintro _ τ57 ⟨y60, rfl, g58, f59⟩
            show WP 82 123 [(0, .ref 80), (1, .ref 45), (2, iV x5), (3, iV x31)] [.long y60, iV x31, .ref 84] _ _ _ _
            refine wp_last (n := 30) jF_82_123 kd84 (by decide) rfl rfl (by omega) (by omega) rfl (pc2 := 124) g58 ?_
            intro τ61 g62 f63
            refine wp_al1 jF_82_124 rfl rfl (pc2 := 125) ?_
            refine wp_dup jF_82_125 rfl rfl (pc2 := 126) ?_
            refine wp_glA jF_82_126 kd80 (by decide) rfl rfl (pc2 := 129) ?_
            intro y64
            refine wp_al1 jF_82_129 rfl rfl (pc2 := 130) ?_
            refine wp_gr (b := 84) jF_82_130 kd80 (by decide) (c := 7) rfl rfl rfl (pc2 := 133) ?_
            refine wp_il1 jF_82_133 rfl rfl (pc2 := 134) ?_
            refine wp_lald (n := 30) jF_82_134 kd84 (by decide) rfl rfl (by omega) (by omega) rfl (pc2 := 135) ?_
            intro y65
            refine wp_lng (pc2 := 136) jF_82_135 rfl rfl ?_
            intro y66
            refine wp_pl jF_82_136 kd80 (by decide) rfl rfl (pc2 := 139) g62 ?_
            intro τ67 g68 f69
            refine wp_al1 jF_82_139 rfl rfl (pc2 := 140) ?_
            refine wp_dup jF_82_140 rfl rfl (pc2 := 141) ?_
            refine wp_gi jF_82_141 kd80 (by decide) rfl ((FRw.nj f69 (by decide)).trans ((FRw.na f63 (by decide)).trans ((FR.at f59 80 6 rfl).trans (FRw.na f54 (by decide))))) rfl (pc2 := 144) ?_
            refine wp_ic jF_82_144 rfl (pc2 := 145) ?_
            refine wp_add jF_82_145 rfl (pc2 := 146) ?_
            refine wp_pi jF_82_146 kd80 (by decide) rfl rfl rfl (pc2 := 149) g68 (lo := 0) (hi := 30) rfl (by omega) (by omega) ?_
            intro τ70 g71 f72 e73
            refine wp_inc (lv2 := [(0, .ref 80), (1, .ref 45), (2, iV x5), (3, iV (x31 + 1))]) jF_82_149 rfl rfl rfl rfl (pc2 := 152) ?_
            refine wp_go jF_82_152 ?_
            have q74 : (τ70.1 80 6) = ((τ33.1 80 6) + 1) := e73
            exact ih37 ((x31 + 1)) τ70 ⟨⟨by omega, by omega⟩, g71, (FR.w (FR.w (FR.w (FR.up (FR.w f35 f54 rfl) f59 sb_Wra80_WW80) f63 rfl) f69 rfl) f72 rfl), (by omega)⟩ (by show Int.toNat (30 - (x31 + 1)) < Int.toNat (30 - x31); omega)
    · intro h14
      refine wp_al1 jF_82_17 rfl rfl (pc2 := 18) ?_
      refine wp_gr (b := 82) jF_82_18 kd80 (by decide) (c := 5) rfl rfl rfl (pc2 := 21) ?_
      refine wp_il1 jF_82_21 rfl rfl (pc2 := 22) ?_
      refine wp_il1 jF_82_22 rfl rfl (pc2 := 23) ?_
      refine wp_iast (n := 61) jF_82_23 kd82 (by decide) rfl rfl (by omega) (by omega) rfl (pc2 := 24) g10 (lo := (-1)) (hi := 4) rfl (by omega) (by omega) ?_
      intro τ75 g76 f77 e78
      refine wp_il1 jF_82_24 rfl rfl (pc2 := 25) ?_
      refine wp_al1 jF_82_25 rfl rfl (pc2 := 26) ?_
      refine wp_gr (b := 81) jF_82_26 kd80 (by decide) (c := 4) rfl rfl rfl (pc2 := 29) ?_
      refine wp_il1 jF_82_29 rfl rfl (pc2 := 30) ?_
      have b79 := GI.b g10 81 x6.toNat kd81 (lo := 0) (hi := 255) rfl
      refine wp_iald (n := 60) (e := (τ9.1 81 x6.toNat)) jF_82_30 kd81 (by decide) rfl rfl (by omega) (by omega) (FRw.na f77 (by decide)) rfl (pc2 := 31) ?_
      refine wp_cS (as := [iV x5, iV (τ9.1 81 x6.toNat)]) (rest := []) (mx := 4) jF_82_31 rfl rfl rfl rfl (by omega) (by omega) rfl (pc2 := 34) ?_
      refine wp_use (m_78_r τ75 g76 x5 (by omega) (by omega) (τ9.1 81 x6.toNat) (by omega) (by omega)  _ _ (by omega) (by omega)) ?_
      rintro _ _ ⟨z82, rfl, h83, rfl⟩
      show WP 82 34 [(0, .ref 80), (1, .ref 45), (2, iV x5), (3, iV x6)] [iV z82] _ _ _ _
      refine wp_is1 (lv2 := [(0, .ref 80), (1, .ref 45), (2, iV z82), (3, iV x6)]) jF_82_34 rfl rfl rfl (pc2 := 35) ?_
      refine wp_al1 jF_82_35 rfl rfl (pc2 := 36) ?_
      refine wp_dup jF_82_36 rfl rfl (pc2 := 37) ?_
      have b84 := GI.b g10 80 2 kd80 (lo := (-2147483648)) (hi := 2147483647) rfl
      refine wp_gi jF_82_37 kd80 (by decide) rfl (FRw.na f77 (by decide)) rfl (pc2 := 40) ?_
      refine wp_al1 jF_82_40 rfl rfl (pc2 := 41) ?_
      refine wp_gr (b := 81) jF_82_41 kd80 (by decide) (c := 4) rfl rfl rfl (pc2 := 44) ?_
      refine wp_il1 jF_82_44 rfl rfl (pc2 := 45) ?_
      refine wp_iald (n := 60) (e := (τ9.1 81 x6.toNat)) jF_82_45 kd81 (by decide) rfl rfl (by omega) (by omega) (FRw.na f77 (by decide)) rfl (pc2 := 46) ?_
      refine wp_cS (as := [iV (τ9.1 81 x6.toNat)]) (rest := [iV (τ9.1 80 2), .ref 80]) (mx := 1) jF_82_46 rfl rfl rfl rfl (by omega) (by omega) rfl (pc2 := 49) ?_
      show WP 81 0 [(0, iV (τ9.1 81 x6.toNat))] [] _ _ _ _
      refine wp_il1 jF_81_0 rfl rfl (pc2 := 1) ?_
      refine wp_bi jF_81_1 (by decide) rfl (pc2 := 3) ?_
      refine wp_i_ne jF_81_3 (m_rgb b79 rfl) (m_rgl rfl) rfl (pc2 := 6) ?_ ?_
      · intro h85
        refine wp_ic jF_81_10 rfl (pc2 := 11) ?_
        refine wp_ri jF_81_11 rfl ?_
        show WP 82 49 [(0, .ref 80), (1, .ref 45), (2, iV z82), (3, iV x6)] [iV 1, iV (τ9.1 80 2), .ref 80] _ _ _ _
        refine wp_any2 (pc2 := 50) jF_82_49 rfl rfl ?_
        intro z86 h87
        refine wp_pi jF_82_50 kd80 (by decide) rfl rfl rfl (pc2 := 53) g76 (lo := (-2147483648)) (hi := 2147483647) rfl (by omega) (by omega) ?_
        intro τ88 g89 f90 e91
        refine wp_inc (lv2 := [(0, .ref 80), (1, .ref 45), (2, iV z82), (3, iV (x6 + 1))]) jF_82_53 rfl rfl rfl rfl (pc2 := 56) ?_
        refine wp_go jF_82_56 ?_
        exact ih12 (z82, (x6 + 1)) τ88 ⟨⟨by (try dsimp only); omega, by (try dsimp only); omega⟩, ⟨by (try dsimp only); omega, by (try dsimp only); omega⟩, g89, (FR.w (FR.w f11 f77 rfl) f90 rfl)⟩ (by show Int.toNat (60 - (x6 + 1)) < Int.toNat (60 - x6); omega)
      · intro h85
        refine wp_ic jF_81_6 rfl (pc2 := 7) ?_
        refine wp_go jF_81_7 ?_
        refine wp_ri jF_81_11 rfl ?_
        show WP 82 49 [(0, .ref 80), (1, .ref 45), (2, iV z82), (3, iV x6)] [iV 0, iV (τ9.1 80 2), .ref 80] _ _ _ _
        refine wp_add jF_82_49 rfl (pc2 := 50) ?_
        refine wp_pi jF_82_50 kd80 (by decide) rfl rfl rfl (pc2 := 53) g76 (lo := (-2147483648)) (hi := 2147483647) rfl (by omega) (by omega) ?_
        intro τ92 g93 f94 e95
        refine wp_inc (lv2 := [(0, .ref 80), (1, .ref 45), (2, iV z82), (3, iV (x6 + 1))]) jF_82_53 rfl rfl rfl rfl (pc2 := 56) ?_
        refine wp_go jF_82_56 ?_
        exact ih12 (z82, (x6 + 1)) τ92 ⟨⟨by (try dsimp only); omega, by (try dsimp only); omega⟩, ⟨by (try dsimp only); omega, by (try dsimp only); omega⟩, g93, (FR.w (FR.w f11 f77 rfl) f94 rfl)⟩ (by show Int.toNat (60 - (x6 + 1)) < Int.toNat (60 - x6); omega)
set_option maxHeartbeats 4000000 in
set_option maxRecDepth 20000 in
/-- Row.weigh -/
theorem m_82_r104_20 (σ : jM) (hg : GI σ)   (fr lo : Nat) (hfr : 1 ≤ fr) (hlo : 31 ≤ lo) : WP 82 0 (lv_args 0 [.ref 104, .ref 20]) [] fr lo σ (fun v τ => v = none ∧ GI τ ∧ FR WW104 σ τ) := by
  show WP 82 0 [(0, .ref 104), (1, .ref 20)] [] _ _ _ _
  refine wp_al1 jF_82_0 rfl rfl (pc2 := 1) ?_
  refine wp_ic jF_82_1 rfl (pc2 := 2) ?_
  refine wp_pi jF_82_2 kd104 (by decide) rfl rfl rfl (pc2 := 5) hg (lo := (-2147483648)) (hi := 2147483647) rfl (by omega) (by omega) ?_
  intro τ1 g2 f3 e4
  refine wp_ic jF_82_5 rfl (pc2 := 6) ?_
  refine wp_is1 (lv2 := [(0, .ref 104), (1, .ref 20), (2, iV 0)]) jF_82_6 rfl rfl rfl (pc2 := 7) ?_
  refine wp_ic jF_82_7 rfl (pc2 := 8) ?_
  refine wp_is1 (lv2 := [(0, .ref 104), (1, .ref 20), (2, iV 0), (3, iV 0)]) jF_82_8 rfl rfl rfl (pc2 := 9) ?_
  refine wp_loop (α := Int × Int) (fun a => [(0, .ref 104), (1, .ref 20), (2, iV (a.1)), (3, iV (a.2))]) (fun a τ => ((-1) ≤ a.1 ∧ a.1 ≤ 4) ∧ (0 ≤ a.2 ∧ a.2 ≤ 60) ∧ GI τ ∧ FR WW104 τ1 τ) (fun a τ => Int.toNat (60 - (a.2))) (0, 0) τ1 ?_ ?_
  · skip
    exact ⟨⟨by (try dsimp only); omega, by (try dsimp only); omega⟩, ⟨by (try dsimp only); omega, by (try dsimp only); omega⟩, g2, FR.rf⟩
  · rintro ⟨x5, x6⟩ τ9 ⟨h7, h8, g10, f11⟩ ih12
    try dsimp only at h7 h8 g10 f11
    show WP 82 9 [(0, .ref 104), (1, .ref 20), (2, iV x5), (3, iV x6)] [] _ _ _ _
    show WP 82 9 [(0, .ref 104), (1, .ref 20), (2, iV x5), (3, iV x6)] [] _ _ _ _
    refine wp_il1 jF_82_9 rfl rfl (pc2 := 10) ?_
    refine wp_al1 jF_82_10 rfl rfl (pc2 := 11) ?_
    have b13 := GI.b g10 104 1 kd104 (lo := 0) (hi := 60) rfl
    refine wp_gi jF_82_11 kd104 (by decide) rfl rfl rfl (pc2 := 14) ?_
    refine wp_i_ge jF_82_14 (m_rgb h8 rfl) (m_rgb b13 rfl) rfl (pc2 := 17) ?_ ?_
    · intro h14
      refine wp_al1 jF_82_59 rfl rfl (pc2 := 60) ?_
      refine wp_gr (b := 106) jF_82_60 kd104 (by decide) (c := 5) rfl rfl rfl (pc2 := 63) ?_
      refine wp_al1 jF_82_63 rfl rfl (pc2 := 64) ?_
      refine wp_gi jF_82_64 kd104 (by decide) rfl rfl rfl (pc2 := 67) ?_
      refine wp_il1 jF_82_67 rfl rfl (pc2 := 68) ?_
      refine wp_iast (n := 61) jF_82_68 kd106 (by decide) rfl rfl (by omega) (by omega) rfl (pc2 := 69) g10 (lo := (-1)) (hi := 4) rfl (by omega) (by omega) ?_
      intro τ15 g16 f17 e18
      refine wp_al1 jF_82_69 rfl rfl (pc2 := 70) ?_
      refine wp_ic jF_82_70 rfl (pc2 := 71) ?_
      refine wp_pi jF_82_71 kd104 (by decide) rfl rfl rfl (pc2 := 74) g16 (lo := 0) (hi := 30) rfl (by omega) (by omega) ?_
      intro τ19 g20 f21 e22
      refine wp_al1 jF_82_74 rfl rfl (pc2 := 75) ?_
      refine wp_lc jF_82_75 rfl (pc2 := 76) ?_
      refine wp_pl jF_82_76 kd104 (by decide) rfl rfl (pc2 := 79) g20 ?_
      intro τ23 g24 f25
      refine wp_al1 jF_82_79 rfl rfl (pc2 := 80) ?_
      refine wp_ic jF_82_80 rfl (pc2 := 81) ?_
      refine wp_pi jF_82_81 kd104 (by decide) rfl rfl rfl (pc2 := 84) g24 (lo := 0) (hi := 61) rfl (by omega) (by omega) ?_
      intro τ26 g27 f28 e29
      refine wp_ic jF_82_84 rfl (pc2 := 85) ?_
      refine wp_is1 (lv2 := [(0, .ref 104), (1, .ref 20), (2, iV x5), (3, iV 0)]) jF_82_85 rfl rfl rfl (pc2 := 86) ?_
      refine wp_loop (α := Int) (fun a => [(0, .ref 104), (1, .ref 20), (2, iV x5), (3, iV (a))]) (fun a τ => (0 ≤ a ∧ a ≤ 30) ∧ GI τ ∧ FR WW104 τ26 τ ∧ ((τ.1 104 6) = (a))) (fun a τ => Int.toNat (30 - (a))) (0) τ26 ?_ ?_
      · skip
        have q30 : (τ26.1 104 6) = 0 := ((FRw.nj f28 (by decide)).trans ((FRw.nj f25 (by decide)).trans e22))
        exact ⟨⟨by omega, by omega⟩, g27, FR.rf, (by omega)⟩
      · rintro x31 τ33 ⟨h32, g34, f35, p36⟩ ih37
        have b38 := GI.b g34 104 6 kd104 (lo := 0) (hi := 30) rfl
        show WP 82 86 [(0, .ref 104), (1, .ref 20), (2, iV x5), (3, iV x31)] [] _ _ _ _
        show WP 82 86 [(0, .ref 104), (1, .ref 20), (2, iV x5), (3, iV x31)] [] _ _ _ _
        refine wp_il1 jF_82_86 rfl rfl (pc2 := 87) ?_
        refine wp_bi jF_82_87 (by decide) rfl (pc2 := 89) ?_
        refine wp_i_ge jF_82_89 (m_rgb h32 rfl) (m_rgl rfl) rfl (pc2 := 92) ?_ ?_
        · intro h39
          refine wp_al1 jF_82_155 rfl rfl (pc2 := 156) ?_
          refine wp_gr (b := 107) jF_82_156 kd104 (by decide) (c := 6) rfl rfl rfl (pc2 := 159) ?_
          refine wp_al1 jF_82_159 rfl rfl (pc2 := 160) ?_
          refine wp_gi jF_82_160 kd104 (by decide) rfl rfl rfl (pc2 := 163) ?_
          refine wp_al1 jF_82_163 rfl rfl (pc2 := 164) ?_
          have b40 := GI.b g34 104 1 kd104 (lo := 0) (hi := 60) rfl
          refine wp_gi jF_82_164 kd104 (by decide) rfl rfl rfl (pc2 := 167) ?_
          refine wp_iast (n := 31) jF_82_167 kd107 (by decide) rfl rfl (by omega) (by omega) rfl (pc2 := 168) g34 (lo := 0) (hi := 60) rfl (by omega) (by omega) ?_
          intro τ41 g42 f43 e44
          refine wp_rv jF_82_168 ?_
          exact ⟨rfl, g42, (FR.w (FR.up (FR.w (FR.w (FR.w (FR.w (FR.up (FR.w FR.rf f3 rfl) f11 sb_WW104_WW104) f17 rfl) f21 rfl) f25 rfl) f28 rfl) f35 sb_WW104_WW104) f43 rfl)⟩
        · intro h39
          refine wp_al1 jF_82_92 rfl rfl (pc2 := 93) ?_
          have b45 := GI.b g34 104 8 kd104 (lo := 0) (hi := 61) rfl
          refine wp_gi jF_82_93 kd104 (by decide) rfl rfl rfl (pc2 := 96) ?_
          refine wp_al1 jF_82_96 rfl rfl (pc2 := 97) ?_
          have b46 := GI.b g34 104 1 kd104 (lo := 0) (hi := 60) rfl
          refine wp_gi jF_82_97 kd104 (by decide) rfl rfl rfl (pc2 := 100) ?_
          refine wp_i_ge jF_82_100 (m_rgb b45 rfl) (m_rgb b46 rfl) rfl (pc2 := 103) ?_ ?_
          · intro h47
            refine wp_al1 jF_82_155 rfl rfl (pc2 := 156) ?_
            refine wp_gr (b := 107) jF_82_156 kd104 (by decide) (c := 6) rfl rfl rfl (pc2 := 159) ?_
            refine wp_al1 jF_82_159 rfl rfl (pc2 := 160) ?_
            refine wp_gi jF_82_160 kd104 (by decide) rfl rfl rfl (pc2 := 163) ?_
            refine wp_al1 jF_82_163 rfl rfl (pc2 := 164) ?_
            refine wp_gi jF_82_164 kd104 (by decide) rfl rfl rfl (pc2 := 167) ?_
            refine wp_iast (n := 31) jF_82_167 kd107 (by decide) rfl rfl (by omega) (by omega) rfl (pc2 := 168) g34 (lo := 0) (hi := 60) rfl (by omega) (by omega) ?_
            intro τ48 g49 f50 e51
            refine wp_rv jF_82_168 ?_
            exact ⟨rfl, g49, (FR.w (FR.up (FR.w (FR.w (FR.w (FR.w (FR.up (FR.w FR.rf f3 rfl) f11 sb_WW104_WW104) f17 rfl) f21 rfl) f25 rfl) f28 rfl) f35 sb_WW104_WW104) f50 rfl)⟩
          · intro h47
            refine wp_al1 jF_82_103 rfl rfl (pc2 := 104) ?_
            refine wp_gr (b := 107) jF_82_104 kd104 (by decide) (c := 6) rfl rfl rfl (pc2 := 107) ?_
            refine wp_il1 jF_82_107 rfl rfl (pc2 := 108) ?_
            refine wp_al1 jF_82_108 rfl rfl (pc2 := 109) ?_
            refine wp_gi jF_82_109 kd104 (by decide) rfl rfl rfl (pc2 := 112) ?_
            refine wp_iast (n := 31) jF_82_112 kd107 (by decide) rfl rfl (by omega) (by omega) rfl (pc2 := 113) g34 (lo := 0) (hi := 60) rfl (by omega) (by omega) ?_
            intro τ52 g53 f54 e55
            refine wp_al1 jF_82_113 rfl rfl (pc2 := 114) ?_
            refine wp_gr (b := 108) jF_82_114 kd104 (by decide) (c := 7) rfl rfl rfl (pc2 := 117) ?_
            refine wp_il1 jF_82_117 rfl rfl (pc2 := 118) ?_
            refine wp_al1 jF_82_118 rfl rfl (pc2 := 119) ?_
            refine wp_al1 jF_82_119 rfl rfl (pc2 := 120) ?_
            refine wp_cV (as := [.ref 20]) (rest := [iV x31, .ref 108]) (a := 104) (mx := 12) (ci := 4) jF_82_120 kd104 (by decide) rfl rfl rfl rfl rfl (by omega) (by omega) rfl (pc2 := 123) ?_
            have q56 : (τ52.1 104 8) = (τ33.1 104 8) := (FRw.na f54 (by decide))
            refine wp_use (m_83_r104_20 τ52 g53  (by omega) _ _ (by omega) (by omega)) ?_
            rintro _ τ57 ⟨y60, rfl, g58, f59⟩
            show WP 82 123 [(0, .ref 104), (1, .ref 20), (2, iV x5), (3, iV x31)] [.long y60, iV x31, .ref 108] _ _ _ _
            refine wp_last (n := 30) jF_82_123 kd108 (by decide) rfl rfl (by omega) (by omega) rfl (pc2 := 124) g58 ?_
            intro τ61 g62 f63
            refine wp_al1 jF_82_124 rfl rfl (pc2 := 125) ?_
            refine wp_dup jF_82_125 rfl rfl (pc2 := 126) ?_
            refine wp_glA jF_82_126 kd104 (by decide) rfl rfl (pc2 := 129) ?_
            intro y64
            refine wp_al1 jF_82_129 rfl rfl (pc2 := 130) ?_
            refine wp_gr (b := 108) jF_82_130 kd104 (by decide) (c := 7) rfl rfl rfl (pc2 := 133) ?_
            refine wp_il1 jF_82_133 rfl rfl (pc2 := 134) ?_
            refine wp_lald (n := 30) jF_82_134 kd108 (by decide) rfl rfl (by omega) (by omega) rfl (pc2 := 135) ?_
            intro y65
            refine wp_lng (pc2 := 136) jF_82_135 rfl rfl ?_
            intro y66
            refine wp_pl jF_82_136 kd104 (by decide) rfl rfl (pc2 := 139) g62 ?_
            intro τ67 g68 f69
            refine wp_al1 jF_82_139 rfl rfl (pc2 := 140) ?_
            refine wp_dup jF_82_140 rfl rfl (pc2 := 141) ?_
            refine wp_gi jF_82_141 kd104 (by decide) rfl ((FRw.nj f69 (by decide)).trans ((FRw.na f63 (by decide)).trans ((FR.at f59 104 6 rfl).trans (FRw.na f54 (by decide))))) rfl (pc2 := 144) ?_
            refine wp_ic jF_82_144 rfl (pc2 := 145) ?_
            refine wp_add jF_82_145 rfl (pc2 := 146) ?_
            refine wp_pi jF_82_146 kd104 (by decide) rfl rfl rfl (pc2 := 149) g68 (lo := 0) (hi := 30) rfl (by omega) (by omega) ?_
            intro τ70 g71 f72 e73
            refine wp_inc (lv2 := [(0, .ref 104), (1, .ref 20), (2, iV x5), (3, iV (x31 + 1))]) jF_82_149 rfl rfl rfl rfl (pc2 := 152) ?_
            refine wp_go jF_82_152 ?_
            have q74 : (τ70.1 104 6) = ((τ33.1 104 6) + 1) := e73
            exact ih37 ((x31 + 1)) τ70 ⟨⟨by omega, by omega⟩, g71, (FR.w (FR.w (FR.w (FR.up (FR.w f35 f54 rfl) f59 sb_Wra104_WW104) f63 rfl) f69 rfl) f72 rfl), (by omega)⟩ (by show Int.toNat (30 - (x31 + 1)) < Int.toNat (30 - x31); omega)
    · intro h14
      refine wp_al1 jF_82_17 rfl rfl (pc2 := 18) ?_
      refine wp_gr (b := 106) jF_82_18 kd104 (by decide) (c := 5) rfl rfl rfl (pc2 := 21) ?_
      refine wp_il1 jF_82_21 rfl rfl (pc2 := 22) ?_
      refine wp_il1 jF_82_22 rfl rfl (pc2 := 23) ?_
      refine wp_iast (n := 61) jF_82_23 kd106 (by decide) rfl rfl (by omega) (by omega) rfl (pc2 := 24) g10 (lo := (-1)) (hi := 4) rfl (by omega) (by omega) ?_
      intro τ75 g76 f77 e78
      refine wp_il1 jF_82_24 rfl rfl (pc2 := 25) ?_
      refine wp_al1 jF_82_25 rfl rfl (pc2 := 26) ?_
      refine wp_gr (b := 105) jF_82_26 kd104 (by decide) (c := 4) rfl rfl rfl (pc2 := 29) ?_
      refine wp_il1 jF_82_29 rfl rfl (pc2 := 30) ?_
      have b79 := GI.b g10 105 x6.toNat kd105 (lo := 0) (hi := 255) rfl
      refine wp_iald (n := 60) (e := (τ9.1 105 x6.toNat)) jF_82_30 kd105 (by decide) rfl rfl (by omega) (by omega) (FRw.na f77 (by decide)) rfl (pc2 := 31) ?_
      refine wp_cS (as := [iV x5, iV (τ9.1 105 x6.toNat)]) (rest := []) (mx := 4) jF_82_31 rfl rfl rfl rfl (by omega) (by omega) rfl (pc2 := 34) ?_
      refine wp_use (m_78_r τ75 g76 x5 (by omega) (by omega) (τ9.1 105 x6.toNat) (by omega) (by omega)  _ _ (by omega) (by omega)) ?_
      rintro _ _ ⟨z82, rfl, h83, rfl⟩
      show WP 82 34 [(0, .ref 104), (1, .ref 20), (2, iV x5), (3, iV x6)] [iV z82] _ _ _ _
      refine wp_is1 (lv2 := [(0, .ref 104), (1, .ref 20), (2, iV z82), (3, iV x6)]) jF_82_34 rfl rfl rfl (pc2 := 35) ?_
      refine wp_al1 jF_82_35 rfl rfl (pc2 := 36) ?_
      refine wp_dup jF_82_36 rfl rfl (pc2 := 37) ?_
      have b84 := GI.b g10 104 2 kd104 (lo := (-2147483648)) (hi := 2147483647) rfl
      refine wp_gi jF_82_37 kd104 (by decide) rfl (FRw.na f77 (by decide)) rfl (pc2 := 40) ?_
      refine wp_al1 jF_82_40 rfl rfl (pc2 := 41) ?_
      refine wp_gr (b := 105) jF_82_41 kd104 (by decide) (c := 4) rfl rfl rfl (pc2 := 44) ?_
      refine wp_il1 jF_82_44 rfl rfl (pc2 := 45) ?_
      refine wp_iald (n := 60) (e := (τ9.1 105 x6.toNat)) jF_82_45 kd105 (by decide) rfl rfl (by omega) (by omega) (FRw.na f77 (by decide)) rfl (pc2 := 46) ?_
      refine wp_cS (as := [iV (τ9.1 105 x6.toNat)]) (rest := [iV (τ9.1 104 2), .ref 104]) (mx := 1) jF_82_46 rfl rfl rfl rfl (by omega) (by omega) rfl (pc2 := 49) ?_
      show WP 81 0 [(0, iV (τ9.1 105 x6.toNat))] [] _ _ _ _
      refine wp_il1 jF_81_0 rfl rfl (pc2 := 1) ?_
      refine wp_bi jF_81_1 (by decide) rfl (pc2 := 3) ?_
      refine wp_i_ne jF_81_3 (m_rgb b79 rfl) (m_rgl rfl) rfl (pc2 := 6) ?_ ?_
      · intro h85
        refine wp_ic jF_81_10 rfl (pc2 := 11) ?_
        refine wp_ri jF_81_11 rfl ?_
        show WP 82 49 [(0, .ref 104), (1, .ref 20), (2, iV z82), (3, iV x6)] [iV 1, iV (τ9.1 104 2), .ref 104] _ _ _ _
        refine wp_any2 (pc2 := 50) jF_82_49 rfl rfl ?_
        intro z86 h87
        refine wp_pi jF_82_50 kd104 (by decide) rfl rfl rfl (pc2 := 53) g76 (lo := (-2147483648)) (hi := 2147483647) rfl (by omega) (by omega) ?_
        intro τ88 g89 f90 e91
        refine wp_inc (lv2 := [(0, .ref 104), (1, .ref 20), (2, iV z82), (3, iV (x6 + 1))]) jF_82_53 rfl rfl rfl rfl (pc2 := 56) ?_
        refine wp_go jF_82_56 ?_
        exact ih12 (z82, (x6 + 1)) τ88 ⟨⟨by (try dsimp only); omega, by (try dsimp only); omega⟩, ⟨by (try dsimp only); omega, by (try dsimp only); omega⟩, g89, (FR.w (FR.w f11 f77 rfl) f90 rfl)⟩ (by show Int.toNat (60 - (x6 + 1)) < Int.toNat (60 - x6); omega)
      · intro h85
        refine wp_ic jF_81_6 rfl (pc2 := 7) ?_
        refine wp_go jF_81_7 ?_
        refine wp_ri jF_81_11 rfl ?_
        show WP 82 49 [(0, .ref 104), (1, .ref 20), (2, iV z82), (3, iV x6)] [iV 0, iV (τ9.1 104 2), .ref 104] _ _ _ _
        refine wp_add jF_82_49 rfl (pc2 := 50) ?_
        refine wp_pi jF_82_50 kd104 (by decide) rfl rfl rfl (pc2 := 53) g76 (lo := (-2147483648)) (hi := 2147483647) rfl (by omega) (by omega) ?_
        intro τ92 g93 f94 e95
        refine wp_inc (lv2 := [(0, .ref 104), (1, .ref 20), (2, iV z82), (3, iV (x6 + 1))]) jF_82_53 rfl rfl rfl rfl (pc2 := 56) ?_
        refine wp_go jF_82_56 ?_
        exact ih12 (z82, (x6 + 1)) τ92 ⟨⟨by (try dsimp only); omega, by (try dsimp only); omega⟩, ⟨by (try dsimp only); omega, by (try dsimp only); omega⟩, g93, (FR.w (FR.w f11 f77 rfl) f94 rfl)⟩ (by show Int.toNat (60 - (x6 + 1)) < Int.toNat (60 - x6); omega)
set_option maxHeartbeats 4000000 in
set_option maxRecDepth 20000 in
/-- Row.weigh -/
theorem m_82_r104_45 (σ : jM) (hg : GI σ)   (fr lo : Nat) (hfr : 1 ≤ fr) (hlo : 31 ≤ lo) : WP 82 0 (lv_args 0 [.ref 104, .ref 45]) [] fr lo σ (fun v τ => v = none ∧ GI τ ∧ FR WW104 σ τ) := by
  show WP 82 0 [(0, .ref 104), (1, .ref 45)] [] _ _ _ _
  refine wp_al1 jF_82_0 rfl rfl (pc2 := 1) ?_
  refine wp_ic jF_82_1 rfl (pc2 := 2) ?_
  refine wp_pi jF_82_2 kd104 (by decide) rfl rfl rfl (pc2 := 5) hg (lo := (-2147483648)) (hi := 2147483647) rfl (by omega) (by omega) ?_
  intro τ1 g2 f3 e4
  refine wp_ic jF_82_5 rfl (pc2 := 6) ?_
  refine wp_is1 (lv2 := [(0, .ref 104), (1, .ref 45), (2, iV 0)]) jF_82_6 rfl rfl rfl (pc2 := 7) ?_
  refine wp_ic jF_82_7 rfl (pc2 := 8) ?_
  refine wp_is1 (lv2 := [(0, .ref 104), (1, .ref 45), (2, iV 0), (3, iV 0)]) jF_82_8 rfl rfl rfl (pc2 := 9) ?_
  refine wp_loop (α := Int × Int) (fun a => [(0, .ref 104), (1, .ref 45), (2, iV (a.1)), (3, iV (a.2))]) (fun a τ => ((-1) ≤ a.1 ∧ a.1 ≤ 4) ∧ (0 ≤ a.2 ∧ a.2 ≤ 60) ∧ GI τ ∧ FR WW104 τ1 τ) (fun a τ => Int.toNat (60 - (a.2))) (0, 0) τ1 ?_ ?_
  · skip
    exact ⟨⟨by (try dsimp only); omega, by (try dsimp only); omega⟩, ⟨by (try dsimp only); omega, by (try dsimp only); omega⟩, g2, FR.rf⟩
  · rintro ⟨x5, x6⟩ τ9 ⟨h7, h8, g10, f11⟩ ih12
    try dsimp only at h7 h8 g10 f11
    show WP 82 9 [(0, .ref 104), (1, .ref 45), (2, iV x5), (3, iV x6)] [] _ _ _ _
    show WP 82 9 [(0, .ref 104), (1, .ref 45), (2, iV x5), (3, iV x6)] [] _ _ _ _
    refine wp_il1 jF_82_9 rfl rfl (pc2 := 10) ?_
    refine wp_al1 jF_82_10 rfl rfl (pc2 := 11) ?_
    have b13 := GI.b g10 104 1 kd104 (lo := 0) (hi := 60) rfl
    refine wp_gi jF_82_11 kd104 (by decide) rfl rfl rfl (pc2 := 14) ?_
    refine wp_i_ge jF_82_14 (m_rgb h8 rfl) (m_rgb b13 rfl) rfl (pc2 := 17) ?_ ?_
    · intro h14
      refine wp_al1 jF_82_59 rfl rfl (pc2 := 60) ?_
      refine wp_gr (b := 106) jF_82_60 kd104 (by decide) (c := 5) rfl rfl rfl (pc2 := 63) ?_
      refine wp_al1 jF_82_63 rfl rfl (pc2 := 64) ?_
      refine wp_gi jF_82_64 kd104 (by decide) rfl rfl rfl (pc2 := 67) ?_
      refine wp_il1 jF_82_67 rfl rfl (pc2 := 68) ?_
      refine wp_iast (n := 61) jF_82_68 kd106 (by decide) rfl rfl (by omega) (by omega) rfl (pc2 := 69) g10 (lo := (-1)) (hi := 4) rfl (by omega) (by omega) ?_
      intro τ15 g16 f17 e18
      refine wp_al1 jF_82_69 rfl rfl (pc2 := 70) ?_
      refine wp_ic jF_82_70 rfl (pc2 := 71) ?_
      refine wp_pi jF_82_71 kd104 (by decide) rfl rfl rfl (pc2 := 74) g16 (lo := 0) (hi := 30) rfl (by omega) (by omega) ?_
      intro τ19 g20 f21 e22
      refine wp_al1 jF_82_74 rfl rfl (pc2 := 75) ?_
      refine wp_lc jF_82_75 rfl (pc2 := 76) ?_
      refine wp_pl jF_82_76 kd104 (by decide) rfl rfl (pc2 := 79) g20 ?_
      intro τ23 g24 f25
      refine wp_al1 jF_82_79 rfl rfl (pc2 := 80) ?_
      refine wp_ic jF_82_80 rfl (pc2 := 81) ?_
      refine wp_pi jF_82_81 kd104 (by decide) rfl rfl rfl (pc2 := 84) g24 (lo := 0) (hi := 61) rfl (by omega) (by omega) ?_
      intro τ26 g27 f28 e29
      refine wp_ic jF_82_84 rfl (pc2 := 85) ?_
      refine wp_is1 (lv2 := [(0, .ref 104), (1, .ref 45), (2, iV x5), (3, iV 0)]) jF_82_85 rfl rfl rfl (pc2 := 86) ?_
      refine wp_loop (α := Int) (fun a => [(0, .ref 104), (1, .ref 45), (2, iV x5), (3, iV (a))]) (fun a τ => (0 ≤ a ∧ a ≤ 30) ∧ GI τ ∧ FR WW104 τ26 τ ∧ ((τ.1 104 6) = (a))) (fun a τ => Int.toNat (30 - (a))) (0) τ26 ?_ ?_
      · skip
        have q30 : (τ26.1 104 6) = 0 := ((FRw.nj f28 (by decide)).trans ((FRw.nj f25 (by decide)).trans e22))
        exact ⟨⟨by omega, by omega⟩, g27, FR.rf, (by omega)⟩
      · rintro x31 τ33 ⟨h32, g34, f35, p36⟩ ih37
        have b38 := GI.b g34 104 6 kd104 (lo := 0) (hi := 30) rfl
        show WP 82 86 [(0, .ref 104), (1, .ref 45), (2, iV x5), (3, iV x31)] [] _ _ _ _
        show WP 82 86 [(0, .ref 104), (1, .ref 45), (2, iV x5), (3, iV x31)] [] _ _ _ _
        refine wp_il1 jF_82_86 rfl rfl (pc2 := 87) ?_
        refine wp_bi jF_82_87 (by decide) rfl (pc2 := 89) ?_
        refine wp_i_ge jF_82_89 (m_rgb h32 rfl) (m_rgl rfl) rfl (pc2 := 92) ?_ ?_
        · intro h39
          refine wp_al1 jF_82_155 rfl rfl (pc2 := 156) ?_
          refine wp_gr (b := 107) jF_82_156 kd104 (by decide) (c := 6) rfl rfl rfl (pc2 := 159) ?_
          refine wp_al1 jF_82_159 rfl rfl (pc2 := 160) ?_
          refine wp_gi jF_82_160 kd104 (by decide) rfl rfl rfl (pc2 := 163) ?_
          refine wp_al1 jF_82_163 rfl rfl (pc2 := 164) ?_
          have b40 := GI.b g34 104 1 kd104 (lo := 0) (hi := 60) rfl
          refine wp_gi jF_82_164 kd104 (by decide) rfl rfl rfl (pc2 := 167) ?_
          refine wp_iast (n := 31) jF_82_167 kd107 (by decide) rfl rfl (by omega) (by omega) rfl (pc2 := 168) g34 (lo := 0) (hi := 60) rfl (by omega) (by omega) ?_
          intro τ41 g42 f43 e44
          refine wp_rv jF_82_168 ?_
          exact ⟨rfl, g42, (FR.w (FR.up (FR.w (FR.w (FR.w (FR.w (FR.up (FR.w FR.rf f3 rfl) f11 sb_WW104_WW104) f17 rfl) f21 rfl) f25 rfl) f28 rfl) f35 sb_WW104_WW104) f43 rfl)⟩
        · intro h39
          refine wp_al1 jF_82_92 rfl rfl (pc2 := 93) ?_
          have b45 := GI.b g34 104 8 kd104 (lo := 0) (hi := 61) rfl
          refine wp_gi jF_82_93 kd104 (by decide) rfl rfl rfl (pc2 := 96) ?_
          refine wp_al1 jF_82_96 rfl rfl (pc2 := 97) ?_
          have b46 := GI.b g34 104 1 kd104 (lo := 0) (hi := 60) rfl
          refine wp_gi jF_82_97 kd104 (by decide) rfl rfl rfl (pc2 := 100) ?_
          refine wp_i_ge jF_82_100 (m_rgb b45 rfl) (m_rgb b46 rfl) rfl (pc2 := 103) ?_ ?_
          · intro h47
            refine wp_al1 jF_82_155 rfl rfl (pc2 := 156) ?_
            refine wp_gr (b := 107) jF_82_156 kd104 (by decide) (c := 6) rfl rfl rfl (pc2 := 159) ?_
            refine wp_al1 jF_82_159 rfl rfl (pc2 := 160) ?_
            refine wp_gi jF_82_160 kd104 (by decide) rfl rfl rfl (pc2 := 163) ?_
            refine wp_al1 jF_82_163 rfl rfl (pc2 := 164) ?_
            refine wp_gi jF_82_164 kd104 (by decide) rfl rfl rfl (pc2 := 167) ?_
            refine wp_iast (n := 31) jF_82_167 kd107 (by decide) rfl rfl (by omega) (by omega) rfl (pc2 := 168) g34 (lo := 0) (hi := 60) rfl (by omega) (by omega) ?_
            intro τ48 g49 f50 e51
            refine wp_rv jF_82_168 ?_
            exact ⟨rfl, g49, (FR.w (FR.up (FR.w (FR.w (FR.w (FR.w (FR.up (FR.w FR.rf f3 rfl) f11 sb_WW104_WW104) f17 rfl) f21 rfl) f25 rfl) f28 rfl) f35 sb_WW104_WW104) f50 rfl)⟩
          · intro h47
            refine wp_al1 jF_82_103 rfl rfl (pc2 := 104) ?_
            refine wp_gr (b := 107) jF_82_104 kd104 (by decide) (c := 6) rfl rfl rfl (pc2 := 107) ?_
            refine wp_il1 jF_82_107 rfl rfl (pc2 := 108) ?_
            refine wp_al1 jF_82_108 rfl rfl (pc2 := 109) ?_
            refine wp_gi jF_82_109 kd104 (by decide) rfl rfl rfl (pc2 := 112) ?_
            refine wp_iast (n := 31) jF_82_112 kd107 (by decide) rfl rfl (by omega) (by omega) rfl (pc2 := 113) g34 (lo := 0) (hi := 60) rfl (by omega) (by omega) ?_
            intro τ52 g53 f54 e55
            refine wp_al1 jF_82_113 rfl rfl (pc2 := 114) ?_
            refine wp_gr (b := 108) jF_82_114 kd104 (by decide) (c := 7) rfl rfl rfl (pc2 := 117) ?_
            refine wp_il1 jF_82_117 rfl rfl (pc2 := 118) ?_
            refine wp_al1 jF_82_118 rfl rfl (pc2 := 119) ?_
            refine wp_al1 jF_82_119 rfl rfl (pc2 := 120) ?_
            refine wp_cV (as := [.ref 45]) (rest := [iV x31, .ref 108]) (a := 104) (mx := 12) (ci := 4) jF_82_120 kd104 (by decide) rfl rfl rfl rfl rfl (by omega) (by omega) rfl (pc2 := 123) ?_
            have q56 : (τ52.1 104 8) = (τ33.1 104 8) := (FRw.na f54 (by decide))
            refine wp_use (m_83_r104_45 τ52 g53  (by omega) _ _ (by omega) (by omega)) ?_
            rintro _ τ57 ⟨y60, rfl, g58, f59⟩
            show WP 82 123 [(0, .ref 104), (1, .ref 45), (2, iV x5), (3, iV x31)] [.long y60, iV x31, .ref 108] _ _ _ _
            refine wp_last (n := 30) jF_82_123 kd108 (by decide) rfl rfl (by omega) (by omega) rfl (pc2 := 124) g58 ?_
            intro τ61 g62 f63
            refine wp_al1 jF_82_124 rfl rfl (pc2 := 125) ?_
            refine wp_dup jF_82_125 rfl rfl (pc2 := 126) ?_
            refine wp_glA jF_82_126 kd104 (by decide) rfl rfl (pc2 := 129) ?_
            intro y64
            refine wp_al1 jF_82_129 rfl rfl (pc2 := 130) ?_
            refine wp_gr (b := 108) jF_82_130 kd104 (by decide) (c := 7) rfl rfl rfl (pc2 := 133) ?_
            refine wp_il1 jF_82_133 rfl rfl (pc2 := 134) ?_
            refine wp_lald (n := 30) jF_82_134 kd108 (by decide) rfl rfl (by omega) (by omega) rfl (pc2 := 135) ?_
            intro y65
            refine wp_lng (pc2 := 136) jF_82_135 rfl rfl ?_
            intro y66
            refine wp_pl jF_82_136 kd104 (by decide) rfl rfl (pc2 := 139) g62 ?_
            intro τ67 g68 f69
            refine wp_al1 jF_82_139 rfl rfl (pc2 := 140) ?_
            refine wp_dup jF_82_140 rfl rfl (pc2 := 141) ?_
            refine wp_gi jF_82_141 kd104 (by decide) rfl ((FRw.nj f69 (by decide)).trans ((FRw.na f63 (by decide)).trans ((FR.at f59 104 6 rfl).trans (FRw.na f54 (by decide))))) rfl (pc2 := 144) ?_
            refine wp_ic jF_82_144 rfl (pc2 := 145) ?_
            refine wp_add jF_82_145 rfl (pc2 := 146) ?_
            refine wp_pi jF_82_146 kd104 (by decide) rfl rfl rfl (pc2 := 149) g68 (lo := 0) (hi := 30) rfl (by omega) (by omega) ?_
            intro τ70 g71 f72 e73
            refine wp_inc (lv2 := [(0, .ref 104), (1, .ref 45), (2, iV x5), (3, iV (x31 + 1))]) jF_82_149 rfl rfl rfl rfl (pc2 := 152) ?_
            refine wp_go jF_82_152 ?_
            have q74 : (τ70.1 104 6) = ((τ33.1 104 6) + 1) := e73
            exact ih37 ((x31 + 1)) τ70 ⟨⟨by omega, by omega⟩, g71, (FR.w (FR.w (FR.w (FR.up (FR.w f35 f54 rfl) f59 sb_Wra104_WW104) f63 rfl) f69 rfl) f72 rfl), (by omega)⟩ (by show Int.toNat (30 - (x31 + 1)) < Int.toNat (30 - x31); omega)
    · intro h14
      refine wp_al1 jF_82_17 rfl rfl (pc2 := 18) ?_
      refine wp_gr (b := 106) jF_82_18 kd104 (by decide) (c := 5) rfl rfl rfl (pc2 := 21) ?_
      refine wp_il1 jF_82_21 rfl rfl (pc2 := 22) ?_
      refine wp_il1 jF_82_22 rfl rfl (pc2 := 23) ?_
      refine wp_iast (n := 61) jF_82_23 kd106 (by decide) rfl rfl (by omega) (by omega) rfl (pc2 := 24) g10 (lo := (-1)) (hi := 4) rfl (by omega) (by omega) ?_
      intro τ75 g76 f77 e78
      refine wp_il1 jF_82_24 rfl rfl (pc2 := 25) ?_
      refine wp_al1 jF_82_25 rfl rfl (pc2 := 26) ?_
      refine wp_gr (b := 105) jF_82_26 kd104 (by decide) (c := 4) rfl rfl rfl (pc2 := 29) ?_
      refine wp_il1 jF_82_29 rfl rfl (pc2 := 30) ?_
      have b79 := GI.b g10 105 x6.toNat kd105 (lo := 0) (hi := 255) rfl
      refine wp_iald (n := 60) (e := (τ9.1 105 x6.toNat)) jF_82_30 kd105 (by decide) rfl rfl (by omega) (by omega) (FRw.na f77 (by decide)) rfl (pc2 := 31) ?_
      refine wp_cS (as := [iV x5, iV (τ9.1 105 x6.toNat)]) (rest := []) (mx := 4) jF_82_31 rfl rfl rfl rfl (by omega) (by omega) rfl (pc2 := 34) ?_
      refine wp_use (m_78_r τ75 g76 x5 (by omega) (by omega) (τ9.1 105 x6.toNat) (by omega) (by omega)  _ _ (by omega) (by omega)) ?_
      rintro _ _ ⟨z82, rfl, h83, rfl⟩
      show WP 82 34 [(0, .ref 104), (1, .ref 45), (2, iV x5), (3, iV x6)] [iV z82] _ _ _ _
      refine wp_is1 (lv2 := [(0, .ref 104), (1, .ref 45), (2, iV z82), (3, iV x6)]) jF_82_34 rfl rfl rfl (pc2 := 35) ?_
      refine wp_al1 jF_82_35 rfl rfl (pc2 := 36) ?_
      refine wp_dup jF_82_36 rfl rfl (pc2 := 37) ?_
      have b84 := GI.b g10 104 2 kd104 (lo := (-2147483648)) (hi := 2147483647) rfl
      refine wp_gi jF_82_37 kd104 (by decide) rfl (FRw.na f77 (by decide)) rfl (pc2 := 40) ?_
      refine wp_al1 jF_82_40 rfl rfl (pc2 := 41) ?_
      refine wp_gr (b := 105) jF_82_41 kd104 (by decide) (c := 4) rfl rfl rfl (pc2 := 44) ?_
      refine wp_il1 jF_82_44 rfl rfl (pc2 := 45) ?_
      refine wp_iald (n := 60) (e := (τ9.1 105 x6.toNat)) jF_82_45 kd105 (by decide) rfl rfl (by omega) (by omega) (FRw.na f77 (by decide)) rfl (pc2 := 46) ?_
      refine wp_cS (as := [iV (τ9.1 105 x6.toNat)]) (rest := [iV (τ9.1 104 2), .ref 104]) (mx := 1) jF_82_46 rfl rfl rfl rfl (by omega) (by omega) rfl (pc2 := 49) ?_
      show WP 81 0 [(0, iV (τ9.1 105 x6.toNat))] [] _ _ _ _
      refine wp_il1 jF_81_0 rfl rfl (pc2 := 1) ?_
      refine wp_bi jF_81_1 (by decide) rfl (pc2 := 3) ?_
      refine wp_i_ne jF_81_3 (m_rgb b79 rfl) (m_rgl rfl) rfl (pc2 := 6) ?_ ?_
      · intro h85
        refine wp_ic jF_81_10 rfl (pc2 := 11) ?_
        refine wp_ri jF_81_11 rfl ?_
        show WP 82 49 [(0, .ref 104), (1, .ref 45), (2, iV z82), (3, iV x6)] [iV 1, iV (τ9.1 104 2), .ref 104] _ _ _ _
        refine wp_any2 (pc2 := 50) jF_82_49 rfl rfl ?_
        intro z86 h87
        refine wp_pi jF_82_50 kd104 (by decide) rfl rfl rfl (pc2 := 53) g76 (lo := (-2147483648)) (hi := 2147483647) rfl (by omega) (by omega) ?_
        intro τ88 g89 f90 e91
        refine wp_inc (lv2 := [(0, .ref 104), (1, .ref 45), (2, iV z82), (3, iV (x6 + 1))]) jF_82_53 rfl rfl rfl rfl (pc2 := 56) ?_
        refine wp_go jF_82_56 ?_
        exact ih12 (z82, (x6 + 1)) τ88 ⟨⟨by (try dsimp only); omega, by (try dsimp only); omega⟩, ⟨by (try dsimp only); omega, by (try dsimp only); omega⟩, g89, (FR.w (FR.w f11 f77 rfl) f90 rfl)⟩ (by show Int.toNat (60 - (x6 + 1)) < Int.toNat (60 - x6); omega)
      · intro h85
        refine wp_ic jF_81_6 rfl (pc2 := 7) ?_
        refine wp_go jF_81_7 ?_
        refine wp_ri jF_81_11 rfl ?_
        show WP 82 49 [(0, .ref 104), (1, .ref 45), (2, iV z82), (3, iV x6)] [iV 0, iV (τ9.1 104 2), .ref 104] _ _ _ _
        refine wp_add jF_82_49 rfl (pc2 := 50) ?_
        refine wp_pi jF_82_50 kd104 (by decide) rfl rfl rfl (pc2 := 53) g76 (lo := (-2147483648)) (hi := 2147483647) rfl (by omega) (by omega) ?_
        intro τ92 g93 f94 e95
        refine wp_inc (lv2 := [(0, .ref 104), (1, .ref 45), (2, iV z82), (3, iV (x6 + 1))]) jF_82_53 rfl rfl rfl rfl (pc2 := 56) ?_
        refine wp_go jF_82_56 ?_
        exact ih12 (z82, (x6 + 1)) τ92 ⟨⟨by (try dsimp only); omega, by (try dsimp only); omega⟩, ⟨by (try dsimp only); omega, by (try dsimp only); omega⟩, g93, (FR.w (FR.w f11 f77 rfl) f94 rfl)⟩ (by show Int.toNat (60 - (x6 + 1)) < Int.toNat (60 - x6); omega)
