set_option maxHeartbeats 4000000 in
set_option maxRecDepth 20000 in
/-- Row.weigh -/
theorem m_82_r109_20 (σ : jM) (hg : GI σ)   (fr lo : Nat) (hfr : 1 ≤ fr) (hlo : 31 ≤ lo) : WP 82 0 (lv_args 0 [.ref 109, .ref 20]) [] fr lo σ (fun v τ => v = none ∧ GI τ ∧ FR WW109 σ τ) := by
  show WP 82 0 [(0, .ref 109), (1, .ref 20)] [] _ _ _ _
  refine wp_al1 jF_82_0 rfl rfl (pc2 := 1) ?_
  refine wp_ic jF_82_1 rfl (pc2 := 2) ?_
  refine wp_pi jF_82_2 kd109 (by decide) rfl rfl rfl (pc2 := 5) hg (lo := (-2147483648)) (hi := 2147483647) rfl (by omega) (by omega) ?_
  intro τ1 g2 f3 e4
  refine wp_ic jF_82_5 rfl (pc2 := 6) ?_
  refine wp_is1 (lv2 := [(0, .ref 109), (1, .ref 20), (2, iV 0)]) jF_82_6 rfl rfl rfl (pc2 := 7) ?_
  refine wp_ic jF_82_7 rfl (pc2 := 8) ?_
  refine wp_is1 (lv2 := [(0, .ref 109), (1, .ref 20), (2, iV 0), (3, iV 0)]) jF_82_8 rfl rfl rfl (pc2 := 9) ?_
  refine wp_loop (α := Int × Int) (fun a => [(0, .ref 109), (1, .ref 20), (2, iV (a.1)), (3, iV (a.2))]) (fun a τ => ((-1) ≤ a.1 ∧ a.1 ≤ 4) ∧ (0 ≤ a.2 ∧ a.2 ≤ 60) ∧ GI τ ∧ FR WW109 τ1 τ) (fun a τ => Int.toNat (60 - (a.2))) (0, 0) τ1 ?_ ?_
  · skip
    exact ⟨⟨by (try dsimp only); omega, by (try dsimp only); omega⟩, ⟨by (try dsimp only); omega, by (try dsimp only); omega⟩, g2, FR.rf⟩
  · rintro ⟨x5, x6⟩ τ9 ⟨h7, h8, g10, f11⟩ ih12
    try dsimp only at h7 h8 g10 f11
    show WP 82 9 [(0, .ref 109), (1, .ref 20), (2, iV x5), (3, iV x6)] [] _ _ _ _
    show WP 82 9 [(0, .ref 109), (1, .ref 20), (2, iV x5), (3, iV x6)] [] _ _ _ _
    refine wp_il1 jF_82_9 rfl rfl (pc2 := 10) ?_
    refine wp_al1 jF_82_10 rfl rfl (pc2 := 11) ?_
    have b13 := GI.b g10 109 1 kd109 (lo := 0) (hi := 60) rfl
    refine wp_gi jF_82_11 kd109 (by decide) rfl rfl rfl (pc2 := 14) ?_
    refine wp_i_ge jF_82_14 (m_rgb h8 rfl) (m_rgb b13 rfl) rfl (pc2 := 17) ?_ ?_
    · intro h14
      refine wp_al1 jF_82_59 rfl rfl (pc2 := 60) ?_
      refine wp_gr (b := 111) jF_82_60 kd109 (by decide) (c := 5) rfl rfl rfl (pc2 := 63) ?_
      refine wp_al1 jF_82_63 rfl rfl (pc2 := 64) ?_
      refine wp_gi jF_82_64 kd109 (by decide) rfl rfl rfl (pc2 := 67) ?_
      refine wp_il1 jF_82_67 rfl rfl (pc2 := 68) ?_
      refine wp_iast (n := 61) jF_82_68 kd111 (by decide) rfl rfl (by omega) (by omega) rfl (pc2 := 69) g10 (lo := (-1)) (hi := 4) rfl (by omega) (by omega) ?_
      intro τ15 g16 f17 e18
      refine wp_al1 jF_82_69 rfl rfl (pc2 := 70) ?_
      refine wp_ic jF_82_70 rfl (pc2 := 71) ?_
      refine wp_pi jF_82_71 kd109 (by decide) rfl rfl rfl (pc2 := 74) g16 (lo := 0) (hi := 30) rfl (by omega) (by omega) ?_
      intro τ19 g20 f21 e22
      refine wp_al1 jF_82_74 rfl rfl (pc2 := 75) ?_
      refine wp_lc jF_82_75 rfl (pc2 := 76) ?_
      refine wp_pl jF_82_76 kd109 (by decide) rfl rfl (pc2 := 79) g20 ?_
      intro τ23 g24 f25
      refine wp_al1 jF_82_79 rfl rfl (pc2 := 80) ?_
      refine wp_ic jF_82_80 rfl (pc2 := 81) ?_
      refine wp_pi jF_82_81 kd109 (by decide) rfl rfl rfl (pc2 := 84) g24 (lo := 0) (hi := 61) rfl (by omega) (by omega) ?_
      intro τ26 g27 f28 e29
      refine wp_ic jF_82_84 rfl (pc2 := 85) ?_
      refine wp_is1 (lv2 := [(0, .ref 109), (1, .ref 20), (2, iV x5), (3, iV 0)]) jF_82_85 rfl rfl rfl (pc2 := 86) ?_
      refine wp_loop (α := Int) (fun a => [(0, .ref 109), (1, .ref 20), (2, iV x5), (3, iV (a))]) (fun a τ => (0 ≤ a ∧ a ≤ 30) ∧ GI τ ∧ FR WW109 τ26 τ ∧ ((τ.1 109 6) = (a))) (fun a τ => Int.toNat (30 - (a))) (0) τ26 ?_ ?_
      · skip
        have q30 : (τ26.1 109 6) = 0 := ((FRw.nj f28 (by decide)).trans ((FRw.nj f25 (by decide)).trans e22))
        exact ⟨⟨by omega, by omega⟩, g27, FR.rf, (by omega)⟩
      · rintro x31 τ33 ⟨h32, g34, f35, p36⟩ ih37
        have b38 := GI.b g34 109 6 kd109 (lo := 0) (hi := 30) rfl
        show WP 82 86 [(0, .ref 109), (1, .ref 20), (2, iV x5), (3, iV x31)] [] _ _ _ _
        show WP 82 86 [(0, .ref 109), (1, .ref 20), (2, iV x5), (3, iV x31)] [] _ _ _ _
        refine wp_il1 jF_82_86 rfl rfl (pc2 := 87) ?_
        refine wp_bi jF_82_87 (by decide) rfl (pc2 := 89) ?_
        refine wp_i_ge jF_82_89 (m_rgb h32 rfl) (m_rgl rfl) rfl (pc2 := 92) ?_ ?_
        · intro h39
          refine wp_al1 jF_82_155 rfl rfl (pc2 := 156) ?_
          refine wp_gr (b := 112) jF_82_156 kd109 (by decide) (c := 6) rfl rfl rfl (pc2 := 159) ?_
          refine wp_al1 jF_82_159 rfl rfl (pc2 := 160) ?_
          refine wp_gi jF_82_160 kd109 (by decide) rfl rfl rfl (pc2 := 163) ?_
          refine wp_al1 jF_82_163 rfl rfl (pc2 := 164) ?_
          have b40 := GI.b g34 109 1 kd109 (lo := 0) (hi := 60) rfl
          refine wp_gi jF_82_164 kd109 (by decide) rfl rfl rfl (pc2 := 167) ?_
          refine wp_iast (n := 31) jF_82_167 kd112 (by decide) rfl rfl (by omega) (by omega) rfl (pc2 := 168) g34 (lo := 0) (hi := 60) rfl (by omega) (by omega) ?_
          intro τ41 g42 f43 e44
          refine wp_rv jF_82_168 ?_
          exact ⟨rfl, g42, (FR.w (FR.up (FR.w (FR.w (FR.w (FR.w (FR.up (FR.w FR.rf f3 rfl) f11 sb_WW109_WW109) f17 rfl) f21 rfl) f25 rfl) f28 rfl) f35 sb_WW109_WW109) f43 rfl)⟩
        · intro h39
          refine wp_al1 jF_82_92 rfl rfl (pc2 := 93) ?_
          have b45 := GI.b g34 109 8 kd109 (lo := 0) (hi := 61) rfl
          refine wp_gi jF_82_93 kd109 (by decide) rfl rfl rfl (pc2 := 96) ?_
          refine wp_al1 jF_82_96 rfl rfl (pc2 := 97) ?_
          have b46 := GI.b g34 109 1 kd109 (lo := 0) (hi := 60) rfl
          refine wp_gi jF_82_97 kd109 (by decide) rfl rfl rfl (pc2 := 100) ?_
          refine wp_i_ge jF_82_100 (m_rgb b45 rfl) (m_rgb b46 rfl) rfl (pc2 := 103) ?_ ?_
          · intro h47
            refine wp_al1 jF_82_155 rfl rfl (pc2 := 156) ?_
            refine wp_gr (b := 112) jF_82_156 kd109 (by decide) (c := 6) rfl rfl rfl (pc2 := 159) ?_
            refine wp_al1 jF_82_159 rfl rfl (pc2 := 160) ?_
            refine wp_gi jF_82_160 kd109 (by decide) rfl rfl rfl (pc2 := 163) ?_
            refine wp_al1 jF_82_163 rfl rfl (pc2 := 164) ?_
            refine wp_gi jF_82_164 kd109 (by decide) rfl rfl rfl (pc2 := 167) ?_
            refine wp_iast (n := 31) jF_82_167 kd112 (by decide) rfl rfl (by omega) (by omega) rfl (pc2 := 168) g34 (lo := 0) (hi := 60) rfl (by omega) (by omega) ?_
            intro τ48 g49 f50 e51
            refine wp_rv jF_82_168 ?_
            exact ⟨rfl, g49, (FR.w (FR.up (FR.w (FR.w (FR.w (FR.w (FR.up (FR.w FR.rf f3 rfl) f11 sb_WW109_WW109) f17 rfl) f21 rfl) f25 rfl) f28 rfl) f35 sb_WW109_WW109) f50 rfl)⟩
          · intro h47
            refine wp_al1 jF_82_103 rfl rfl (pc2 := 104) ?_
            refine wp_gr (b := 112) jF_82_104 kd109 (by decide) (c := 6) rfl rfl rfl (pc2 := 107) ?_
            refine wp_il1 jF_82_107 rfl rfl (pc2 := 108) ?_
            refine wp_al1 jF_82_108 rfl rfl (pc2 := 109) ?_
            refine wp_gi jF_82_109 kd109 (by decide) rfl rfl rfl (pc2 := 112) ?_
            refine wp_iast (n := 31) jF_82_112 kd112 (by decide) rfl rfl (by omega) (by omega) rfl (pc2 := 113) g34 (lo := 0) (hi := 60) rfl (by omega) (by omega) ?_
            intro τ52 g53 f54 e55
            refine wp_al1 jF_82_113 rfl rfl (pc2 := 114) ?_
            refine wp_gr (b := 113) jF_82_114 kd109 (by decide) (c := 7) rfl rfl rfl (pc2 := 117) ?_
            refine wp_il1 jF_82_117 rfl rfl (pc2 := 118) ?_
            refine wp_al1 jF_82_118 rfl rfl (pc2 := 119) ?_
            refine wp_al1 jF_82_119 rfl rfl (pc2 := 120) ?_
            refine wp_cV (as := [.ref 20]) (rest := [iV x31, .ref 113]) (a := 109) (mx := 12) (ci := 4) jF_82_120 kd109 (by decide) rfl rfl rfl rfl rfl (by omega) (by omega) rfl (pc2 := 123) ?_
            have q56 : (τ52.1 109 8) = (τ33.1 109 8) := (FRw.na f54 (by decide))
            refine wp_use (m_83_r109_20 τ52 g53  (by omega) _ _ (by omega) (by omega)) ?_
            rintro _ τ57 ⟨y60, rfl, g58, f59⟩
            show WP 82 123 [(0, .ref 109), (1, .ref 20), (2, iV x5), (3, iV x31)] [.long y60, iV x31, .ref 113] _ _ _ _
            refine wp_last (n := 30) jF_82_123 kd113 (by decide) rfl rfl (by omega) (by omega) rfl (pc2 := 124) g58 ?_
            intro τ61 g62 f63
            refine wp_al1 jF_82_124 rfl rfl (pc2 := 125) ?_
            refine wp_dup jF_82_125 rfl rfl (pc2 := 126) ?_
            refine wp_glA jF_82_126 kd109 (by decide) rfl rfl (pc2 := 129) ?_
            intro y64
            refine wp_al1 jF_82_129 rfl rfl (pc2 := 130) ?_
            refine wp_gr (b := 113) jF_82_130 kd109 (by decide) (c := 7) rfl rfl rfl (pc2 := 133) ?_
            refine wp_il1 jF_82_133 rfl rfl (pc2 := 134) ?_
            refine wp_lald (n := 30) jF_82_134 kd113 (by decide) rfl rfl (by omega) (by omega) rfl (pc2 := 135) ?_
            intro y65
            refine wp_lng (pc2 := 136) jF_82_135 rfl rfl ?_
            intro y66
            refine wp_pl jF_82_136 kd109 (by decide) rfl rfl (pc2 := 139) g62 ?_
            intro τ67 g68 f69
            refine wp_al1 jF_82_139 rfl rfl (pc2 := 140) ?_
            refine wp_dup jF_82_140 rfl rfl (pc2 := 141) ?_
            refine wp_gi jF_82_141 kd109 (by decide) rfl ((FRw.nj f69 (by decide)).trans ((FRw.na f63 (by decide)).trans ((FR.at f59 109 6 rfl).trans (FRw.na f54 (by decide))))) rfl (pc2 := 144) ?_
            refine wp_ic jF_82_144 rfl (pc2 := 145) ?_
            refine wp_add jF_82_145 rfl (pc2 := 146) ?_
            refine wp_pi jF_82_146 kd109 (by decide) rfl rfl rfl (pc2 := 149) g68 (lo := 0) (hi := 30) rfl (by omega) (by omega) ?_
            intro τ70 g71 f72 e73
            refine wp_inc (lv2 := [(0, .ref 109), (1, .ref 20), (2, iV x5), (3, iV (x31 + 1))]) jF_82_149 rfl rfl rfl rfl (pc2 := 152) ?_
            refine wp_go jF_82_152 ?_
            have q74 : (τ70.1 109 6) = ((τ33.1 109 6) + 1) := e73
            exact ih37 ((x31 + 1)) τ70 ⟨⟨by omega, by omega⟩, g71, (FR.w (FR.w (FR.w (FR.up (FR.w f35 f54 rfl) f59 sb_Wra109_WW109) f63 rfl) f69 rfl) f72 rfl), (by omega)⟩ (by show Int.toNat (30 - (x31 + 1)) < Int.toNat (30 - x31); omega)
    · intro h14
      refine wp_al1 jF_82_17 rfl rfl (pc2 := 18) ?_
      refine wp_gr (b := 111) jF_82_18 kd109 (by decide) (c := 5) rfl rfl rfl (pc2 := 21) ?_
      refine wp_il1 jF_82_21 rfl rfl (pc2 := 22) ?_
      refine wp_il1 jF_82_22 rfl rfl (pc2 := 23) ?_
      refine wp_iast (n := 61) jF_82_23 kd111 (by decide) rfl rfl (by omega) (by omega) rfl (pc2 := 24) g10 (lo := (-1)) (hi := 4) rfl (by omega) (by omega) ?_
      intro τ75 g76 f77 e78
      refine wp_il1 jF_82_24 rfl rfl (pc2 := 25) ?_
      refine wp_al1 jF_82_25 rfl rfl (pc2 := 26) ?_
      refine wp_gr (b := 110) jF_82_26 kd109 (by decide) (c := 4) rfl rfl rfl (pc2 := 29) ?_
      refine wp_il1 jF_82_29 rfl rfl (pc2 := 30) ?_
      have b79 := GI.b g10 110 x6.toNat kd110 (lo := 0) (hi := 255) rfl
      refine wp_iald (n := 60) (e := (τ9.1 110 x6.toNat)) jF_82_30 kd110 (by decide) rfl rfl (by omega) (by omega) (FRw.na f77 (by decide)) rfl (pc2 := 31) ?_
      refine wp_cS (as := [iV x5, iV (τ9.1 110 x6.toNat)]) (rest := []) (mx := 4) jF_82_31 rfl rfl rfl rfl (by omega) (by omega) rfl (pc2 := 34) ?_
      refine wp_use (m_78_r τ75 g76 x5 (by omega) (by omega) (τ9.1 110 x6.toNat) (by omega) (by omega)  _ _ (by omega) (by omega)) ?_
      rintro _ _ ⟨z82, rfl, h83, rfl⟩
      show WP 82 34 [(0, .ref 109), (1, .ref 20), (2, iV x5), (3, iV x6)] [iV z82] _ _ _ _
      refine wp_is1 (lv2 := [(0, .ref 109), (1, .ref 20), (2, iV z82), (3, iV x6)]) jF_82_34 rfl rfl rfl (pc2 := 35) ?_
      refine wp_al1 jF_82_35 rfl rfl (pc2 := 36) ?_
      refine wp_dup jF_82_36 rfl rfl (pc2 := 37) ?_
      have b84 := GI.b g10 109 2 kd109 (lo := (-2147483648)) (hi := 2147483647) rfl
      refine wp_gi jF_82_37 kd109 (by decide) rfl (FRw.na f77 (by decide)) rfl (pc2 := 40) ?_
      refine wp_al1 jF_82_40 rfl rfl (pc2 := 41) ?_
      refine wp_gr (b := 110) jF_82_41 kd109 (by decide) (c := 4) rfl rfl rfl (pc2 := 44) ?_
      refine wp_il1 jF_82_44 rfl rfl (pc2 := 45) ?_
      refine wp_iald (n := 60) (e := (τ9.1 110 x6.toNat)) jF_82_45 kd110 (by decide) rfl rfl (by omega) (by omega) (FRw.na f77 (by decide)) rfl (pc2 := 46) ?_
      refine wp_cS (as := [iV (τ9.1 110 x6.toNat)]) (rest := [iV (τ9.1 109 2), .ref 109]) (mx := 1) jF_82_46 rfl rfl rfl rfl (by omega) (by omega) rfl (pc2 := 49) ?_
      show WP 81 0 [(0, iV (τ9.1 110 x6.toNat))] [] _ _ _ _
      refine wp_il1 jF_81_0 rfl rfl (pc2 := 1) ?_
      refine wp_bi jF_81_1 (by decide) rfl (pc2 := 3) ?_
      refine wp_i_ne jF_81_3 (m_rgb b79 rfl) (m_rgl rfl) rfl (pc2 := 6) ?_ ?_
      · intro h85
        refine wp_ic jF_81_10 rfl (pc2 := 11) ?_
        refine wp_ri jF_81_11 rfl ?_
        show WP 82 49 [(0, .ref 109), (1, .ref 20), (2, iV z82), (3, iV x6)] [iV 1, iV (τ9.1 109 2), .ref 109] _ _ _ _
        refine wp_any2 (pc2 := 50) jF_82_49 rfl rfl ?_
        intro z86 h87
        refine wp_pi jF_82_50 kd109 (by decide) rfl rfl rfl (pc2 := 53) g76 (lo := (-2147483648)) (hi := 2147483647) rfl (by omega) (by omega) ?_
        intro τ88 g89 f90 e91
        refine wp_inc (lv2 := [(0, .ref 109), (1, .ref 20), (2, iV z82), (3, iV (x6 + 1))]) jF_82_53 rfl rfl rfl rfl (pc2 := 56) ?_
        refine wp_go jF_82_56 ?_
        exact ih12 (z82, (x6 + 1)) τ88 ⟨⟨by (try dsimp only); omega, by (try dsimp only); omega⟩, ⟨by (try dsimp only); omega, by (try dsimp only); omega⟩, g89, (FR.w (FR.w f11 f77 rfl) f90 rfl)⟩ (by show Int.toNat (60 - (x6 + 1)) < Int.toNat (60 - x6); omega)
      · intro h85
        refine wp_ic jF_81_6 rfl (pc2 := 7) ?_
        refine wp_go jF_81_7 ?_
        refine wp_ri jF_81_11 rfl ?_
        show WP 82 49 [(0, .ref 109), (1, .ref 20), (2, iV z82), (3, iV x6)] [iV 0, iV (τ9.1 109 2), .ref 109] _ _ _ _
        refine wp_add jF_82_49 rfl (pc2 := 50) ?_
        refine wp_pi jF_82_50 kd109 (by decide) rfl rfl rfl (pc2 := 53) g76 (lo := (-2147483648)) (hi := 2147483647) rfl (by omega) (by omega) ?_
        intro τ92 g93 f94 e95
        refine wp_inc (lv2 := [(0, .ref 109), (1, .ref 20), (2, iV z82), (3, iV (x6 + 1))]) jF_82_53 rfl rfl rfl rfl (pc2 := 56) ?_
        refine wp_go jF_82_56 ?_
        exact ih12 (z82, (x6 + 1)) τ92 ⟨⟨by (try dsimp only); omega, by (try dsimp only); omega⟩, ⟨by (try dsimp only); omega, by (try dsimp only); omega⟩, g93, (FR.w (FR.w f11 f77 rfl) f94 rfl)⟩ (by show Int.toNat (60 - (x6 + 1)) < Int.toNat (60 - x6); omega)
set_option maxHeartbeats 4000000 in
set_option maxRecDepth 20000 in
/-- Row.weigh -/
theorem m_82_r109_45 (σ : jM) (hg : GI σ)   (fr lo : Nat) (hfr : 1 ≤ fr) (hlo : 31 ≤ lo) : WP 82 0 (lv_args 0 [.ref 109, .ref 45]) [] fr lo σ (fun v τ => v = none ∧ GI τ ∧ FR WW109 σ τ) := by
  show WP 82 0 [(0, .ref 109), (1, .ref 45)] [] _ _ _ _
  refine wp_al1 jF_82_0 rfl rfl (pc2 := 1) ?_
  refine wp_ic jF_82_1 rfl (pc2 := 2) ?_
  refine wp_pi jF_82_2 kd109 (by decide) rfl rfl rfl (pc2 := 5) hg (lo := (-2147483648)) (hi := 2147483647) rfl (by omega) (by omega) ?_
  intro τ1 g2 f3 e4
  refine wp_ic jF_82_5 rfl (pc2 := 6) ?_
  refine wp_is1 (lv2 := [(0, .ref 109), (1, .ref 45), (2, iV 0)]) jF_82_6 rfl rfl rfl (pc2 := 7) ?_
  refine wp_ic jF_82_7 rfl (pc2 := 8) ?_
  refine wp_is1 (lv2 := [(0, .ref 109), (1, .ref 45), (2, iV 0), (3, iV 0)]) jF_82_8 rfl rfl rfl (pc2 := 9) ?_
  refine wp_loop (α := Int × Int) (fun a => [(0, .ref 109), (1, .ref 45), (2, iV (a.1)), (3, iV (a.2))]) (fun a τ => ((-1) ≤ a.1 ∧ a.1 ≤ 4) ∧ (0 ≤ a.2 ∧ a.2 ≤ 60) ∧ GI τ ∧ FR WW109 τ1 τ) (fun a τ => Int.toNat (60 - (a.2))) (0, 0) τ1 ?_ ?_
  · skip
    exact ⟨⟨by (try dsimp only); omega, by (try dsimp only); omega⟩, ⟨by (try dsimp only); omega, by (try dsimp only); omega⟩, g2, FR.rf⟩
  · rintro ⟨x5, x6⟩ τ9 ⟨h7, h8, g10, f11⟩ ih12
    try dsimp only at h7 h8 g10 f11
    show WP 82 9 [(0, .ref 109), (1, .ref 45), (2, iV x5), (3, iV x6)] [] _ _ _ _
    show WP 82 9 [(0, .ref 109), (1, .ref 45), (2, iV x5), (3, iV x6)] [] _ _ _ _
    refine wp_il1 jF_82_9 rfl rfl (pc2 := 10) ?_
    refine wp_al1 jF_82_10 rfl rfl (pc2 := 11) ?_
    have b13 := GI.b g10 109 1 kd109 (lo := 0) (hi := 60) rfl
    refine wp_gi jF_82_11 kd109 (by decide) rfl rfl rfl (pc2 := 14) ?_
    refine wp_i_ge jF_82_14 (m_rgb h8 rfl) (m_rgb b13 rfl) rfl (pc2 := 17) ?_ ?_
    · intro h14
      refine wp_al1 jF_82_59 rfl rfl (pc2 := 60) ?_
      refine wp_gr (b := 111) jF_82_60 kd109 (by decide) (c := 5) rfl rfl rfl (pc2 := 63) ?_
      refine wp_al1 jF_82_63 rfl rfl (pc2 := 64) ?_
      refine wp_gi jF_82_64 kd109 (by decide) rfl rfl rfl (pc2 := 67) ?_
      refine wp_il1 jF_82_67 rfl rfl (pc2 := 68) ?_
      refine wp_iast (n := 61) jF_82_68 kd111 (by decide) rfl rfl (by omega) (by omega) rfl (pc2 := 69) g10 (lo := (-1)) (hi := 4) rfl (by omega) (by omega) ?_
      intro τ15 g16 f17 e18
      refine wp_al1 jF_82_69 rfl rfl (pc2 := 70) ?_
      refine wp_ic jF_82_70 rfl (pc2 := 71) ?_
      refine wp_pi jF_82_71 kd109 (by decide) rfl rfl rfl (pc2 := 74) g16 (lo := 0) (hi := 30) rfl (by omega) (by omega) ?_
      intro τ19 g20 f21 e22
      refine wp_al1 jF_82_74 rfl rfl (pc2 := 75) ?_
      refine wp_lc jF_82_75 rfl (pc2 := 76) ?_
      refine wp_pl jF_82_76 kd109 (by decide) rfl rfl (pc2 := 79) g20 ?_
      intro τ23 g24 f25
      refine wp_al1 jF_82_79 rfl rfl (pc2 := 80) ?_
      refine wp_ic jF_82_80 rfl (pc2 := 81) ?_
      refine wp_pi jF_82_81 kd109 (by decide) rfl rfl rfl (pc2 := 84) g24 (lo := 0) (hi := 61) rfl (by omega) (by omega) ?_
      intro τ26 g27 f28 e29
      refine wp_ic jF_82_84 rfl (pc2 := 85) ?_
      refine wp_is1 (lv2 := [(0, .ref 109), (1, .ref 45), (2, iV x5), (3, iV 0)]) jF_82_85 rfl rfl rfl (pc2 := 86) ?_
      refine wp_loop (α := Int) (fun a => [(0, .ref 109), (1, .ref 45), (2, iV x5), (3, iV (a))]) (fun a τ => (0 ≤ a ∧ a ≤ 30) ∧ GI τ ∧ FR WW109 τ26 τ ∧ ((τ.1 109 6) = (a))) (fun a τ => Int.toNat (30 - (a))) (0) τ26 ?_ ?_
      · skip
        have q30 : (τ26.1 109 6) = 0 := ((FRw.nj f28 (by decide)).trans ((FRw.nj f25 (by decide)).trans e22))
        exact ⟨⟨by omega, by omega⟩, g27, FR.rf, (by omega)⟩
      · rintro x31 τ33 ⟨h32, g34, f35, p36⟩ ih37
        have b38 := GI.b g34 109 6 kd109 (lo := 0) (hi := 30) rfl
        show WP 82 86 [(0, .ref 109), (1, .ref 45), (2, iV x5), (3, iV x31)] [] _ _ _ _
        show WP 82 86 [(0, .ref 109), (1, .ref 45), (2, iV x5), (3, iV x31)] [] _ _ _ _
        refine wp_il1 jF_82_86 rfl rfl (pc2 := 87) ?_
        refine wp_bi jF_82_87 (by decide) rfl (pc2 := 89) ?_
        refine wp_i_ge jF_82_89 (m_rgb h32 rfl) (m_rgl rfl) rfl (pc2 := 92) ?_ ?_
        · intro h39
          refine wp_al1 jF_82_155 rfl rfl (pc2 := 156) ?_
          refine wp_gr (b := 112) jF_82_156 kd109 (by decide) (c := 6) rfl rfl rfl (pc2 := 159) ?_
          refine wp_al1 jF_82_159 rfl rfl (pc2 := 160) ?_
          refine wp_gi jF_82_160 kd109 (by decide) rfl rfl rfl (pc2 := 163) ?_
          refine wp_al1 jF_82_163 rfl rfl (pc2 := 164) ?_
          have b40 := GI.b g34 109 1 kd109 (lo := 0) (hi := 60) rfl
          refine wp_gi jF_82_164 kd109 (by decide) rfl rfl rfl (pc2 := 167) ?_
          refine wp_iast (n := 31) jF_82_167 kd112 (by decide) rfl rfl (by omega) (by omega) rfl (pc2 := 168) g34 (lo := 0) (hi := 60) rfl (by omega) (by omega) ?_
          intro τ41 g42 f43 e44
          refine wp_rv jF_82_168 ?_
          exact ⟨rfl, g42, (FR.w (FR.up (FR.w (FR.w (FR.w (FR.w (FR.up (FR.w FR.rf f3 rfl) f11 sb_WW109_WW109) f17 rfl) f21 rfl) f25 rfl) f28 rfl) f35 sb_WW109_WW109) f43 rfl)⟩
        · intro h39
          refine wp_al1 jF_82_92 rfl rfl (pc2 := 93) ?_
          have b45 := GI.b g34 109 8 kd109 (lo := 0) (hi := 61) rfl
          refine wp_gi jF_82_93 kd109 (by decide) rfl rfl rfl (pc2 := 96) ?_
          refine wp_al1 jF_82_96 rfl rfl (pc2 := 97) ?_
          have b46 := GI.b g34 109 1 kd109 (lo := 0) (hi := 60) rfl
          refine wp_gi jF_82_97 kd109 (by decide) rfl rfl rfl (pc2 := 100) ?_
          refine wp_i_ge jF_82_100 (m_rgb b45 rfl) (m_rgb b46 rfl) rfl (pc2 := 103) ?_ ?_
          · intro h47
            refine wp_al1 jF_82_155 rfl rfl (pc2 := 156) ?_
            refine wp_gr (b := 112) jF_82_156 kd109 (by decide) (c := 6) rfl rfl rfl (pc2 := 159) ?_
            refine wp_al1 jF_82_159 rfl rfl (pc2 := 160) ?_
            refine wp_gi jF_82_160 kd109 (by decide) rfl rfl rfl (pc2 := 163) ?_
            refine wp_al1 jF_82_163 rfl rfl (pc2 := 164) ?_
            refine wp_gi jF_82_164 kd109 (by decide) rfl rfl rfl (pc2 := 167) ?_
            refine wp_iast (n := 31) jF_82_167 kd112 (by decide) rfl rfl (by omega) (by omega) rfl (pc2 := 168) g34 (lo := 0) (hi := 60) rfl (by omega) (by omega) ?_
            intro τ48 g49 f50 e51
            refine wp_rv jF_82_168 ?_
            exact ⟨rfl, g49, (FR.w (FR.up (FR.w (FR.w (FR.w (FR.w (FR.up (FR.w FR.rf f3 rfl) f11 sb_WW109_WW109) f17 rfl) f21 rfl) f25 rfl) f28 rfl) f35 sb_WW109_WW109) f50 rfl)⟩
          · intro h47
            refine wp_al1 jF_82_103 rfl rfl (pc2 := 104) ?_
            refine wp_gr (b := 112) jF_82_104 kd109 (by decide) (c := 6) rfl rfl rfl (pc2 := 107) ?_
            refine wp_il1 jF_82_107 rfl rfl (pc2 := 108) ?_
            refine wp_al1 jF_82_108 rfl rfl (pc2 := 109) ?_
            refine wp_gi jF_82_109 kd109 (by decide) rfl rfl rfl (pc2 := 112) ?_
            refine wp_iast (n := 31) jF_82_112 kd112 (by decide) rfl rfl (by omega) (by omega) rfl (pc2 := 113) g34 (lo := 0) (hi := 60) rfl (by omega) (by omega) ?_
            intro τ52 g53 f54 e55
            refine wp_al1 jF_82_113 rfl rfl (pc2 := 114) ?_
            refine wp_gr (b := 113) jF_82_114 kd109 (by decide) (c := 7) rfl rfl rfl (pc2 := 117) ?_
            refine wp_il1 jF_82_117 rfl rfl (pc2 := 118) ?_
            refine wp_al1 jF_82_118 rfl rfl (pc2 := 119) ?_
            refine wp_al1 jF_82_119 rfl rfl (pc2 := 120) ?_
            refine wp_cV (as := [.ref 45]) (rest := [iV x31, .ref 113]) (a := 109) (mx := 12) (ci := 4) jF_82_120 kd109 (by decide) rfl rfl rfl rfl rfl (by omega) (by omega) rfl (pc2 := 123) ?_
            have q56 : (τ52.1 109 8) = (τ33.1 109 8) := (FRw.na f54 (by decide))
            refine wp_use (m_83_r109_45 τ52 g53  (by omega) _ _ (by omega) (by omega)) ?_
            rintro _ τ57 ⟨y60, rfl, g58, f59⟩
            show WP 82 123 [(0, .ref 109), (1, .ref 45), (2, iV x5), (3, iV x31)] [.long y60, iV x31, .ref 113] _ _ _ _
            refine wp_last (n := 30) jF_82_123 kd113 (by decide) rfl rfl (by omega) (by omega) rfl (pc2 := 124) g58 ?_
            intro τ61 g62 f63
            refine wp_al1 jF_82_124 rfl rfl (pc2 := 125) ?_
            refine wp_dup jF_82_125 rfl rfl (pc2 := 126) ?_
            refine wp_glA jF_82_126 kd109 (by decide) rfl rfl (pc2 := 129) ?_
            intro y64
            refine wp_al1 jF_82_129 rfl rfl (pc2 := 130) ?_
            refine wp_gr (b := 113) jF_82_130 kd109 (by decide) (c := 7) rfl rfl rfl (pc2 := 133) ?_
            refine wp_il1 jF_82_133 rfl rfl (pc2 := 134) ?_
            refine wp_lald (n := 30) jF_82_134 kd113 (by decide) rfl rfl (by omega) (by omega) rfl (pc2 := 135) ?_
            intro y65
            refine wp_lng (pc2 := 136) jF_82_135 rfl rfl ?_
            intro y66
            refine wp_pl jF_82_136 kd109 (by decide) rfl rfl (pc2 := 139) g62 ?_
            intro τ67 g68 f69
            refine wp_al1 jF_82_139 rfl rfl (pc2 := 140) ?_
            refine wp_dup jF_82_140 rfl rfl (pc2 := 141) ?_
            refine wp_gi jF_82_141 kd109 (by decide) rfl ((FRw.nj f69 (by decide)).trans ((FRw.na f63 (by decide)).trans ((FR.at f59 109 6 rfl).trans (FRw.na f54 (by decide))))) rfl (pc2 := 144) ?_
            refine wp_ic jF_82_144 rfl (pc2 := 145) ?_
            refine wp_add jF_82_145 rfl (pc2 := 146) ?_
            refine wp_pi jF_82_146 kd109 (by decide) rfl rfl rfl (pc2 := 149) g68 (lo := 0) (hi := 30) rfl (by omega) (by omega) ?_
            intro τ70 g71 f72 e73
            refine wp_inc (lv2 := [(0, .ref 109), (1, .ref 45), (2, iV x5), (3, iV (x31 + 1))]) jF_82_149 rfl rfl rfl rfl (pc2 := 152) ?_
            refine wp_go jF_82_152 ?_
            have q74 : (τ70.1 109 6) = ((τ33.1 109 6) + 1) := e73
            exact ih37 ((x31 + 1)) τ70 ⟨⟨by omega, by omega⟩, g71, (FR.w (FR.w (FR.w (FR.up (FR.w f35 f54 rfl) f59 sb_Wra109_WW109) f63 rfl) f69 rfl) f72 rfl), (by omega)⟩ (by show Int.toNat (30 - (x31 + 1)) < Int.toNat (30 - x31); omega)
    · intro h14
      refine wp_al1 jF_82_17 rfl rfl (pc2 := 18) ?_
      refine wp_gr (b := 111) jF_82_18 kd109 (by decide) (c := 5) rfl rfl rfl (pc2 := 21) ?_
      refine wp_il1 jF_82_21 rfl rfl (pc2 := 22) ?_
      refine wp_il1 jF_82_22 rfl rfl (pc2 := 23) ?_
      refine wp_iast (n := 61) jF_82_23 kd111 (by decide) rfl rfl (by omega) (by omega) rfl (pc2 := 24) g10 (lo := (-1)) (hi := 4) rfl (by omega) (by omega) ?_
      intro τ75 g76 f77 e78
      refine wp_il1 jF_82_24 rfl rfl (pc2 := 25) ?_
      refine wp_al1 jF_82_25 rfl rfl (pc2 := 26) ?_
      refine wp_gr (b := 110) jF_82_26 kd109 (by decide) (c := 4) rfl rfl rfl (pc2 := 29) ?_
      refine wp_il1 jF_82_29 rfl rfl (pc2 := 30) ?_
      have b79 := GI.b g10 110 x6.toNat kd110 (lo := 0) (hi := 255) rfl
      refine wp_iald (n := 60) (e := (τ9.1 110 x6.toNat)) jF_82_30 kd110 (by decide) rfl rfl (by omega) (by omega) (FRw.na f77 (by decide)) rfl (pc2 := 31) ?_
      refine wp_cS (as := [iV x5, iV (τ9.1 110 x6.toNat)]) (rest := []) (mx := 4) jF_82_31 rfl rfl rfl rfl (by omega) (by omega) rfl (pc2 := 34) ?_
      refine wp_use (m_78_r τ75 g76 x5 (by omega) (by omega) (τ9.1 110 x6.toNat) (by omega) (by omega)  _ _ (by omega) (by omega)) ?_
      rintro _ _ ⟨z82, rfl, h83, rfl⟩
      show WP 82 34 [(0, .ref 109), (1, .ref 45), (2, iV x5), (3, iV x6)] [iV z82] _ _ _ _
      refine wp_is1 (lv2 := [(0, .ref 109), (1, .ref 45), (2, iV z82), (3, iV x6)]) jF_82_34 rfl rfl rfl (pc2 := 35) ?_
      refine wp_al1 jF_82_35 rfl rfl (pc2 := 36) ?_
      refine wp_dup jF_82_36 rfl rfl (pc2 := 37) ?_
      have b84 := GI.b g10 109 2 kd109 (lo := (-2147483648)) (hi := 2147483647) rfl
      refine wp_gi jF_82_37 kd109 (by decide) rfl (FRw.na f77 (by decide)) rfl (pc2 := 40) ?_
      refine wp_al1 jF_82_40 rfl rfl (pc2 := 41) ?_
      refine wp_gr (b := 110) jF_82_41 kd109 (by decide) (c := 4) rfl rfl rfl (pc2 := 44) ?_
      refine wp_il1 jF_82_44 rfl rfl (pc2 := 45) ?_
      refine wp_iald (n := 60) (e := (τ9.1 110 x6.toNat)) jF_82_45 kd110 (by decide) rfl rfl (by omega) (by omega) (FRw.na f77 (by decide)) rfl (pc2 := 46) ?_
      refine wp_cS (as := [iV (τ9.1 110 x6.toNat)]) (rest := [iV (τ9.1 109 2), .ref 109]) (mx := 1) jF_82_46 rfl rfl rfl rfl (by omega) (by omega) rfl (pc2 := 49) ?_
      show WP 81 0 [(0, iV (τ9.1 110 x6.toNat))] [] _ _ _ _
      refine wp_il1 jF_81_0 rfl rfl (pc2 := 1) ?_
      refine wp_bi jF_81_1 (by decide) rfl (pc2 := 3) ?_
      refine wp_i_ne jF_81_3 (m_rgb b79 rfl) (m_rgl rfl) rfl (pc2 := 6) ?_ ?_
      · intro h85
        refine wp_ic jF_81_10 rfl (pc2 := 11) ?_
        refine wp_ri jF_81_11 rfl ?_
        show WP 82 49 [(0, .ref 109), (1, .ref 45), (2, iV z82), (3, iV x6)] [iV 1, iV (τ9.1 109 2), .ref 109] _ _ _ _
        refine wp_any2 (pc2 := 50) jF_82_49 rfl rfl ?_
        intro z86 h87
        refine wp_pi jF_82_50 kd109 (by decide) rfl rfl rfl (pc2 := 53) g76 (lo := (-2147483648)) (hi := 2147483647) rfl (by omega) (by omega) ?_
        intro τ88 g89 f90 e91
        refine wp_inc (lv2 := [(0, .ref 109), (1, .ref 45), (2, iV z82), (3, iV (x6 + 1))]) jF_82_53 rfl rfl rfl rfl (pc2 := 56) ?_
        refine wp_go jF_82_56 ?_
        exact ih12 (z82, (x6 + 1)) τ88 ⟨⟨by (try dsimp only); omega, by (try dsimp only); omega⟩, ⟨by (try dsimp only); omega, by (try dsimp only); omega⟩, g89, (FR.w (FR.w f11 f77 rfl) f90 rfl)⟩ (by show Int.toNat (60 - (x6 + 1)) < Int.toNat (60 - x6); omega)
      · intro h85
        refine wp_ic jF_81_6 rfl (pc2 := 7) ?_
        refine wp_go jF_81_7 ?_
        refine wp_ri jF_81_11 rfl ?_
        show WP 82 49 [(0, .ref 109), (1, .ref 45), (2, iV z82), (3, iV x6)] [iV 0, iV (τ9.1 109 2), .ref 109] _ _ _ _
        refine wp_add jF_82_49 rfl (pc2 := 50) ?_
        refine wp_pi jF_82_50 kd109 (by decide) rfl rfl rfl (pc2 := 53) g76 (lo := (-2147483648)) (hi := 2147483647) rfl (by omega) (by omega) ?_
        intro τ92 g93 f94 e95
        refine wp_inc (lv2 := [(0, .ref 109), (1, .ref 45), (2, iV z82), (3, iV (x6 + 1))]) jF_82_53 rfl rfl rfl rfl (pc2 := 56) ?_
        refine wp_go jF_82_56 ?_
        exact ih12 (z82, (x6 + 1)) τ92 ⟨⟨by (try dsimp only); omega, by (try dsimp only); omega⟩, ⟨by (try dsimp only); omega, by (try dsimp only); omega⟩, g93, (FR.w (FR.w f11 f77 rfl) f94 rfl)⟩ (by show Int.toNat (60 - (x6 + 1)) < Int.toNat (60 - x6); omega)
set_option maxHeartbeats 4000000 in
set_option maxRecDepth 20000 in
/-- Row.copy -/
theorem m_84_r75_80 (σ : jM) (hg : GI σ)   (fr lo : Nat) (hfr : 1 ≤ fr) (hlo : 80 ≤ lo) : WP 84 0 (lv_args 0 [.ref 75, .ref 80]) [] fr lo σ (fun v τ => v = none ∧ GI τ ∧ FR WW75 σ τ) := by
  show WP 84 0 [(0, .ref 75), (1, .ref 80)] [] _ _ _ _
  refine wp_al1 jF_84_0 rfl rfl (pc2 := 1) ?_
  refine wp_gr (b := 81) jF_84_1 kd80 (by decide) (c := 4) rfl rfl rfl (pc2 := 4) ?_
  refine wp_ic jF_84_4 rfl (pc2 := 5) ?_
  refine wp_al1 jF_84_5 rfl rfl (pc2 := 6) ?_
  refine wp_gr (b := 76) jF_84_6 kd75 (by decide) (c := 4) rfl rfl rfl (pc2 := 9) ?_
  refine wp_ic jF_84_9 rfl (pc2 := 10) ?_
  refine wp_al1 jF_84_10 rfl rfl (pc2 := 11) ?_
  have b1 := GI.b hg 80 1 kd80 (lo := 0) (hi := 60) rfl
  refine wp_gi jF_84_11 kd80 (by decide) rfl rfl rfl (pc2 := 14) ?_
  refine wp_acopy (W := Wc76) (n0 := 60) (n1 := 60) (lo0 := 0) (hi0 := 255) (lo1 := 0) (hi1 := 255) jF_84_14 kd81 (by decide) rfl kd76 (by decide) rfl rfl (fun _ => rfl) (fun _ => rfl) (by decide) (by decide) (fun _ => rfl) (by omega) (by omega) (by omega) (by omega) (by omega) (by omega) (by show 45 ≤ _; omega) rfl (pc2 := 17) hg ?_
  intro τ2 g3 f4
  show WP 84 17 [(0, .ref 75), (1, .ref 80)] [] _ _ _ _
  refine wp_al1 jF_84_17 rfl rfl (pc2 := 18) ?_
  refine wp_al1 jF_84_18 rfl rfl (pc2 := 19) ?_
  refine wp_gi jF_84_19 kd80 (by decide) rfl (FR.at f4 80 1 rfl) rfl (pc2 := 22) ?_
  refine wp_pi jF_84_22 kd75 (by decide) rfl rfl rfl (pc2 := 25) g3 (lo := 0) (hi := 60) rfl (by omega) (by omega) ?_
  intro τ5 g6 f7 e8
  refine wp_rv jF_84_25 ?_
  exact ⟨rfl, g6, (FR.w (FR.up FR.rf f4 sb_Wc76_WW75) f7 rfl)⟩
set_option maxHeartbeats 4000000 in
set_option maxRecDepth 20000 in
/-- Row.copy -/
theorem m_84_r70_80 (σ : jM) (hg : GI σ)   (fr lo : Nat) (hfr : 1 ≤ fr) (hlo : 80 ≤ lo) : WP 84 0 (lv_args 0 [.ref 70, .ref 80]) [] fr lo σ (fun v τ => v = none ∧ GI τ ∧ FR WW70 σ τ) := by
  show WP 84 0 [(0, .ref 70), (1, .ref 80)] [] _ _ _ _
  refine wp_al1 jF_84_0 rfl rfl (pc2 := 1) ?_
  refine wp_gr (b := 81) jF_84_1 kd80 (by decide) (c := 4) rfl rfl rfl (pc2 := 4) ?_
  refine wp_ic jF_84_4 rfl (pc2 := 5) ?_
  refine wp_al1 jF_84_5 rfl rfl (pc2 := 6) ?_
  refine wp_gr (b := 71) jF_84_6 kd70 (by decide) (c := 4) rfl rfl rfl (pc2 := 9) ?_
  refine wp_ic jF_84_9 rfl (pc2 := 10) ?_
  refine wp_al1 jF_84_10 rfl rfl (pc2 := 11) ?_
  have b1 := GI.b hg 80 1 kd80 (lo := 0) (hi := 60) rfl
  refine wp_gi jF_84_11 kd80 (by decide) rfl rfl rfl (pc2 := 14) ?_
  refine wp_acopy (W := Wc71) (n0 := 60) (n1 := 60) (lo0 := 0) (hi0 := 255) (lo1 := 0) (hi1 := 255) jF_84_14 kd81 (by decide) rfl kd71 (by decide) rfl rfl (fun _ => rfl) (fun _ => rfl) (by decide) (by decide) (fun _ => rfl) (by omega) (by omega) (by omega) (by omega) (by omega) (by omega) (by show 45 ≤ _; omega) rfl (pc2 := 17) hg ?_
  intro τ2 g3 f4
  show WP 84 17 [(0, .ref 70), (1, .ref 80)] [] _ _ _ _
  refine wp_al1 jF_84_17 rfl rfl (pc2 := 18) ?_
  refine wp_al1 jF_84_18 rfl rfl (pc2 := 19) ?_
  refine wp_gi jF_84_19 kd80 (by decide) rfl (FR.at f4 80 1 rfl) rfl (pc2 := 22) ?_
  refine wp_pi jF_84_22 kd70 (by decide) rfl rfl rfl (pc2 := 25) g3 (lo := 0) (hi := 60) rfl (by omega) (by omega) ?_
  intro τ5 g6 f7 e8
  refine wp_rv jF_84_25 ?_
  exact ⟨rfl, g6, (FR.w (FR.up FR.rf f4 sb_Wc71_WW70) f7 rfl)⟩
set_option maxHeartbeats 4000000 in
set_option maxRecDepth 20000 in
/-- Row.copy -/
theorem m_84_r75_85 (σ : jM) (hg : GI σ)   (fr lo : Nat) (hfr : 1 ≤ fr) (hlo : 80 ≤ lo) : WP 84 0 (lv_args 0 [.ref 75, .ref 85]) [] fr lo σ (fun v τ => v = none ∧ GI τ ∧ FR WW75 σ τ) := by
  show WP 84 0 [(0, .ref 75), (1, .ref 85)] [] _ _ _ _
  refine wp_al1 jF_84_0 rfl rfl (pc2 := 1) ?_
  refine wp_gr (b := 86) jF_84_1 kd85 (by decide) (c := 4) rfl rfl rfl (pc2 := 4) ?_
  refine wp_ic jF_84_4 rfl (pc2 := 5) ?_
  refine wp_al1 jF_84_5 rfl rfl (pc2 := 6) ?_
  refine wp_gr (b := 76) jF_84_6 kd75 (by decide) (c := 4) rfl rfl rfl (pc2 := 9) ?_
  refine wp_ic jF_84_9 rfl (pc2 := 10) ?_
  refine wp_al1 jF_84_10 rfl rfl (pc2 := 11) ?_
  have b1 := GI.b hg 85 1 kd85 (lo := 0) (hi := 60) rfl
  refine wp_gi jF_84_11 kd85 (by decide) rfl rfl rfl (pc2 := 14) ?_
  refine wp_acopy (W := Wc76) (n0 := 60) (n1 := 60) (lo0 := 0) (hi0 := 255) (lo1 := 0) (hi1 := 255) jF_84_14 kd86 (by decide) rfl kd76 (by decide) rfl rfl (fun _ => rfl) (fun _ => rfl) (by decide) (by decide) (fun _ => rfl) (by omega) (by omega) (by omega) (by omega) (by omega) (by omega) (by show 45 ≤ _; omega) rfl (pc2 := 17) hg ?_
  intro τ2 g3 f4
  show WP 84 17 [(0, .ref 75), (1, .ref 85)] [] _ _ _ _
  refine wp_al1 jF_84_17 rfl rfl (pc2 := 18) ?_
  refine wp_al1 jF_84_18 rfl rfl (pc2 := 19) ?_
  refine wp_gi jF_84_19 kd85 (by decide) rfl (FR.at f4 85 1 rfl) rfl (pc2 := 22) ?_
  refine wp_pi jF_84_22 kd75 (by decide) rfl rfl rfl (pc2 := 25) g3 (lo := 0) (hi := 60) rfl (by omega) (by omega) ?_
  intro τ5 g6 f7 e8
  refine wp_rv jF_84_25 ?_
  exact ⟨rfl, g6, (FR.w (FR.up FR.rf f4 sb_Wc76_WW75) f7 rfl)⟩
set_option maxHeartbeats 4000000 in
set_option maxRecDepth 20000 in
/-- Row.load -/
theorem m_208_r80_10 (σ : jM) (hg : GI σ) (first : Int) (hl_first : 0 ≤ first) (hu_first : first ≤ 61)  (fr lo : Nat) (hfr : 2 ≤ fr) (hlo : 41 ≤ lo) : WP 208 0 (lv_args 0 [.ref 80, .ref 10, iV first]) [] fr lo σ (fun v τ => ∃ z : Int, v = some (iV z) ∧ ((-1) ≤ z ∧ z ≤ 122) ∧ GI τ ∧ FR WW80 σ τ ∧ (z ≤ first + 61)) := by
  show WP 208 0 [(0, .ref 80), (1, .ref 10), (2, iV first)] [] _ _ _ _
  refine wp_al1 jF_208_0 rfl rfl (pc2 := 1) ?_
  refine wp_il1 jF_208_1 rfl rfl (pc2 := 2) ?_
  refine wp_cV (as := [iV first]) (rest := []) (a := 10) (mx := 2) (ci := 6) jF_208_2 kd10 (by decide) rfl rfl rfl rfl rfl (by omega) (by omega) rfl (pc2 := 5) ?_
  have b1 := GI.b hg 10 1 kd10 (lo := 0) (hi := 1600) rfl
  refine wp_use (m_39_r10 σ hg first (by omega) (by omega)  _ _ (by omega) (by omega)) ?_
  rintro _ _ ⟨z6, rfl, h7, rfl, p2, p3⟩
  show WP 208 5 [(0, .ref 80), (1, .ref 10), (2, iV first)] [iV z6] _ _ _ _
  refine wp_is1 (lv2 := [(0, .ref 80), (1, .ref 10), (2, iV first), (3, iV z6)]) jF_208_5 rfl rfl rfl (pc2 := 6) ?_
  refine wp_il1 jF_208_6 rfl rfl (pc2 := 7) ?_
  refine wp_ic jF_208_7 rfl (pc2 := 8) ?_
  refine wp_i_eq jF_208_8 (m_rgb h7 rfl) (m_rgl rfl) rfl (pc2 := 11) ?_ ?_
  · intro h8
    clear p2
    refine wp_ic jF_208_27 rfl (pc2 := 28) ?_
    refine wp_ri jF_208_28 rfl ?_
    exact ⟨(-1), rfl, ⟨by omega, by omega⟩, hg, FR.rf, (by omega)⟩
  · intro h8
    replace p2 := p2 (by omega)
    refine wp_il1 jF_208_11 rfl rfl (pc2 := 12) ?_
    refine wp_bi jF_208_12 (by decide) rfl (pc2 := 14) ?_
    refine wp_i_gt jF_208_14 ⟨by omega, by omega⟩ (m_rgl rfl) rfl (pc2 := 17) ?_ ?_
    · intro h9
      refine wp_ic jF_208_27 rfl (pc2 := 28) ?_
      refine wp_ri jF_208_28 rfl ?_
      exact ⟨(-1), rfl, ⟨by omega, by omega⟩, hg, FR.rf, (by omega)⟩
    · intro h9
      refine wp_il1 jF_208_17 rfl rfl (pc2 := 18) ?_
      refine wp_il1 jF_208_18 rfl rfl (pc2 := 19) ?_
      refine wp_add jF_208_19 rfl (pc2 := 20) ?_
      refine wp_al1 jF_208_20 rfl rfl (pc2 := 21) ?_
      refine wp_gi jF_208_21 kd10 (by decide) rfl rfl rfl (pc2 := 24) ?_
      refine wp_i_lt jF_208_24 ⟨by omega, by omega⟩ (m_rgb b1 rfl) rfl (pc2 := 27) ?_ ?_
      · intro h10
        refine wp_al1 jF_208_29 rfl rfl (pc2 := 30) ?_
        refine wp_cV (as := []) (rest := []) (a := 80) (mx := 1) (ci := 4) jF_208_30 kd80 (by decide) rfl rfl rfl rfl rfl (by omega) (by omega) rfl (pc2 := 33) ?_
        refine wp_use (m_71_r80 σ hg   _ _ (by omega) (by omega)) ?_
        rintro _ τ11 ⟨rfl, g12, f13⟩
        show WP 208 33 [(0, .ref 80), (1, .ref 10), (2, iV first), (3, iV z6)] [] _ _ _ _
        refine wp_ic jF_208_33 rfl (pc2 := 34) ?_
        refine wp_is2 (lv2 := [(0, .ref 80), (1, .ref 10), (2, iV first), (3, iV z6), (4, iV 0)]) jF_208_34 rfl rfl rfl (pc2 := 36) ?_
        refine wp_loop (α := Int) (fun a => [(0, .ref 80), (1, .ref 10), (2, iV first), (3, iV z6), (4, iV (a))]) (fun a τ => (0 ≤ a ∧ a ≤ 60) ∧ GI τ ∧ FR WW80 τ11 τ) (fun a τ => Int.toNat (60 - (a))) (0) τ11 ?_ ?_
        · skip
          exact ⟨⟨by omega, by omega⟩, g12, FR.rf⟩
        · rintro x14 τ16 ⟨h15, g17, f18⟩ ih19
          show WP 208 36 [(0, .ref 80), (1, .ref 10), (2, iV first), (3, iV z6), (4, iV x14)] [] _ _ _ _
          show WP 208 36 [(0, .ref 80), (1, .ref 10), (2, iV first), (3, iV z6), (4, iV x14)] [] _ _ _ _
          refine wp_il2 jF_208_36 rfl rfl (pc2 := 38) ?_
          refine wp_il1 jF_208_38 rfl rfl (pc2 := 39) ?_
          refine wp_i_ge jF_208_39 (m_rgb h15 rfl) ⟨by omega, by omega⟩ rfl (pc2 := 42) ?_ ?_
          · intro h20
            refine wp_il1 jF_208_62 rfl rfl (pc2 := 63) ?_
            refine wp_ic jF_208_63 rfl (pc2 := 64) ?_
            refine wp_add jF_208_64 rfl (pc2 := 65) ?_
            refine wp_il1 jF_208_65 rfl rfl (pc2 := 66) ?_
            refine wp_add jF_208_66 rfl (pc2 := 67) ?_
            refine wp_ri jF_208_67 rfl ?_
            exact ⟨((first + 1) + z6), rfl, ⟨by omega, by omega⟩, g17, (FR.up f13 f18 sb_WW80_WW80), (by omega)⟩
          · intro h20
            refine wp_al1 jF_208_42 rfl rfl (pc2 := 43) ?_
            refine wp_al1 jF_208_43 rfl rfl (pc2 := 44) ?_
            refine wp_il1 jF_208_44 rfl rfl (pc2 := 45) ?_
            refine wp_ic jF_208_45 rfl (pc2 := 46) ?_
            refine wp_add jF_208_46 rfl (pc2 := 47) ?_
            refine wp_il2 jF_208_47 rfl rfl (pc2 := 49) ?_
            refine wp_add jF_208_49 rfl (pc2 := 50) ?_
            refine wp_cV (as := [iV ((first + 1) + x14)]) (rest := [.ref 80]) (a := 10) (mx := 2) (ci := 6) jF_208_50 kd10 (by decide) rfl rfl rfl rfl rfl (by omega) (by omega) rfl (pc2 := 53) ?_
            have q21 : (τ16.1 10 1) = (σ.1 10 1) := ((FR.at f18 10 1 rfl).trans (FR.at f13 10 1 rfl))
            refine wp_use (m_39_r10 τ16 g17 ((first + 1) + x14) (by omega) (by omega)  _ _ (by omega) (by omega)) ?_
            rintro _ _ ⟨z26, rfl, h27, rfl, p22, p23⟩
            show WP 208 53 [(0, .ref 80), (1, .ref 10), (2, iV first), (3, iV z6), (4, iV x14)] [iV z26, .ref 80] _ _ _ _
            refine wp_cV (as := [iV z26]) (rest := []) (a := 80) (mx := 2) (ci := 4) jF_208_53 kd80 (by decide) rfl rfl rfl rfl rfl (by omega) (by omega) rfl (pc2 := 56) ?_
            refine wp_use (m_80_r80 τ16 g17 z26 (by omega) (by omega)  _ _ (by omega) (by omega)) ?_
            rintro _ τ28 ⟨rfl, g29, f30⟩
            show WP 208 56 [(0, .ref 80), (1, .ref 10), (2, iV first), (3, iV z6), (4, iV x14)] [] _ _ _ _
            refine wp_inc (lv2 := [(0, .ref 80), (1, .ref 10), (2, iV first), (3, iV z6), (4, iV (x14 + 1))]) jF_208_56 rfl rfl rfl rfl (pc2 := 59) ?_
            refine wp_go jF_208_59 ?_
            exact ih19 ((x14 + 1)) τ28 ⟨⟨by omega, by omega⟩, g29, (FR.up f18 f30 sb_WW80_WW80)⟩ (by show Int.toNat (60 - (x14 + 1)) < Int.toNat (60 - x14); omega)
      · intro h10
        refine wp_ic jF_208_27 rfl (pc2 := 28) ?_
        refine wp_ri jF_208_28 rfl ?_
        exact ⟨(-1), rfl, ⟨by omega, by omega⟩, hg, FR.rf, (by omega)⟩
set_option maxHeartbeats 4000000 in
set_option maxRecDepth 20000 in
/-- Row.isLawful -/
theorem m_209_r80_20 (σ : jM) (hg : GI σ)   (fr lo : Nat) (hfr : 1 ≤ fr) (hlo : 23 ≤ lo) : WP 209 0 (lv_args 0 [.ref 80, .ref 20]) [] fr lo σ (fun v τ => ∃ z : Int, v = some (iV z) ∧ (0 ≤ z ∧ z ≤ 1) ∧ σ = τ) := by
  show WP 209 0 [(0, .ref 80), (1, .ref 20)] [] _ _ _ _
  refine wp_ic jF_209_0 rfl (pc2 := 1) ?_
  refine wp_is1 (lv2 := [(0, .ref 80), (1, .ref 20), (2, iV 0)]) jF_209_1 rfl rfl rfl (pc2 := 2) ?_
  refine wp_ic jF_209_2 rfl (pc2 := 3) ?_
  refine wp_is1 (lv2 := [(0, .ref 80), (1, .ref 20), (2, iV 0), (3, iV 0)]) jF_209_3 rfl rfl rfl (pc2 := 4) ?_
  refine wp_loop (α := Int × Int) (fun a => [(0, .ref 80), (1, .ref 20), (2, iV (a.1)), (3, iV (a.2))]) (fun a τ => ((-1) ≤ a.1 ∧ a.1 ≤ 4) ∧ (0 ≤ a.2 ∧ a.2 ≤ 60) ∧ σ = τ) (fun a τ => Int.toNat (60 - (a.2))) (0, 0) σ ?_ ?_
  · skip
    exact ⟨⟨by (try dsimp only); omega, by (try dsimp only); omega⟩, ⟨by (try dsimp only); omega, by (try dsimp only); omega⟩, rfl⟩
  · rintro ⟨x1, x2⟩ _ ⟨h3, h4, rfl⟩ ih8
    try dsimp only at h3 h4
    show WP 209 4 [(0, .ref 80), (1, .ref 20), (2, iV x1), (3, iV x2)] [] _ _ _ _
    show WP 209 4 [(0, .ref 80), (1, .ref 20), (2, iV x1), (3, iV x2)] [] _ _ _ _
    refine wp_il1 jF_209_4 rfl rfl (pc2 := 5) ?_
    refine wp_al1 jF_209_5 rfl rfl (pc2 := 6) ?_
    have b9 := GI.b hg 80 1 kd80 (lo := 0) (hi := 60) rfl
    refine wp_gi jF_209_6 kd80 (by decide) rfl rfl rfl (pc2 := 9) ?_
    refine wp_i_ge jF_209_9 (m_rgb h4 rfl) (m_rgb b9 rfl) rfl (pc2 := 12) ?_ ?_
    · intro h10
      refine wp_il1 jF_209_51 rfl rfl (pc2 := 52) ?_
      refine wp_z_ne jF_209_52 (m_rgb h3 rfl) rfl (pc2 := 55) ?_ ?_
      · intro h11
        refine wp_ic jF_209_70 rfl (pc2 := 71) ?_
        refine wp_ri jF_209_71 rfl ?_
        exact ⟨0, rfl, ⟨by omega, by omega⟩, rfl⟩
      · intro h11
        refine wp_al1 jF_209_55 rfl rfl (pc2 := 56) ?_
        have b12 := GI.b hg 80 2 kd80 (lo := (-2147483648)) (hi := 2147483647) rfl
        refine wp_gi jF_209_56 kd80 (by decide) rfl rfl rfl (pc2 := 59) ?_
        refine wp_al1 jF_209_59 rfl rfl (pc2 := 60) ?_
        have b13 := GI.b hg 20 10 kd20 (lo := (-2147483648)) (hi := 2147483647) rfl
        refine wp_gi jF_209_60 kd20 (by decide) rfl rfl rfl (pc2 := 63) ?_
        refine wp_i_gt jF_209_63 (m_rgb b12 rfl) (m_rgb b13 rfl) rfl (pc2 := 66) ?_ ?_
        · intro h14
          refine wp_ic jF_209_70 rfl (pc2 := 71) ?_
          refine wp_ri jF_209_71 rfl ?_
          exact ⟨0, rfl, ⟨by omega, by omega⟩, rfl⟩
        · intro h14
          refine wp_ic jF_209_66 rfl (pc2 := 67) ?_
          refine wp_go jF_209_67 ?_
          refine wp_ri jF_209_71 rfl ?_
          exact ⟨1, rfl, ⟨by omega, by omega⟩, rfl⟩
    · intro h10
      refine wp_il1 jF_209_12 rfl rfl (pc2 := 13) ?_
      refine wp_ic jF_209_13 rfl (pc2 := 14) ?_
      refine wp_i_eq jF_209_14 (m_rgb h3 rfl) (m_rgl rfl) rfl (pc2 := 17) ?_ ?_
      · intro h15
        refine wp_il1 jF_209_51 rfl rfl (pc2 := 52) ?_
        refine wp_z_ne jF_209_52 ⟨by omega, by omega⟩ rfl (pc2 := 55) ?_ ?_
        · intro h16
          refine wp_ic jF_209_70 rfl (pc2 := 71) ?_
          refine wp_ri jF_209_71 rfl ?_
          exact ⟨0, rfl, ⟨by omega, by omega⟩, rfl⟩
        · intro h16; exfalso; omega
      · intro h15
        refine wp_al1 jF_209_17 rfl rfl (pc2 := 18) ?_
        refine wp_al1 jF_209_18 rfl rfl (pc2 := 19) ?_
        refine wp_gr (b := 81) jF_209_19 kd80 (by decide) (c := 4) rfl rfl rfl (pc2 := 22) ?_
        refine wp_il1 jF_209_22 rfl rfl (pc2 := 23) ?_
        have b17 := GI.b hg 81 x2.toNat kd81 (lo := 0) (hi := 255) rfl
        refine wp_iald (n := 60) (e := (σ.1 81 x2.toNat)) jF_209_23 kd81 (by decide) rfl rfl (by omega) (by omega) rfl rfl (pc2 := 24) ?_
        refine wp_cV (as := [iV (σ.1 81 x2.toNat)]) (rest := []) (a := 20) (mx := 2) (ci := 8) jF_209_24 kd20 (by decide) rfl rfl rfl rfl rfl (by omega) (by omega) rfl (pc2 := 27) ?_
        refine wp_use (m_108_r20 σ hg (σ.1 81 x2.toNat) (by omega) (by omega)  _ _ (by omega) (by omega)) ?_
        rintro _ _ ⟨z20, rfl, h21, rfl⟩
        show WP 209 27 [(0, .ref 80), (1, .ref 20), (2, iV x1), (3, iV x2)] [iV z20] _ _ _ _
        refine wp_z_eq jF_209_27 (m_rgb h21 rfl) rfl (pc2 := 30) ?_ ?_
        · intro h22
          refine wp_ic jF_209_43 rfl (pc2 := 44) ?_
          refine wp_is1 (lv2 := [(0, .ref 80), (1, .ref 20), (2, iV (-1)), (3, iV x2)]) jF_209_44 rfl rfl rfl (pc2 := 45) ?_
          refine wp_inc (lv2 := [(0, .ref 80), (1, .ref 20), (2, iV (-1)), (3, iV (x2 + 1))]) jF_209_45 rfl rfl rfl rfl (pc2 := 48) ?_
          refine wp_go jF_209_48 ?_
          exact ih8 ((-1), (x2 + 1)) σ ⟨⟨by (try dsimp only); omega, by (try dsimp only); omega⟩, ⟨by (try dsimp only); omega, by (try dsimp only); omega⟩, rfl⟩ (by show Int.toNat (60 - (x2 + 1)) < Int.toNat (60 - x2); omega)
        · intro h22
          refine wp_il1 jF_209_30 rfl rfl (pc2 := 31) ?_
          refine wp_al1 jF_209_31 rfl rfl (pc2 := 32) ?_
          refine wp_gr (b := 81) jF_209_32 kd80 (by decide) (c := 4) rfl rfl rfl (pc2 := 35) ?_
          refine wp_il1 jF_209_35 rfl rfl (pc2 := 36) ?_
          refine wp_iald (n := 60) (e := (σ.1 81 x2.toNat)) jF_209_36 kd81 (by decide) rfl rfl (by omega) (by omega) rfl rfl (pc2 := 37) ?_
          refine wp_cS (as := [iV x1, iV (σ.1 81 x2.toNat)]) (rest := []) (mx := 4) jF_209_37 rfl rfl rfl rfl (by omega) (by omega) rfl (pc2 := 40) ?_
          refine wp_use (m_78_r σ hg x1 (by omega) (by omega) (σ.1 81 x2.toNat) (by omega) (by omega)  _ _ (by omega) (by omega)) ?_
          rintro _ _ ⟨z25, rfl, h26, rfl⟩
          show WP 209 40 [(0, .ref 80), (1, .ref 20), (2, iV x1), (3, iV x2)] [iV z25] _ _ _ _
          refine wp_go jF_209_40 ?_
          refine wp_is1 (lv2 := [(0, .ref 80), (1, .ref 20), (2, iV z25), (3, iV x2)]) jF_209_44 rfl rfl rfl (pc2 := 45) ?_
          refine wp_inc (lv2 := [(0, .ref 80), (1, .ref 20), (2, iV z25), (3, iV (x2 + 1))]) jF_209_45 rfl rfl rfl rfl (pc2 := 48) ?_
          refine wp_go jF_209_48 ?_
          exact ih8 (z25, (x2 + 1)) σ ⟨⟨by (try dsimp only); omega, by (try dsimp only); omega⟩, ⟨by (try dsimp only); omega, by (try dsimp only); omega⟩, rfl⟩ (by show Int.toNat (60 - (x2 + 1)) < Int.toNat (60 - x2); omega)
set_option maxHeartbeats 4000000 in
set_option maxRecDepth 20000 in
/-- Row.isLawful -/
theorem m_209_r80_45 (σ : jM) (hg : GI σ)   (fr lo : Nat) (hfr : 1 ≤ fr) (hlo : 23 ≤ lo) : WP 209 0 (lv_args 0 [.ref 80, .ref 45]) [] fr lo σ (fun v τ => ∃ z : Int, v = some (iV z) ∧ (0 ≤ z ∧ z ≤ 1) ∧ σ = τ) := by
  show WP 209 0 [(0, .ref 80), (1, .ref 45)] [] _ _ _ _
  refine wp_ic jF_209_0 rfl (pc2 := 1) ?_
  refine wp_is1 (lv2 := [(0, .ref 80), (1, .ref 45), (2, iV 0)]) jF_209_1 rfl rfl rfl (pc2 := 2) ?_
  refine wp_ic jF_209_2 rfl (pc2 := 3) ?_
  refine wp_is1 (lv2 := [(0, .ref 80), (1, .ref 45), (2, iV 0), (3, iV 0)]) jF_209_3 rfl rfl rfl (pc2 := 4) ?_
  refine wp_loop (α := Int × Int) (fun a => [(0, .ref 80), (1, .ref 45), (2, iV (a.1)), (3, iV (a.2))]) (fun a τ => ((-1) ≤ a.1 ∧ a.1 ≤ 4) ∧ (0 ≤ a.2 ∧ a.2 ≤ 60) ∧ σ = τ) (fun a τ => Int.toNat (60 - (a.2))) (0, 0) σ ?_ ?_
  · skip
    exact ⟨⟨by (try dsimp only); omega, by (try dsimp only); omega⟩, ⟨by (try dsimp only); omega, by (try dsimp only); omega⟩, rfl⟩
  · rintro ⟨x1, x2⟩ _ ⟨h3, h4, rfl⟩ ih8
    try dsimp only at h3 h4
    show WP 209 4 [(0, .ref 80), (1, .ref 45), (2, iV x1), (3, iV x2)] [] _ _ _ _
    show WP 209 4 [(0, .ref 80), (1, .ref 45), (2, iV x1), (3, iV x2)] [] _ _ _ _
    refine wp_il1 jF_209_4 rfl rfl (pc2 := 5) ?_
    refine wp_al1 jF_209_5 rfl rfl (pc2 := 6) ?_
    have b9 := GI.b hg 80 1 kd80 (lo := 0) (hi := 60) rfl
    refine wp_gi jF_209_6 kd80 (by decide) rfl rfl rfl (pc2 := 9) ?_
    refine wp_i_ge jF_209_9 (m_rgb h4 rfl) (m_rgb b9 rfl) rfl (pc2 := 12) ?_ ?_
    · intro h10
      refine wp_il1 jF_209_51 rfl rfl (pc2 := 52) ?_
      refine wp_z_ne jF_209_52 (m_rgb h3 rfl) rfl (pc2 := 55) ?_ ?_
      · intro h11
        refine wp_ic jF_209_70 rfl (pc2 := 71) ?_
        refine wp_ri jF_209_71 rfl ?_
        exact ⟨0, rfl, ⟨by omega, by omega⟩, rfl⟩
      · intro h11
        refine wp_al1 jF_209_55 rfl rfl (pc2 := 56) ?_
        have b12 := GI.b hg 80 2 kd80 (lo := (-2147483648)) (hi := 2147483647) rfl
        refine wp_gi jF_209_56 kd80 (by decide) rfl rfl rfl (pc2 := 59) ?_
        refine wp_al1 jF_209_59 rfl rfl (pc2 := 60) ?_
        have b13 := GI.b hg 45 10 kd45 (lo := (-2147483648)) (hi := 2147483647) rfl
        refine wp_gi jF_209_60 kd45 (by decide) rfl rfl rfl (pc2 := 63) ?_
        refine wp_i_gt jF_209_63 (m_rgb b12 rfl) (m_rgb b13 rfl) rfl (pc2 := 66) ?_ ?_
        · intro h14
          refine wp_ic jF_209_70 rfl (pc2 := 71) ?_
          refine wp_ri jF_209_71 rfl ?_
          exact ⟨0, rfl, ⟨by omega, by omega⟩, rfl⟩
        · intro h14
          refine wp_ic jF_209_66 rfl (pc2 := 67) ?_
          refine wp_go jF_209_67 ?_
          refine wp_ri jF_209_71 rfl ?_
          exact ⟨1, rfl, ⟨by omega, by omega⟩, rfl⟩
    · intro h10
      refine wp_il1 jF_209_12 rfl rfl (pc2 := 13) ?_
      refine wp_ic jF_209_13 rfl (pc2 := 14) ?_
      refine wp_i_eq jF_209_14 (m_rgb h3 rfl) (m_rgl rfl) rfl (pc2 := 17) ?_ ?_
      · intro h15
        refine wp_il1 jF_209_51 rfl rfl (pc2 := 52) ?_
        refine wp_z_ne jF_209_52 ⟨by omega, by omega⟩ rfl (pc2 := 55) ?_ ?_
        · intro h16
          refine wp_ic jF_209_70 rfl (pc2 := 71) ?_
          refine wp_ri jF_209_71 rfl ?_
          exact ⟨0, rfl, ⟨by omega, by omega⟩, rfl⟩
        · intro h16; exfalso; omega
      · intro h15
        refine wp_al1 jF_209_17 rfl rfl (pc2 := 18) ?_
        refine wp_al1 jF_209_18 rfl rfl (pc2 := 19) ?_
        refine wp_gr (b := 81) jF_209_19 kd80 (by decide) (c := 4) rfl rfl rfl (pc2 := 22) ?_
        refine wp_il1 jF_209_22 rfl rfl (pc2 := 23) ?_
        have b17 := GI.b hg 81 x2.toNat kd81 (lo := 0) (hi := 255) rfl
        refine wp_iald (n := 60) (e := (σ.1 81 x2.toNat)) jF_209_23 kd81 (by decide) rfl rfl (by omega) (by omega) rfl rfl (pc2 := 24) ?_
        refine wp_cV (as := [iV (σ.1 81 x2.toNat)]) (rest := []) (a := 45) (mx := 2) (ci := 8) jF_209_24 kd45 (by decide) rfl rfl rfl rfl rfl (by omega) (by omega) rfl (pc2 := 27) ?_
        refine wp_use (m_108_r45 σ hg (σ.1 81 x2.toNat) (by omega) (by omega)  _ _ (by omega) (by omega)) ?_
        rintro _ _ ⟨z20, rfl, h21, rfl⟩
        show WP 209 27 [(0, .ref 80), (1, .ref 45), (2, iV x1), (3, iV x2)] [iV z20] _ _ _ _
        refine wp_z_eq jF_209_27 (m_rgb h21 rfl) rfl (pc2 := 30) ?_ ?_
        · intro h22
          refine wp_ic jF_209_43 rfl (pc2 := 44) ?_
          refine wp_is1 (lv2 := [(0, .ref 80), (1, .ref 45), (2, iV (-1)), (3, iV x2)]) jF_209_44 rfl rfl rfl (pc2 := 45) ?_
          refine wp_inc (lv2 := [(0, .ref 80), (1, .ref 45), (2, iV (-1)), (3, iV (x2 + 1))]) jF_209_45 rfl rfl rfl rfl (pc2 := 48) ?_
          refine wp_go jF_209_48 ?_
          exact ih8 ((-1), (x2 + 1)) σ ⟨⟨by (try dsimp only); omega, by (try dsimp only); omega⟩, ⟨by (try dsimp only); omega, by (try dsimp only); omega⟩, rfl⟩ (by show Int.toNat (60 - (x2 + 1)) < Int.toNat (60 - x2); omega)
        · intro h22
          refine wp_il1 jF_209_30 rfl rfl (pc2 := 31) ?_
          refine wp_al1 jF_209_31 rfl rfl (pc2 := 32) ?_
          refine wp_gr (b := 81) jF_209_32 kd80 (by decide) (c := 4) rfl rfl rfl (pc2 := 35) ?_
          refine wp_il1 jF_209_35 rfl rfl (pc2 := 36) ?_
          refine wp_iald (n := 60) (e := (σ.1 81 x2.toNat)) jF_209_36 kd81 (by decide) rfl rfl (by omega) (by omega) rfl rfl (pc2 := 37) ?_
          refine wp_cS (as := [iV x1, iV (σ.1 81 x2.toNat)]) (rest := []) (mx := 4) jF_209_37 rfl rfl rfl rfl (by omega) (by omega) rfl (pc2 := 40) ?_
          refine wp_use (m_78_r σ hg x1 (by omega) (by omega) (σ.1 81 x2.toNat) (by omega) (by omega)  _ _ (by omega) (by omega)) ?_
          rintro _ _ ⟨z25, rfl, h26, rfl⟩
          show WP 209 40 [(0, .ref 80), (1, .ref 45), (2, iV x1), (3, iV x2)] [iV z25] _ _ _ _
          refine wp_go jF_209_40 ?_
          refine wp_is1 (lv2 := [(0, .ref 80), (1, .ref 45), (2, iV z25), (3, iV x2)]) jF_209_44 rfl rfl rfl (pc2 := 45) ?_
          refine wp_inc (lv2 := [(0, .ref 80), (1, .ref 45), (2, iV z25), (3, iV (x2 + 1))]) jF_209_45 rfl rfl rfl rfl (pc2 := 48) ?_
          refine wp_go jF_209_48 ?_
          exact ih8 (z25, (x2 + 1)) σ ⟨⟨by (try dsimp only); omega, by (try dsimp only); omega⟩, ⟨by (try dsimp only); omega, by (try dsimp only); omega⟩, rfl⟩ (by show Int.toNat (60 - (x2 + 1)) < Int.toNat (60 - x2); omega)
set_option maxHeartbeats 4000000 in
set_option maxRecDepth 20000 in
/-- Row.load -/
theorem m_208_r85_10 (σ : jM) (hg : GI σ) (first : Int) (hl_first : 0 ≤ first) (hu_first : first ≤ 61)  (fr lo : Nat) (hfr : 2 ≤ fr) (hlo : 41 ≤ lo) : WP 208 0 (lv_args 0 [.ref 85, .ref 10, iV first]) [] fr lo σ (fun v τ => ∃ z : Int, v = some (iV z) ∧ ((-1) ≤ z ∧ z ≤ 122) ∧ GI τ ∧ FR WW85 σ τ ∧ (z ≤ first + 61)) := by
  show WP 208 0 [(0, .ref 85), (1, .ref 10), (2, iV first)] [] _ _ _ _
  refine wp_al1 jF_208_0 rfl rfl (pc2 := 1) ?_
  refine wp_il1 jF_208_1 rfl rfl (pc2 := 2) ?_
  refine wp_cV (as := [iV first]) (rest := []) (a := 10) (mx := 2) (ci := 6) jF_208_2 kd10 (by decide) rfl rfl rfl rfl rfl (by omega) (by omega) rfl (pc2 := 5) ?_
  have b1 := GI.b hg 10 1 kd10 (lo := 0) (hi := 1600) rfl
  refine wp_use (m_39_r10 σ hg first (by omega) (by omega)  _ _ (by omega) (by omega)) ?_
  rintro _ _ ⟨z6, rfl, h7, rfl, p2, p3⟩
  show WP 208 5 [(0, .ref 85), (1, .ref 10), (2, iV first)] [iV z6] _ _ _ _
  refine wp_is1 (lv2 := [(0, .ref 85), (1, .ref 10), (2, iV first), (3, iV z6)]) jF_208_5 rfl rfl rfl (pc2 := 6) ?_
  refine wp_il1 jF_208_6 rfl rfl (pc2 := 7) ?_
  refine wp_ic jF_208_7 rfl (pc2 := 8) ?_
  refine wp_i_eq jF_208_8 (m_rgb h7 rfl) (m_rgl rfl) rfl (pc2 := 11) ?_ ?_
  · intro h8
    clear p2
    refine wp_ic jF_208_27 rfl (pc2 := 28) ?_
    refine wp_ri jF_208_28 rfl ?_
    exact ⟨(-1), rfl, ⟨by omega, by omega⟩, hg, FR.rf, (by omega)⟩
  · intro h8
    replace p2 := p2 (by omega)
    refine wp_il1 jF_208_11 rfl rfl (pc2 := 12) ?_
    refine wp_bi jF_208_12 (by decide) rfl (pc2 := 14) ?_
    refine wp_i_gt jF_208_14 ⟨by omega, by omega⟩ (m_rgl rfl) rfl (pc2 := 17) ?_ ?_
    · intro h9
      refine wp_ic jF_208_27 rfl (pc2 := 28) ?_
      refine wp_ri jF_208_28 rfl ?_
      exact ⟨(-1), rfl, ⟨by omega, by omega⟩, hg, FR.rf, (by omega)⟩
    · intro h9
      refine wp_il1 jF_208_17 rfl rfl (pc2 := 18) ?_
      refine wp_il1 jF_208_18 rfl rfl (pc2 := 19) ?_
      refine wp_add jF_208_19 rfl (pc2 := 20) ?_
      refine wp_al1 jF_208_20 rfl rfl (pc2 := 21) ?_
      refine wp_gi jF_208_21 kd10 (by decide) rfl rfl rfl (pc2 := 24) ?_
      refine wp_i_lt jF_208_24 ⟨by omega, by omega⟩ (m_rgb b1 rfl) rfl (pc2 := 27) ?_ ?_
      · intro h10
        refine wp_al1 jF_208_29 rfl rfl (pc2 := 30) ?_
        refine wp_cV (as := []) (rest := []) (a := 85) (mx := 1) (ci := 4) jF_208_30 kd85 (by decide) rfl rfl rfl rfl rfl (by omega) (by omega) rfl (pc2 := 33) ?_
        refine wp_use (m_71_r85 σ hg   _ _ (by omega) (by omega)) ?_
        rintro _ τ11 ⟨rfl, g12, f13⟩
        show WP 208 33 [(0, .ref 85), (1, .ref 10), (2, iV first), (3, iV z6)] [] _ _ _ _
        refine wp_ic jF_208_33 rfl (pc2 := 34) ?_
        refine wp_is2 (lv2 := [(0, .ref 85), (1, .ref 10), (2, iV first), (3, iV z6), (4, iV 0)]) jF_208_34 rfl rfl rfl (pc2 := 36) ?_
        refine wp_loop (α := Int) (fun a => [(0, .ref 85), (1, .ref 10), (2, iV first), (3, iV z6), (4, iV (a))]) (fun a τ => (0 ≤ a ∧ a ≤ 60) ∧ GI τ ∧ FR WW85 τ11 τ) (fun a τ => Int.toNat (60 - (a))) (0) τ11 ?_ ?_
        · skip
          exact ⟨⟨by omega, by omega⟩, g12, FR.rf⟩
        · rintro x14 τ16 ⟨h15, g17, f18⟩ ih19
          show WP 208 36 [(0, .ref 85), (1, .ref 10), (2, iV first), (3, iV z6), (4, iV x14)] [] _ _ _ _
          show WP 208 36 [(0, .ref 85), (1, .ref 10), (2, iV first), (3, iV z6), (4, iV x14)] [] _ _ _ _
          refine wp_il2 jF_208_36 rfl rfl (pc2 := 38) ?_
          refine wp_il1 jF_208_38 rfl rfl (pc2 := 39) ?_
          refine wp_i_ge jF_208_39 (m_rgb h15 rfl) ⟨by omega, by omega⟩ rfl (pc2 := 42) ?_ ?_
          · intro h20
            refine wp_il1 jF_208_62 rfl rfl (pc2 := 63) ?_
            refine wp_ic jF_208_63 rfl (pc2 := 64) ?_
            refine wp_add jF_208_64 rfl (pc2 := 65) ?_
            refine wp_il1 jF_208_65 rfl rfl (pc2 := 66) ?_
            refine wp_add jF_208_66 rfl (pc2 := 67) ?_
            refine wp_ri jF_208_67 rfl ?_
            exact ⟨((first + 1) + z6), rfl, ⟨by omega, by omega⟩, g17, (FR.up f13 f18 sb_WW85_WW85), (by omega)⟩
          · intro h20
            refine wp_al1 jF_208_42 rfl rfl (pc2 := 43) ?_
            refine wp_al1 jF_208_43 rfl rfl (pc2 := 44) ?_
            refine wp_il1 jF_208_44 rfl rfl (pc2 := 45) ?_
            refine wp_ic jF_208_45 rfl (pc2 := 46) ?_
            refine wp_add jF_208_46 rfl (pc2 := 47) ?_
            refine wp_il2 jF_208_47 rfl rfl (pc2 := 49) ?_
            refine wp_add jF_208_49 rfl (pc2 := 50) ?_
            refine wp_cV (as := [iV ((first + 1) + x14)]) (rest := [.ref 85]) (a := 10) (mx := 2) (ci := 6) jF_208_50 kd10 (by decide) rfl rfl rfl rfl rfl (by omega) (by omega) rfl (pc2 := 53) ?_
            have q21 : (τ16.1 10 1) = (σ.1 10 1) := ((FR.at f18 10 1 rfl).trans (FR.at f13 10 1 rfl))
            refine wp_use (m_39_r10 τ16 g17 ((first + 1) + x14) (by omega) (by omega)  _ _ (by omega) (by omega)) ?_
            rintro _ _ ⟨z26, rfl, h27, rfl, p22, p23⟩
            show WP 208 53 [(0, .ref 85), (1, .ref 10), (2, iV first), (3, iV z6), (4, iV x14)] [iV z26, .ref 85] _ _ _ _
            refine wp_cV (as := [iV z26]) (rest := []) (a := 85) (mx := 2) (ci := 4) jF_208_53 kd85 (by decide) rfl rfl rfl rfl rfl (by omega) (by omega) rfl (pc2 := 56) ?_
            refine wp_use (m_80_r85 τ16 g17 z26 (by omega) (by omega)  _ _ (by omega) (by omega)) ?_
            rintro _ τ28 ⟨rfl, g29, f30⟩
            show WP 208 56 [(0, .ref 85), (1, .ref 10), (2, iV first), (3, iV z6), (4, iV x14)] [] _ _ _ _
            refine wp_inc (lv2 := [(0, .ref 85), (1, .ref 10), (2, iV first), (3, iV z6), (4, iV (x14 + 1))]) jF_208_56 rfl rfl rfl rfl (pc2 := 59) ?_
            refine wp_go jF_208_59 ?_
            exact ih19 ((x14 + 1)) τ28 ⟨⟨by omega, by omega⟩, g29, (FR.up f18 f30 sb_WW85_WW85)⟩ (by show Int.toNat (60 - (x14 + 1)) < Int.toNat (60 - x14); omega)
      · intro h10
        refine wp_ic jF_208_27 rfl (pc2 := 28) ?_
        refine wp_ri jF_208_28 rfl ?_
        exact ⟨(-1), rfl, ⟨by omega, by omega⟩, hg, FR.rf, (by omega)⟩
