set_option maxHeartbeats 4000000 in
set_option maxRecDepth 20000 in
/-- Question.read -/
theorem m_172_r16 (σ : jM) (hg : GI σ)   (fr lo : Nat) (hfr : 34 ≤ fr) (hlo : 735 ≤ lo) : WP 172 0 (lv_args 0 [.ref 16]) [] fr lo σ (fun v τ => ∃ z : Int, v = some (iV z) ∧ (0 ≤ z ∧ z ≤ 1) ∧ GI τ ∧ FR WQr σ τ) := by
  show WP 172 0 [(0, .ref 16)] [] _ _ _ _
  refine wp_al1 jF_172_0 rfl rfl (pc2 := 1) ?_
  refine wp_gr (b := 10) jF_172_1 kd16 (by decide) (c := 110) rfl rfl rfl (pc2 := 4) ?_
  refine wp_cV (as := []) (rest := []) (a := 10) (mx := 1) (ci := 6) jF_172_4 kd10 (by decide) rfl rfl rfl rfl rfl (by omega) (by omega) rfl (pc2 := 7) ?_
  refine wp_use (m_34_r10 σ hg   _ _ (by omega) (by omega)) ?_
  rintro _ τ1 ⟨rfl, g2, f3⟩
  show WP 172 7 [(0, .ref 16)] [] _ _ _ _
  refine wp_al1 jF_172_7 rfl rfl (pc2 := 8) ?_
  refine wp_ic jF_172_8 rfl (pc2 := 9) ?_
  refine wp_pi jF_172_9 kd16 (by decide) rfl rfl rfl (pc2 := 12) g2 (lo := 0) (hi := 1600) rfl (by omega) (by omega) ?_
  intro τ4 g5 f6 e7
  refine wp_al1 jF_172_12 rfl rfl (pc2 := 13) ?_
  refine wp_ic jF_172_13 rfl (pc2 := 14) ?_
  refine wp_pi jF_172_14 kd16 (by decide) rfl rfl rfl (pc2 := 17) g5 (lo := 0) (hi := 6) rfl (by omega) (by omega) ?_
  intro τ8 g9 f10 e11
  refine wp_al1 jF_172_17 rfl rfl (pc2 := 18) ?_
  refine wp_al1 jF_172_18 rfl rfl (pc2 := 19) ?_
  refine wp_gr (b := 10) jF_172_19 kd16 (by decide) (c := 110) rfl rfl rfl (pc2 := 22) ?_
  refine wp_cV (as := []) (rest := [.ref 16]) (a := 10) (mx := 2) (ci := 6) jF_172_22 kd10 (by decide) rfl rfl rfl rfl rfl (by omega) (by omega) rfl (pc2 := 25) ?_
  have b12 := GI.b hg 10 1 kd10 (lo := 0) (hi := 1600) rfl
  have q13 : (τ8.1 10 1) = (σ.1 10 1) := ((FRw.na f10 (by decide)).trans ((FRw.na f6 (by decide)).trans (FR.at f3 10 1 rfl)))
  refine wp_use (m_37_r10 τ8 g9   _ _ (by omega) (by omega)) ?_
  rintro _ τ15 ⟨z18, rfl, h19, g16, f17, p14⟩
  show WP 172 25 [(0, .ref 16)] [iV z18, .ref 16] _ _ _ _
  refine wp_z_eq jF_172_25 (m_rgb h19 rfl) rfl (pc2 := 28) ?_ ?_
  · intro h20
    clear p14
    refine wp_ic jF_172_42 rfl (pc2 := 43) ?_
    refine wp_pi jF_172_43 kd16 (by decide) rfl rfl rfl (pc2 := 46) g16 (lo := (-2147483648)) (hi := 2147483647) rfl (by omega) (by omega) ?_
    intro τ21 g22 f23 e24
    refine wp_al1 jF_172_46 rfl rfl (pc2 := 47) ?_
    refine wp_gi jF_172_47 kd16 (by decide) rfl e24 rfl (pc2 := 50) ?_
    refine wp_ic jF_172_50 rfl (pc2 := 51) ?_
    refine wp_i_eq jF_172_51 (m_rgl rfl) (m_rgl rfl) rfl (pc2 := 54) ?_ ?_
    · intro h25
      refine wp_al1 jF_172_62 rfl rfl (pc2 := 63) ?_
      refine wp_gr (b := 10) jF_172_63 kd16 (by decide) (c := 110) rfl rfl rfl (pc2 := 66) ?_
      refine wp_ic jF_172_66 rfl (pc2 := 67) ?_
      refine wp_al1 jF_172_67 rfl rfl (pc2 := 68) ?_
      refine wp_gr (b := 10) jF_172_68 kd16 (by decide) (c := 110) rfl rfl rfl (pc2 := 71) ?_
      have b26 := GI.b g16 10 2 kd10 (lo := 0) (hi := 1600) rfl
      refine wp_gi jF_172_71 kd10 (by decide) rfl (FRw.na f23 (by decide)) rfl (pc2 := 74) ?_
      refine wp_cV (as := [iV 1, iV (τ15.1 10 2)]) (rest := []) (a := 10) (mx := 3) (ci := 6) jF_172_74 kd10 (by decide) rfl rfl rfl rfl rfl (by omega) (by omega) rfl (pc2 := 77) ?_
      refine wp_use (m_42_r10 τ21 g22 1 (by omega) (by omega) (τ15.1 10 2) (by omega) (by omega)  _ _ (by omega) (by omega)) ?_
      rintro _ τ27 ⟨z30, rfl, h31, g28, f29⟩
      show WP 172 77 [(0, .ref 16)] [iV z30] _ _ _ _
      refine wp_ri jF_172_77 (m_fitb (by omega) (by omega)) ?_
      exact ⟨z30, rfl, ⟨by omega, by omega⟩, g28, (FR.up (FR.w (FR.up (FR.w (FR.w (FR.up FR.rf f3 sb_Wtp_WQr) f6 rfl) f10 rfl) f17 sb_Wtp_WQr) f23 rfl) f29 sb_Wtp_WQr)⟩
    · intro h25; exfalso; omega
  · intro h20
    replace p14 := p14 (by omega)
    refine wp_al1 jF_172_28 rfl rfl (pc2 := 29) ?_
    refine wp_gr (b := 10) jF_172_29 kd16 (by decide) (c := 110) rfl rfl rfl (pc2 := 32) ?_
    refine wp_al1 jF_172_32 rfl rfl (pc2 := 33) ?_
    refine wp_gr (b := 17) jF_172_33 kd16 (by decide) (c := 117) rfl rfl rfl (pc2 := 36) ?_
    refine wp_cV (as := [.ref 17]) (rest := [.ref 16]) (a := 10) (mx := 3) (ci := 6) jF_172_36 kd10 (by decide) rfl rfl rfl rfl rfl (by omega) (by omega) rfl (pc2 := 39) ?_
    refine wp_use (m_41_r10_17 τ15 g16   _ _ (by omega) (by omega)) ?_
    rintro _ _ ⟨z34, rfl, h35, rfl⟩
    show WP 172 39 [(0, .ref 16)] [iV z34, .ref 16] _ _ _ _
    refine wp_go jF_172_39 ?_
    refine wp_pi jF_172_43 kd16 (by decide) rfl rfl rfl (pc2 := 46) g16 (lo := (-2147483648)) (hi := 2147483647) rfl (by omega) (by omega) ?_
    intro τ36 g37 f38 e39
    refine wp_al1 jF_172_46 rfl rfl (pc2 := 47) ?_
    refine wp_gi jF_172_47 kd16 (by decide) rfl e39 rfl (pc2 := 50) ?_
    refine wp_ic jF_172_50 rfl (pc2 := 51) ?_
    refine wp_i_eq jF_172_51 (m_rgb h35 rfl) (m_rgl rfl) rfl (pc2 := 54) ?_ ?_
    · intro h40
      refine wp_al1 jF_172_62 rfl rfl (pc2 := 63) ?_
      refine wp_gr (b := 10) jF_172_63 kd16 (by decide) (c := 110) rfl rfl rfl (pc2 := 66) ?_
      refine wp_ic jF_172_66 rfl (pc2 := 67) ?_
      refine wp_al1 jF_172_67 rfl rfl (pc2 := 68) ?_
      refine wp_gr (b := 10) jF_172_68 kd16 (by decide) (c := 110) rfl rfl rfl (pc2 := 71) ?_
      have b41 := GI.b g16 10 2 kd10 (lo := 0) (hi := 1600) rfl
      refine wp_gi jF_172_71 kd10 (by decide) rfl (FRw.na f38 (by decide)) rfl (pc2 := 74) ?_
      refine wp_cV (as := [iV 1, iV (τ15.1 10 2)]) (rest := []) (a := 10) (mx := 3) (ci := 6) jF_172_74 kd10 (by decide) rfl rfl rfl rfl rfl (by omega) (by omega) rfl (pc2 := 77) ?_
      refine wp_use (m_42_r10 τ36 g37 1 (by omega) (by omega) (τ15.1 10 2) (by omega) (by omega)  _ _ (by omega) (by omega)) ?_
      rintro _ τ42 ⟨z45, rfl, h46, g43, f44⟩
      show WP 172 77 [(0, .ref 16)] [iV z45] _ _ _ _
      refine wp_ri jF_172_77 (m_fitb (by omega) (by omega)) ?_
      exact ⟨z45, rfl, ⟨by omega, by omega⟩, g43, (FR.up (FR.w (FR.up (FR.w (FR.w (FR.up FR.rf f3 sb_Wtp_WQr) f6 rfl) f10 rfl) f17 sb_Wtp_WQr) f38 rfl) f44 sb_Wtp_WQr)⟩
    · intro h40
      refine wp_al1 jF_172_54 rfl rfl (pc2 := 55) ?_
      refine wp_gi jF_172_55 kd16 (by decide) rfl e39 rfl (pc2 := 58) ?_
      refine wp_ic jF_172_58 rfl (pc2 := 59) ?_
      refine wp_i_le jF_172_59 (m_rgb h35 rfl) (m_rgl rfl) rfl (pc2 := 62) ?_ ?_
      · intro h47
        refine wp_al1 jF_172_78 rfl rfl (pc2 := 79) ?_
        refine wp_gr (b := 10) jF_172_79 kd16 (by decide) (c := 110) rfl rfl rfl (pc2 := 82) ?_
        refine wp_cV (as := []) (rest := []) (a := 10) (mx := 1) (ci := 6) jF_172_82 kd10 (by decide) rfl rfl rfl rfl rfl (by omega) (by omega) rfl (pc2 := 85) ?_
        have b48 := GI.b g16 10 5 kd10 (lo := 0) (hi := 1600) rfl
        have q49 : (τ36.1 10 5) = (τ15.1 10 5) := (FRw.na f38 (by decide))
        have b50 := GI.b g16 10 6 kd10 (lo := 0) (hi := 1600) rfl
        have q51 : (τ36.1 10 6) = (τ15.1 10 6) := (FRw.na f38 (by decide))
        refine wp_use (m_45_r10 τ36 g37  (by omega) _ _ (by omega) (by omega)) ?_
        rintro _ τ52 ⟨rfl, g53, f54⟩
        show WP 172 85 [(0, .ref 16)] [] _ _ _ _
        refine wp_al1 jF_172_85 rfl rfl (pc2 := 86) ?_
        refine wp_gi jF_172_86 kd16 (by decide) rfl ((FR.at f54 16 6 rfl).trans e39) rfl (pc2 := 89) ?_
        refine wp_ic jF_172_89 rfl (pc2 := 90) ?_
        refine wp_i_gt jF_172_90 (m_rgb h35 rfl) (m_rgl rfl) rfl (pc2 := 93) ?_ ?_
        · intro h55
          refine wp_al1 jF_172_103 rfl rfl (pc2 := 104) ?_
          refine wp_cV (as := []) (rest := []) (a := 16) (mx := 3) (ci := 3) jF_172_104 kd16 (by decide) rfl rfl rfl rfl rfl (by omega) (by omega) rfl (pc2 := 107) ?_
          have q56 : (τ52.1 16 5) = 0 := ((FR.at f54 16 5 rfl).trans ((FRw.nj f38 (by decide)).trans ((FR.at f17 16 5 rfl).trans e11)))
          refine wp_use (m_182_r16_d0 τ52 g53  (by omega) _ _ (by omega) (by omega)) ?_
          rintro _ τ58 ⟨z61, rfl, h62, g59, f60, p57⟩
          show WP 172 107 [(0, .ref 16)] [iV z61] _ _ _ _
          refine wp_z_ne jF_172_107 (m_rgb h62 rfl) rfl (pc2 := 110) ?_ ?_
          · intro h63
            replace p57 := p57 (by omega)
            refine wp_al1 jF_172_112 rfl rfl (pc2 := 113) ?_
            refine wp_gr (b := 10) jF_172_113 kd16 (by decide) (c := 110) rfl rfl rfl (pc2 := 116) ?_
            refine wp_cV (as := []) (rest := []) (a := 10) (mx := 1) (ci := 6) jF_172_116 kd10 (by decide) rfl rfl rfl rfl rfl (by omega) (by omega) rfl (pc2 := 119) ?_
            have q64 : (τ58.1 10 1) = (σ.1 10 1) := ((FR.at f60 10 1 rfl).trans ((FR.at f54 10 1 rfl).trans ((FRw.na f38 (by decide)).trans ((FR.at f17 10 1 rfl).trans ((FRw.na f10 (by decide)).trans ((FRw.na f6 (by decide)).trans (FR.at f3 10 1 rfl)))))))
            refine wp_use (m_35_r10 τ58 g59   _ _ (by omega) (by omega)) ?_
            rintro _ τ66 ⟨z69, rfl, h70, g67, f68, p65⟩
            show WP 172 119 [(0, .ref 16)] [iV z69] _ _ _ _
            refine wp_ic jF_172_119 rfl (pc2 := 120) ?_
            refine wp_i_eq jF_172_120 (m_rgb h70 rfl) (m_rgl rfl) rfl (pc2 := 123) ?_ ?_
            · intro h71
              clear p65
              refine wp_ic jF_172_141 rfl (pc2 := 142) ?_
              refine wp_go jF_172_142 ?_
              refine wp_ri jF_172_146 rfl ?_
              exact ⟨1, rfl, ⟨by omega, by omega⟩, g67, (FR.up (FR.up (FR.up (FR.w (FR.up (FR.w (FR.w (FR.up FR.rf f3 sb_Wtp_WQr) f6 rfl) f10 rfl) f17 sb_Wtp_WQr) f38 rfl) f54 sb_Wtp_WQr) f60 sb_WQ_WQr) f68 sb_Wtp_WQr)⟩
            · intro h71
              replace p65 := p65 (by omega)
              refine wp_al1 jF_172_123 rfl rfl (pc2 := 124) ?_
              refine wp_gr (b := 10) jF_172_124 kd16 (by decide) (c := 110) rfl rfl rfl (pc2 := 127) ?_
              refine wp_ic jF_172_127 rfl (pc2 := 128) ?_
              refine wp_al1 jF_172_128 rfl rfl (pc2 := 129) ?_
              refine wp_gr (b := 10) jF_172_129 kd16 (by decide) (c := 110) rfl rfl rfl (pc2 := 132) ?_
              have b72 := GI.b g67 10 2 kd10 (lo := 0) (hi := 1600) rfl
              refine wp_gi jF_172_132 kd10 (by decide) rfl rfl rfl (pc2 := 135) ?_
              refine wp_cV (as := [iV 1, iV (τ66.1 10 2)]) (rest := []) (a := 10) (mx := 3) (ci := 6) jF_172_135 kd10 (by decide) rfl rfl rfl rfl rfl (by omega) (by omega) rfl (pc2 := 138) ?_
              refine wp_use (m_42_r10 τ66 g67 1 (by omega) (by omega) (τ66.1 10 2) (by omega) (by omega)  _ _ (by omega) (by omega)) ?_
              rintro _ τ73 ⟨z76, rfl, h77, g74, f75⟩
              show WP 172 138 [(0, .ref 16)] [iV z76] _ _ _ _
              refine wp_z_eq jF_172_138 (m_rgb h77 rfl) rfl (pc2 := 141) ?_ ?_
              · intro h78
                refine wp_ic jF_172_145 rfl (pc2 := 146) ?_
                refine wp_ri jF_172_146 rfl ?_
                exact ⟨0, rfl, ⟨by omega, by omega⟩, g74, (FR.up (FR.up (FR.up (FR.up (FR.w (FR.up (FR.w (FR.w (FR.up FR.rf f3 sb_Wtp_WQr) f6 rfl) f10 rfl) f17 sb_Wtp_WQr) f38 rfl) f54 sb_Wtp_WQr) f60 sb_WQ_WQr) f68 sb_Wtp_WQr) f75 sb_Wtp_WQr)⟩
              · intro h78; exfalso; omega
          · intro h63
            clear p57
            refine wp_ic jF_172_110 rfl (pc2 := 111) ?_
            refine wp_ri jF_172_111 rfl ?_
            exact ⟨0, rfl, ⟨by omega, by omega⟩, g59, (FR.up (FR.up (FR.w (FR.up (FR.w (FR.w (FR.up FR.rf f3 sb_Wtp_WQr) f6 rfl) f10 rfl) f17 sb_Wtp_WQr) f38 rfl) f54 sb_Wtp_WQr) f60 sb_WQ_WQr)⟩
        · intro h55
          refine wp_al1 jF_172_93 rfl rfl (pc2 := 94) ?_
          refine wp_cV (as := []) (rest := []) (a := 16) (mx := 2) (ci := 3) jF_172_94 kd16 (by decide) rfl rfl rfl rfl rfl (by omega) (by omega) rfl (pc2 := 97) ?_
          have q79 : (τ52.1 16 5) = 0 := ((FR.at f54 16 5 rfl).trans ((FRw.nj f38 (by decide)).trans ((FR.at f17 16 5 rfl).trans e11)))
          refine wp_use (m_173_r16_d0 τ52 g53  (by omega) _ _ (by omega) (by omega)) ?_
          rintro _ τ81 ⟨z84, rfl, h85, g82, f83, p80⟩
          show WP 172 97 [(0, .ref 16)] [iV z84] _ _ _ _
          refine wp_z_eq jF_172_97 (m_rgb h85 rfl) rfl (pc2 := 100) ?_ ?_
          · intro h86
            clear p80
            refine wp_ic jF_172_110 rfl (pc2 := 111) ?_
            refine wp_ri jF_172_111 rfl ?_
            exact ⟨0, rfl, ⟨by omega, by omega⟩, g82, (FR.up (FR.up (FR.w (FR.up (FR.w (FR.w (FR.up FR.rf f3 sb_Wtp_WQr) f6 rfl) f10 rfl) f17 sb_Wtp_WQr) f38 rfl) f54 sb_Wtp_WQr) f83 sb_WQ_WQr)⟩
          · intro h86
            replace p80 := p80 (by omega)
            refine wp_go jF_172_100 ?_
            refine wp_al1 jF_172_112 rfl rfl (pc2 := 113) ?_
            refine wp_gr (b := 10) jF_172_113 kd16 (by decide) (c := 110) rfl rfl rfl (pc2 := 116) ?_
            refine wp_cV (as := []) (rest := []) (a := 10) (mx := 1) (ci := 6) jF_172_116 kd10 (by decide) rfl rfl rfl rfl rfl (by omega) (by omega) rfl (pc2 := 119) ?_
            have q87 : (τ81.1 10 1) = (σ.1 10 1) := ((FR.at f83 10 1 rfl).trans ((FR.at f54 10 1 rfl).trans ((FRw.na f38 (by decide)).trans ((FR.at f17 10 1 rfl).trans ((FRw.na f10 (by decide)).trans ((FRw.na f6 (by decide)).trans (FR.at f3 10 1 rfl)))))))
            refine wp_use (m_35_r10 τ81 g82   _ _ (by omega) (by omega)) ?_
            rintro _ τ89 ⟨z92, rfl, h93, g90, f91, p88⟩
            show WP 172 119 [(0, .ref 16)] [iV z92] _ _ _ _
            refine wp_ic jF_172_119 rfl (pc2 := 120) ?_
            refine wp_i_eq jF_172_120 (m_rgb h93 rfl) (m_rgl rfl) rfl (pc2 := 123) ?_ ?_
            · intro h94
              clear p88
              refine wp_ic jF_172_141 rfl (pc2 := 142) ?_
              refine wp_go jF_172_142 ?_
              refine wp_ri jF_172_146 rfl ?_
              exact ⟨1, rfl, ⟨by omega, by omega⟩, g90, (FR.up (FR.up (FR.up (FR.w (FR.up (FR.w (FR.w (FR.up FR.rf f3 sb_Wtp_WQr) f6 rfl) f10 rfl) f17 sb_Wtp_WQr) f38 rfl) f54 sb_Wtp_WQr) f83 sb_WQ_WQr) f91 sb_Wtp_WQr)⟩
            · intro h94
              replace p88 := p88 (by omega)
              refine wp_al1 jF_172_123 rfl rfl (pc2 := 124) ?_
              refine wp_gr (b := 10) jF_172_124 kd16 (by decide) (c := 110) rfl rfl rfl (pc2 := 127) ?_
              refine wp_ic jF_172_127 rfl (pc2 := 128) ?_
              refine wp_al1 jF_172_128 rfl rfl (pc2 := 129) ?_
              refine wp_gr (b := 10) jF_172_129 kd16 (by decide) (c := 110) rfl rfl rfl (pc2 := 132) ?_
              have b95 := GI.b g90 10 2 kd10 (lo := 0) (hi := 1600) rfl
              refine wp_gi jF_172_132 kd10 (by decide) rfl rfl rfl (pc2 := 135) ?_
              refine wp_cV (as := [iV 1, iV (τ89.1 10 2)]) (rest := []) (a := 10) (mx := 3) (ci := 6) jF_172_135 kd10 (by decide) rfl rfl rfl rfl rfl (by omega) (by omega) rfl (pc2 := 138) ?_
              refine wp_use (m_42_r10 τ89 g90 1 (by omega) (by omega) (τ89.1 10 2) (by omega) (by omega)  _ _ (by omega) (by omega)) ?_
              rintro _ τ96 ⟨z99, rfl, h100, g97, f98⟩
              show WP 172 138 [(0, .ref 16)] [iV z99] _ _ _ _
              refine wp_z_eq jF_172_138 (m_rgb h100 rfl) rfl (pc2 := 141) ?_ ?_
              · intro h101
                refine wp_ic jF_172_145 rfl (pc2 := 146) ?_
                refine wp_ri jF_172_146 rfl ?_
                exact ⟨0, rfl, ⟨by omega, by omega⟩, g97, (FR.up (FR.up (FR.up (FR.up (FR.w (FR.up (FR.w (FR.w (FR.up FR.rf f3 sb_Wtp_WQr) f6 rfl) f10 rfl) f17 sb_Wtp_WQr) f38 rfl) f54 sb_Wtp_WQr) f83 sb_WQ_WQr) f91 sb_Wtp_WQr) f98 sb_Wtp_WQr)⟩
              · intro h101; exfalso; omega
      · intro h47
        refine wp_al1 jF_172_62 rfl rfl (pc2 := 63) ?_
        refine wp_gr (b := 10) jF_172_63 kd16 (by decide) (c := 110) rfl rfl rfl (pc2 := 66) ?_
        refine wp_ic jF_172_66 rfl (pc2 := 67) ?_
        refine wp_al1 jF_172_67 rfl rfl (pc2 := 68) ?_
        refine wp_gr (b := 10) jF_172_68 kd16 (by decide) (c := 110) rfl rfl rfl (pc2 := 71) ?_
        have b102 := GI.b g16 10 2 kd10 (lo := 0) (hi := 1600) rfl
        refine wp_gi jF_172_71 kd10 (by decide) rfl (FRw.na f38 (by decide)) rfl (pc2 := 74) ?_
        refine wp_cV (as := [iV 1, iV (τ15.1 10 2)]) (rest := []) (a := 10) (mx := 3) (ci := 6) jF_172_74 kd10 (by decide) rfl rfl rfl rfl rfl (by omega) (by omega) rfl (pc2 := 77) ?_
        refine wp_use (m_42_r10 τ36 g37 1 (by omega) (by omega) (τ15.1 10 2) (by omega) (by omega)  _ _ (by omega) (by omega)) ?_
        rintro _ τ103 ⟨z106, rfl, h107, g104, f105⟩
        show WP 172 77 [(0, .ref 16)] [iV z106] _ _ _ _
        refine wp_ri jF_172_77 (m_fitb (by omega) (by omega)) ?_
        exact ⟨z106, rfl, ⟨by omega, by omega⟩, g104, (FR.up (FR.w (FR.up (FR.w (FR.w (FR.up FR.rf f3 sb_Wtp_WQr) f6 rfl) f10 rfl) f17 sb_Wtp_WQr) f38 rfl) f105 sb_Wtp_WQr)⟩
set_option maxHeartbeats 4000000 in
set_option maxRecDepth 20000 in
/-- java/lang/Math.floorDiv -/
theorem m_198_r (σ : jM) (hg : GI σ) (x : Int64) (y : Int64) (pre0 : (y).toInt ≠ 0) (fr lo : Nat) (hfr : 0 ≤ fr) (hlo : 0 ≤ lo) : WP 198 0 (lv_args 0 [.long x, .long y]) [] fr lo σ (fun v τ => ∃ z : Int64, v = some (.long z) ∧ σ = τ) := by
  show WP 198 0 [(0, .long x), (2, .long y)] [] _ _ _ _
  refine wp_ll1 jF_198_0 rfl rfl (pc2 := 1) ?_
  refine wp_ll1 jF_198_1 rfl rfl (pc2 := 2) ?_
  refine wp_ldx jF_198_2 (m_lnz (by omega)) rfl (pc2 := 3) ?_
  refine wp_ls2 (lv2 := [(0, .long x), (2, .long y), (4, .long (x / y))]) jF_198_3 rfl rfl rfl (pc2 := 5) ?_
  refine wp_ll1 jF_198_5 rfl rfl (pc2 := 6) ?_
  refine wp_ll1 jF_198_6 rfl rfl (pc2 := 7) ?_
  refine wp_lgx (x ^^^ y) jF_198_7 rfl rfl (pc2 := 8) ?_
  refine wp_lc jF_198_8 rfl (pc2 := 9) ?_
  refine wp_lcmp2 (a := (Int64.toInt (x ^^^ y))) (b := 0) jF_198_9 rfl (by decide) rfl (pc2 := 10) ?_
  intro z1 h2
  refine wp_z_ge jF_198_10 ⟨by omega, by omega⟩ rfl (pc2 := 13) ?_ ?_
  · intro h3
    refine wp_ll2 jF_198_27 rfl rfl (pc2 := 29) ?_
    refine wp_rl jF_198_29 ?_
    exact ⟨(x / y), rfl, rfl⟩
  · intro h3
    refine wp_ll2 jF_198_13 rfl rfl (pc2 := 15) ?_
    refine wp_ll1 jF_198_15 rfl rfl (pc2 := 16) ?_
    refine wp_lgx ((x / y) * y) jF_198_16 rfl rfl (pc2 := 17) ?_
    refine wp_ll1 jF_198_17 rfl rfl (pc2 := 18) ?_
    refine wp_lcmp2 (a := (Int64.toInt ((x / y) * y))) (b := (Int64.toInt x)) jF_198_18 rfl rfl rfl (pc2 := 19) ?_
    intro z4 h5
    refine wp_z_eq jF_198_19 ⟨by omega, by omega⟩ rfl (pc2 := 22) ?_ ?_
    · intro h6
      refine wp_ll2 jF_198_27 rfl rfl (pc2 := 29) ?_
      refine wp_rl jF_198_29 ?_
      exact ⟨(x / y), rfl, rfl⟩
    · intro h6
      refine wp_ll2 jF_198_22 rfl rfl (pc2 := 24) ?_
      refine wp_lc jF_198_24 rfl (pc2 := 25) ?_
      refine wp_lgx ((x / y) - (Int64.ofNat 1)) jF_198_25 rfl rfl (pc2 := 26) ?_
      refine wp_rl jF_198_26 ?_
      exact ⟨((x / y) - (Int64.ofNat 1)), rfl, rfl⟩
set_option maxHeartbeats 4000000 in
set_option maxRecDepth 20000 in
/-- Question.held -/
theorem m_195_r (σ : jM) (hg : GI σ) (x : Int64)  (fr lo : Nat) (hfr : 1 ≤ fr) (hlo : 23 ≤ lo) : WP 195 0 (lv_args 0 [.long x]) [] fr lo σ (fun v τ => ∃ z : Int64, v = some (.long z) ∧ σ = τ) := by
  show WP 195 0 [(0, .long x)] [] _ _ _ _
  refine wp_ld jF_195_0 rfl (pc2 := 3) ?_
  refine wp_ld jF_195_3 rfl (pc2 := 6) ?_
  refine wp_ll1 jF_195_6 rfl rfl (pc2 := 7) ?_
  refine wp_cS (as := [.long (1000000), .long x]) (rest := [.long (-1000000)]) (mx := 4) jF_195_7 rfl rfl rfl rfl (by omega) (by omega) rfl (pc2 := 10) ?_
  show WP 196 0 [(0, .long (1000000)), (2, .long x)] [] _ _ _ _
  refine wp_ll1 jF_196_0 rfl rfl (pc2 := 1) ?_
  refine wp_ll1 jF_196_1 rfl rfl (pc2 := 2) ?_
  refine wp_anyL (pc2 := 3) jF_196_2 rfl rfl ?_
  intro z1 h2
  refine wp_z_gt jF_196_3 (m_rgb h2 rfl) rfl (pc2 := 6) ?_ ?_
  · intro h3
    refine wp_ll1 jF_196_10 rfl rfl (pc2 := 11) ?_
    refine wp_rl jF_196_11 ?_
    show WP 195 10 [(0, .long x)] [.long x, .long (-1000000)] _ _ _ _
    refine wp_cS (as := [.long (-1000000), .long x]) (rest := []) (mx := 4) jF_195_10 rfl rfl rfl rfl (by omega) (by omega) rfl (pc2 := 13) ?_
    show WP 197 0 [(0, .long (-1000000)), (2, .long x)] [] _ _ _ _
    refine wp_ll1 jF_197_0 rfl rfl (pc2 := 1) ?_
    refine wp_ll1 jF_197_1 rfl rfl (pc2 := 2) ?_
    refine wp_anyL (pc2 := 3) jF_197_2 rfl rfl ?_
    intro z4 h5
    refine wp_z_lt jF_197_3 (m_rgb h5 rfl) rfl (pc2 := 6) ?_ ?_
    · intro h6
      refine wp_ll1 jF_197_10 rfl rfl (pc2 := 11) ?_
      refine wp_rl jF_197_11 ?_
      show WP 195 13 [(0, .long x)] [.long x] _ _ _ _
      refine wp_rl jF_195_13 ?_
      exact ⟨x, rfl, rfl⟩
    · intro h6
      refine wp_ll1 jF_197_6 rfl rfl (pc2 := 7) ?_
      refine wp_go jF_197_7 ?_
      refine wp_rl jF_197_11 ?_
      show WP 195 13 [(0, .long x)] [.long (-1000000)] _ _ _ _
      refine wp_rl jF_195_13 ?_
      exact ⟨(-1000000), rfl, rfl⟩
  · intro h3
    refine wp_ll1 jF_196_6 rfl rfl (pc2 := 7) ?_
    refine wp_go jF_196_7 ?_
    refine wp_rl jF_196_11 ?_
    show WP 195 10 [(0, .long x)] [.long (1000000), .long (-1000000)] _ _ _ _
    refine wp_cS (as := [.long (-1000000), .long (1000000)]) (rest := []) (mx := 4) jF_195_10 rfl rfl rfl rfl (by omega) (by omega) rfl (pc2 := 13) ?_
    show WP 197 0 [(0, .long (-1000000)), (2, .long (1000000))] [] _ _ _ _
    refine wp_ll1 jF_197_0 rfl rfl (pc2 := 1) ?_
    refine wp_ll1 jF_197_1 rfl rfl (pc2 := 2) ?_
    refine wp_lcmp2 (a := (-1000000)) (b := 1000000) jF_197_2 (by decide) (by decide) rfl (pc2 := 3) ?_
    intro z7 h8
    refine wp_z_lt jF_197_3 ⟨by omega, by omega⟩ rfl (pc2 := 6) ?_ ?_
    · intro h9
      refine wp_ll1 jF_197_10 rfl rfl (pc2 := 11) ?_
      refine wp_rl jF_197_11 ?_
      show WP 195 13 [(0, .long x)] [.long (1000000)] _ _ _ _
      refine wp_rl jF_195_13 ?_
      exact ⟨(1000000), rfl, rfl⟩
    · intro h9; exfalso; omega
set_option maxHeartbeats 4000000 in
set_option maxRecDepth 20000 in
/-- Question.joint -/
theorem m_194_r (σ : jM) (hg : GI σ) (step : Int) (hl_step : (-2147483648) ≤ step) (hu_step : step ≤ 2147483647) (x : Int64) (y : Int64)  (fr lo : Nat) (hfr : 2 ≤ fr) (hlo : 44 ≤ lo) : WP 194 0 (lv_args 0 [iV step, .long x, .long y]) [] fr lo σ (fun v τ => ∃ z : Int64, v = some (.long z) ∧ σ = τ) := by
  show WP 194 0 [(0, iV step), (1, .long x), (3, .long y)] [] _ _ _ _
  refine wp_il1 jF_194_0 rfl rfl (pc2 := 1) ?_
  by_cases h1 : step = 14
  · refine wp_lswx (x := 14) (tgt := 177) jF_194_1 h1 (by decide) ?_
    refine wp_ll1 jF_194_177 rfl rfl (pc2 := 178) ?_
    refine wp_ll1 jF_194_178 rfl rfl (pc2 := 179) ?_
    refine wp_cS (as := [.long x, .long y]) (rest := []) (mx := 4) jF_194_179 rfl rfl rfl rfl (by omega) (by omega) rfl (pc2 := 182) ?_
    show WP 196 0 [(0, .long x), (2, .long y)] [] _ _ _ _
    refine wp_ll1 jF_196_0 rfl rfl (pc2 := 1) ?_
    refine wp_ll1 jF_196_1 rfl rfl (pc2 := 2) ?_
    refine wp_anyL (pc2 := 3) jF_196_2 rfl rfl ?_
    intro z2 h3
    refine wp_z_gt jF_196_3 (m_rgb h3 rfl) rfl (pc2 := 6) ?_ ?_
    · intro h4
      refine wp_ll1 jF_196_10 rfl rfl (pc2 := 11) ?_
      refine wp_rl jF_196_11 ?_
      show WP 194 182 [(0, iV step), (1, .long x), (3, .long y)] [.long y] _ _ _ _
      refine wp_rl jF_194_182 ?_
      exact ⟨y, rfl, rfl⟩
    · intro h4
      refine wp_ll1 jF_196_6 rfl rfl (pc2 := 7) ?_
      refine wp_go jF_196_7 ?_
      refine wp_rl jF_196_11 ?_
      show WP 194 182 [(0, iV step), (1, .long x), (3, .long y)] [.long x] _ _ _ _
      refine wp_rl jF_194_182 ?_
      exact ⟨x, rfl, rfl⟩
  · skip
    by_cases h5 : step = 15
    · refine wp_lswx (x := 15) (tgt := 183) jF_194_1 h5 (by decide) ?_
      refine wp_ll1 jF_194_183 rfl rfl (pc2 := 184) ?_
      refine wp_ll1 jF_194_184 rfl rfl (pc2 := 185) ?_
      refine wp_cS (as := [.long x, .long y]) (rest := []) (mx := 4) jF_194_185 rfl rfl rfl rfl (by omega) (by omega) rfl (pc2 := 188) ?_
      show WP 197 0 [(0, .long x), (2, .long y)] [] _ _ _ _
      refine wp_ll1 jF_197_0 rfl rfl (pc2 := 1) ?_
      refine wp_ll1 jF_197_1 rfl rfl (pc2 := 2) ?_
      refine wp_anyL (pc2 := 3) jF_197_2 rfl rfl ?_
      intro z6 h7
      refine wp_z_lt jF_197_3 (m_rgb h7 rfl) rfl (pc2 := 6) ?_ ?_
      · intro h8
        refine wp_ll1 jF_197_10 rfl rfl (pc2 := 11) ?_
        refine wp_rl jF_197_11 ?_
        show WP 194 188 [(0, iV step), (1, .long x), (3, .long y)] [.long y] _ _ _ _
        refine wp_rl jF_194_188 ?_
        exact ⟨y, rfl, rfl⟩
      · intro h8
        refine wp_ll1 jF_197_6 rfl rfl (pc2 := 7) ?_
        refine wp_go jF_197_7 ?_
        refine wp_rl jF_197_11 ?_
        show WP 194 188 [(0, iV step), (1, .long x), (3, .long y)] [.long x] _ _ _ _
        refine wp_rl jF_194_188 ?_
        exact ⟨x, rfl, rfl⟩
    · skip
      by_cases h9 : step = 16
      · refine wp_lswx (x := 16) (tgt := 189) jF_194_1 h9 (by decide) ?_
        refine wp_ll1 jF_194_189 rfl rfl (pc2 := 190) ?_
        refine wp_ll1 jF_194_190 rfl rfl (pc2 := 191) ?_
        refine wp_lgx (x &&& y) jF_194_191 rfl rfl (pc2 := 192) ?_
        refine wp_rl jF_194_192 ?_
        exact ⟨(x &&& y), rfl, rfl⟩
      · skip
        by_cases h10 : step = 42
        · refine wp_lswx (x := 42) (tgt := 106) jF_194_1 h10 (by decide) ?_
          refine wp_ll1 jF_194_106 rfl rfl (pc2 := 107) ?_
          refine wp_ll1 jF_194_107 rfl rfl (pc2 := 108) ?_
          refine wp_lgx (x * y) jF_194_108 rfl rfl (pc2 := 109) ?_
          refine wp_cS (as := [.long (x * y)]) (rest := []) (mx := 2) jF_194_109 rfl rfl rfl rfl (by omega) (by omega) rfl (pc2 := 112) ?_
          refine wp_use (m_195_r σ hg (x * y)  _ _ (by omega) (by omega)) ?_
          rintro _ _ ⟨y13, rfl, rfl⟩
          show WP 194 112 [(0, iV step), (1, .long x), (3, .long y)] [.long y13] _ _ _ _
          refine wp_rl jF_194_112 ?_
          exact ⟨y13, rfl, rfl⟩
        · skip
          by_cases h14 : step = 43
          · refine wp_lswx (x := 43) (tgt := 92) jF_194_1 h14 (by decide) ?_
            refine wp_ll1 jF_194_92 rfl rfl (pc2 := 93) ?_
            refine wp_ll1 jF_194_93 rfl rfl (pc2 := 94) ?_
            refine wp_lgx (x + y) jF_194_94 rfl rfl (pc2 := 95) ?_
            refine wp_cS (as := [.long (x + y)]) (rest := []) (mx := 2) jF_194_95 rfl rfl rfl rfl (by omega) (by omega) rfl (pc2 := 98) ?_
            refine wp_use (m_195_r σ hg (x + y)  _ _ (by omega) (by omega)) ?_
            rintro _ _ ⟨y17, rfl, rfl⟩
            show WP 194 98 [(0, iV step), (1, .long x), (3, .long y)] [.long y17] _ _ _ _
            refine wp_rl jF_194_98 ?_
            exact ⟨y17, rfl, rfl⟩
          · skip
            by_cases h18 : step = 45
            · refine wp_lswx (x := 45) (tgt := 99) jF_194_1 h18 (by decide) ?_
              refine wp_ll1 jF_194_99 rfl rfl (pc2 := 100) ?_
              refine wp_ll1 jF_194_100 rfl rfl (pc2 := 101) ?_
              refine wp_lgx (x - y) jF_194_101 rfl rfl (pc2 := 102) ?_
              refine wp_cS (as := [.long (x - y)]) (rest := []) (mx := 2) jF_194_102 rfl rfl rfl rfl (by omega) (by omega) rfl (pc2 := 105) ?_
              refine wp_use (m_195_r σ hg (x - y)  _ _ (by omega) (by omega)) ?_
              rintro _ _ ⟨y21, rfl, rfl⟩
              show WP 194 105 [(0, iV step), (1, .long x), (3, .long y)] [.long y21] _ _ _ _
              refine wp_rl jF_194_105 ?_
              exact ⟨y21, rfl, rfl⟩
            · skip
              by_cases h22 : step = 47
              · refine wp_lswx (x := 47) (tgt := 113) jF_194_1 h22 (by decide) ?_
                refine wp_ll1 jF_194_113 rfl rfl (pc2 := 114) ?_
                refine wp_lc jF_194_114 rfl (pc2 := 115) ?_
                refine wp_lcmp2 (a := (Int64.toInt y)) (b := 0) jF_194_115 rfl (by decide) rfl (pc2 := 116) ?_
                intro z23 h24
                refine wp_z_ne jF_194_116 ⟨by omega, by omega⟩ rfl (pc2 := 119) ?_ ?_
                · intro h25
                  refine wp_ll1 jF_194_123 rfl rfl (pc2 := 124) ?_
                  refine wp_ll1 jF_194_124 rfl rfl (pc2 := 125) ?_
                  refine wp_cS (as := [.long x, .long y]) (rest := []) (mx := 6) jF_194_125 rfl rfl rfl rfl (by omega) (by omega) rfl (pc2 := 128) ?_
                  refine wp_use (m_198_r σ hg x y (by omega) _ _ (by omega) (by omega)) ?_
                  rintro _ _ ⟨y28, rfl, rfl⟩
                  show WP 194 128 [(0, iV step), (1, .long x), (3, .long y)] [.long y28] _ _ _ _
                  refine wp_rl jF_194_128 ?_
                  exact ⟨y28, rfl, rfl⟩
                · intro h25
                  refine wp_lc jF_194_119 rfl (pc2 := 120) ?_
                  refine wp_go jF_194_120 ?_
                  refine wp_rl jF_194_128 ?_
                  exact ⟨(Int64.ofNat 0), rfl, rfl⟩
              · skip
                by_cases h29 : step = 60
                · refine wp_lswx (x := 60) (tgt := 129) jF_194_1 h29 (by decide) ?_
                  refine wp_ll1 jF_194_129 rfl rfl (pc2 := 130) ?_
                  refine wp_ll1 jF_194_130 rfl rfl (pc2 := 131) ?_
                  refine wp_lcmp2 (a := (Int64.toInt x)) (b := (Int64.toInt y)) jF_194_131 rfl rfl rfl (pc2 := 132) ?_
                  intro z30 h31
                  refine wp_z_ge jF_194_132 ⟨by omega, by omega⟩ rfl (pc2 := 135) ?_ ?_
                  · intro h32
                    refine wp_ic jF_194_139 rfl (pc2 := 140) ?_
                    refine wp_cS (as := [iV 0]) (rest := []) (mx := 1) jF_194_140 rfl rfl rfl rfl (by omega) (by omega) rfl (pc2 := 143) ?_
                    show WP 98 0 [(0, iV 0)] [] _ _ _ _
                    refine wp_il1 jF_98_0 rfl rfl (pc2 := 1) ?_
                    refine wp_z_eq jF_98_1 (m_rgl rfl) rfl (pc2 := 4) ?_ ?_
                    · intro h33
                      refine wp_ic jF_98_8 rfl (pc2 := 9) ?_
                      refine wp_ri jF_98_9 rfl ?_
                      show WP 194 143 [(0, iV step), (1, .long x), (3, .long y)] [iV 0] _ _ _ _
                      refine wp_i2l jF_194_143 rfl (pc2 := 144) ?_
                      refine wp_rl jF_194_144 ?_
                      exact ⟨(Int32.toInt64 (Int32.ofInt 0)), rfl, rfl⟩
                    · intro h33; exfalso; omega
                  · intro h32
                    refine wp_ic jF_194_135 rfl (pc2 := 136) ?_
                    refine wp_go jF_194_136 ?_
                    refine wp_cS (as := [iV 1]) (rest := []) (mx := 1) jF_194_140 rfl rfl rfl rfl (by omega) (by omega) rfl (pc2 := 143) ?_
                    show WP 98 0 [(0, iV 1)] [] _ _ _ _
                    refine wp_il1 jF_98_0 rfl rfl (pc2 := 1) ?_
                    refine wp_z_eq jF_98_1 (m_rgl rfl) rfl (pc2 := 4) ?_ ?_
                    · intro h34; exfalso; omega
                    · intro h34
                      refine wp_ic jF_98_4 rfl (pc2 := 5) ?_
                      refine wp_go jF_98_5 ?_
                      refine wp_ri jF_98_9 rfl ?_
                      show WP 194 143 [(0, iV step), (1, .long x), (3, .long y)] [iV 1] _ _ _ _
                      refine wp_i2l jF_194_143 rfl (pc2 := 144) ?_
                      refine wp_rl jF_194_144 ?_
                      exact ⟨(Int32.toInt64 (Int32.ofInt 1)), rfl, rfl⟩
                · skip
                  by_cases h35 : step = 61
                  · refine wp_lswx (x := 61) (tgt := 161) jF_194_1 h35 (by decide) ?_
                    refine wp_ll1 jF_194_161 rfl rfl (pc2 := 162) ?_
                    refine wp_ll1 jF_194_162 rfl rfl (pc2 := 163) ?_
                    refine wp_lcmp2 (a := (Int64.toInt x)) (b := (Int64.toInt y)) jF_194_163 rfl rfl rfl (pc2 := 164) ?_
                    intro z36 h37
                    refine wp_z_ne jF_194_164 ⟨by omega, by omega⟩ rfl (pc2 := 167) ?_ ?_
                    · intro h38
                      refine wp_ic jF_194_171 rfl (pc2 := 172) ?_
                      refine wp_cS (as := [iV 0]) (rest := []) (mx := 1) jF_194_172 rfl rfl rfl rfl (by omega) (by omega) rfl (pc2 := 175) ?_
                      show WP 98 0 [(0, iV 0)] [] _ _ _ _
                      refine wp_il1 jF_98_0 rfl rfl (pc2 := 1) ?_
                      refine wp_z_eq jF_98_1 (m_rgl rfl) rfl (pc2 := 4) ?_ ?_
                      · intro h39
                        refine wp_ic jF_98_8 rfl (pc2 := 9) ?_
                        refine wp_ri jF_98_9 rfl ?_
                        show WP 194 175 [(0, iV step), (1, .long x), (3, .long y)] [iV 0] _ _ _ _
                        refine wp_i2l jF_194_175 rfl (pc2 := 176) ?_
                        refine wp_rl jF_194_176 ?_
                        exact ⟨(Int32.toInt64 (Int32.ofInt 0)), rfl, rfl⟩
                      · intro h39; exfalso; omega
                    · intro h38
                      refine wp_ic jF_194_167 rfl (pc2 := 168) ?_
                      refine wp_go jF_194_168 ?_
                      refine wp_cS (as := [iV 1]) (rest := []) (mx := 1) jF_194_172 rfl rfl rfl rfl (by omega) (by omega) rfl (pc2 := 175) ?_
                      show WP 98 0 [(0, iV 1)] [] _ _ _ _
                      refine wp_il1 jF_98_0 rfl rfl (pc2 := 1) ?_
                      refine wp_z_eq jF_98_1 (m_rgl rfl) rfl (pc2 := 4) ?_ ?_
                      · intro h40; exfalso; omega
                      · intro h40
                        refine wp_ic jF_98_4 rfl (pc2 := 5) ?_
                        refine wp_go jF_98_5 ?_
                        refine wp_ri jF_98_9 rfl ?_
                        show WP 194 175 [(0, iV step), (1, .long x), (3, .long y)] [iV 1] _ _ _ _
                        refine wp_i2l jF_194_175 rfl (pc2 := 176) ?_
                        refine wp_rl jF_194_176 ?_
                        exact ⟨(Int32.toInt64 (Int32.ofInt 1)), rfl, rfl⟩
                  · skip
                    by_cases h41 : step = 62
                    · refine wp_lswx (x := 62) (tgt := 145) jF_194_1 h41 (by decide) ?_
                      refine wp_ll1 jF_194_145 rfl rfl (pc2 := 146) ?_
                      refine wp_ll1 jF_194_146 rfl rfl (pc2 := 147) ?_
                      refine wp_lcmp2 (a := (Int64.toInt x)) (b := (Int64.toInt y)) jF_194_147 rfl rfl rfl (pc2 := 148) ?_
                      intro z42 h43
                      refine wp_z_le jF_194_148 ⟨by omega, by omega⟩ rfl (pc2 := 151) ?_ ?_
                      · intro h44
                        refine wp_ic jF_194_155 rfl (pc2 := 156) ?_
                        refine wp_cS (as := [iV 0]) (rest := []) (mx := 1) jF_194_156 rfl rfl rfl rfl (by omega) (by omega) rfl (pc2 := 159) ?_
                        show WP 98 0 [(0, iV 0)] [] _ _ _ _
                        refine wp_il1 jF_98_0 rfl rfl (pc2 := 1) ?_
                        refine wp_z_eq jF_98_1 (m_rgl rfl) rfl (pc2 := 4) ?_ ?_
                        · intro h45
                          refine wp_ic jF_98_8 rfl (pc2 := 9) ?_
                          refine wp_ri jF_98_9 rfl ?_
                          show WP 194 159 [(0, iV step), (1, .long x), (3, .long y)] [iV 0] _ _ _ _
                          refine wp_i2l jF_194_159 rfl (pc2 := 160) ?_
                          refine wp_rl jF_194_160 ?_
                          exact ⟨(Int32.toInt64 (Int32.ofInt 0)), rfl, rfl⟩
                        · intro h45; exfalso; omega
                      · intro h44
                        refine wp_ic jF_194_151 rfl (pc2 := 152) ?_
                        refine wp_go jF_194_152 ?_
                        refine wp_cS (as := [iV 1]) (rest := []) (mx := 1) jF_194_156 rfl rfl rfl rfl (by omega) (by omega) rfl (pc2 := 159) ?_
                        show WP 98 0 [(0, iV 1)] [] _ _ _ _
                        refine wp_il1 jF_98_0 rfl rfl (pc2 := 1) ?_
                        refine wp_z_eq jF_98_1 (m_rgl rfl) rfl (pc2 := 4) ?_ ?_
                        · intro h46; exfalso; omega
                        · intro h46
                          refine wp_ic jF_98_4 rfl (pc2 := 5) ?_
                          refine wp_go jF_98_5 ?_
                          refine wp_ri jF_98_9 rfl ?_
                          show WP 194 159 [(0, iV step), (1, .long x), (3, .long y)] [iV 1] _ _ _ _
                          refine wp_i2l jF_194_159 rfl (pc2 := 160) ?_
                          refine wp_rl jF_194_160 ?_
                          exact ⟨(Int32.toInt64 (Int32.ofInt 1)), rfl, rfl⟩
                    · skip
                      refine wp_lswd (tgt := 193) jF_194_1 ⟨by omega, by omega⟩ (by rw [j_off_c, if_neg (by omega)]; rw [j_off_c, if_neg (by omega)]; rw [j_off_c, if_neg (by omega)]; rw [j_off_c, if_neg (by omega)]; rw [j_off_c, if_neg (by omega)]; rw [j_off_c, if_neg (by omega)]; rw [j_off_c, if_neg (by omega)]; rw [j_off_c, if_neg (by omega)]; rw [j_off_c, if_neg (by omega)]; rw [j_off_c, if_neg (by omega)]; rfl) rfl ?_
                      refine wp_ll1 jF_194_193 rfl rfl (pc2 := 194) ?_
                      refine wp_ll1 jF_194_194 rfl rfl (pc2 := 195) ?_
                      refine wp_lgx (x ||| y) jF_194_195 rfl rfl (pc2 := 196) ?_
                      refine wp_rl jF_194_196 ?_
                      exact ⟨(x ||| y), rfl, rfl⟩
set_option maxHeartbeats 4000000 in
set_option maxRecDepth 20000 in
/-- Question.push -/
theorem m_190_r16 (σ : jM) (hg : GI σ) (x : Int64)  (fr lo : Nat) (hfr : 0 ≤ fr) (hlo : 0 ≤ lo) : WP 190 0 (lv_args 0 [.ref 16, .long x]) [] fr lo σ (fun v τ => v = none ∧ GI τ ∧ FR WQp σ τ) := by
  show WP 190 0 [(0, .ref 16), (1, .long x)] [] _ _ _ _
  refine wp_al1 jF_190_0 rfl rfl (pc2 := 1) ?_
  have b1 := GI.b hg 16 7 kd16 (lo := 0) (hi := 64) rfl
  refine wp_gi jF_190_1 kd16 (by decide) rfl rfl rfl (pc2 := 4) ?_
  refine wp_bi jF_190_4 (by decide) rfl (pc2 := 6) ?_
  refine wp_i_ge jF_190_6 (m_rgb b1 rfl) (m_rgl rfl) rfl (pc2 := 9) ?_ ?_
  · intro h2
    refine wp_rv jF_190_29 ?_
    exact ⟨rfl, hg, FR.rf⟩
  · intro h2
    refine wp_al1 jF_190_9 rfl rfl (pc2 := 10) ?_
    refine wp_gr (b := 19) jF_190_10 kd16 (by decide) (c := 119) rfl rfl rfl (pc2 := 13) ?_
    refine wp_al1 jF_190_13 rfl rfl (pc2 := 14) ?_
    refine wp_gi jF_190_14 kd16 (by decide) rfl rfl rfl (pc2 := 17) ?_
    refine wp_ll1 jF_190_17 rfl rfl (pc2 := 18) ?_
    refine wp_last (n := 64) jF_190_18 kd19 (by decide) rfl rfl (by omega) (by omega) rfl (pc2 := 19) hg ?_
    intro τ3 g4 f5
    refine wp_al1 jF_190_19 rfl rfl (pc2 := 20) ?_
    refine wp_dup jF_190_20 rfl rfl (pc2 := 21) ?_
    refine wp_gi jF_190_21 kd16 (by decide) rfl (FRw.na f5 (by decide)) rfl (pc2 := 24) ?_
    refine wp_ic jF_190_24 rfl (pc2 := 25) ?_
    refine wp_add jF_190_25 rfl (pc2 := 26) ?_
    refine wp_pi jF_190_26 kd16 (by decide) rfl rfl rfl (pc2 := 29) g4 (lo := 0) (hi := 64) rfl (by omega) (by omega) ?_
    intro τ6 g7 f8 e9
    refine wp_rv jF_190_29 ?_
    exact ⟨rfl, g7, (FR.w (FR.w FR.rf f5 rfl) f8 rfl)⟩
set_option maxHeartbeats 4000000 in
set_option maxRecDepth 20000 in
/-- Question.pop -/
theorem m_192_r16 (σ : jM) (hg : GI σ)   (fr lo : Nat) (hfr : 0 ≤ fr) (hlo : 0 ≤ lo) : WP 192 0 (lv_args 0 [.ref 16]) [] fr lo σ (fun v τ => ∃ z : Int64, v = some (.long z) ∧ GI τ ∧ FR WQp σ τ) := by
  show WP 192 0 [(0, .ref 16)] [] _ _ _ _
  refine wp_al1 jF_192_0 rfl rfl (pc2 := 1) ?_
  have b1 := GI.b hg 16 7 kd16 (lo := 0) (hi := 64) rfl
  refine wp_gi jF_192_1 kd16 (by decide) rfl rfl rfl (pc2 := 4) ?_
  refine wp_z_le jF_192_4 (m_rgb b1 rfl) rfl (pc2 := 7) ?_ ?_
  · intro h2
    refine wp_al1 jF_192_17 rfl rfl (pc2 := 18) ?_
    refine wp_gr (b := 19) jF_192_18 kd16 (by decide) (c := 119) rfl rfl rfl (pc2 := 21) ?_
    refine wp_al1 jF_192_21 rfl rfl (pc2 := 22) ?_
    refine wp_gi jF_192_22 kd16 (by decide) rfl rfl rfl (pc2 := 25) ?_
    refine wp_lald (n := 64) jF_192_25 kd19 (by decide) rfl rfl (by omega) (by omega) rfl (pc2 := 26) ?_
    intro y3
    refine wp_rl jF_192_26 ?_
    exact ⟨y3, rfl, hg, FR.rf⟩
  · intro h2
    refine wp_al1 jF_192_7 rfl rfl (pc2 := 8) ?_
    refine wp_dup jF_192_8 rfl rfl (pc2 := 9) ?_
    refine wp_gi jF_192_9 kd16 (by decide) rfl rfl rfl (pc2 := 12) ?_
    refine wp_ic jF_192_12 rfl (pc2 := 13) ?_
    refine wp_sub jF_192_13 rfl (pc2 := 14) ?_
    refine wp_pi jF_192_14 kd16 (by decide) rfl rfl rfl (pc2 := 17) hg (lo := 0) (hi := 64) rfl (by omega) (by omega) ?_
    intro τ4 g5 f6 e7
    refine wp_al1 jF_192_17 rfl rfl (pc2 := 18) ?_
    refine wp_gr (b := 19) jF_192_18 kd16 (by decide) (c := 119) rfl rfl rfl (pc2 := 21) ?_
    refine wp_al1 jF_192_21 rfl rfl (pc2 := 22) ?_
    refine wp_gi jF_192_22 kd16 (by decide) rfl e7 rfl (pc2 := 25) ?_
    refine wp_lald (n := 64) jF_192_25 kd19 (by decide) rfl rfl (by omega) (by omega) rfl (pc2 := 26) ?_
    intro y8
    refine wp_rl jF_192_26 ?_
    exact ⟨y8, rfl, g5, (FR.w FR.rf f6 rfl)⟩
set_option maxHeartbeats 4000000 in
set_option maxRecDepth 20000 in
/-- Question.joined -/
theorem m_199_r16 (σ : jM) (hg : GI σ) (x : Int64) (y : Int64) (nb : Int) (hl_nb : (-2147483648) ≤ nb) (hu_nb : nb ≤ 2147483647)  (fr lo : Nat) (hfr : 1 ≤ fr) (hlo : 23 ≤ lo) : WP 199 0 (lv_args 0 [.ref 16, .long x, .long y, iV nb]) [] fr lo σ (fun v τ => ∃ z : Int64, v = some (.long z) ∧ σ = τ) := by
  show WP 199 0 [(0, .ref 16), (1, .long x), (3, .long y), (5, iV nb)] [] _ _ _ _
  refine wp_al1 jF_199_0 rfl rfl (pc2 := 1) ?_
  have b1 := GI.b hg 16 6 kd16 (lo := (-2147483648)) (hi := 2147483647) rfl
  refine wp_gi jF_199_1 kd16 (by decide) rfl rfl rfl (pc2 := 4) ?_
  rcases m_tsw (σ.1 16 6) 1 5 with h2 | h2
  · refine wp_tswd (tgt := 70) jF_199_4 (m_rgb b1 rfl) h2 (by decide) ?_
    refine wp_ll1 jF_199_70 rfl rfl (pc2 := 71) ?_
    refine wp_rl jF_199_71 ?_
    exact ⟨x, rfl, rfl⟩
  · have h2c : (σ.1 16 6) = 1 ∨ (σ.1 16 6) = 2 ∨ (σ.1 16 6) = 3 ∨ (σ.1 16 6) = 4 ∨ (σ.1 16 6) = 5 := by omega
    rcases h2c with hh | hh | hh | hh | hh
    · refine wp_tswx (x := 1) (tgt := 40) jF_199_4 hh (by decide) ?_
      refine wp_ll1 jF_199_40 rfl rfl (pc2 := 41) ?_
      refine wp_lc jF_199_41 rfl (pc2 := 42) ?_
      refine wp_anyL (pc2 := 43) jF_199_42 rfl rfl ?_
      intro z3 h4
      refine wp_z_eq jF_199_43 (m_rgb h4 rfl) rfl (pc2 := 46) ?_ ?_
      · intro h5
        refine wp_ll1 jF_199_52 rfl rfl (pc2 := 53) ?_
        refine wp_rl jF_199_53 ?_
        exact ⟨x, rfl, rfl⟩
      · intro h5
        refine wp_il2 jF_199_46 rfl rfl (pc2 := 48) ?_
        refine wp_i2l jF_199_48 rfl (pc2 := 49) ?_
        refine wp_go jF_199_49 ?_
        refine wp_rl jF_199_53 ?_
        exact ⟨(Int32.toInt64 (Int32.ofInt nb)), rfl, rfl⟩
    · refine wp_tswx (x := 2) (tgt := 54) jF_199_4 hh (by decide) ?_
      refine wp_ll1 jF_199_54 rfl rfl (pc2 := 55) ?_
      refine wp_ll1 jF_199_55 rfl rfl (pc2 := 56) ?_
      refine wp_lng (pc2 := 57) jF_199_56 rfl rfl ?_
      intro y6
      refine wp_rl jF_199_57 ?_
      exact ⟨y6, rfl, rfl⟩
    · refine wp_tswx (x := 3) (tgt := 54) jF_199_4 hh (by decide) ?_
      refine wp_ll1 jF_199_54 rfl rfl (pc2 := 55) ?_
      refine wp_ll1 jF_199_55 rfl rfl (pc2 := 56) ?_
      refine wp_lng (pc2 := 57) jF_199_56 rfl rfl ?_
      intro y7
      refine wp_rl jF_199_57 ?_
      exact ⟨y7, rfl, rfl⟩
    · refine wp_tswx (x := 4) (tgt := 58) jF_199_4 hh (by decide) ?_
      refine wp_ll1 jF_199_58 rfl rfl (pc2 := 59) ?_
      refine wp_ll1 jF_199_59 rfl rfl (pc2 := 60) ?_
      refine wp_cS (as := [.long x, .long y]) (rest := []) (mx := 4) jF_199_60 rfl rfl rfl rfl (by omega) (by omega) rfl (pc2 := 63) ?_
      show WP 197 0 [(0, .long x), (2, .long y)] [] _ _ _ _
      refine wp_ll1 jF_197_0 rfl rfl (pc2 := 1) ?_
      refine wp_ll1 jF_197_1 rfl rfl (pc2 := 2) ?_
      refine wp_anyL (pc2 := 3) jF_197_2 rfl rfl ?_
      intro z8 h9
      refine wp_z_lt jF_197_3 (m_rgb h9 rfl) rfl (pc2 := 6) ?_ ?_
      · intro h10
        refine wp_ll1 jF_197_10 rfl rfl (pc2 := 11) ?_
        refine wp_rl jF_197_11 ?_
        show WP 199 63 [(0, .ref 16), (1, .long x), (3, .long y), (5, iV nb)] [.long y] _ _ _ _
        refine wp_rl jF_199_63 ?_
        exact ⟨y, rfl, rfl⟩
      · intro h10
        refine wp_ll1 jF_197_6 rfl rfl (pc2 := 7) ?_
        refine wp_go jF_197_7 ?_
        refine wp_rl jF_197_11 ?_
        show WP 199 63 [(0, .ref 16), (1, .long x), (3, .long y), (5, iV nb)] [.long x] _ _ _ _
        refine wp_rl jF_199_63 ?_
        exact ⟨x, rfl, rfl⟩
    · refine wp_tswx (x := 5) (tgt := 64) jF_199_4 hh (by decide) ?_
      refine wp_ll1 jF_199_64 rfl rfl (pc2 := 65) ?_
      refine wp_ll1 jF_199_65 rfl rfl (pc2 := 66) ?_
      refine wp_cS (as := [.long x, .long y]) (rest := []) (mx := 4) jF_199_66 rfl rfl rfl rfl (by omega) (by omega) rfl (pc2 := 69) ?_
      show WP 196 0 [(0, .long x), (2, .long y)] [] _ _ _ _
      refine wp_ll1 jF_196_0 rfl rfl (pc2 := 1) ?_
      refine wp_ll1 jF_196_1 rfl rfl (pc2 := 2) ?_
      refine wp_anyL (pc2 := 3) jF_196_2 rfl rfl ?_
      intro z11 h12
      refine wp_z_gt jF_196_3 (m_rgb h12 rfl) rfl (pc2 := 6) ?_ ?_
      · intro h13
        refine wp_ll1 jF_196_10 rfl rfl (pc2 := 11) ?_
        refine wp_rl jF_196_11 ?_
        show WP 199 69 [(0, .ref 16), (1, .long x), (3, .long y), (5, iV nb)] [.long y] _ _ _ _
        refine wp_rl jF_199_69 ?_
        exact ⟨y, rfl, rfl⟩
      · intro h13
        refine wp_ll1 jF_196_6 rfl rfl (pc2 := 7) ?_
        refine wp_go jF_196_7 ?_
        refine wp_rl jF_196_11 ?_
        show WP 199 69 [(0, .ref 16), (1, .long x), (3, .long y), (5, iV nb)] [.long x] _ _ _ _
        refine wp_rl jF_199_69 ?_
        exact ⟨x, rfl, rfl⟩
set_option maxHeartbeats 4000000 in
set_option maxRecDepth 20000 in
/-- Question.bornePart -/
theorem m_193_r16 (σ : jM) (hg : GI σ) (x : Int64) (nb : Int) (hl_nb : 0 ≤ nb) (hu_nb : nb ≤ 2147483647) (hr0 : σ.2.2 16 9 = 70)  (fr lo : Nat) (hfr : 1 ≤ fr) (hlo : 22 ≤ lo) : WP 193 0 (lv_args 0 [.ref 16, .long x, iV nb]) [] fr lo σ (fun v τ => ∃ z : Int64, v = some (.long z) ∧ σ = τ) := by
  show WP 193 0 [(0, .ref 16), (1, .long x), (3, iV nb)] [] _ _ _ _
  refine wp_ll1 jF_193_0 rfl rfl (pc2 := 1) ?_
  refine wp_lc jF_193_1 rfl (pc2 := 2) ?_
  refine wp_lcmp2 (a := (Int64.toInt x)) (b := 0) jF_193_2 rfl (by decide) rfl (pc2 := 3) ?_
  intro z1 h2
  refine wp_z_lt jF_193_3 ⟨by omega, by omega⟩ rfl (pc2 := 6) ?_ ?_
  · intro h3
    refine wp_lc jF_193_19 rfl (pc2 := 20) ?_
    refine wp_rl jF_193_20 ?_
    exact ⟨(Int64.ofNat 0), rfl, rfl⟩
  · intro h3
    refine wp_ll1 jF_193_6 rfl rfl (pc2 := 7) ?_
    refine wp_al1 jF_193_7 rfl rfl (pc2 := 8) ?_
    refine wp_gr jF_193_8 kd16 (by decide) (c := 2) rfl (m_fv2 hr0 rfl) rfl (pc2 := 11) ?_
    have b4 := GI.b hg 70 6 kd70 (lo := 0) (hi := 30) rfl
    refine wp_gi jF_193_11 kd70 (by decide) rfl rfl rfl (pc2 := 14) ?_
    refine wp_i2l jF_193_14 rfl (pc2 := 15) ?_
    refine wp_lcmp2 (a := (Int64.toInt x)) (b := (σ.1 70 6)) jF_193_15 rfl (m_i2lt (m_rgb b4 rfl)) rfl (pc2 := 16) ?_
    intro z5 h6
    refine wp_z_lt jF_193_16 ⟨by omega, by omega⟩ rfl (pc2 := 19) ?_ ?_
    · intro h7
      refine wp_al1 jF_193_21 rfl rfl (pc2 := 22) ?_
      refine wp_gr jF_193_22 kd16 (by decide) (c := 2) rfl (m_fv2 hr0 rfl) rfl (pc2 := 25) ?_
      refine wp_gr (b := 74) jF_193_25 kd70 (by decide) (c := 7) rfl rfl rfl (pc2 := 28) ?_
      refine wp_ll1 jF_193_28 rfl rfl (pc2 := 29) ?_
      refine wp_l2ix jF_193_29 rfl (pc2 := 30) ?_
      refine wp_lald (n := 30) jF_193_30 kd74 (by decide) rfl rfl (by omega) (by omega) rfl (pc2 := 31) ?_
      intro y8
      refine wp_il1 jF_193_31 rfl rfl (pc2 := 32) ?_
      refine wp_cS (as := [.long y8, iV nb]) (rest := []) (mx := 3) jF_193_32 rfl rfl rfl rfl (by omega) (by omega) rfl (pc2 := 35) ?_
      show WP 101 0 [(0, .long y8), (2, iV nb)] [] _ _ _ _
      refine wp_ll1 jF_101_0 rfl rfl (pc2 := 1) ?_
      refine wp_il1 jF_101_1 rfl rfl (pc2 := 2) ?_
      refine wp_lng (pc2 := 3) jF_101_2 rfl rfl ?_
      intro y9
      refine wp_lc jF_101_3 rfl (pc2 := 4) ?_
      refine wp_lng (pc2 := 5) jF_101_4 rfl rfl ?_
      intro y10
      refine wp_lc jF_101_5 rfl (pc2 := 6) ?_
      refine wp_anyL (pc2 := 7) jF_101_6 rfl rfl ?_
      intro z11 h12
      refine wp_z_eq jF_101_7 (m_rgb h12 rfl) rfl (pc2 := 10) ?_ ?_
      · intro h13
        refine wp_ic jF_101_14 rfl (pc2 := 15) ?_
        refine wp_ri jF_101_15 rfl ?_
        show WP 193 35 [(0, .ref 16), (1, .long x), (3, iV nb)] [iV 0] _ _ _ _
        refine wp_cS (as := [iV 0]) (rest := []) (mx := 1) jF_193_35 rfl rfl rfl rfl (by omega) (by omega) rfl (pc2 := 38) ?_
        show WP 98 0 [(0, iV 0)] [] _ _ _ _
        refine wp_il1 jF_98_0 rfl rfl (pc2 := 1) ?_
        refine wp_z_eq jF_98_1 (m_rgl rfl) rfl (pc2 := 4) ?_ ?_
        · intro h14
          refine wp_ic jF_98_8 rfl (pc2 := 9) ?_
          refine wp_ri jF_98_9 rfl ?_
          show WP 193 38 [(0, .ref 16), (1, .long x), (3, iV nb)] [iV 0] _ _ _ _
          refine wp_i2l jF_193_38 rfl (pc2 := 39) ?_
          refine wp_rl jF_193_39 ?_
          exact ⟨(Int32.toInt64 (Int32.ofInt 0)), rfl, rfl⟩
        · intro h14; exfalso; omega
      · intro h13
        refine wp_ic jF_101_10 rfl (pc2 := 11) ?_
        refine wp_go jF_101_11 ?_
        refine wp_ri jF_101_15 rfl ?_
        show WP 193 35 [(0, .ref 16), (1, .long x), (3, iV nb)] [iV 1] _ _ _ _
        refine wp_cS (as := [iV 1]) (rest := []) (mx := 1) jF_193_35 rfl rfl rfl rfl (by omega) (by omega) rfl (pc2 := 38) ?_
        show WP 98 0 [(0, iV 1)] [] _ _ _ _
        refine wp_il1 jF_98_0 rfl rfl (pc2 := 1) ?_
        refine wp_z_eq jF_98_1 (m_rgl rfl) rfl (pc2 := 4) ?_ ?_
        · intro h15; exfalso; omega
        · intro h15
          refine wp_ic jF_98_4 rfl (pc2 := 5) ?_
          refine wp_go jF_98_5 ?_
          refine wp_ri jF_98_9 rfl ?_
          show WP 193 38 [(0, .ref 16), (1, .long x), (3, iV nb)] [iV 1] _ _ _ _
          refine wp_i2l jF_193_38 rfl (pc2 := 39) ?_
          refine wp_rl jF_193_39 ?_
          exact ⟨(Int32.toInt64 (Int32.ofInt 1)), rfl, rfl⟩
    · intro h7
      refine wp_lc jF_193_19 rfl (pc2 := 20) ?_
      refine wp_rl jF_193_20 ?_
      exact ⟨(Int64.ofNat 0), rfl, rfl⟩
