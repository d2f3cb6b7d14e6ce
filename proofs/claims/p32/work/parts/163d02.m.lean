set_option maxHeartbeats 4000000 in
set_option maxRecDepth 20000 in
/-- TongueReader.takesOne -/
theorem m_62_r12_20_33 (σ : jM) (hg : GI σ) (sort : Int) (hl_sort : 0 ≤ sort) (hu_sort : sort ≤ 2)  (fr lo : Nat) (hfr : 3 ≤ fr) (hlo : 63 ≤ lo) : WP 62 0 (lv_args 0 [.ref 12, .ref 20, .ref 33, iV sort]) [] fr lo σ (fun v τ => ∃ z : Int, v = some (iV z) ∧ (0 ≤ z ∧ z ≤ 1) ∧ GI τ ∧ FR WQ33 σ τ ∧ ((τ.1 33 5) = (σ.1 33 5))) := by
  show WP 62 0 [(0, .ref 12), (1, .ref 20), (2, .ref 33), (3, iV sort)] [] _ _ _ _
  refine wp_al1 jF_62_0 rfl rfl (pc2 := 1) ?_
  refine wp_gr (b := 10) jF_62_1 kd12 (by decide) (c := 110) rfl rfl rfl (pc2 := 4) ?_
  refine wp_cV (as := []) (rest := []) (a := 10) (mx := 2) (ci := 6) jF_62_4 kd10 (by decide) rfl rfl rfl rfl rfl (by omega) (by omega) rfl (pc2 := 7) ?_
  have b1 := GI.b hg 10 1 kd10 (lo := 0) (hi := 1600) rfl
  refine wp_use (m_37_r10 σ hg   _ _ (by omega) (by omega)) ?_
  rintro _ τ3 ⟨z6, rfl, h7, g4, f5, p2⟩
  show WP 62 7 [(0, .ref 12), (1, .ref 20), (2, .ref 33), (3, iV sort)] [iV z6] _ _ _ _
  refine wp_z_eq jF_62_7 (m_rgb h7 rfl) rfl (pc2 := 10) ?_ ?_
  · intro h8
    clear p2
    refine wp_al1 jF_62_41 rfl rfl (pc2 := 42) ?_
    refine wp_gr (b := 10) jF_62_42 kd12 (by decide) (c := 110) rfl rfl rfl (pc2 := 45) ?_
    refine wp_al1 jF_62_45 rfl rfl (pc2 := 46) ?_
    refine wp_gr (b := 13) jF_62_46 kd12 (by decide) (c := 113) rfl rfl rfl (pc2 := 49) ?_
    refine wp_cV (as := [.ref 13]) (rest := []) (a := 10) (mx := 2) (ci := 6) jF_62_49 kd10 (by decide) rfl rfl rfl rfl rfl (by omega) (by omega) rfl (pc2 := 52) ?_
    refine wp_use (m_49_r10_13 τ3 g4   _ _ (by omega) (by omega)) ?_
    rintro _ τ9 ⟨z12, rfl, h13, g10, f11⟩
    show WP 62 52 [(0, .ref 12), (1, .ref 20), (2, .ref 33), (3, iV sort)] [iV z12] _ _ _ _
    refine wp_z_ne jF_62_52 (m_rgb h13 rfl) rfl (pc2 := 55) ?_ ?_
    · intro h14
      refine wp_al1 jF_62_57 rfl rfl (pc2 := 58) ?_
      refine wp_al1 jF_62_58 rfl rfl (pc2 := 59) ?_
      refine wp_gr (b := 10) jF_62_59 kd12 (by decide) (c := 110) rfl rfl rfl (pc2 := 62) ?_
      have b15 := GI.b g10 10 7 kd10 (lo := (-2147483648)) (hi := 2147483647) rfl
      refine wp_gi jF_62_62 kd10 (by decide) rfl rfl rfl (pc2 := 65) ?_
      refine wp_cV (as := [iV (τ9.1 10 7)]) (rest := []) (a := 20) (mx := 3) (ci := 8) jF_62_65 kd20 (by decide) rfl rfl rfl rfl rfl (by omega) (by omega) rfl (pc2 := 68) ?_
      refine wp_use (m_50_r20 τ9 g10 (τ9.1 10 7) (by omega) (by omega)  _ _ (by omega) (by omega)) ?_
      rintro _ _ ⟨z18, rfl, h19, rfl⟩
      show WP 62 68 [(0, .ref 12), (1, .ref 20), (2, .ref 33), (3, iV sort)] [iV z18] _ _ _ _
      refine wp_is2 (lv2 := [(0, .ref 12), (1, .ref 20), (2, .ref 33), (3, iV sort), (4, iV z18)]) jF_62_68 rfl rfl rfl (pc2 := 70) ?_
      refine wp_il1 jF_62_70 rfl rfl (pc2 := 71) ?_
      refine wp_ic jF_62_71 rfl (pc2 := 72) ?_
      refine wp_mul jF_62_72 rfl (pc2 := 73) ?_
      refine wp_is2 (lv2 := [(0, .ref 12), (1, .ref 20), (2, .ref 33), (3, iV sort), (4, iV z18), (5, iV (sort * 4))]) jF_62_73 rfl rfl rfl (pc2 := 75) ?_
      refine wp_il2 jF_62_75 rfl rfl (pc2 := 77) ?_
      refine wp_il2 jF_62_77 rfl rfl (pc2 := 79) ?_
      refine wp_i_lt jF_62_79 (m_rgb h19 rfl) ⟨by omega, by omega⟩ rfl (pc2 := 82) ?_ ?_
      · intro h20
        refine wp_al1 jF_62_91 rfl rfl (pc2 := 92) ?_
        refine wp_gr (b := 10) jF_62_92 kd12 (by decide) (c := 110) rfl rfl rfl (pc2 := 95) ?_
        refine wp_ic jF_62_95 rfl (pc2 := 96) ?_
        refine wp_al1 jF_62_96 rfl rfl (pc2 := 97) ?_
        refine wp_gr (b := 10) jF_62_97 kd12 (by decide) (c := 110) rfl rfl rfl (pc2 := 100) ?_
        have b21 := GI.b g10 10 5 kd10 (lo := 0) (hi := 1600) rfl
        refine wp_gi jF_62_100 kd10 (by decide) rfl rfl rfl (pc2 := 103) ?_
        refine wp_cV (as := [iV 3, iV (τ9.1 10 5)]) (rest := []) (a := 10) (mx := 3) (ci := 6) jF_62_103 kd10 (by decide) rfl rfl rfl rfl rfl (by omega) (by omega) rfl (pc2 := 106) ?_
        refine wp_use (m_42_r10 τ9 g10 3 (by omega) (by omega) (τ9.1 10 5) (by omega) (by omega)  _ _ (by omega) (by omega)) ?_
        rintro _ τ22 ⟨z25, rfl, h26, g23, f24⟩
        show WP 62 106 [(0, .ref 12), (1, .ref 20), (2, .ref 33), (3, iV sort), (4, iV z18), (5, iV (sort * 4))] [iV z25] _ _ _ _
        refine wp_ri jF_62_106 (m_fitb (by omega) (by omega)) ?_
        have b27 := GI.b hg 33 5 kd33 (lo := 0) (hi := 16) rfl
        have q28 : (τ22.1 33 5) = (σ.1 33 5) := ((FR.at f24 33 5 rfl).trans ((FR.at f11 33 5 rfl).trans (FR.at f5 33 5 rfl)))
        exact ⟨z25, rfl, ⟨by omega, by omega⟩, g23, (FR.up (FR.up (FR.up FR.rf f5 sb_Wtp_WQ33) f11 sb_Wtp_WQ33) f24 sb_Wtp_WQ33), (by omega)⟩
      · intro h20
        refine wp_il2 jF_62_82 rfl rfl (pc2 := 84) ?_
        refine wp_il2 jF_62_84 rfl rfl (pc2 := 86) ?_
        refine wp_ic jF_62_86 rfl (pc2 := 87) ?_
        refine wp_add jF_62_87 rfl (pc2 := 88) ?_
        refine wp_i_lt jF_62_88 ⟨by omega, by omega⟩ ⟨by omega, by omega⟩ rfl (pc2 := 91) ?_ ?_
        · intro h29
          refine wp_al1 jF_62_107 rfl rfl (pc2 := 108) ?_
          refine wp_il1 jF_62_108 rfl rfl (pc2 := 109) ?_
          refine wp_il2 jF_62_109 rfl rfl (pc2 := 111) ?_
          refine wp_cV (as := [iV sort, iV z18]) (rest := []) (a := 33) (mx := 4) (ci := 7) jF_62_111 kd33 (by decide) rfl rfl rfl rfl rfl (by omega) (by omega) rfl (pc2 := 114) ?_
          have b30 := GI.b hg 33 5 kd33 (lo := 0) (hi := 16) rfl
          have q31 : (τ9.1 33 5) = (σ.1 33 5) := ((FR.at f11 33 5 rfl).trans (FR.at f5 33 5 rfl))
          refine wp_use (m_63_r33 τ9 g10 sort (by omega) (by omega) z18 (by omega) (by omega)  _ _ (by omega) (by omega)) ?_
          rintro _ τ33 ⟨rfl, g34, f35, p32⟩
          show WP 62 114 [(0, .ref 12), (1, .ref 20), (2, .ref 33), (3, iV sort), (4, iV z18), (5, iV (sort * 4))] [] _ _ _ _
          refine wp_ic jF_62_114 rfl (pc2 := 115) ?_
          refine wp_ri jF_62_115 rfl ?_
          have b36 := GI.b g34 33 5 kd33 (lo := 0) (hi := 16) rfl
          exact ⟨1, rfl, ⟨by omega, by omega⟩, g34, (FR.up (FR.up (FR.up FR.rf f5 sb_Wtp_WQ33) f11 sb_Wtp_WQ33) f35 sb_WT33_WQ33), (by omega)⟩
        · intro h29
          refine wp_al1 jF_62_91 rfl rfl (pc2 := 92) ?_
          refine wp_gr (b := 10) jF_62_92 kd12 (by decide) (c := 110) rfl rfl rfl (pc2 := 95) ?_
          refine wp_ic jF_62_95 rfl (pc2 := 96) ?_
          refine wp_al1 jF_62_96 rfl rfl (pc2 := 97) ?_
          refine wp_gr (b := 10) jF_62_97 kd12 (by decide) (c := 110) rfl rfl rfl (pc2 := 100) ?_
          have b37 := GI.b g10 10 5 kd10 (lo := 0) (hi := 1600) rfl
          refine wp_gi jF_62_100 kd10 (by decide) rfl rfl rfl (pc2 := 103) ?_
          refine wp_cV (as := [iV 3, iV (τ9.1 10 5)]) (rest := []) (a := 10) (mx := 3) (ci := 6) jF_62_103 kd10 (by decide) rfl rfl rfl rfl rfl (by omega) (by omega) rfl (pc2 := 106) ?_
          refine wp_use (m_42_r10 τ9 g10 3 (by omega) (by omega) (τ9.1 10 5) (by omega) (by omega)  _ _ (by omega) (by omega)) ?_
          rintro _ τ38 ⟨z41, rfl, h42, g39, f40⟩
          show WP 62 106 [(0, .ref 12), (1, .ref 20), (2, .ref 33), (3, iV sort), (4, iV z18), (5, iV (sort * 4))] [iV z41] _ _ _ _
          refine wp_ri jF_62_106 (m_fitb (by omega) (by omega)) ?_
          have b43 := GI.b hg 33 5 kd33 (lo := 0) (hi := 16) rfl
          have q44 : (τ38.1 33 5) = (σ.1 33 5) := ((FR.at f40 33 5 rfl).trans ((FR.at f11 33 5 rfl).trans (FR.at f5 33 5 rfl)))
          exact ⟨z41, rfl, ⟨by omega, by omega⟩, g39, (FR.up (FR.up (FR.up FR.rf f5 sb_Wtp_WQ33) f11 sb_Wtp_WQ33) f40 sb_Wtp_WQ33), (by omega)⟩
    · intro h14
      refine wp_ic jF_62_55 rfl (pc2 := 56) ?_
      refine wp_ri jF_62_56 rfl ?_
      have b45 := GI.b hg 33 5 kd33 (lo := 0) (hi := 16) rfl
      have q46 : (τ9.1 33 5) = (σ.1 33 5) := ((FR.at f11 33 5 rfl).trans (FR.at f5 33 5 rfl))
      exact ⟨0, rfl, ⟨by omega, by omega⟩, g10, (FR.up (FR.up FR.rf f5 sb_Wtp_WQ33) f11 sb_Wtp_WQ33), (by omega)⟩
  · intro h8
    replace p2 := p2 (by omega)
    refine wp_al1 jF_62_10 rfl rfl (pc2 := 11) ?_
    refine wp_gr (b := 10) jF_62_11 kd12 (by decide) (c := 110) rfl rfl rfl (pc2 := 14) ?_
    refine wp_al1 jF_62_14 rfl rfl (pc2 := 15) ?_
    refine wp_gr (b := 13) jF_62_15 kd12 (by decide) (c := 113) rfl rfl rfl (pc2 := 18) ?_
    refine wp_cV (as := [.ref 13]) (rest := []) (a := 10) (mx := 3) (ci := 6) jF_62_18 kd10 (by decide) rfl rfl rfl rfl rfl (by omega) (by omega) rfl (pc2 := 21) ?_
    refine wp_use (m_41_r10_13 τ3 g4   _ _ (by omega) (by omega)) ?_
    rintro _ _ ⟨z49, rfl, h50, rfl⟩
    show WP 62 21 [(0, .ref 12), (1, .ref 20), (2, .ref 33), (3, iV sort)] [iV z49] _ _ _ _
    refine wp_bi jF_62_21 (by decide) rfl (pc2 := 23) ?_
    refine wp_i_ne jF_62_23 (m_rgb h50 rfl) (m_rgl rfl) rfl (pc2 := 26) ?_ ?_
    · intro h51
      refine wp_al1 jF_62_41 rfl rfl (pc2 := 42) ?_
      refine wp_gr (b := 10) jF_62_42 kd12 (by decide) (c := 110) rfl rfl rfl (pc2 := 45) ?_
      refine wp_al1 jF_62_45 rfl rfl (pc2 := 46) ?_
      refine wp_gr (b := 13) jF_62_46 kd12 (by decide) (c := 113) rfl rfl rfl (pc2 := 49) ?_
      refine wp_cV (as := [.ref 13]) (rest := []) (a := 10) (mx := 2) (ci := 6) jF_62_49 kd10 (by decide) rfl rfl rfl rfl rfl (by omega) (by omega) rfl (pc2 := 52) ?_
      refine wp_use (m_49_r10_13 τ3 g4   _ _ (by omega) (by omega)) ?_
      rintro _ τ52 ⟨z55, rfl, h56, g53, f54⟩
      show WP 62 52 [(0, .ref 12), (1, .ref 20), (2, .ref 33), (3, iV sort)] [iV z55] _ _ _ _
      refine wp_z_ne jF_62_52 (m_rgb h56 rfl) rfl (pc2 := 55) ?_ ?_
      · intro h57
        refine wp_al1 jF_62_57 rfl rfl (pc2 := 58) ?_
        refine wp_al1 jF_62_58 rfl rfl (pc2 := 59) ?_
        refine wp_gr (b := 10) jF_62_59 kd12 (by decide) (c := 110) rfl rfl rfl (pc2 := 62) ?_
        have b58 := GI.b g53 10 7 kd10 (lo := (-2147483648)) (hi := 2147483647) rfl
        refine wp_gi jF_62_62 kd10 (by decide) rfl rfl rfl (pc2 := 65) ?_
        refine wp_cV (as := [iV (τ52.1 10 7)]) (rest := []) (a := 20) (mx := 3) (ci := 8) jF_62_65 kd20 (by decide) rfl rfl rfl rfl rfl (by omega) (by omega) rfl (pc2 := 68) ?_
        refine wp_use (m_50_r20 τ52 g53 (τ52.1 10 7) (by omega) (by omega)  _ _ (by omega) (by omega)) ?_
        rintro _ _ ⟨z61, rfl, h62, rfl⟩
        show WP 62 68 [(0, .ref 12), (1, .ref 20), (2, .ref 33), (3, iV sort)] [iV z61] _ _ _ _
        refine wp_is2 (lv2 := [(0, .ref 12), (1, .ref 20), (2, .ref 33), (3, iV sort), (4, iV z61)]) jF_62_68 rfl rfl rfl (pc2 := 70) ?_
        refine wp_il1 jF_62_70 rfl rfl (pc2 := 71) ?_
        refine wp_ic jF_62_71 rfl (pc2 := 72) ?_
        refine wp_mul jF_62_72 rfl (pc2 := 73) ?_
        refine wp_is2 (lv2 := [(0, .ref 12), (1, .ref 20), (2, .ref 33), (3, iV sort), (4, iV z61), (5, iV (sort * 4))]) jF_62_73 rfl rfl rfl (pc2 := 75) ?_
        refine wp_il2 jF_62_75 rfl rfl (pc2 := 77) ?_
        refine wp_il2 jF_62_77 rfl rfl (pc2 := 79) ?_
        refine wp_i_lt jF_62_79 (m_rgb h62 rfl) ⟨by omega, by omega⟩ rfl (pc2 := 82) ?_ ?_
        · intro h63
          refine wp_al1 jF_62_91 rfl rfl (pc2 := 92) ?_
          refine wp_gr (b := 10) jF_62_92 kd12 (by decide) (c := 110) rfl rfl rfl (pc2 := 95) ?_
          refine wp_ic jF_62_95 rfl (pc2 := 96) ?_
          refine wp_al1 jF_62_96 rfl rfl (pc2 := 97) ?_
          refine wp_gr (b := 10) jF_62_97 kd12 (by decide) (c := 110) rfl rfl rfl (pc2 := 100) ?_
          have b64 := GI.b g53 10 5 kd10 (lo := 0) (hi := 1600) rfl
          refine wp_gi jF_62_100 kd10 (by decide) rfl rfl rfl (pc2 := 103) ?_
          refine wp_cV (as := [iV 3, iV (τ52.1 10 5)]) (rest := []) (a := 10) (mx := 3) (ci := 6) jF_62_103 kd10 (by decide) rfl rfl rfl rfl rfl (by omega) (by omega) rfl (pc2 := 106) ?_
          refine wp_use (m_42_r10 τ52 g53 3 (by omega) (by omega) (τ52.1 10 5) (by omega) (by omega)  _ _ (by omega) (by omega)) ?_
          rintro _ τ65 ⟨z68, rfl, h69, g66, f67⟩
          show WP 62 106 [(0, .ref 12), (1, .ref 20), (2, .ref 33), (3, iV sort), (4, iV z61), (5, iV (sort * 4))] [iV z68] _ _ _ _
          refine wp_ri jF_62_106 (m_fitb (by omega) (by omega)) ?_
          have b70 := GI.b hg 33 5 kd33 (lo := 0) (hi := 16) rfl
          have q71 : (τ65.1 33 5) = (σ.1 33 5) := ((FR.at f67 33 5 rfl).trans ((FR.at f54 33 5 rfl).trans (FR.at f5 33 5 rfl)))
          exact ⟨z68, rfl, ⟨by omega, by omega⟩, g66, (FR.up (FR.up (FR.up FR.rf f5 sb_Wtp_WQ33) f54 sb_Wtp_WQ33) f67 sb_Wtp_WQ33), (by omega)⟩
        · intro h63
          refine wp_il2 jF_62_82 rfl rfl (pc2 := 84) ?_
          refine wp_il2 jF_62_84 rfl rfl (pc2 := 86) ?_
          refine wp_ic jF_62_86 rfl (pc2 := 87) ?_
          refine wp_add jF_62_87 rfl (pc2 := 88) ?_
          refine wp_i_lt jF_62_88 ⟨by omega, by omega⟩ ⟨by omega, by omega⟩ rfl (pc2 := 91) ?_ ?_
          · intro h72
            refine wp_al1 jF_62_107 rfl rfl (pc2 := 108) ?_
            refine wp_il1 jF_62_108 rfl rfl (pc2 := 109) ?_
            refine wp_il2 jF_62_109 rfl rfl (pc2 := 111) ?_
            refine wp_cV (as := [iV sort, iV z61]) (rest := []) (a := 33) (mx := 4) (ci := 7) jF_62_111 kd33 (by decide) rfl rfl rfl rfl rfl (by omega) (by omega) rfl (pc2 := 114) ?_
            have b73 := GI.b hg 33 5 kd33 (lo := 0) (hi := 16) rfl
            have q74 : (τ52.1 33 5) = (σ.1 33 5) := ((FR.at f54 33 5 rfl).trans (FR.at f5 33 5 rfl))
            refine wp_use (m_63_r33 τ52 g53 sort (by omega) (by omega) z61 (by omega) (by omega)  _ _ (by omega) (by omega)) ?_
            rintro _ τ76 ⟨rfl, g77, f78, p75⟩
            show WP 62 114 [(0, .ref 12), (1, .ref 20), (2, .ref 33), (3, iV sort), (4, iV z61), (5, iV (sort * 4))] [] _ _ _ _
            refine wp_ic jF_62_114 rfl (pc2 := 115) ?_
            refine wp_ri jF_62_115 rfl ?_
            have b79 := GI.b g77 33 5 kd33 (lo := 0) (hi := 16) rfl
            exact ⟨1, rfl, ⟨by omega, by omega⟩, g77, (FR.up (FR.up (FR.up FR.rf f5 sb_Wtp_WQ33) f54 sb_Wtp_WQ33) f78 sb_WT33_WQ33), (by omega)⟩
          · intro h72
            refine wp_al1 jF_62_91 rfl rfl (pc2 := 92) ?_
            refine wp_gr (b := 10) jF_62_92 kd12 (by decide) (c := 110) rfl rfl rfl (pc2 := 95) ?_
            refine wp_ic jF_62_95 rfl (pc2 := 96) ?_
            refine wp_al1 jF_62_96 rfl rfl (pc2 := 97) ?_
            refine wp_gr (b := 10) jF_62_97 kd12 (by decide) (c := 110) rfl rfl rfl (pc2 := 100) ?_
            have b80 := GI.b g53 10 5 kd10 (lo := 0) (hi := 1600) rfl
            refine wp_gi jF_62_100 kd10 (by decide) rfl rfl rfl (pc2 := 103) ?_
            refine wp_cV (as := [iV 3, iV (τ52.1 10 5)]) (rest := []) (a := 10) (mx := 3) (ci := 6) jF_62_103 kd10 (by decide) rfl rfl rfl rfl rfl (by omega) (by omega) rfl (pc2 := 106) ?_
            refine wp_use (m_42_r10 τ52 g53 3 (by omega) (by omega) (τ52.1 10 5) (by omega) (by omega)  _ _ (by omega) (by omega)) ?_
            rintro _ τ81 ⟨z84, rfl, h85, g82, f83⟩
            show WP 62 106 [(0, .ref 12), (1, .ref 20), (2, .ref 33), (3, iV sort), (4, iV z61), (5, iV (sort * 4))] [iV z84] _ _ _ _
            refine wp_ri jF_62_106 (m_fitb (by omega) (by omega)) ?_
            have b86 := GI.b hg 33 5 kd33 (lo := 0) (hi := 16) rfl
            have q87 : (τ81.1 33 5) = (σ.1 33 5) := ((FR.at f83 33 5 rfl).trans ((FR.at f54 33 5 rfl).trans (FR.at f5 33 5 rfl)))
            exact ⟨z84, rfl, ⟨by omega, by omega⟩, g82, (FR.up (FR.up (FR.up FR.rf f5 sb_Wtp_WQ33) f54 sb_Wtp_WQ33) f83 sb_Wtp_WQ33), (by omega)⟩
      · intro h57
        refine wp_ic jF_62_55 rfl (pc2 := 56) ?_
        refine wp_ri jF_62_56 rfl ?_
        have b88 := GI.b hg 33 5 kd33 (lo := 0) (hi := 16) rfl
        have q89 : (τ52.1 33 5) = (σ.1 33 5) := ((FR.at f54 33 5 rfl).trans (FR.at f5 33 5 rfl))
        exact ⟨0, rfl, ⟨by omega, by omega⟩, g53, (FR.up (FR.up FR.rf f5 sb_Wtp_WQ33) f54 sb_Wtp_WQ33), (by omega)⟩
    · intro h51
      refine wp_al1 jF_62_26 rfl rfl (pc2 := 27) ?_
      refine wp_gr (b := 10) jF_62_27 kd12 (by decide) (c := 110) rfl rfl rfl (pc2 := 30) ?_
      refine wp_cV (as := []) (rest := []) (a := 10) (mx := 1) (ci := 6) jF_62_30 kd10 (by decide) rfl rfl rfl rfl rfl (by omega) (by omega) rfl (pc2 := 33) ?_
      have b90 := GI.b g4 10 5 kd10 (lo := 0) (hi := 1600) rfl
      have b91 := GI.b g4 10 6 kd10 (lo := 0) (hi := 1600) rfl
      refine wp_use (m_45_r10 τ3 g4  (by omega) _ _ (by omega) (by omega)) ?_
      rintro _ τ92 ⟨rfl, g93, f94⟩
      show WP 62 33 [(0, .ref 12), (1, .ref 20), (2, .ref 33), (3, iV sort)] [] _ _ _ _
      refine wp_al1 jF_62_33 rfl rfl (pc2 := 34) ?_
      refine wp_il1 jF_62_34 rfl rfl (pc2 := 35) ?_
      refine wp_ic jF_62_35 rfl (pc2 := 36) ?_
      refine wp_cV (as := [iV sort, iV (-1)]) (rest := []) (a := 33) (mx := 4) (ci := 7) jF_62_36 kd33 (by decide) rfl rfl rfl rfl rfl (by omega) (by omega) rfl (pc2 := 39) ?_
      have b95 := GI.b hg 33 5 kd33 (lo := 0) (hi := 16) rfl
      have q96 : (τ92.1 33 5) = (σ.1 33 5) := ((FR.at f94 33 5 rfl).trans (FR.at f5 33 5 rfl))
      refine wp_use (m_63_r33 τ92 g93 sort (by omega) (by omega) (-1) (by omega) (by omega)  _ _ (by omega) (by omega)) ?_
      rintro _ τ98 ⟨rfl, g99, f100, p97⟩
      show WP 62 39 [(0, .ref 12), (1, .ref 20), (2, .ref 33), (3, iV sort)] [] _ _ _ _
      refine wp_ic jF_62_39 rfl (pc2 := 40) ?_
      refine wp_ri jF_62_40 rfl ?_
      have b101 := GI.b g99 33 5 kd33 (lo := 0) (hi := 16) rfl
      exact ⟨1, rfl, ⟨by omega, by omega⟩, g99, (FR.up (FR.up (FR.up FR.rf f5 sb_Wtp_WQ33) f94 sb_Wtp_WQ33) f100 sb_WT33_WQ33), (by omega)⟩
set_option maxHeartbeats 4000000 in
set_option maxRecDepth 20000 in
/-- TongueReader.takesCases -/
theorem m_60_r12_20_33 (σ : jM) (hg : GI σ)   (fr lo : Nat) (hfr : 4 ≤ fr) (hlo : 88 ≤ lo) : WP 60 0 (lv_args 0 [.ref 12, .ref 20, .ref 33]) [] fr lo σ (fun v τ => ∃ z : Int, v = some (iV z) ∧ (0 ≤ z ∧ z ≤ 1) ∧ GI τ ∧ FR WQ33 σ τ ∧ ((τ.1 33 5) = (σ.1 33 5))) := by
  show WP 60 0 [(0, .ref 12), (1, .ref 20), (2, .ref 33)] [] _ _ _ _
  refine wp_al1 jF_60_0 rfl rfl (pc2 := 1) ?_
  refine wp_gr (b := 10) jF_60_1 kd12 (by decide) (c := 110) rfl rfl rfl (pc2 := 4) ?_
  refine wp_cV (as := []) (rest := []) (a := 10) (mx := 2) (ci := 6) jF_60_4 kd10 (by decide) rfl rfl rfl rfl rfl (by omega) (by omega) rfl (pc2 := 7) ?_
  have b1 := GI.b hg 10 1 kd10 (lo := 0) (hi := 1600) rfl
  refine wp_use (m_37_r10 σ hg   _ _ (by omega) (by omega)) ?_
  rintro _ τ3 ⟨z6, rfl, h7, g4, f5, p2⟩
  show WP 60 7 [(0, .ref 12), (1, .ref 20), (2, .ref 33)] [iV z6] _ _ _ _
  refine wp_z_eq jF_60_7 (m_rgb h7 rfl) rfl (pc2 := 10) ?_ ?_
  · intro h8
    clear p2
    refine wp_ic jF_60_24 rfl (pc2 := 25) ?_
    refine wp_is1 (lv2 := [(0, .ref 12), (1, .ref 20), (2, .ref 33), (3, iV (-1))]) jF_60_25 rfl rfl rfl (pc2 := 26) ?_
    refine wp_il1 jF_60_26 rfl rfl (pc2 := 27) ?_
    refine wp_bi jF_60_27 (by decide) rfl (pc2 := 29) ?_
    refine wp_i_eq jF_60_29 (m_rgl rfl) (m_rgl rfl) rfl (pc2 := 32) ?_ ?_
    · intro h9; exfalso; omega
    · intro h9
      refine wp_il1 jF_60_32 rfl rfl (pc2 := 33) ?_
      refine wp_bi jF_60_33 (by decide) rfl (pc2 := 35) ?_
      refine wp_i_eq jF_60_35 (m_rgl rfl) (m_rgl rfl) rfl (pc2 := 38) ?_ ?_
      · intro h10; exfalso; omega
      · intro h10
        refine wp_al1 jF_60_38 rfl rfl (pc2 := 39) ?_
        refine wp_gr (b := 10) jF_60_39 kd12 (by decide) (c := 110) rfl rfl rfl (pc2 := 42) ?_
        refine wp_ic jF_60_42 rfl (pc2 := 43) ?_
        refine wp_al1 jF_60_43 rfl rfl (pc2 := 44) ?_
        refine wp_gr (b := 10) jF_60_44 kd12 (by decide) (c := 110) rfl rfl rfl (pc2 := 47) ?_
        have b11 := GI.b g4 10 2 kd10 (lo := 0) (hi := 1600) rfl
        refine wp_gi jF_60_47 kd10 (by decide) rfl rfl rfl (pc2 := 50) ?_
        refine wp_cV (as := [iV 1, iV (τ3.1 10 2)]) (rest := []) (a := 10) (mx := 3) (ci := 6) jF_60_50 kd10 (by decide) rfl rfl rfl rfl rfl (by omega) (by omega) rfl (pc2 := 53) ?_
        refine wp_use (m_42_r10 τ3 g4 1 (by omega) (by omega) (τ3.1 10 2) (by omega) (by omega)  _ _ (by omega) (by omega)) ?_
        rintro _ τ12 ⟨z15, rfl, h16, g13, f14⟩
        show WP 60 53 [(0, .ref 12), (1, .ref 20), (2, .ref 33), (3, iV (-1))] [iV z15] _ _ _ _
        refine wp_ri jF_60_53 (m_fitb (by omega) (by omega)) ?_
        have b17 := GI.b hg 33 5 kd33 (lo := 0) (hi := 16) rfl
        have q18 : (τ12.1 33 5) = (σ.1 33 5) := ((FR.at f14 33 5 rfl).trans (FR.at f5 33 5 rfl))
        exact ⟨z15, rfl, ⟨by omega, by omega⟩, g13, (FR.up (FR.up FR.rf f5 sb_Wtp_WQ33) f14 sb_Wtp_WQ33), (by omega)⟩
  · intro h8
    replace p2 := p2 (by omega)
    refine wp_al1 jF_60_10 rfl rfl (pc2 := 11) ?_
    refine wp_gr (b := 10) jF_60_11 kd12 (by decide) (c := 110) rfl rfl rfl (pc2 := 14) ?_
    refine wp_al1 jF_60_14 rfl rfl (pc2 := 15) ?_
    refine wp_gr (b := 13) jF_60_15 kd12 (by decide) (c := 113) rfl rfl rfl (pc2 := 18) ?_
    refine wp_cV (as := [.ref 13]) (rest := []) (a := 10) (mx := 3) (ci := 6) jF_60_18 kd10 (by decide) rfl rfl rfl rfl rfl (by omega) (by omega) rfl (pc2 := 21) ?_
    refine wp_use (m_41_r10_13 τ3 g4   _ _ (by omega) (by omega)) ?_
    rintro _ _ ⟨z21, rfl, h22, rfl⟩
    show WP 60 21 [(0, .ref 12), (1, .ref 20), (2, .ref 33)] [iV z21] _ _ _ _
    refine wp_go jF_60_21 ?_
    refine wp_is1 (lv2 := [(0, .ref 12), (1, .ref 20), (2, .ref 33), (3, iV z21)]) jF_60_25 rfl rfl rfl (pc2 := 26) ?_
    refine wp_il1 jF_60_26 rfl rfl (pc2 := 27) ?_
    refine wp_bi jF_60_27 (by decide) rfl (pc2 := 29) ?_
    refine wp_i_eq jF_60_29 (m_rgb h22 rfl) (m_rgl rfl) rfl (pc2 := 32) ?_ ?_
    · intro h23
      refine wp_al1 jF_60_54 rfl rfl (pc2 := 55) ?_
      refine wp_gr (b := 10) jF_60_55 kd12 (by decide) (c := 110) rfl rfl rfl (pc2 := 58) ?_
      refine wp_cV (as := []) (rest := []) (a := 10) (mx := 1) (ci := 6) jF_60_58 kd10 (by decide) rfl rfl rfl rfl rfl (by omega) (by omega) rfl (pc2 := 61) ?_
      have b24 := GI.b g4 10 5 kd10 (lo := 0) (hi := 1600) rfl
      have b25 := GI.b g4 10 6 kd10 (lo := 0) (hi := 1600) rfl
      refine wp_use (m_45_r10 τ3 g4  (by omega) _ _ (by omega) (by omega)) ?_
      rintro _ τ26 ⟨rfl, g27, f28⟩
      show WP 60 61 [(0, .ref 12), (1, .ref 20), (2, .ref 33), (3, iV z21)] [] _ _ _ _
      refine wp_al1 jF_60_61 rfl rfl (pc2 := 62) ?_
      refine wp_il1 jF_60_62 rfl rfl (pc2 := 63) ?_
      refine wp_bi jF_60_63 (by decide) rfl (pc2 := 65) ?_
      refine wp_i_ne jF_60_65 ⟨by omega, by omega⟩ (m_rgl rfl) rfl (pc2 := 68) ?_ ?_
      · intro h29; exfalso; omega
      · intro h29
        refine wp_ic jF_60_68 rfl (pc2 := 69) ?_
        refine wp_go jF_60_69 ?_
        refine wp_cV (as := [iV 1]) (rest := []) (a := 33) (mx := 2) (ci := 7) jF_60_73 kd33 (by decide) rfl rfl rfl rfl rfl (by omega) (by omega) rfl (pc2 := 76) ?_
        have b30 := GI.b hg 33 5 kd33 (lo := 0) (hi := 16) rfl
        have q31 : (τ26.1 33 5) = (σ.1 33 5) := ((FR.at f28 33 5 rfl).trans (FR.at f5 33 5 rfl))
        refine wp_use (m_61_r33 τ26 g27 1 (by omega) (by omega)  _ _ (by omega) (by omega)) ?_
        rintro _ τ33 ⟨rfl, g34, f35, p32⟩
        show WP 60 76 [(0, .ref 12), (1, .ref 20), (2, .ref 33), (3, iV z21)] [] _ _ _ _
        refine wp_ic jF_60_76 rfl (pc2 := 77) ?_
        refine wp_is2 (lv2 := [(0, .ref 12), (1, .ref 20), (2, .ref 33), (3, iV z21), (4, iV 0)]) jF_60_77 rfl rfl rfl (pc2 := 79) ?_
        refine wp_loop (α := Int) (fun a => [(0, .ref 12), (1, .ref 20), (2, .ref 33), (3, iV z21), (4, iV (a))]) (fun a τ => (0 ≤ a ∧ a ≤ 3) ∧ GI τ ∧ FR WQ33 τ33 τ ∧ ((τ.1 33 5) = (σ.1 33 5))) (fun a τ => Int.toNat (3 - (a))) (0) τ33 ?_ ?_
        · skip
          have b36 := GI.b g34 33 5 kd33 (lo := 0) (hi := 16) rfl
          exact ⟨⟨by omega, by omega⟩, g34, FR.rf, (by omega)⟩
        · rintro x37 τ39 ⟨h38, g40, f41, p42⟩ ih43
          have b44 := GI.b g40 33 5 kd33 (lo := 0) (hi := 16) rfl
          show WP 60 79 [(0, .ref 12), (1, .ref 20), (2, .ref 33), (3, iV z21), (4, iV x37)] [] _ _ _ _
          show WP 60 79 [(0, .ref 12), (1, .ref 20), (2, .ref 33), (3, iV z21), (4, iV x37)] [] _ _ _ _
          refine wp_il2 jF_60_79 rfl rfl (pc2 := 81) ?_
          refine wp_ic jF_60_81 rfl (pc2 := 82) ?_
          refine wp_i_ge jF_60_82 (m_rgb h38 rfl) (m_rgl rfl) rfl (pc2 := 85) ?_ ?_
          · intro h45
            refine wp_ic jF_60_104 rfl (pc2 := 105) ?_
            refine wp_ri jF_60_105 rfl ?_
            exact ⟨1, rfl, ⟨by omega, by omega⟩, g40, (FR.up (FR.up (FR.up (FR.up FR.rf f5 sb_Wtp_WQ33) f28 sb_Wtp_WQ33) f35 sb_WT33_WQ33) f41 sb_WQ33_WQ33), (by omega)⟩
          · intro h45
            refine wp_al1 jF_60_85 rfl rfl (pc2 := 86) ?_
            refine wp_al1 jF_60_86 rfl rfl (pc2 := 87) ?_
            refine wp_al1 jF_60_87 rfl rfl (pc2 := 88) ?_
            refine wp_il2 jF_60_88 rfl rfl (pc2 := 90) ?_
            refine wp_cV (as := [.ref 20, .ref 33, iV x37]) (rest := []) (a := 12) (mx := 6) (ci := 9) jF_60_90 kd12 (by decide) rfl rfl rfl rfl rfl (by omega) (by omega) rfl (pc2 := 93) ?_
            refine wp_use (m_62_r12_20_33 τ39 g40 x37 (by omega) (by omega)  _ _ (by omega) (by omega)) ?_
            rintro _ τ47 ⟨z50, rfl, h51, g48, f49, p46⟩
            show WP 60 93 [(0, .ref 12), (1, .ref 20), (2, .ref 33), (3, iV z21), (4, iV x37)] [iV z50] _ _ _ _
            refine wp_z_ne jF_60_93 (m_rgb h51 rfl) rfl (pc2 := 96) ?_ ?_
            · intro h52
              refine wp_inc (lv2 := [(0, .ref 12), (1, .ref 20), (2, .ref 33), (3, iV z21), (4, iV (x37 + 1))]) jF_60_98 rfl rfl rfl rfl (pc2 := 101) ?_
              refine wp_go jF_60_101 ?_
              have b53 := GI.b g48 33 5 kd33 (lo := 0) (hi := 16) rfl
              exact ih43 ((x37 + 1)) τ47 ⟨⟨by omega, by omega⟩, g48, (FR.up f41 f49 sb_WQ33_WQ33), (by omega)⟩ (by show Int.toNat (3 - (x37 + 1)) < Int.toNat (3 - x37); omega)
            · intro h52
              refine wp_ic jF_60_96 rfl (pc2 := 97) ?_
              refine wp_ri jF_60_97 rfl ?_
              have b54 := GI.b g48 33 5 kd33 (lo := 0) (hi := 16) rfl
              exact ⟨0, rfl, ⟨by omega, by omega⟩, g48, (FR.up (FR.up (FR.up (FR.up (FR.up FR.rf f5 sb_Wtp_WQ33) f28 sb_Wtp_WQ33) f35 sb_WT33_WQ33) f41 sb_WQ33_WQ33) f49 sb_WQ33_WQ33), (by omega)⟩
    · intro h23
      refine wp_il1 jF_60_32 rfl rfl (pc2 := 33) ?_
      refine wp_bi jF_60_33 (by decide) rfl (pc2 := 35) ?_
      refine wp_i_eq jF_60_35 (m_rgb h22 rfl) (m_rgl rfl) rfl (pc2 := 38) ?_ ?_
      · intro h55
        refine wp_al1 jF_60_54 rfl rfl (pc2 := 55) ?_
        refine wp_gr (b := 10) jF_60_55 kd12 (by decide) (c := 110) rfl rfl rfl (pc2 := 58) ?_
        refine wp_cV (as := []) (rest := []) (a := 10) (mx := 1) (ci := 6) jF_60_58 kd10 (by decide) rfl rfl rfl rfl rfl (by omega) (by omega) rfl (pc2 := 61) ?_
        have b56 := GI.b g4 10 5 kd10 (lo := 0) (hi := 1600) rfl
        have b57 := GI.b g4 10 6 kd10 (lo := 0) (hi := 1600) rfl
        refine wp_use (m_45_r10 τ3 g4  (by omega) _ _ (by omega) (by omega)) ?_
        rintro _ τ58 ⟨rfl, g59, f60⟩
        show WP 60 61 [(0, .ref 12), (1, .ref 20), (2, .ref 33), (3, iV z21)] [] _ _ _ _
        refine wp_al1 jF_60_61 rfl rfl (pc2 := 62) ?_
        refine wp_il1 jF_60_62 rfl rfl (pc2 := 63) ?_
        refine wp_bi jF_60_63 (by decide) rfl (pc2 := 65) ?_
        refine wp_i_ne jF_60_65 ⟨by omega, by omega⟩ (m_rgl rfl) rfl (pc2 := 68) ?_ ?_
        · intro h61
          refine wp_ic jF_60_72 rfl (pc2 := 73) ?_
          refine wp_cV (as := [iV 0]) (rest := []) (a := 33) (mx := 2) (ci := 7) jF_60_73 kd33 (by decide) rfl rfl rfl rfl rfl (by omega) (by omega) rfl (pc2 := 76) ?_
          have b62 := GI.b hg 33 5 kd33 (lo := 0) (hi := 16) rfl
          have q63 : (τ58.1 33 5) = (σ.1 33 5) := ((FR.at f60 33 5 rfl).trans (FR.at f5 33 5 rfl))
          refine wp_use (m_61_r33 τ58 g59 0 (by omega) (by omega)  _ _ (by omega) (by omega)) ?_
          rintro _ τ65 ⟨rfl, g66, f67, p64⟩
          show WP 60 76 [(0, .ref 12), (1, .ref 20), (2, .ref 33), (3, iV z21)] [] _ _ _ _
          refine wp_ic jF_60_76 rfl (pc2 := 77) ?_
          refine wp_is2 (lv2 := [(0, .ref 12), (1, .ref 20), (2, .ref 33), (3, iV z21), (4, iV 0)]) jF_60_77 rfl rfl rfl (pc2 := 79) ?_
          refine wp_loop (α := Int) (fun a => [(0, .ref 12), (1, .ref 20), (2, .ref 33), (3, iV z21), (4, iV (a))]) (fun a τ => (0 ≤ a ∧ a ≤ 3) ∧ GI τ ∧ FR WQ33 τ65 τ ∧ ((τ.1 33 5) = (σ.1 33 5))) (fun a τ => Int.toNat (3 - (a))) (0) τ65 ?_ ?_
          · skip
            have b68 := GI.b g66 33 5 kd33 (lo := 0) (hi := 16) rfl
            exact ⟨⟨by omega, by omega⟩, g66, FR.rf, (by omega)⟩
          · rintro x69 τ71 ⟨h70, g72, f73, p74⟩ ih75
            have b76 := GI.b g72 33 5 kd33 (lo := 0) (hi := 16) rfl
            show WP 60 79 [(0, .ref 12), (1, .ref 20), (2, .ref 33), (3, iV z21), (4, iV x69)] [] _ _ _ _
            show WP 60 79 [(0, .ref 12), (1, .ref 20), (2, .ref 33), (3, iV z21), (4, iV x69)] [] _ _ _ _
            refine wp_il2 jF_60_79 rfl rfl (pc2 := 81) ?_
            refine wp_ic jF_60_81 rfl (pc2 := 82) ?_
            refine wp_i_ge jF_60_82 (m_rgb h70 rfl) (m_rgl rfl) rfl (pc2 := 85) ?_ ?_
            · intro h77
              refine wp_ic jF_60_104 rfl (pc2 := 105) ?_
              refine wp_ri jF_60_105 rfl ?_
              exact ⟨1, rfl, ⟨by omega, by omega⟩, g72, (FR.up (FR.up (FR.up (FR.up FR.rf f5 sb_Wtp_WQ33) f60 sb_Wtp_WQ33) f67 sb_WT33_WQ33) f73 sb_WQ33_WQ33), (by omega)⟩
            · intro h77
              refine wp_al1 jF_60_85 rfl rfl (pc2 := 86) ?_
              refine wp_al1 jF_60_86 rfl rfl (pc2 := 87) ?_
              refine wp_al1 jF_60_87 rfl rfl (pc2 := 88) ?_
              refine wp_il2 jF_60_88 rfl rfl (pc2 := 90) ?_
              refine wp_cV (as := [.ref 20, .ref 33, iV x69]) (rest := []) (a := 12) (mx := 6) (ci := 9) jF_60_90 kd12 (by decide) rfl rfl rfl rfl rfl (by omega) (by omega) rfl (pc2 := 93) ?_
              refine wp_use (m_62_r12_20_33 τ71 g72 x69 (by omega) (by omega)  _ _ (by omega) (by omega)) ?_
              rintro _ τ79 ⟨z82, rfl, h83, g80, f81, p78⟩
              show WP 60 93 [(0, .ref 12), (1, .ref 20), (2, .ref 33), (3, iV z21), (4, iV x69)] [iV z82] _ _ _ _
              refine wp_z_ne jF_60_93 (m_rgb h83 rfl) rfl (pc2 := 96) ?_ ?_
              · intro h84
                refine wp_inc (lv2 := [(0, .ref 12), (1, .ref 20), (2, .ref 33), (3, iV z21), (4, iV (x69 + 1))]) jF_60_98 rfl rfl rfl rfl (pc2 := 101) ?_
                refine wp_go jF_60_101 ?_
                have b85 := GI.b g80 33 5 kd33 (lo := 0) (hi := 16) rfl
                exact ih75 ((x69 + 1)) τ79 ⟨⟨by omega, by omega⟩, g80, (FR.up f73 f81 sb_WQ33_WQ33), (by omega)⟩ (by show Int.toNat (3 - (x69 + 1)) < Int.toNat (3 - x69); omega)
              · intro h84
                refine wp_ic jF_60_96 rfl (pc2 := 97) ?_
                refine wp_ri jF_60_97 rfl ?_
                have b86 := GI.b g80 33 5 kd33 (lo := 0) (hi := 16) rfl
                exact ⟨0, rfl, ⟨by omega, by omega⟩, g80, (FR.up (FR.up (FR.up (FR.up (FR.up FR.rf f5 sb_Wtp_WQ33) f60 sb_Wtp_WQ33) f67 sb_WT33_WQ33) f73 sb_WQ33_WQ33) f81 sb_WQ33_WQ33), (by omega)⟩
        · intro h61; exfalso; omega
      · intro h55
        refine wp_al1 jF_60_38 rfl rfl (pc2 := 39) ?_
        refine wp_gr (b := 10) jF_60_39 kd12 (by decide) (c := 110) rfl rfl rfl (pc2 := 42) ?_
        refine wp_ic jF_60_42 rfl (pc2 := 43) ?_
        refine wp_al1 jF_60_43 rfl rfl (pc2 := 44) ?_
        refine wp_gr (b := 10) jF_60_44 kd12 (by decide) (c := 110) rfl rfl rfl (pc2 := 47) ?_
        have b87 := GI.b g4 10 2 kd10 (lo := 0) (hi := 1600) rfl
        refine wp_gi jF_60_47 kd10 (by decide) rfl rfl rfl (pc2 := 50) ?_
        refine wp_cV (as := [iV 1, iV (τ3.1 10 2)]) (rest := []) (a := 10) (mx := 3) (ci := 6) jF_60_50 kd10 (by decide) rfl rfl rfl rfl rfl (by omega) (by omega) rfl (pc2 := 53) ?_
        refine wp_use (m_42_r10 τ3 g4 1 (by omega) (by omega) (τ3.1 10 2) (by omega) (by omega)  _ _ (by omega) (by omega)) ?_
        rintro _ τ88 ⟨z91, rfl, h92, g89, f90⟩
        show WP 60 53 [(0, .ref 12), (1, .ref 20), (2, .ref 33), (3, iV z21)] [iV z91] _ _ _ _
        refine wp_ri jF_60_53 (m_fitb (by omega) (by omega)) ?_
        have b93 := GI.b hg 33 5 kd33 (lo := 0) (hi := 16) rfl
        have q94 : (τ88.1 33 5) = (σ.1 33 5) := ((FR.at f90 33 5 rfl).trans (FR.at f5 33 5 rfl))
        exact ⟨z91, rfl, ⟨by omega, by omega⟩, g89, (FR.up (FR.up FR.rf f5 sb_Wtp_WQ33) f90 sb_Wtp_WQ33), (by omega)⟩
set_option maxHeartbeats 4000000 in
set_option maxRecDepth 20000 in
/-- TongueReader.takesOne -/
theorem m_62_r12_20_39 (σ : jM) (hg : GI σ) (sort : Int) (hl_sort : 0 ≤ sort) (hu_sort : sort ≤ 2)  (fr lo : Nat) (hfr : 3 ≤ fr) (hlo : 63 ≤ lo) : WP 62 0 (lv_args 0 [.ref 12, .ref 20, .ref 39, iV sort]) [] fr lo σ (fun v τ => ∃ z : Int, v = some (iV z) ∧ (0 ≤ z ∧ z ≤ 1) ∧ GI τ ∧ FR WQ39 σ τ ∧ ((τ.1 39 5) = (σ.1 39 5))) := by
  show WP 62 0 [(0, .ref 12), (1, .ref 20), (2, .ref 39), (3, iV sort)] [] _ _ _ _
  refine wp_al1 jF_62_0 rfl rfl (pc2 := 1) ?_
  refine wp_gr (b := 10) jF_62_1 kd12 (by decide) (c := 110) rfl rfl rfl (pc2 := 4) ?_
  refine wp_cV (as := []) (rest := []) (a := 10) (mx := 2) (ci := 6) jF_62_4 kd10 (by decide) rfl rfl rfl rfl rfl (by omega) (by omega) rfl (pc2 := 7) ?_
  have b1 := GI.b hg 10 1 kd10 (lo := 0) (hi := 1600) rfl
  refine wp_use (m_37_r10 σ hg   _ _ (by omega) (by omega)) ?_
  rintro _ τ3 ⟨z6, rfl, h7, g4, f5, p2⟩
  show WP 62 7 [(0, .ref 12), (1, .ref 20), (2, .ref 39), (3, iV sort)] [iV z6] _ _ _ _
  refine wp_z_eq jF_62_7 (m_rgb h7 rfl) rfl (pc2 := 10) ?_ ?_
  · intro h8
    clear p2
    refine wp_al1 jF_62_41 rfl rfl (pc2 := 42) ?_
    refine wp_gr (b := 10) jF_62_42 kd12 (by decide) (c := 110) rfl rfl rfl (pc2 := 45) ?_
    refine wp_al1 jF_62_45 rfl rfl (pc2 := 46) ?_
    refine wp_gr (b := 13) jF_62_46 kd12 (by decide) (c := 113) rfl rfl rfl (pc2 := 49) ?_
    refine wp_cV (as := [.ref 13]) (rest := []) (a := 10) (mx := 2) (ci := 6) jF_62_49 kd10 (by decide) rfl rfl rfl rfl rfl (by omega) (by omega) rfl (pc2 := 52) ?_
    refine wp_use (m_49_r10_13 τ3 g4   _ _ (by omega) (by omega)) ?_
    rintro _ τ9 ⟨z12, rfl, h13, g10, f11⟩
    show WP 62 52 [(0, .ref 12), (1, .ref 20), (2, .ref 39), (3, iV sort)] [iV z12] _ _ _ _
    refine wp_z_ne jF_62_52 (m_rgb h13 rfl) rfl (pc2 := 55) ?_ ?_
    · intro h14
      refine wp_al1 jF_62_57 rfl rfl (pc2 := 58) ?_
      refine wp_al1 jF_62_58 rfl rfl (pc2 := 59) ?_
      refine wp_gr (b := 10) jF_62_59 kd12 (by decide) (c := 110) rfl rfl rfl (pc2 := 62) ?_
      have b15 := GI.b g10 10 7 kd10 (lo := (-2147483648)) (hi := 2147483647) rfl
      refine wp_gi jF_62_62 kd10 (by decide) rfl rfl rfl (pc2 := 65) ?_
      refine wp_cV (as := [iV (τ9.1 10 7)]) (rest := []) (a := 20) (mx := 3) (ci := 8) jF_62_65 kd20 (by decide) rfl rfl rfl rfl rfl (by omega) (by omega) rfl (pc2 := 68) ?_
      refine wp_use (m_50_r20 τ9 g10 (τ9.1 10 7) (by omega) (by omega)  _ _ (by omega) (by omega)) ?_
      rintro _ _ ⟨z18, rfl, h19, rfl⟩
      show WP 62 68 [(0, .ref 12), (1, .ref 20), (2, .ref 39), (3, iV sort)] [iV z18] _ _ _ _
      refine wp_is2 (lv2 := [(0, .ref 12), (1, .ref 20), (2, .ref 39), (3, iV sort), (4, iV z18)]) jF_62_68 rfl rfl rfl (pc2 := 70) ?_
      refine wp_il1 jF_62_70 rfl rfl (pc2 := 71) ?_
      refine wp_ic jF_62_71 rfl (pc2 := 72) ?_
      refine wp_mul jF_62_72 rfl (pc2 := 73) ?_
      refine wp_is2 (lv2 := [(0, .ref 12), (1, .ref 20), (2, .ref 39), (3, iV sort), (4, iV z18), (5, iV (sort * 4))]) jF_62_73 rfl rfl rfl (pc2 := 75) ?_
      refine wp_il2 jF_62_75 rfl rfl (pc2 := 77) ?_
      refine wp_il2 jF_62_77 rfl rfl (pc2 := 79) ?_
      refine wp_i_lt jF_62_79 (m_rgb h19 rfl) ⟨by omega, by omega⟩ rfl (pc2 := 82) ?_ ?_
      · intro h20
        refine wp_al1 jF_62_91 rfl rfl (pc2 := 92) ?_
        refine wp_gr (b := 10) jF_62_92 kd12 (by decide) (c := 110) rfl rfl rfl (pc2 := 95) ?_
        refine wp_ic jF_62_95 rfl (pc2 := 96) ?_
        refine wp_al1 jF_62_96 rfl rfl (pc2 := 97) ?_
        refine wp_gr (b := 10) jF_62_97 kd12 (by decide) (c := 110) rfl rfl rfl (pc2 := 100) ?_
        have b21 := GI.b g10 10 5 kd10 (lo := 0) (hi := 1600) rfl
        refine wp_gi jF_62_100 kd10 (by decide) rfl rfl rfl (pc2 := 103) ?_
        refine wp_cV (as := [iV 3, iV (τ9.1 10 5)]) (rest := []) (a := 10) (mx := 3) (ci := 6) jF_62_103 kd10 (by decide) rfl rfl rfl rfl rfl (by omega) (by omega) rfl (pc2 := 106) ?_
        refine wp_use (m_42_r10 τ9 g10 3 (by omega) (by omega) (τ9.1 10 5) (by omega) (by omega)  _ _ (by omega) (by omega)) ?_
        rintro _ τ22 ⟨z25, rfl, h26, g23, f24⟩
        show WP 62 106 [(0, .ref 12), (1, .ref 20), (2, .ref 39), (3, iV sort), (4, iV z18), (5, iV (sort * 4))] [iV z25] _ _ _ _
        refine wp_ri jF_62_106 (m_fitb (by omega) (by omega)) ?_
        have b27 := GI.b hg 39 5 kd39 (lo := 0) (hi := 16) rfl
        have q28 : (τ22.1 39 5) = (σ.1 39 5) := ((FR.at f24 39 5 rfl).trans ((FR.at f11 39 5 rfl).trans (FR.at f5 39 5 rfl)))
        exact ⟨z25, rfl, ⟨by omega, by omega⟩, g23, (FR.up (FR.up (FR.up FR.rf f5 sb_Wtp_WQ39) f11 sb_Wtp_WQ39) f24 sb_Wtp_WQ39), (by omega)⟩
      · intro h20
        refine wp_il2 jF_62_82 rfl rfl (pc2 := 84) ?_
        refine wp_il2 jF_62_84 rfl rfl (pc2 := 86) ?_
        refine wp_ic jF_62_86 rfl (pc2 := 87) ?_
        refine wp_add jF_62_87 rfl (pc2 := 88) ?_
        refine wp_i_lt jF_62_88 ⟨by omega, by omega⟩ ⟨by omega, by omega⟩ rfl (pc2 := 91) ?_ ?_
        · intro h29
          refine wp_al1 jF_62_107 rfl rfl (pc2 := 108) ?_
          refine wp_il1 jF_62_108 rfl rfl (pc2 := 109) ?_
          refine wp_il2 jF_62_109 rfl rfl (pc2 := 111) ?_
          refine wp_cV (as := [iV sort, iV z18]) (rest := []) (a := 39) (mx := 4) (ci := 7) jF_62_111 kd39 (by decide) rfl rfl rfl rfl rfl (by omega) (by omega) rfl (pc2 := 114) ?_
          have b30 := GI.b hg 39 5 kd39 (lo := 0) (hi := 16) rfl
          have q31 : (τ9.1 39 5) = (σ.1 39 5) := ((FR.at f11 39 5 rfl).trans (FR.at f5 39 5 rfl))
          refine wp_use (m_63_r39 τ9 g10 sort (by omega) (by omega) z18 (by omega) (by omega)  _ _ (by omega) (by omega)) ?_
          rintro _ τ33 ⟨rfl, g34, f35, p32⟩
          show WP 62 114 [(0, .ref 12), (1, .ref 20), (2, .ref 39), (3, iV sort), (4, iV z18), (5, iV (sort * 4))] [] _ _ _ _
          refine wp_ic jF_62_114 rfl (pc2 := 115) ?_
          refine wp_ri jF_62_115 rfl ?_
          have b36 := GI.b g34 39 5 kd39 (lo := 0) (hi := 16) rfl
          exact ⟨1, rfl, ⟨by omega, by omega⟩, g34, (FR.up (FR.up (FR.up FR.rf f5 sb_Wtp_WQ39) f11 sb_Wtp_WQ39) f35 sb_WT39_WQ39), (by omega)⟩
        · intro h29
          refine wp_al1 jF_62_91 rfl rfl (pc2 := 92) ?_
          refine wp_gr (b := 10) jF_62_92 kd12 (by decide) (c := 110) rfl rfl rfl (pc2 := 95) ?_
          refine wp_ic jF_62_95 rfl (pc2 := 96) ?_
          refine wp_al1 jF_62_96 rfl rfl (pc2 := 97) ?_
          refine wp_gr (b := 10) jF_62_97 kd12 (by decide) (c := 110) rfl rfl rfl (pc2 := 100) ?_
          have b37 := GI.b g10 10 5 kd10 (lo := 0) (hi := 1600) rfl
          refine wp_gi jF_62_100 kd10 (by decide) rfl rfl rfl (pc2 := 103) ?_
          refine wp_cV (as := [iV 3, iV (τ9.1 10 5)]) (rest := []) (a := 10) (mx := 3) (ci := 6) jF_62_103 kd10 (by decide) rfl rfl rfl rfl rfl (by omega) (by omega) rfl (pc2 := 106) ?_
          refine wp_use (m_42_r10 τ9 g10 3 (by omega) (by omega) (τ9.1 10 5) (by omega) (by omega)  _ _ (by omega) (by omega)) ?_
          rintro _ τ38 ⟨z41, rfl, h42, g39, f40⟩
          show WP 62 106 [(0, .ref 12), (1, .ref 20), (2, .ref 39), (3, iV sort), (4, iV z18), (5, iV (sort * 4))] [iV z41] _ _ _ _
          refine wp_ri jF_62_106 (m_fitb (by omega) (by omega)) ?_
          have b43 := GI.b hg 39 5 kd39 (lo := 0) (hi := 16) rfl
          have q44 : (τ38.1 39 5) = (σ.1 39 5) := ((FR.at f40 39 5 rfl).trans ((FR.at f11 39 5 rfl).trans (FR.at f5 39 5 rfl)))
          exact ⟨z41, rfl, ⟨by omega, by omega⟩, g39, (FR.up (FR.up (FR.up FR.rf f5 sb_Wtp_WQ39) f11 sb_Wtp_WQ39) f40 sb_Wtp_WQ39), (by omega)⟩
    · intro h14
      refine wp_ic jF_62_55 rfl (pc2 := 56) ?_
      refine wp_ri jF_62_56 rfl ?_
      have b45 := GI.b hg 39 5 kd39 (lo := 0) (hi := 16) rfl
      have q46 : (τ9.1 39 5) = (σ.1 39 5) := ((FR.at f11 39 5 rfl).trans (FR.at f5 39 5 rfl))
      exact ⟨0, rfl, ⟨by omega, by omega⟩, g10, (FR.up (FR.up FR.rf f5 sb_Wtp_WQ39) f11 sb_Wtp_WQ39), (by omega)⟩
  · intro h8
    replace p2 := p2 (by omega)
    refine wp_al1 jF_62_10 rfl rfl (pc2 := 11) ?_
    refine wp_gr (b := 10) jF_62_11 kd12 (by decide) (c := 110) rfl rfl rfl (pc2 := 14) ?_
    refine wp_al1 jF_62_14 rfl rfl (pc2 := 15) ?_
    refine wp_gr (b := 13) jF_62_15 kd12 (by decide) (c := 113) rfl rfl rfl (pc2 := 18) ?_
    refine wp_cV (as := [.ref 13]) (rest := []) (a := 10) (mx := 3) (ci := 6) jF_62_18 kd10 (by decide) rfl rfl rfl rfl rfl (by omega) (by omega) rfl (pc2 := 21) ?_
    refine wp_use (m_41_r10_13 τ3 g4   _ _ (by omega) (by omega)) ?_
    rintro _ _ ⟨z49, rfl, h50, rfl⟩
    show WP 62 21 [(0, .ref 12), (1, .ref 20), (2, .ref 39), (3, iV sort)] [iV z49] _ _ _ _
    refine wp_bi jF_62_21 (by decide) rfl (pc2 := 23) ?_
    refine wp_i_ne jF_62_23 (m_rgb h50 rfl) (m_rgl rfl) rfl (pc2 := 26) ?_ ?_
    · intro h51
      refine wp_al1 jF_62_41 rfl rfl (pc2 := 42) ?_
      refine wp_gr (b := 10) jF_62_42 kd12 (by decide) (c := 110) rfl rfl rfl (pc2 := 45) ?_
      refine wp_al1 jF_62_45 rfl rfl (pc2 := 46) ?_
      refine wp_gr (b := 13) jF_62_46 kd12 (by decide) (c := 113) rfl rfl rfl (pc2 := 49) ?_
      refine wp_cV (as := [.ref 13]) (rest := []) (a := 10) (mx := 2) (ci := 6) jF_62_49 kd10 (by decide) rfl rfl rfl rfl rfl (by omega) (by omega) rfl (pc2 := 52) ?_
      refine wp_use (m_49_r10_13 τ3 g4   _ _ (by omega) (by omega)) ?_
      rintro _ τ52 ⟨z55, rfl, h56, g53, f54⟩
      show WP 62 52 [(0, .ref 12), (1, .ref 20), (2, .ref 39), (3, iV sort)] [iV z55] _ _ _ _
      refine wp_z_ne jF_62_52 (m_rgb h56 rfl) rfl (pc2 := 55) ?_ ?_
      · intro h57
        refine wp_al1 jF_62_57 rfl rfl (pc2 := 58) ?_
        refine wp_al1 jF_62_58 rfl rfl (pc2 := 59) ?_
        refine wp_gr (b := 10) jF_62_59 kd12 (by decide) (c := 110) rfl rfl rfl (pc2 := 62) ?_
        have b58 := GI.b g53 10 7 kd10 (lo := (-2147483648)) (hi := 2147483647) rfl
        refine wp_gi jF_62_62 kd10 (by decide) rfl rfl rfl (pc2 := 65) ?_
        refine wp_cV (as := [iV (τ52.1 10 7)]) (rest := []) (a := 20) (mx := 3) (ci := 8) jF_62_65 kd20 (by decide) rfl rfl rfl rfl rfl (by omega) (by omega) rfl (pc2 := 68) ?_
        refine wp_use (m_50_r20 τ52 g53 (τ52.1 10 7) (by omega) (by omega)  _ _ (by omega) (by omega)) ?_
        rintro _ _ ⟨z61, rfl, h62, rfl⟩
        show WP 62 68 [(0, .ref 12), (1, .ref 20), (2, .ref 39), (3, iV sort)] [iV z61] _ _ _ _
        refine wp_is2 (lv2 := [(0, .ref 12), (1, .ref 20), (2, .ref 39), (3, iV sort), (4, iV z61)]) jF_62_68 rfl rfl rfl (pc2 := 70) ?_
        refine wp_il1 jF_62_70 rfl rfl (pc2 := 71) ?_
        refine wp_ic jF_62_71 rfl (pc2 := 72) ?_
        refine wp_mul jF_62_72 rfl (pc2 := 73) ?_
        refine wp_is2 (lv2 := [(0, .ref 12), (1, .ref 20), (2, .ref 39), (3, iV sort), (4, iV z61), (5, iV (sort * 4))]) jF_62_73 rfl rfl rfl (pc2 := 75) ?_
        refine wp_il2 jF_62_75 rfl rfl (pc2 := 77) ?_
        refine wp_il2 jF_62_77 rfl rfl (pc2 := 79) ?_
        refine wp_i_lt jF_62_79 (m_rgb h62 rfl) ⟨by omega, by omega⟩ rfl (pc2 := 82) ?_ ?_
        · intro h63
          refine wp_al1 jF_62_91 rfl rfl (pc2 := 92) ?_
          refine wp_gr (b := 10) jF_62_92 kd12 (by decide) (c := 110) rfl rfl rfl (pc2 := 95) ?_
          refine wp_ic jF_62_95 rfl (pc2 := 96) ?_
          refine wp_al1 jF_62_96 rfl rfl (pc2 := 97) ?_
          refine wp_gr (b := 10) jF_62_97 kd12 (by decide) (c := 110) rfl rfl rfl (pc2 := 100) ?_
          have b64 := GI.b g53 10 5 kd10 (lo := 0) (hi := 1600) rfl
          refine wp_gi jF_62_100 kd10 (by decide) rfl rfl rfl (pc2 := 103) ?_
          refine wp_cV (as := [iV 3, iV (τ52.1 10 5)]) (rest := []) (a := 10) (mx := 3) (ci := 6) jF_62_103 kd10 (by decide) rfl rfl rfl rfl rfl (by omega) (by omega) rfl (pc2 := 106) ?_
          refine wp_use (m_42_r10 τ52 g53 3 (by omega) (by omega) (τ52.1 10 5) (by omega) (by omega)  _ _ (by omega) (by omega)) ?_
          rintro _ τ65 ⟨z68, rfl, h69, g66, f67⟩
          show WP 62 106 [(0, .ref 12), (1, .ref 20), (2, .ref 39), (3, iV sort), (4, iV z61), (5, iV (sort * 4))] [iV z68] _ _ _ _
          refine wp_ri jF_62_106 (m_fitb (by omega) (by omega)) ?_
          have b70 := GI.b hg 39 5 kd39 (lo := 0) (hi := 16) rfl
          have q71 : (τ65.1 39 5) = (σ.1 39 5) := ((FR.at f67 39 5 rfl).trans ((FR.at f54 39 5 rfl).trans (FR.at f5 39 5 rfl)))
          exact ⟨z68, rfl, ⟨by omega, by omega⟩, g66, (FR.up (FR.up (FR.up FR.rf f5 sb_Wtp_WQ39) f54 sb_Wtp_WQ39) f67 sb_Wtp_WQ39), (by omega)⟩
        · intro h63
          refine wp_il2 jF_62_82 rfl rfl (pc2 := 84) ?_
          refine wp_il2 jF_62_84 rfl rfl (pc2 := 86) ?_
          refine wp_ic jF_62_86 rfl (pc2 := 87) ?_
          refine wp_add jF_62_87 rfl (pc2 := 88) ?_
          refine wp_i_lt jF_62_88 ⟨by omega, by omega⟩ ⟨by omega, by omega⟩ rfl (pc2 := 91) ?_ ?_
          · intro h72
            refine wp_al1 jF_62_107 rfl rfl (pc2 := 108) ?_
            refine wp_il1 jF_62_108 rfl rfl (pc2 := 109) ?_
            refine wp_il2 jF_62_109 rfl rfl (pc2 := 111) ?_
            refine wp_cV (as := [iV sort, iV z61]) (rest := []) (a := 39) (mx := 4) (ci := 7) jF_62_111 kd39 (by decide) rfl rfl rfl rfl rfl (by omega) (by omega) rfl (pc2 := 114) ?_
            have b73 := GI.b hg 39 5 kd39 (lo := 0) (hi := 16) rfl
            have q74 : (τ52.1 39 5) = (σ.1 39 5) := ((FR.at f54 39 5 rfl).trans (FR.at f5 39 5 rfl))
            refine wp_use (m_63_r39 τ52 g53 sort (by omega) (by omega) z61 (by omega) (by omega)  _ _ (by omega) (by omega)) ?_
            rintro _ τ76 ⟨rfl, g77, f78, p75⟩
            show WP 62 114 [(0, .ref 12), (1, .ref 20), (2, .ref 39), (3, iV sort), (4, iV z61), (5, iV (sort * 4))] [] _ _ _ _
            refine wp_ic jF_62_114 rfl (pc2 := 115) ?_
            refine wp_ri jF_62_115 rfl ?_
            have b79 := GI.b g77 39 5 kd39 (lo := 0) (hi := 16) rfl
            exact ⟨1, rfl, ⟨by omega, by omega⟩, g77, (FR.up (FR.up (FR.up FR.rf f5 sb_Wtp_WQ39) f54 sb_Wtp_WQ39) f78 sb_WT39_WQ39), (by omega)⟩
          · intro h72
            refine wp_al1 jF_62_91 rfl rfl (pc2 := 92) ?_
            refine wp_gr (b := 10) jF_62_92 kd12 (by decide) (c := 110) rfl rfl rfl (pc2 := 95) ?_
            refine wp_ic jF_62_95 rfl (pc2 := 96) ?_
            refine wp_al1 jF_62_96 rfl rfl (pc2 := 97) ?_
            refine wp_gr (b := 10) jF_62_97 kd12 (by decide) (c := 110) rfl rfl rfl (pc2 := 100) ?_
            have b80 := GI.b g53 10 5 kd10 (lo := 0) (hi := 1600) rfl
            refine wp_gi jF_62_100 kd10 (by decide) rfl rfl rfl (pc2 := 103) ?_
            refine wp_cV (as := [iV 3, iV (τ52.1 10 5)]) (rest := []) (a := 10) (mx := 3) (ci := 6) jF_62_103 kd10 (by decide) rfl rfl rfl rfl rfl (by omega) (by omega) rfl (pc2 := 106) ?_
            refine wp_use (m_42_r10 τ52 g53 3 (by omega) (by omega) (τ52.1 10 5) (by omega) (by omega)  _ _ (by omega) (by omega)) ?_
            rintro _ τ81 ⟨z84, rfl, h85, g82, f83⟩
            show WP 62 106 [(0, .ref 12), (1, .ref 20), (2, .ref 39), (3, iV sort), (4, iV z61), (5, iV (sort * 4))] [iV z84] _ _ _ _
            refine wp_ri jF_62_106 (m_fitb (by omega) (by omega)) ?_
            have b86 := GI.b hg 39 5 kd39 (lo := 0) (hi := 16) rfl
            have q87 : (τ81.1 39 5) = (σ.1 39 5) := ((FR.at f83 39 5 rfl).trans ((FR.at f54 39 5 rfl).trans (FR.at f5 39 5 rfl)))
            exact ⟨z84, rfl, ⟨by omega, by omega⟩, g82, (FR.up (FR.up (FR.up FR.rf f5 sb_Wtp_WQ39) f54 sb_Wtp_WQ39) f83 sb_Wtp_WQ39), (by omega)⟩
      · intro h57
        refine wp_ic jF_62_55 rfl (pc2 := 56) ?_
        refine wp_ri jF_62_56 rfl ?_
        have b88 := GI.b hg 39 5 kd39 (lo := 0) (hi := 16) rfl
        have q89 : (τ52.1 39 5) = (σ.1 39 5) := ((FR.at f54 39 5 rfl).trans (FR.at f5 39 5 rfl))
        exact ⟨0, rfl, ⟨by omega, by omega⟩, g53, (FR.up (FR.up FR.rf f5 sb_Wtp_WQ39) f54 sb_Wtp_WQ39), (by omega)⟩
    · intro h51
      refine wp_al1 jF_62_26 rfl rfl (pc2 := 27) ?_
      refine wp_gr (b := 10) jF_62_27 kd12 (by decide) (c := 110) rfl rfl rfl (pc2 := 30) ?_
      refine wp_cV (as := []) (rest := []) (a := 10) (mx := 1) (ci := 6) jF_62_30 kd10 (by decide) rfl rfl rfl rfl rfl (by omega) (by omega) rfl (pc2 := 33) ?_
      have b90 := GI.b g4 10 5 kd10 (lo := 0) (hi := 1600) rfl
      have b91 := GI.b g4 10 6 kd10 (lo := 0) (hi := 1600) rfl
      refine wp_use (m_45_r10 τ3 g4  (by omega) _ _ (by omega) (by omega)) ?_
      rintro _ τ92 ⟨rfl, g93, f94⟩
      show WP 62 33 [(0, .ref 12), (1, .ref 20), (2, .ref 39), (3, iV sort)] [] _ _ _ _
      refine wp_al1 jF_62_33 rfl rfl (pc2 := 34) ?_
      refine wp_il1 jF_62_34 rfl rfl (pc2 := 35) ?_
      refine wp_ic jF_62_35 rfl (pc2 := 36) ?_
      refine wp_cV (as := [iV sort, iV (-1)]) (rest := []) (a := 39) (mx := 4) (ci := 7) jF_62_36 kd39 (by decide) rfl rfl rfl rfl rfl (by omega) (by omega) rfl (pc2 := 39) ?_
      have b95 := GI.b hg 39 5 kd39 (lo := 0) (hi := 16) rfl
      have q96 : (τ92.1 39 5) = (σ.1 39 5) := ((FR.at f94 39 5 rfl).trans (FR.at f5 39 5 rfl))
      refine wp_use (m_63_r39 τ92 g93 sort (by omega) (by omega) (-1) (by omega) (by omega)  _ _ (by omega) (by omega)) ?_
      rintro _ τ98 ⟨rfl, g99, f100, p97⟩
      show WP 62 39 [(0, .ref 12), (1, .ref 20), (2, .ref 39), (3, iV sort)] [] _ _ _ _
      refine wp_ic jF_62_39 rfl (pc2 := 40) ?_
      refine wp_ri jF_62_40 rfl ?_
      have b101 := GI.b g99 39 5 kd39 (lo := 0) (hi := 16) rfl
      exact ⟨1, rfl, ⟨by omega, by omega⟩, g99, (FR.up (FR.up (FR.up FR.rf f5 sb_Wtp_WQ39) f94 sb_Wtp_WQ39) f100 sb_WT39_WQ39), (by omega)⟩
