set_option maxHeartbeats 4000000 in
set_option maxRecDepth 20000 in
/-- M.newParty -/
theorem m_233 (σ : jM) (hg : GI σ) (begun : Int) (hl_begun : (-2147483648) ≤ begun) (hu_begun : begun ≤ 2147483647)  (fr lo : Nat) (hfr : 5 ≤ fr) (hlo : 108 ≤ lo) : WP 233 0 (lv_args 0 [.ref 117, iV begun]) [] fr lo σ (fun v τ => v = none ∧ GI τ ∧ FR Wnp σ τ ∧ ((σ.1 117 2) ≤ (τ.1 117 2)) ∧ ((σ.1 117 5) ≠ 0 → (τ.1 117 5) = (σ.1 117 5)) ∧ ((τ.1 117 5) = 0 → (σ.1 117 5) = 0)) := by
  show WP 233 0 [(0, .ref 117), (1, iV begun)] [] _ _ _ _
  refine wp_al1 jF_233_0 rfl rfl (pc2 := 1) ?_
  have b1 := GI.b hg 117 5 kd117 (lo := (-2147483648)) (hi := 2147483647) rfl
  refine wp_gi jF_233_1 kd117 (by decide) rfl rfl rfl (pc2 := 4) ?_
  refine wp_z_ne jF_233_4 (m_rgb b1 rfl) rfl (pc2 := 7) ?_ ?_
  · intro h2
    refine wp_al1 jF_233_21 rfl rfl (pc2 := 22) ?_
    refine wp_cV (as := []) (rest := []) (a := 117) (mx := 3) (ci := 12) jF_233_22 kd117 (by decide) rfl rfl rfl rfl rfl (by omega) (by omega) rfl (pc2 := 25) ?_
    have b3 := GI.b hg 117 2 kd117 (lo := 0) (hi := 1601) rfl
    refine wp_use (m_224 σ hg   _ _ (by omega) (by omega)) ?_
    rintro _ τ7 ⟨y10, rfl, g8, f9, p4, p5, p6⟩
    replace p5 := p5 (by omega)
    show WP 233 25 [(0, .ref 117), (1, iV begun)] [.long y10] _ _ _ _
    refine wp_ls1 (lv2 := [(0, .ref 117), (1, iV begun), (2, .long y10)]) jF_233_25 rfl rfl rfl (pc2 := 26) ?_
    refine wp_al1 jF_233_26 rfl rfl (pc2 := 27) ?_
    refine wp_al1 jF_233_27 rfl rfl (pc2 := 28) ?_
    refine wp_gr (b := 126) jF_233_28 kd117 (by decide) (c := 226) rfl rfl rfl (pc2 := 31) ?_
    refine wp_cV (as := [.ref 126]) (rest := []) (a := 117) (mx := 2) (ci := 12) jF_233_31 kd117 (by decide) rfl rfl rfl rfl rfl (by omega) (by omega) rfl (pc2 := 34) ?_
    have b11 := GI.b g8 117 2 kd117 (lo := 0) (hi := 1601) rfl
    have b12 := GI.b hg 117 3 kd117 (lo := 0) (hi := 1600) rfl
    have q13 : (τ7.1 117 3) = (σ.1 117 3) := (FR.at f9 117 3 rfl)
    have b14 := GI.b g8 117 5 kd117 (lo := (-2147483648)) (hi := 2147483647) rfl
    refine wp_use (m_234 τ7 g8 126 5 cw126.1 cw126.2 (by decide)  _ _ (by omega) (by omega)) ?_
    rintro _ τ18 ⟨rfl, g19, f20, p15, p16, p17⟩
    show WP 233 34 [(0, .ref 117), (1, iV begun), (2, .long y10)] [] _ _ _ _
    refine wp_al1 jF_233_34 rfl rfl (pc2 := 35) ?_
    refine wp_ic jF_233_35 rfl (pc2 := 36) ?_
    refine wp_bi jF_233_36 (by decide) rfl (pc2 := 38) ?_
    refine wp_cV (as := [iV 1, iV 9]) (rest := []) (a := 117) (mx := 5) (ci := 12) jF_233_38 kd117 (by decide) rfl rfl rfl rfl rfl (by omega) (by omega) rfl (pc2 := 41) ?_
    have b21 := GI.b g19 117 2 kd117 (lo := 0) (hi := 1601) rfl
    have q22 : (τ18.1 117 3) = (σ.1 117 3) := ((FR.at f20 117 3 rfl).trans (FR.at f9 117 3 rfl))
    have b23 := GI.b g19 117 5 kd117 (lo := (-2147483648)) (hi := 2147483647) rfl
    refine wp_use (m_230 τ18 g19 1 (by omega) (by omega) 9 (by omega) (by omega)  _ _ (by omega) (by omega)) ?_
    rintro _ τ27 ⟨z30, rfl, h31, g28, f29, p24, p25, p26⟩
    show WP 233 41 [(0, .ref 117), (1, iV begun), (2, .long y10)] [iV z30] _ _ _ _
    refine wp_is2 (lv2 := [(0, .ref 117), (1, iV begun), (2, .long y10), (4, iV z30)]) jF_233_41 rfl rfl rfl (pc2 := 43) ?_
    refine wp_al1 jF_233_43 rfl rfl (pc2 := 44) ?_
    have b32 := GI.b g28 117 5 kd117 (lo := (-2147483648)) (hi := 2147483647) rfl
    refine wp_gi jF_233_44 kd117 (by decide) rfl rfl rfl (pc2 := 47) ?_
    refine wp_z_eq jF_233_47 (m_rgb b32 rfl) rfl (pc2 := 50) ?_ ?_
    · intro h33
      replace p26 := p26 (by omega)
      refine wp_al1 jF_233_51 rfl rfl (pc2 := 52) ?_
      refine wp_gr (b := 140) jF_233_52 kd117 (by decide) (c := 240) rfl rfl rfl (pc2 := 55) ?_
      refine wp_al1 jF_233_55 rfl rfl (pc2 := 56) ?_
      have b34 := GI.b hg 117 33 kd117 (lo := 0) (hi := 5) rfl
      refine wp_gi jF_233_56 kd117 (by decide) rfl ((FR.at f29 117 33 rfl).trans ((FR.at f20 117 33 rfl).trans (FR.at f9 117 33 rfl))) rfl (pc2 := 59) ?_
      refine wp_ll1 jF_233_59 rfl rfl (pc2 := 60) ?_
      refine wp_last (n := 10) jF_233_60 kd140 (by decide) rfl rfl (by omega) (by omega) rfl (pc2 := 61) g28 ?_
      intro τ35 g36 f37
      refine wp_al1 jF_233_61 rfl rfl (pc2 := 62) ?_
      refine wp_gr (b := 141) jF_233_62 kd117 (by decide) (c := 241) rfl rfl rfl (pc2 := 65) ?_
      refine wp_al1 jF_233_65 rfl rfl (pc2 := 66) ?_
      refine wp_gi jF_233_66 kd117 (by decide) rfl ((FRw.na f37 (by decide)).trans ((FR.at f29 117 33 rfl).trans ((FR.at f20 117 33 rfl).trans (FR.at f9 117 33 rfl)))) rfl (pc2 := 69) ?_
      refine wp_il2 jF_233_69 rfl rfl (pc2 := 71) ?_
      refine wp_iast (n := 10) jF_233_71 kd141 (by decide) rfl rfl (by omega) (by omega) rfl (pc2 := 72) g36 (lo := (-2147483648)) (hi := 2147483647) rfl (by omega) (by omega) ?_
      intro τ38 g39 f40 e41
      refine wp_al1 jF_233_72 rfl rfl (pc2 := 73) ?_
      refine wp_dup jF_233_73 rfl rfl (pc2 := 74) ?_
      refine wp_gi jF_233_74 kd117 (by decide) rfl ((FRw.na f40 (by decide)).trans ((FRw.na f37 (by decide)).trans ((FR.at f29 117 33 rfl).trans ((FR.at f20 117 33 rfl).trans (FR.at f9 117 33 rfl))))) rfl (pc2 := 77) ?_
      refine wp_ic jF_233_77 rfl (pc2 := 78) ?_
      refine wp_add jF_233_78 rfl (pc2 := 79) ?_
      refine wp_pi jF_233_79 kd117 (by decide) rfl rfl rfl (pc2 := 82) g39 (lo := 0) (hi := 5) rfl (by omega) (by omega) ?_
      intro τ42 g43 f44 e45
      refine wp_rv jF_233_82 ?_
      have b46 := GI.b g28 117 2 kd117 (lo := 0) (hi := 1601) rfl
      have q47 : (τ42.1 117 2) = (τ27.1 117 2) := ((FRw.nj f44 (by decide)).trans ((FRw.na f40 (by decide)).trans (FRw.na f37 (by decide))))
      have q48 : (τ42.1 117 5) = (τ27.1 117 5) := ((FRw.nj f44 (by decide)).trans ((FRw.na f40 (by decide)).trans (FRw.na f37 (by decide))))
      exact ⟨rfl, g43, (FR.w (FR.w (FR.w (FR.up (FR.up (FR.up FR.rf f9 sb_Wsp_Wnp) f20 sb_Wask_Wnp) f29 sb_Wask_Wnp) f37 rfl) f40 rfl) f44 rfl), (by omega), (by omega), (by omega)⟩
    · intro h33
      clear p26
      refine wp_rv jF_233_50 ?_
      have b49 := GI.b g28 117 2 kd117 (lo := 0) (hi := 1601) rfl
      exact ⟨rfl, g28, (FR.up (FR.up (FR.up FR.rf f9 sb_Wsp_Wnp) f20 sb_Wask_Wnp) f29 sb_Wask_Wnp), (by omega), (by omega), (by omega)⟩
  · intro h2
    refine wp_al1 jF_233_7 rfl rfl (pc2 := 8) ?_
    have b50 := GI.b hg 117 33 kd117 (lo := 0) (hi := 5) rfl
    refine wp_gi jF_233_8 kd117 (by decide) rfl rfl rfl (pc2 := 11) ?_
    refine wp_ic jF_233_11 rfl (pc2 := 12) ?_
    refine wp_i_ne jF_233_12 (m_rgb b50 rfl) (m_rgl rfl) rfl (pc2 := 15) ?_ ?_
    · intro h51
      refine wp_al1 jF_233_21 rfl rfl (pc2 := 22) ?_
      refine wp_cV (as := []) (rest := []) (a := 117) (mx := 3) (ci := 12) jF_233_22 kd117 (by decide) rfl rfl rfl rfl rfl (by omega) (by omega) rfl (pc2 := 25) ?_
      have b52 := GI.b hg 117 2 kd117 (lo := 0) (hi := 1601) rfl
      refine wp_use (m_224 σ hg   _ _ (by omega) (by omega)) ?_
      rintro _ τ56 ⟨y59, rfl, g57, f58, p53, p54, p55⟩
      clear p54
      show WP 233 25 [(0, .ref 117), (1, iV begun)] [.long y59] _ _ _ _
      refine wp_ls1 (lv2 := [(0, .ref 117), (1, iV begun), (2, .long y59)]) jF_233_25 rfl rfl rfl (pc2 := 26) ?_
      refine wp_al1 jF_233_26 rfl rfl (pc2 := 27) ?_
      refine wp_al1 jF_233_27 rfl rfl (pc2 := 28) ?_
      refine wp_gr (b := 126) jF_233_28 kd117 (by decide) (c := 226) rfl rfl rfl (pc2 := 31) ?_
      refine wp_cV (as := [.ref 126]) (rest := []) (a := 117) (mx := 2) (ci := 12) jF_233_31 kd117 (by decide) rfl rfl rfl rfl rfl (by omega) (by omega) rfl (pc2 := 34) ?_
      have b60 := GI.b g57 117 2 kd117 (lo := 0) (hi := 1601) rfl
      have b61 := GI.b hg 117 3 kd117 (lo := 0) (hi := 1600) rfl
      have q62 : (τ56.1 117 3) = (σ.1 117 3) := (FR.at f58 117 3 rfl)
      have b63 := GI.b g57 117 5 kd117 (lo := (-2147483648)) (hi := 2147483647) rfl
      refine wp_use (m_234 τ56 g57 126 5 cw126.1 cw126.2 (by decide)  _ _ (by omega) (by omega)) ?_
      rintro _ τ67 ⟨rfl, g68, f69, p64, p65, p66⟩
      show WP 233 34 [(0, .ref 117), (1, iV begun), (2, .long y59)] [] _ _ _ _
      refine wp_al1 jF_233_34 rfl rfl (pc2 := 35) ?_
      refine wp_ic jF_233_35 rfl (pc2 := 36) ?_
      refine wp_bi jF_233_36 (by decide) rfl (pc2 := 38) ?_
      refine wp_cV (as := [iV 1, iV 9]) (rest := []) (a := 117) (mx := 5) (ci := 12) jF_233_38 kd117 (by decide) rfl rfl rfl rfl rfl (by omega) (by omega) rfl (pc2 := 41) ?_
      have b70 := GI.b g68 117 2 kd117 (lo := 0) (hi := 1601) rfl
      have q71 : (τ67.1 117 3) = (σ.1 117 3) := ((FR.at f69 117 3 rfl).trans (FR.at f58 117 3 rfl))
      have b72 := GI.b g68 117 5 kd117 (lo := (-2147483648)) (hi := 2147483647) rfl
      refine wp_use (m_230 τ67 g68 1 (by omega) (by omega) 9 (by omega) (by omega)  _ _ (by omega) (by omega)) ?_
      rintro _ τ76 ⟨z79, rfl, h80, g77, f78, p73, p74, p75⟩
      show WP 233 41 [(0, .ref 117), (1, iV begun), (2, .long y59)] [iV z79] _ _ _ _
      refine wp_is2 (lv2 := [(0, .ref 117), (1, iV begun), (2, .long y59), (4, iV z79)]) jF_233_41 rfl rfl rfl (pc2 := 43) ?_
      refine wp_al1 jF_233_43 rfl rfl (pc2 := 44) ?_
      have b81 := GI.b g77 117 5 kd117 (lo := (-2147483648)) (hi := 2147483647) rfl
      refine wp_gi jF_233_44 kd117 (by decide) rfl rfl rfl (pc2 := 47) ?_
      refine wp_z_eq jF_233_47 (m_rgb b81 rfl) rfl (pc2 := 50) ?_ ?_
      · intro h82
        replace p75 := p75 (by omega)
        refine wp_al1 jF_233_51 rfl rfl (pc2 := 52) ?_
        refine wp_gr (b := 140) jF_233_52 kd117 (by decide) (c := 240) rfl rfl rfl (pc2 := 55) ?_
        refine wp_al1 jF_233_55 rfl rfl (pc2 := 56) ?_
        refine wp_gi jF_233_56 kd117 (by decide) rfl ((FR.at f78 117 33 rfl).trans ((FR.at f69 117 33 rfl).trans (FR.at f58 117 33 rfl))) rfl (pc2 := 59) ?_
        refine wp_ll1 jF_233_59 rfl rfl (pc2 := 60) ?_
        refine wp_last (n := 10) jF_233_60 kd140 (by decide) rfl rfl (by omega) (by omega) rfl (pc2 := 61) g77 ?_
        intro τ83 g84 f85
        refine wp_al1 jF_233_61 rfl rfl (pc2 := 62) ?_
        refine wp_gr (b := 141) jF_233_62 kd117 (by decide) (c := 241) rfl rfl rfl (pc2 := 65) ?_
        refine wp_al1 jF_233_65 rfl rfl (pc2 := 66) ?_
        refine wp_gi jF_233_66 kd117 (by decide) rfl ((FRw.na f85 (by decide)).trans ((FR.at f78 117 33 rfl).trans ((FR.at f69 117 33 rfl).trans (FR.at f58 117 33 rfl)))) rfl (pc2 := 69) ?_
        refine wp_il2 jF_233_69 rfl rfl (pc2 := 71) ?_
        refine wp_iast (n := 10) jF_233_71 kd141 (by decide) rfl rfl (by omega) (by omega) rfl (pc2 := 72) g84 (lo := (-2147483648)) (hi := 2147483647) rfl (by omega) (by omega) ?_
        intro τ86 g87 f88 e89
        refine wp_al1 jF_233_72 rfl rfl (pc2 := 73) ?_
        refine wp_dup jF_233_73 rfl rfl (pc2 := 74) ?_
        refine wp_gi jF_233_74 kd117 (by decide) rfl ((FRw.na f88 (by decide)).trans ((FRw.na f85 (by decide)).trans ((FR.at f78 117 33 rfl).trans ((FR.at f69 117 33 rfl).trans (FR.at f58 117 33 rfl))))) rfl (pc2 := 77) ?_
        refine wp_ic jF_233_77 rfl (pc2 := 78) ?_
        refine wp_add jF_233_78 rfl (pc2 := 79) ?_
        refine wp_pi jF_233_79 kd117 (by decide) rfl rfl rfl (pc2 := 82) g87 (lo := 0) (hi := 5) rfl (by omega) (by omega) ?_
        intro τ90 g91 f92 e93
        refine wp_rv jF_233_82 ?_
        have b94 := GI.b g77 117 2 kd117 (lo := 0) (hi := 1601) rfl
        have q95 : (τ90.1 117 2) = (τ76.1 117 2) := ((FRw.nj f92 (by decide)).trans ((FRw.na f88 (by decide)).trans (FRw.na f85 (by decide))))
        have q96 : (τ90.1 117 5) = (τ76.1 117 5) := ((FRw.nj f92 (by decide)).trans ((FRw.na f88 (by decide)).trans (FRw.na f85 (by decide))))
        exact ⟨rfl, g91, (FR.w (FR.w (FR.w (FR.up (FR.up (FR.up FR.rf f58 sb_Wsp_Wnp) f69 sb_Wask_Wnp) f78 sb_Wask_Wnp) f85 rfl) f88 rfl) f92 rfl), (by omega), (by omega), (by omega)⟩
      · intro h82
        clear p75
        refine wp_rv jF_233_50 ?_
        have b97 := GI.b g77 117 2 kd117 (lo := 0) (hi := 1601) rfl
        exact ⟨rfl, g77, (FR.up (FR.up (FR.up FR.rf f58 sb_Wsp_Wnp) f69 sb_Wask_Wnp) f78 sb_Wask_Wnp), (by omega), (by omega), (by omega)⟩
    · intro h51
      refine wp_al1 jF_233_15 rfl rfl (pc2 := 16) ?_
      refine wp_ic jF_233_16 rfl (pc2 := 17) ?_
      refine wp_il1 jF_233_17 rfl rfl (pc2 := 18) ?_
      refine wp_cV (as := [iV 5, iV begun]) (rest := []) (a := 117) (mx := 3) (ci := 12) jF_233_18 kd117 (by decide) rfl rfl rfl rfl rfl (by omega) (by omega) rfl (pc2 := 21) ?_
      refine wp_use (m_218 σ hg 5 (by omega) (by omega) begun (by omega) (by omega)  _ _ (by omega) (by omega)) ?_
      rintro _ τ100 ⟨rfl, g101, f102, p98, p99⟩
      clear p98
      replace p99 := p99 (by omega)
      show WP 233 21 [(0, .ref 117), (1, iV begun)] [] _ _ _ _
      refine wp_al1 jF_233_21 rfl rfl (pc2 := 22) ?_
      refine wp_cV (as := []) (rest := []) (a := 117) (mx := 3) (ci := 12) jF_233_22 kd117 (by decide) rfl rfl rfl rfl rfl (by omega) (by omega) rfl (pc2 := 25) ?_
      have b103 := GI.b hg 117 2 kd117 (lo := 0) (hi := 1601) rfl
      have q104 : (τ100.1 117 2) = (σ.1 117 2) := (FR.at f102 117 2 rfl)
      have b105 := GI.b g101 117 5 kd117 (lo := (-2147483648)) (hi := 2147483647) rfl
      refine wp_use (m_224 τ100 g101   _ _ (by omega) (by omega)) ?_
      rintro _ τ109 ⟨y112, rfl, g110, f111, p106, p107, p108⟩
      replace p107 := p107 (by omega)
      show WP 233 25 [(0, .ref 117), (1, iV begun)] [.long y112] _ _ _ _
      refine wp_ls1 (lv2 := [(0, .ref 117), (1, iV begun), (2, .long y112)]) jF_233_25 rfl rfl rfl (pc2 := 26) ?_
      refine wp_al1 jF_233_26 rfl rfl (pc2 := 27) ?_
      refine wp_al1 jF_233_27 rfl rfl (pc2 := 28) ?_
      refine wp_gr (b := 126) jF_233_28 kd117 (by decide) (c := 226) rfl rfl rfl (pc2 := 31) ?_
      refine wp_cV (as := [.ref 126]) (rest := []) (a := 117) (mx := 2) (ci := 12) jF_233_31 kd117 (by decide) rfl rfl rfl rfl rfl (by omega) (by omega) rfl (pc2 := 34) ?_
      have b113 := GI.b g110 117 2 kd117 (lo := 0) (hi := 1601) rfl
      have b114 := GI.b hg 117 3 kd117 (lo := 0) (hi := 1600) rfl
      have q115 : (τ109.1 117 3) = (σ.1 117 3) := ((FR.at f111 117 3 rfl).trans (FR.at f102 117 3 rfl))
      have b116 := GI.b g110 117 5 kd117 (lo := (-2147483648)) (hi := 2147483647) rfl
      refine wp_use (m_234 τ109 g110 126 5 cw126.1 cw126.2 (by decide)  _ _ (by omega) (by omega)) ?_
      rintro _ τ120 ⟨rfl, g121, f122, p117, p118, p119⟩
      show WP 233 34 [(0, .ref 117), (1, iV begun), (2, .long y112)] [] _ _ _ _
      refine wp_al1 jF_233_34 rfl rfl (pc2 := 35) ?_
      refine wp_ic jF_233_35 rfl (pc2 := 36) ?_
      refine wp_bi jF_233_36 (by decide) rfl (pc2 := 38) ?_
      refine wp_cV (as := [iV 1, iV 9]) (rest := []) (a := 117) (mx := 5) (ci := 12) jF_233_38 kd117 (by decide) rfl rfl rfl rfl rfl (by omega) (by omega) rfl (pc2 := 41) ?_
      have b123 := GI.b g121 117 2 kd117 (lo := 0) (hi := 1601) rfl
      have q124 : (τ120.1 117 3) = (σ.1 117 3) := ((FR.at f122 117 3 rfl).trans ((FR.at f111 117 3 rfl).trans (FR.at f102 117 3 rfl)))
      have b125 := GI.b g121 117 5 kd117 (lo := (-2147483648)) (hi := 2147483647) rfl
      refine wp_use (m_230 τ120 g121 1 (by omega) (by omega) 9 (by omega) (by omega)  _ _ (by omega) (by omega)) ?_
      rintro _ τ129 ⟨z132, rfl, h133, g130, f131, p126, p127, p128⟩
      show WP 233 41 [(0, .ref 117), (1, iV begun), (2, .long y112)] [iV z132] _ _ _ _
      refine wp_is2 (lv2 := [(0, .ref 117), (1, iV begun), (2, .long y112), (4, iV z132)]) jF_233_41 rfl rfl rfl (pc2 := 43) ?_
      refine wp_al1 jF_233_43 rfl rfl (pc2 := 44) ?_
      have b134 := GI.b g130 117 5 kd117 (lo := (-2147483648)) (hi := 2147483647) rfl
      refine wp_gi jF_233_44 kd117 (by decide) rfl rfl rfl (pc2 := 47) ?_
      refine wp_z_eq jF_233_47 (m_rgb b134 rfl) rfl (pc2 := 50) ?_ ?_
      · intro h135
        replace p128 := p128 (by omega)
        refine wp_al1 jF_233_51 rfl rfl (pc2 := 52) ?_
        refine wp_gr (b := 140) jF_233_52 kd117 (by decide) (c := 240) rfl rfl rfl (pc2 := 55) ?_
        refine wp_al1 jF_233_55 rfl rfl (pc2 := 56) ?_
        refine wp_gi jF_233_56 kd117 (by decide) rfl ((FR.at f131 117 33 rfl).trans ((FR.at f122 117 33 rfl).trans ((FR.at f111 117 33 rfl).trans (FR.at f102 117 33 rfl)))) rfl (pc2 := 59) ?_
        refine wp_ll1 jF_233_59 rfl rfl (pc2 := 60) ?_
        refine wp_last (n := 10) jF_233_60 kd140 (by decide) rfl rfl (by omega) (by omega) rfl (pc2 := 61) g130 ?_
        intro τ136 g137 f138
        refine wp_al1 jF_233_61 rfl rfl (pc2 := 62) ?_
        refine wp_gr (b := 141) jF_233_62 kd117 (by decide) (c := 241) rfl rfl rfl (pc2 := 65) ?_
        refine wp_al1 jF_233_65 rfl rfl (pc2 := 66) ?_
        refine wp_gi jF_233_66 kd117 (by decide) rfl ((FRw.na f138 (by decide)).trans ((FR.at f131 117 33 rfl).trans ((FR.at f122 117 33 rfl).trans ((FR.at f111 117 33 rfl).trans (FR.at f102 117 33 rfl))))) rfl (pc2 := 69) ?_
        refine wp_il2 jF_233_69 rfl rfl (pc2 := 71) ?_
        refine wp_iast (n := 10) jF_233_71 kd141 (by decide) rfl rfl (by omega) (by omega) rfl (pc2 := 72) g137 (lo := (-2147483648)) (hi := 2147483647) rfl (by omega) (by omega) ?_
        intro τ139 g140 f141 e142
        refine wp_al1 jF_233_72 rfl rfl (pc2 := 73) ?_
        refine wp_dup jF_233_73 rfl rfl (pc2 := 74) ?_
        refine wp_gi jF_233_74 kd117 (by decide) rfl ((FRw.na f141 (by decide)).trans ((FRw.na f138 (by decide)).trans ((FR.at f131 117 33 rfl).trans ((FR.at f122 117 33 rfl).trans ((FR.at f111 117 33 rfl).trans (FR.at f102 117 33 rfl)))))) rfl (pc2 := 77) ?_
        refine wp_ic jF_233_77 rfl (pc2 := 78) ?_
        refine wp_add jF_233_78 rfl (pc2 := 79) ?_
        refine wp_pi jF_233_79 kd117 (by decide) rfl rfl rfl (pc2 := 82) g140 (lo := 0) (hi := 5) rfl (by omega) (by omega) ?_
        intro τ143 g144 f145 e146
        refine wp_rv jF_233_82 ?_
        have b147 := GI.b g130 117 2 kd117 (lo := 0) (hi := 1601) rfl
        have q148 : (τ143.1 117 2) = (τ129.1 117 2) := ((FRw.nj f145 (by decide)).trans ((FRw.na f141 (by decide)).trans (FRw.na f138 (by decide))))
        have q149 : (τ143.1 117 5) = (τ129.1 117 5) := ((FRw.nj f145 (by decide)).trans ((FRw.na f141 (by decide)).trans (FRw.na f138 (by decide))))
        exact ⟨rfl, g144, (FR.w (FR.w (FR.w (FR.up (FR.up (FR.up (FR.up FR.rf f102 sb_Wbad_Wnp) f111 sb_Wsp_Wnp) f122 sb_Wask_Wnp) f131 sb_Wask_Wnp) f138 rfl) f141 rfl) f145 rfl), (by omega), (by omega), (by omega)⟩
      · intro h135
        clear p128
        refine wp_rv jF_233_50 ?_
        have b150 := GI.b g130 117 2 kd117 (lo := 0) (hi := 1601) rfl
        exact ⟨rfl, g130, (FR.up (FR.up (FR.up (FR.up FR.rf f102 sb_Wbad_Wnp) f111 sb_Wsp_Wnp) f122 sb_Wask_Wnp) f131 sb_Wask_Wnp), (by omega), (by omega), (by omega)⟩
set_option maxHeartbeats 4000000 in
set_option maxRecDepth 20000 in
/-- M.oneOf -/
theorem m_237 (σ : jM) (hg : GI σ) (sort : Int) (hl_sort : 0 ≤ sort) (hu_sort : sort ≤ 2)  (fr lo : Nat) (hfr : 4 ≤ fr) (hlo : 86 ≤ lo) : WP 237 0 (lv_args 0 [.ref 117, iV sort]) [] fr lo σ (fun v τ => ∃ z : Int, v = some (iV z) ∧ ((-2147483648) ≤ z ∧ z ≤ 2147483647) ∧ GI τ ∧ FR Wsp σ τ ∧ ((σ.1 117 2) ≤ (τ.1 117 2)) ∧ ((σ.1 117 5) ≠ 0 → (τ.1 117 5) = (σ.1 117 5)) ∧ ((τ.1 117 5) = 0 → (σ.1 117 5) = 0)) := by
  show WP 237 0 [(0, .ref 117), (1, iV sort)] [] _ _ _ _
  refine wp_al1 jF_237_0 rfl rfl (pc2 := 1) ?_
  refine wp_al1 jF_237_1 rfl rfl (pc2 := 2) ?_
  refine wp_gr (b := 132) jF_237_2 kd117 (by decide) (c := 232) rfl rfl rfl (pc2 := 5) ?_
  refine wp_cV (as := [.ref 132]) (rest := []) (a := 117) (mx := 2) (ci := 12) jF_237_5 kd117 (by decide) rfl rfl rfl rfl rfl (by omega) (by omega) rfl (pc2 := 8) ?_
  have b1 := GI.b hg 117 2 kd117 (lo := 0) (hi := 1601) rfl
  have b2 := GI.b hg 117 3 kd117 (lo := 0) (hi := 1600) rfl
  have b3 := GI.b hg 117 5 kd117 (lo := (-2147483648)) (hi := 2147483647) rfl
  refine wp_use (m_219 σ hg 132 3 cw132.1 cw132.2 (by decide)  _ _ (by omega) (by omega)) ?_
  rintro _ τ6 ⟨z9, rfl, h10, g7, f8, p4, p5⟩
  show WP 237 8 [(0, .ref 117), (1, iV sort)] [iV z9] _ _ _ _
  refine wp_z_eq jF_237_8 (m_rgb h10 rfl) rfl (pc2 := 11) ?_ ?_
  · intro h11
    clear p5
    refine wp_al1 jF_237_13 rfl rfl (pc2 := 14) ?_
    refine wp_cV (as := []) (rest := []) (a := 117) (mx := 3) (ci := 12) jF_237_14 kd117 (by decide) rfl rfl rfl rfl rfl (by omega) (by omega) rfl (pc2 := 17) ?_
    have b12 := GI.b g7 117 2 kd117 (lo := 0) (hi := 1601) rfl
    have q13 : (τ6.1 117 5) = (σ.1 117 5) := (FR.at f8 117 5 rfl)
    refine wp_use (m_225 τ6 g7   _ _ (by omega) (by omega)) ?_
    rintro _ τ17 ⟨y20, rfl, g18, f19, p14, p15, p16⟩
    show WP 237 17 [(0, .ref 117), (1, iV sort)] [.long y20] _ _ _ _
    refine wp_ls1 (lv2 := [(0, .ref 117), (1, iV sort), (2, .long y20)]) jF_237_17 rfl rfl rfl (pc2 := 18) ?_
    refine wp_al1 jF_237_18 rfl rfl (pc2 := 19) ?_
    refine wp_ll1 jF_237_19 rfl rfl (pc2 := 20) ?_
    refine wp_cV (as := [.long y20]) (rest := []) (a := 117) (mx := 4) (ci := 12) jF_237_20 kd117 (by decide) rfl rfl rfl rfl rfl (by omega) (by omega) rfl (pc2 := 23) ?_
    refine wp_use (m_227 τ17 g18 y20  _ _ (by omega) (by omega)) ?_
    rintro _ _ ⟨z23, rfl, h24, rfl⟩
    show WP 237 23 [(0, .ref 117), (1, iV sort), (2, .long y20)] [iV z23] _ _ _ _
    refine wp_is2 (lv2 := [(0, .ref 117), (1, iV sort), (2, .long y20), (4, iV z23)]) jF_237_23 rfl rfl rfl (pc2 := 25) ?_
    refine wp_il2 jF_237_25 rfl rfl (pc2 := 27) ?_
    refine wp_bi jF_237_27 (by decide) rfl (pc2 := 29) ?_
    refine wp_i_ge jF_237_29 (m_rgb h24 rfl) (m_rgl rfl) rfl (pc2 := 32) ?_ ?_
    · intro h25
      refine wp_al1 jF_237_37 rfl rfl (pc2 := 38) ?_
      refine wp_gr (b := 139) jF_237_38 kd117 (by decide) (c := 239) rfl rfl rfl (pc2 := 41) ?_
      refine wp_il2 jF_237_41 rfl rfl (pc2 := 43) ?_
      refine wp_bi jF_237_43 (by decide) rfl (pc2 := 45) ?_
      refine wp_sub jF_237_45 rfl (pc2 := 46) ?_
      have b26 := GI.b hg 139 (z23 - 12).toNat kd139 (lo := 0) (hi := 11) rfl
      refine wp_iald (n := 12) jF_237_46 kd139 (by decide) rfl rfl (by omega) (by omega) ((FR.at f19 139 (z23 - 12).toNat rfl).trans (FR.at f8 139 (z23 - 12).toNat rfl)) rfl (pc2 := 47) ?_
      refine wp_is2 (lv2 := [(0, .ref 117), (1, iV sort), (2, .long y20), (4, iV z23), (5, iV (σ.1 139 (z23 - 12).toNat))]) jF_237_47 rfl rfl rfl (pc2 := 49) ?_
      refine wp_al1 jF_237_49 rfl rfl (pc2 := 50) ?_
      have b27 := GI.b g18 117 5 kd117 (lo := (-2147483648)) (hi := 2147483647) rfl
      refine wp_gi jF_237_50 kd117 (by decide) rfl rfl rfl (pc2 := 53) ?_
      refine wp_z_ne jF_237_53 (m_rgb b27 rfl) rfl (pc2 := 56) ?_ ?_
      · intro h28
        clear p16
        refine wp_al1 jF_237_79 rfl rfl (pc2 := 80) ?_
        refine wp_gi jF_237_80 kd117 (by decide) rfl rfl rfl (pc2 := 83) ?_
        refine wp_z_ne jF_237_83 (m_rgb b27 rfl) rfl (pc2 := 86) ?_ ?_
        · intro h29
          refine wp_ic jF_237_93 rfl (pc2 := 94) ?_
          refine wp_ri jF_237_94 rfl ?_
          have b30 := GI.b g18 117 2 kd117 (lo := 0) (hi := 1601) rfl
          exact ⟨(-1), rfl, ⟨by omega, by omega⟩, g18, (FR.up (FR.up FR.rf f8 sb_Wtak_Wsp) f19 sb_Wsp_Wsp), (by omega), (by omega), (by omega)⟩
        · intro h29
          refine wp_il2 jF_237_86 rfl rfl (pc2 := 88) ?_
          refine wp_ic jF_237_88 rfl (pc2 := 89) ?_
          refine wp_rem jF_237_89 (m_rgb b26 rfl) (by omega) (m_rgl rfl) (by omega) rfl (pc2 := 90) ?_
          refine wp_go jF_237_90 ?_
          refine wp_ri jF_237_94 rfl ?_
          have b31 := GI.b g18 117 2 kd117 (lo := 0) (hi := 1601) rfl
          exact ⟨((σ.1 139 (z23 - 12).toNat) % 4), rfl, ⟨by omega, by omega⟩, g18, (FR.up (FR.up FR.rf f8 sb_Wtak_Wsp) f19 sb_Wsp_Wsp), (by omega), (by omega), (by omega)⟩
      · intro h28
        replace p16 := p16 (by omega)
        clear p15
        refine wp_il2 jF_237_56 rfl rfl (pc2 := 58) ?_
        refine wp_ic jF_237_58 rfl (pc2 := 59) ?_
        refine wp_i_eq jF_237_59 ⟨by omega, by omega⟩ (m_rgl rfl) rfl (pc2 := 62) ?_ ?_
        · intro h32; exfalso; omega
        · intro h32
          refine wp_il2 jF_237_62 rfl rfl (pc2 := 64) ?_
          refine wp_ic jF_237_64 rfl (pc2 := 65) ?_
          refine wp_div jF_237_65 (m_rgb b26 rfl) (by omega) (m_rgl rfl) (by omega) rfl (pc2 := 66) ?_
          refine wp_il1 jF_237_66 rfl rfl (pc2 := 67) ?_
          refine wp_i_eq jF_237_67 ⟨by omega, by omega⟩ ⟨by omega, by omega⟩ rfl (pc2 := 70) ?_ ?_
          · intro h33
            refine wp_al1 jF_237_79 rfl rfl (pc2 := 80) ?_
            refine wp_gi jF_237_80 kd117 (by decide) rfl rfl rfl (pc2 := 83) ?_
            refine wp_z_ne jF_237_83 (m_rgb b27 rfl) rfl (pc2 := 86) ?_ ?_
            · intro h34
              refine wp_ic jF_237_93 rfl (pc2 := 94) ?_
              refine wp_ri jF_237_94 rfl ?_
              have b35 := GI.b g18 117 2 kd117 (lo := 0) (hi := 1601) rfl
              exact ⟨(-1), rfl, ⟨by omega, by omega⟩, g18, (FR.up (FR.up FR.rf f8 sb_Wtak_Wsp) f19 sb_Wsp_Wsp), (by omega), (by omega), (by omega)⟩
            · intro h34
              refine wp_il2 jF_237_86 rfl rfl (pc2 := 88) ?_
              refine wp_ic jF_237_88 rfl (pc2 := 89) ?_
              refine wp_rem jF_237_89 (m_rgb b26 rfl) (by omega) (m_rgl rfl) (by omega) rfl (pc2 := 90) ?_
              refine wp_go jF_237_90 ?_
              refine wp_ri jF_237_94 rfl ?_
              have b36 := GI.b g18 117 2 kd117 (lo := 0) (hi := 1601) rfl
              exact ⟨((σ.1 139 (z23 - 12).toNat) % 4), rfl, ⟨by omega, by omega⟩, g18, (FR.up (FR.up FR.rf f8 sb_Wtak_Wsp) f19 sb_Wsp_Wsp), (by omega), (by omega), (by omega)⟩
          · intro h33
            refine wp_al1 jF_237_70 rfl rfl (pc2 := 71) ?_
            refine wp_ic jF_237_71 rfl (pc2 := 72) ?_
            refine wp_al1 jF_237_72 rfl rfl (pc2 := 73) ?_
            have b37 := GI.b g18 117 28 kd117 (lo := (-2147483648)) (hi := 2147483647) rfl
            refine wp_gi jF_237_73 kd117 (by decide) rfl rfl rfl (pc2 := 76) ?_
            refine wp_cV (as := [iV 3, iV (τ17.1 117 28)]) (rest := []) (a := 117) (mx := 3) (ci := 12) jF_237_76 kd117 (by decide) rfl rfl rfl rfl rfl (by omega) (by omega) rfl (pc2 := 79) ?_
            refine wp_use (m_218 τ17 g18 3 (by omega) (by omega) (τ17.1 117 28) (by omega) (by omega)  _ _ (by omega) (by omega)) ?_
            rintro _ τ40 ⟨rfl, g41, f42, p38, p39⟩
            clear p38
            replace p39 := p39 (by omega)
            show WP 237 79 [(0, .ref 117), (1, iV sort), (2, .long y20), (4, iV z23), (5, iV (σ.1 139 (z23 - 12).toNat))] [] _ _ _ _
            refine wp_al1 jF_237_79 rfl rfl (pc2 := 80) ?_
            have b43 := GI.b g41 117 5 kd117 (lo := (-2147483648)) (hi := 2147483647) rfl
            refine wp_gi jF_237_80 kd117 (by decide) rfl rfl rfl (pc2 := 83) ?_
            refine wp_z_ne jF_237_83 (m_rgb b43 rfl) rfl (pc2 := 86) ?_ ?_
            · intro h44
              refine wp_ic jF_237_93 rfl (pc2 := 94) ?_
              refine wp_ri jF_237_94 rfl ?_
              have b45 := GI.b g18 117 2 kd117 (lo := 0) (hi := 1601) rfl
              have q46 : (τ40.1 117 2) = (τ17.1 117 2) := (FR.at f42 117 2 rfl)
              exact ⟨(-1), rfl, ⟨by omega, by omega⟩, g41, (FR.up (FR.up (FR.up FR.rf f8 sb_Wtak_Wsp) f19 sb_Wsp_Wsp) f42 sb_Wbad_Wsp), (by omega), (by omega), (by omega)⟩
            · intro h44
              refine wp_il2 jF_237_86 rfl rfl (pc2 := 88) ?_
              refine wp_ic jF_237_88 rfl (pc2 := 89) ?_
              refine wp_rem jF_237_89 (m_rgb b26 rfl) (by omega) (m_rgl rfl) (by omega) rfl (pc2 := 90) ?_
              refine wp_go jF_237_90 ?_
              refine wp_ri jF_237_94 rfl ?_
              have b47 := GI.b g18 117 2 kd117 (lo := 0) (hi := 1601) rfl
              have q48 : (τ40.1 117 2) = (τ17.1 117 2) := (FR.at f42 117 2 rfl)
              exact ⟨((σ.1 139 (z23 - 12).toNat) % 4), rfl, ⟨by omega, by omega⟩, g41, (FR.up (FR.up (FR.up FR.rf f8 sb_Wtak_Wsp) f19 sb_Wsp_Wsp) f42 sb_Wbad_Wsp), (by omega), (by omega), (by omega)⟩
    · intro h25
      refine wp_il2 jF_237_32 rfl rfl (pc2 := 34) ?_
      refine wp_go jF_237_34 ?_
      refine wp_is2 (lv2 := [(0, .ref 117), (1, iV sort), (2, .long y20), (4, iV z23), (5, iV z23)]) jF_237_47 rfl rfl rfl (pc2 := 49) ?_
      refine wp_al1 jF_237_49 rfl rfl (pc2 := 50) ?_
      have b49 := GI.b g18 117 5 kd117 (lo := (-2147483648)) (hi := 2147483647) rfl
      refine wp_gi jF_237_50 kd117 (by decide) rfl rfl rfl (pc2 := 53) ?_
      refine wp_z_ne jF_237_53 (m_rgb b49 rfl) rfl (pc2 := 56) ?_ ?_
      · intro h50
        clear p16
        refine wp_al1 jF_237_79 rfl rfl (pc2 := 80) ?_
        refine wp_gi jF_237_80 kd117 (by decide) rfl rfl rfl (pc2 := 83) ?_
        refine wp_z_ne jF_237_83 (m_rgb b49 rfl) rfl (pc2 := 86) ?_ ?_
        · intro h51
          refine wp_ic jF_237_93 rfl (pc2 := 94) ?_
          refine wp_ri jF_237_94 rfl ?_
          have b52 := GI.b g18 117 2 kd117 (lo := 0) (hi := 1601) rfl
          exact ⟨(-1), rfl, ⟨by omega, by omega⟩, g18, (FR.up (FR.up FR.rf f8 sb_Wtak_Wsp) f19 sb_Wsp_Wsp), (by omega), (by omega), (by omega)⟩
        · intro h51
          refine wp_il2 jF_237_86 rfl rfl (pc2 := 88) ?_
          refine wp_ic jF_237_88 rfl (pc2 := 89) ?_
          refine wp_irema jF_237_89 (m_rgl rfl) (by omega) rfl (pc2 := 90) ?_
          intro z53 h54
          refine wp_go jF_237_90 ?_
          refine wp_ri jF_237_94 rfl ?_
          have b55 := GI.b g18 117 2 kd117 (lo := 0) (hi := 1601) rfl
          exact ⟨z53, rfl, ⟨by omega, by omega⟩, g18, (FR.up (FR.up FR.rf f8 sb_Wtak_Wsp) f19 sb_Wsp_Wsp), (by omega), (by omega), (by omega)⟩
      · intro h50
        replace p16 := p16 (by omega)
        clear p15
        refine wp_il2 jF_237_56 rfl rfl (pc2 := 58) ?_
        refine wp_ic jF_237_58 rfl (pc2 := 59) ?_
        refine wp_i_eq jF_237_59 ⟨by omega, by omega⟩ (m_rgl rfl) rfl (pc2 := 62) ?_ ?_
        · intro h56
          refine wp_al1 jF_237_70 rfl rfl (pc2 := 71) ?_
          refine wp_ic jF_237_71 rfl (pc2 := 72) ?_
          refine wp_al1 jF_237_72 rfl rfl (pc2 := 73) ?_
          have b57 := GI.b g18 117 28 kd117 (lo := (-2147483648)) (hi := 2147483647) rfl
          refine wp_gi jF_237_73 kd117 (by decide) rfl rfl rfl (pc2 := 76) ?_
          refine wp_cV (as := [iV 3, iV (τ17.1 117 28)]) (rest := []) (a := 117) (mx := 3) (ci := 12) jF_237_76 kd117 (by decide) rfl rfl rfl rfl rfl (by omega) (by omega) rfl (pc2 := 79) ?_
          refine wp_use (m_218 τ17 g18 3 (by omega) (by omega) (τ17.1 117 28) (by omega) (by omega)  _ _ (by omega) (by omega)) ?_
          rintro _ τ60 ⟨rfl, g61, f62, p58, p59⟩
          clear p58
          replace p59 := p59 (by omega)
          show WP 237 79 [(0, .ref 117), (1, iV sort), (2, .long y20), (4, iV z23), (5, iV z23)] [] _ _ _ _
          refine wp_al1 jF_237_79 rfl rfl (pc2 := 80) ?_
          have b63 := GI.b g61 117 5 kd117 (lo := (-2147483648)) (hi := 2147483647) rfl
          refine wp_gi jF_237_80 kd117 (by decide) rfl rfl rfl (pc2 := 83) ?_
          refine wp_z_ne jF_237_83 (m_rgb b63 rfl) rfl (pc2 := 86) ?_ ?_
          · intro h64
            refine wp_ic jF_237_93 rfl (pc2 := 94) ?_
            refine wp_ri jF_237_94 rfl ?_
            have b65 := GI.b g18 117 2 kd117 (lo := 0) (hi := 1601) rfl
            have q66 : (τ60.1 117 2) = (τ17.1 117 2) := (FR.at f62 117 2 rfl)
            exact ⟨(-1), rfl, ⟨by omega, by omega⟩, g61, (FR.up (FR.up (FR.up FR.rf f8 sb_Wtak_Wsp) f19 sb_Wsp_Wsp) f62 sb_Wbad_Wsp), (by omega), (by omega), (by omega)⟩
          · intro h64
            refine wp_il2 jF_237_86 rfl rfl (pc2 := 88) ?_
            refine wp_ic jF_237_88 rfl (pc2 := 89) ?_
            refine wp_irema jF_237_89 (m_rgl rfl) (by omega) rfl (pc2 := 90) ?_
            intro z67 h68
            refine wp_go jF_237_90 ?_
            refine wp_ri jF_237_94 rfl ?_
            have b69 := GI.b g18 117 2 kd117 (lo := 0) (hi := 1601) rfl
            have q70 : (τ60.1 117 2) = (τ17.1 117 2) := (FR.at f62 117 2 rfl)
            exact ⟨z67, rfl, ⟨by omega, by omega⟩, g61, (FR.up (FR.up (FR.up FR.rf f8 sb_Wtak_Wsp) f19 sb_Wsp_Wsp) f62 sb_Wbad_Wsp), (by omega), (by omega), (by omega)⟩
        · intro h56
          refine wp_il2 jF_237_62 rfl rfl (pc2 := 64) ?_
          refine wp_ic jF_237_64 rfl (pc2 := 65) ?_
          refine wp_div jF_237_65 ⟨by omega, by omega⟩ (by omega) (m_rgl rfl) (by omega) rfl (pc2 := 66) ?_
          refine wp_il1 jF_237_66 rfl rfl (pc2 := 67) ?_
          refine wp_i_eq jF_237_67 ⟨by omega, by omega⟩ ⟨by omega, by omega⟩ rfl (pc2 := 70) ?_ ?_
          · intro h71
            refine wp_al1 jF_237_79 rfl rfl (pc2 := 80) ?_
            refine wp_gi jF_237_80 kd117 (by decide) rfl rfl rfl (pc2 := 83) ?_
            refine wp_z_ne jF_237_83 (m_rgb b49 rfl) rfl (pc2 := 86) ?_ ?_
            · intro h72
              refine wp_ic jF_237_93 rfl (pc2 := 94) ?_
              refine wp_ri jF_237_94 rfl ?_
              have b73 := GI.b g18 117 2 kd117 (lo := 0) (hi := 1601) rfl
              exact ⟨(-1), rfl, ⟨by omega, by omega⟩, g18, (FR.up (FR.up FR.rf f8 sb_Wtak_Wsp) f19 sb_Wsp_Wsp), (by omega), (by omega), (by omega)⟩
            · intro h72
              refine wp_il2 jF_237_86 rfl rfl (pc2 := 88) ?_
              refine wp_ic jF_237_88 rfl (pc2 := 89) ?_
              refine wp_rem jF_237_89 ⟨by omega, by omega⟩ (by omega) (m_rgl rfl) (by omega) rfl (pc2 := 90) ?_
              refine wp_go jF_237_90 ?_
              refine wp_ri jF_237_94 rfl ?_
              have b74 := GI.b g18 117 2 kd117 (lo := 0) (hi := 1601) rfl
              exact ⟨(z23 % 4), rfl, ⟨by omega, by omega⟩, g18, (FR.up (FR.up FR.rf f8 sb_Wtak_Wsp) f19 sb_Wsp_Wsp), (by omega), (by omega), (by omega)⟩
          · intro h71
            refine wp_al1 jF_237_70 rfl rfl (pc2 := 71) ?_
            refine wp_ic jF_237_71 rfl (pc2 := 72) ?_
            refine wp_al1 jF_237_72 rfl rfl (pc2 := 73) ?_
            have b75 := GI.b g18 117 28 kd117 (lo := (-2147483648)) (hi := 2147483647) rfl
            refine wp_gi jF_237_73 kd117 (by decide) rfl rfl rfl (pc2 := 76) ?_
            refine wp_cV (as := [iV 3, iV (τ17.1 117 28)]) (rest := []) (a := 117) (mx := 3) (ci := 12) jF_237_76 kd117 (by decide) rfl rfl rfl rfl rfl (by omega) (by omega) rfl (pc2 := 79) ?_
            refine wp_use (m_218 τ17 g18 3 (by omega) (by omega) (τ17.1 117 28) (by omega) (by omega)  _ _ (by omega) (by omega)) ?_
            rintro _ τ78 ⟨rfl, g79, f80, p76, p77⟩
            clear p76
            replace p77 := p77 (by omega)
            show WP 237 79 [(0, .ref 117), (1, iV sort), (2, .long y20), (4, iV z23), (5, iV z23)] [] _ _ _ _
            refine wp_al1 jF_237_79 rfl rfl (pc2 := 80) ?_
            have b81 := GI.b g79 117 5 kd117 (lo := (-2147483648)) (hi := 2147483647) rfl
            refine wp_gi jF_237_80 kd117 (by decide) rfl rfl rfl (pc2 := 83) ?_
            refine wp_z_ne jF_237_83 (m_rgb b81 rfl) rfl (pc2 := 86) ?_ ?_
            · intro h82
              refine wp_ic jF_237_93 rfl (pc2 := 94) ?_
              refine wp_ri jF_237_94 rfl ?_
              have b83 := GI.b g18 117 2 kd117 (lo := 0) (hi := 1601) rfl
              have q84 : (τ78.1 117 2) = (τ17.1 117 2) := (FR.at f80 117 2 rfl)
              exact ⟨(-1), rfl, ⟨by omega, by omega⟩, g79, (FR.up (FR.up (FR.up FR.rf f8 sb_Wtak_Wsp) f19 sb_Wsp_Wsp) f80 sb_Wbad_Wsp), (by omega), (by omega), (by omega)⟩
            · intro h82
              refine wp_il2 jF_237_86 rfl rfl (pc2 := 88) ?_
              refine wp_ic jF_237_88 rfl (pc2 := 89) ?_
              refine wp_rem jF_237_89 ⟨by omega, by omega⟩ (by omega) (m_rgl rfl) (by omega) rfl (pc2 := 90) ?_
              refine wp_go jF_237_90 ?_
              refine wp_ri jF_237_94 rfl ?_
              have b85 := GI.b g18 117 2 kd117 (lo := 0) (hi := 1601) rfl
              have q86 : (τ78.1 117 2) = (τ17.1 117 2) := (FR.at f80 117 2 rfl)
              exact ⟨(z23 % 4), rfl, ⟨by omega, by omega⟩, g79, (FR.up (FR.up (FR.up FR.rf f8 sb_Wtak_Wsp) f19 sb_Wsp_Wsp) f80 sb_Wbad_Wsp), (by omega), (by omega), (by omega)⟩
  · intro h11
    replace p5 := p5 (by omega)
    refine wp_ic jF_237_11 rfl (pc2 := 12) ?_
    refine wp_ri jF_237_12 rfl ?_
    have b87 := GI.b g7 117 2 kd117 (lo := 0) (hi := 1601) rfl
    have q88 : (τ6.1 117 5) = (σ.1 117 5) := (FR.at f8 117 5 rfl)
    exact ⟨(-1), rfl, ⟨by omega, by omega⟩, g7, (FR.up FR.rf f8 sb_Wtak_Wsp), (by omega), (by omega), (by omega)⟩
