set_option maxHeartbeats 4000000 in
set_option maxRecDepth 20000 in
/-- M.newParty -/
theorem m_233 (σ : jM) (hg : GI σ) (begun : Int) (hl_begun : (-2147483648) ≤ begun) (hu_begun : begun ≤ 2147483647)  (fr lo : Nat) (hfr : 5 ≤ fr) (hlo : 108 ≤ lo) : WP 233 0 (lv_args 0 [.ref 117, iV begun]) [] fr lo σ (fun v τ => v = none ∧ GI τ ∧ FR Wnp σ τ ∧ ((σ.1 117 2) ≤ (τ.1 117 2)) ∧ ((σ.1 117 5) ≠ 0 → (τ.1 117 5) = (σ.1 117 5)) ∧ ((τ.1 117 5) = 0 → (σ.1 117 5) = 0)) := by
  show WP 233 0 [(0, .ref 117), (1, iV begun)] [] _ _ _ _
  refine wp_al1 jF_233_0 rfl rfl (pc2 := 1) ?_
  have b1 := GI.b hg 117 5 kd117 (lo := (-2147483648)) (hi := 2147483647) rfl
  refine wp_gi jF_233_1 kd117 (by decide) rfl rfl rfl (pc2 := 4) ?_
  refine wp_z_ne jF_233_4 (m_rgb b1 rfl) rfl (pc2 := 7) ?_ ?_
  · intro h2
    refine wp_al1 jF_233_21 rfl rfl (pc2 := 22) ?_
    refine wp_cV (as := []) (rest := []) (a := 117) (mx := 3) (ci := 12) jF_233_22 kd117 (by decide) rfl rfl rfl rfl rfl (by omega) (by omega) rfl (pc2 := 25) ?_
    have b3 := GI.b hg 117 2 kd117 (lo := 0) (hi := 1601) rfl
    refine wp_use (m_224 σ hg   _ _ (by omega) (by omega)) ?_
    rintro _ τ7 ⟨y10, rfl, g8, f9, p4, p5, p6⟩
    replace p5 := p5 (by omega)
    show WP 233 25 [(0, .ref 117), (1, iV begun)] [.long y10] _ _ _ _
    refine wp_ls1 (lv2 := [(0, .ref 117), (1, iV begun), (2, .long y10)]) jF_233_25 rfl rfl rfl (pc2 := 26) ?_
    refine wp_al1 jF_233_26 rfl rfl (pc2 := 27) ?_
    refine wp_al1 jF_233_27 rfl rfl (pc2 := 28) ?_
    refine wp_gr (b := 126) jF_233_28 kd117 (by decide) (c := 226) rfl rfl rfl (pc2 := 31) ?_
    refine wp_cV (as := [.ref 126]) (rest := []) (a := 117) (mx := 2) (ci := 12) jF_233_31 kd117 (by decide) rfl rfl rfl rfl rfl (by omega) (by omega) rfl (pc2 := 34) ?_
    have b11 := GI.b g8 117 2 kd117 (lo := 0) (hi := 1601) rfl
    have b12 := GI.b hg 117 3 kd117 (lo := 0) (hi := 1600) rfl
    have q13 : (τ7.1 117 3) = (σ.1 117 3) := (FR.at f9 117 3 rfl)
    have b14 := GI.b g8 117 5 kd117 (lo := (-2147483648)) (hi := 2147483647) rfl
    refine wp_use (m_234 τ7 g8 126 5 cw126.1 cw126.2 (by decide)  _ _ (by omega) (by omega)) ?_
    rintro _ τ18 ⟨rfl, g19, f20, p15, p16, p17⟩
    show WP 233 34 [(0, .ref 117), (1, iV begun), (2, .long y10)] [] _ _ _ _
    refine wp_al1 jF_233_34 rfl rfl (pc2 := 35) ?_
    refine wp_ic jF_233_35 rfl (pc2 := 36) ?_
    refine wp_bi jF_233_36 (by decide) rfl (pc2 := 38) ?_
    refine wp_cV (as := [iV 1, iV 9]) (rest := []) (a := 117) (mx := 5) (ci := 12) jF_233_38 kd117 (by decide) rfl rfl rfl rfl rfl (by omega) (by omega) rfl (pc2 := 41) ?_
    have b21 := GI.b g19 117 2 kd117 (lo := 0) (hi := 1601) rfl
    have q22 : (τ18.1 117 3) = (σ.1 117 3) := ((FR.at f20 117 3 rfl).trans (FR.at f9 117 3 rfl))
    have b23 := GI.b g19 117 5 kd117 (lo := (-2147483648)) (hi := 2147483647) rfl
    refine wp_use (m_230 τ18 g19 1 (by omega) (by omega) 9 (by omega) (by omega)  _ _ (by omega) (by omega)) ?_
    rintro _ τ27 ⟨z30, rfl, h31, g28, f29, p24, p25, p26⟩
    show WP 233 41 [(0, .ref 117), (1, iV begun), (2, .long y10)] [iV z30] _ _ _ _
    refine wp_is2 (lv2 := [(0, .ref 117), (1, iV begun), (2, .long y10), (4, iV z30)]) jF_233_41 rfl rfl rfl (pc2 := 43) ?_
    refine wp_al1 jF_233_43 rfl rfl (pc2 := 44) ?_
    have b32 := GI.b g28 117 5 kd117 (lo := (-2147483648)) (hi := 2147483647) rfl
    refine wp_gi jF_233_44 kd117 (by decide) rfl rfl rfl (pc2 := 47) ?_
    refine wp_z_eq jF_233_47 (m_rgb b32 rfl) rfl (pc2 := 50) ?_ ?_
    · intro h33
      replace p26 := p26 (by omega)
      refine wp_al1 jF_233_51 rfl rfl (pc2 := 52) ?_
      refine wp_gr (b := 140) jF_233_52 kd117 (by decide) (c := 240) rfl rfl rfl (pc2 := 55) ?_
      refine wp_al1 jF_233_55 rfl rfl (pc2 := 56) ?_
      have b34 := GI.b hg 117 33 kd117 (lo := 0) (hi := 5) rfl
      refine wp_gi jF_233_56 kd117 (by decide) rfl ((FR.at f29 117 33 rfl).trans ((FR.at f20 117 33 rfl).trans (FR.at f9 117 33 rfl))) rfl (pc2 := 59) ?_
      refine wp_ll1 jF_233_59 rfl rfl (pc2 := 60) ?_
      refine wp_last (n := 10) jF_233_60 kd140 (by decide) rfl rfl (by omega) (by omega) rfl (pc2 := 61) g28 ?_
      intro τ35 g36 f37
      refine wp_al1 jF_233_61 rfl rfl (pc2 := 62) ?_
      refine wp_gr (b := 141) jF_233_62 kd117 (by decide) (c := 241) rfl rfl rfl (pc2 := 65) ?_
      refine wp_al1 jF_233_65 rfl rfl (pc2 := 66) ?_
      refine wp_gi jF_233_66 kd117 (by decide) rfl ((FRw.na f37 (by decide)).trans ((FR.at f29 117 33 rfl).trans ((FR.at f20 117 33 rfl).trans (FR.at f9 117 33 rfl)))) rfl (pc2 := 69) ?_
      refine wp_il2 jF_233_69 rfl rfl (pc2 := 71) ?_
      refine wp_iast (n := 10) jF_233_71 kd141 (by decide) rfl rfl (by omega) (by omega) rfl (pc2 := 72) g36 (lo := (-2147483648)) (hi := 2147483647) rfl (by omega) (by omega) ?_
      intro τ38 g39 f40 e41
      refine wp_al1 jF_233_72 rfl rfl (pc2 := 73) ?_
      refine wp_dup jF_233_73 rfl rfl (pc2 := 74) ?_
      refine wp_gi jF_233_74 kd117 (by decide) rfl ((FRw.na f40 (by decide)).trans ((FRw.na f37 (by decide)).trans ((FR.at f29 117 33 rfl).trans ((FR.at f20 117 33 rfl).trans (FR.at f9 117 33 rfl))))) rfl (pc2 := 77) ?_
      refine wp_ic jF_233_77 rfl (pc2 := 78) ?_
      refine wp_add jF_233_78 rfl (pc2 := 79) ?_
      refine wp_pi jF_233_79 kd117 (by decide) rfl rfl rfl (pc2 := 82) g39 (lo := 0) (hi := 5) rfl (by omega) (by omega) ?_
      intro τ42 g43 f44 e45
      refine wp_rv jF_233_82 ?_
      have b46 := GI.b g28 117 2 kd117 (lo := 0) (hi := 1601) rfl
      have q47 : (τ42.1 117 2) = (τ27.1 117 2) := ((FRw.nj f44 (by decide)).trans ((FRw.na f40 (by decide)).trans (FRw.na f37 (by decide))))
      have q48 : (τ42.1 117 5) = (τ27.1 117 5) := ((FRw.nj f44 (by decide)).trans ((FRw.na f40 (by decide)).trans (FRw.na f37 (by decide))))
      exact ⟨rfl, g43, (FR.w (FR.w (FR.w (FR.up (FR.up (FR.up FR.rf f9 sb_Wsp_Wnp) f20 sb_Wask_Wnp) f29 sb_Wask_Wnp) f37 rfl) f40 rfl) f44 rfl), (by omega), (by omega), (by omega)⟩
    · intro h33
      clear p26
      refine wp_rv jF_233_50 ?_
      have b49 := GI.b g28 117 2 kd117 (lo := 0) (hi := 1601) rfl
      exact ⟨rfl, g28, (FR.up (FR.up (FR.up FR.rf f9 sb_Wsp_Wnp) f20 sb_Wask_Wnp) f29 sb_Wask_Wnp), (by omega), (by omega), (by omega)⟩
  · intro h2
    refine wp_al1 jF_233_7 rfl rfl (pc2 := 8) ?_
    have b50 := GI.b hg 117 33 kd117 (lo := 0) (hi := 5) rfl
    refine wp_gi jF_233_8 kd117 (by decide) rfl rfl rfl (pc2 := 11) ?_
    refine wp_ic jF_233_11 rfl (pc2 := 12) ?_
    refine wp_i_ne jF_233_12 (m_rgb b50 rfl) (m_rgl rfl) rfl (pc2 := 15) ?_ ?_
    · intro h51
      refine wp_al1 jF_233_21 rfl rfl (pc2 := 22) ?_
      refine wp_cV (as := []) (rest := []) (a := 117) (mx := 3) (ci := 12) jF_233_22 kd117 (by decide) rfl rfl rfl rfl rfl (by omega) (by omega) rfl (pc2 := 25) ?_
      have b52 := GI.b hg 117 2 kd117 (lo := 0) (hi := 1601) rfl
      refine wp_use (m_224 σ hg   _ _ (by omega) (by omega)) ?_
      rintro _ τ56 ⟨y59, rfl, g57, f58, p53, p54, p55⟩
      clear p54
      show WP 233 25 [(0, .ref 117), (1, iV begun)] [.long y59] _ _ _ _
      refine wp_ls1 (lv2 := [(0, .ref 117), (1, iV begun), (2, .long y59)]) jF_233_25 rfl rfl rfl (pc2 := 26) ?_
      refine wp_al1 jF_233_26 rfl rfl (pc2 := 27) ?_
      refine wp_al1 jF_233_27 rfl rfl (pc2 := 28) ?_
      refine wp_gr (b := 126) jF_233_28 kd117 (by decide) (c := 226) rfl rfl rfl (pc2 := 31) ?_
      refine wp_cV (as := [.ref 126]) (rest := []) (a := 117) (mx := 2) (ci := 12) jF_233_31 kd117 (by decide) rfl rfl rfl rfl rfl (by omega) (by omega) rfl (pc2 := 34) ?_
      have b60 := GI.b g57 117 2 kd117 (lo := 0) (hi := 1601) rfl
      have b61 := GI.b hg 117 3 kd117 (lo := 0) (hi := 1600) rfl
      have q62 : (τ56.1 117 3) = (σ.1 117 3) := (FR.at f58 117 3 rfl)
      have b63 := GI.b g57 117 5 kd117 (lo := (-2147483648)) (hi := 2147483647) rfl
      refine wp_use (m_234 τ56 g57 126 5 cw126.1 cw126.2 (by decide)  _ _ (by omega) (by omega)) ?_
      rintro _ τ67 ⟨rfl, g68, f69, p64, p65, p66⟩
      show WP 233 34 [(0, .ref 117), (1, iV begun), (2, .long y59)] [] _ _ _ _
      refine wp_al1 jF_233_34 rfl rfl (pc2 := 35) ?_
      refine wp_ic jF_233_35 rfl (pc2 := 36) ?_
      refine wp_bi jF_233_36 (by decide) rfl (pc2 := 38) ?_
      refine wp_cV (as := [iV 1, iV 9]) (rest := []) (a := 117) (mx := 5) (ci := 12) jF_233_38 kd117 (by decide) rfl rfl rfl rfl rfl (by omega) (by omega) rfl (pc2 := 41) ?_
      have b70 := GI.b g68 117 2 kd117 (lo := 0) (hi := 1601) rfl
      have q71 : (τ67.1 117 3) = (σ.1 117 3) := ((FR.at f69 117 3 rfl).trans (FR.at f58 117 3 rfl))
      have b72 := GI.b g68 117 5 kd117 (lo := (-2147483648)) (hi := 2147483647) rfl
      refine wp_use (m_230 τ67 g68 1 (by omega) (by omega) 9 (by omega) (by omega)  _ _ (by omega) (by omega)) ?_
      rintro _ τ76 ⟨z79, rfl, h80, g77, f78, p73, p74, p75⟩
      show WP 233 41 [(0, .ref 117), (1, iV begun), (2, .long y59)] [iV z79] _ _ _ _
      refine wp_is2 (lv2 := [(0, .ref 117), (1, iV begun), (2, .long y59), (4, iV z79)]) jF_233_41 rfl rfl rfl (pc2 := 43) ?_
      refine wp_al1 jF_233_43 rfl rfl (pc2 := 44) ?_
      have b81 := GI.b g77 117 5 kd117 (lo := (-2147483648)) (hi := 2147483647) rfl
      refine wp_gi jF_233_44 kd117 (by decide) rfl rfl rfl (pc2 := 47) ?_
      refine wp_z_eq jF_233_47 (m_rgb b81 rfl) rfl (pc2 := 50) ?_ ?_
      · intro h82
        replace p75 := p75 (by omega)
        refine wp_al1 jF_233_51 rfl rfl (pc2 := 52) ?_
        refine wp_gr (b := 140) jF_233_52 kd117 (by decide) (c := 240) rfl rfl rfl (pc2 := 55) ?_
        refine wp_al1 jF_233_55 rfl rfl (pc2 := 56) ?_
        refine wp_gi jF_233_56 kd117 (by decide) rfl ((FR.at f78 117 33 rfl).trans ((FR.at f69 117 33 rfl).trans (FR.at f58 117 33 rfl))) rfl (pc2 := 59) ?_
        refine wp_ll1 jF_233_59 rfl rfl (pc2 := 60) ?_
        refine wp_last (n := 10) jF_233_60 kd140 (by decide) rfl rfl (by omega) (by omega) rfl (pc2 := 61) g77 ?_
        intro τ83 g84 f85
        refine wp_al1 jF_233_61 rfl rfl (pc2 := 62) ?_
        refine wp_gr (b := 141) jF_233_62 kd117 (by decide) (c := 241) rfl rfl rfl (pc2 := 65) ?_
        refine wp_al1 jF_233_65 rfl rfl (pc2 := 66) ?_
        refine wp_gi jF_233_66 kd117 (by decide) rfl ((FRw.na f85 (by decide)).trans ((FR.at f78 117 33 rfl).trans ((FR.at f69 117 33 rfl).trans (FR.at f58 117 33 rfl)))) rfl (pc2 := 69) ?_
        refine wp_il2 jF_233_69 rfl rfl (pc2 := 71) ?_
        refine wp_iast (n := 10) jF_233_71 kd141 (by decide) rfl rfl (by omega) (by omega) rfl (pc2 := 72) g84 (lo := (-2147483648)) (hi := 2147483647) rfl (by omega) (by omega) ?_
        intro τ86 g87 f88 e89
        refine wp_al1 jF_233_72 rfl rfl (pc2 := 73) ?_
        refine wp_dup jF_233_73 rfl rfl (pc2 := 74) ?_
        refine wp_gi jF_233_74 kd117 (by decide) rfl ((FRw.na f88 (by decide)).trans ((FRw.na f85 (by decide)).trans ((FR.at f78 117 33 rfl).trans ((FR.at f69 117 33 rfl).trans (FR.at f58 117 33 rfl))))) rfl (pc2 := 77) ?_
        refine wp_ic jF_233_77 rfl (pc2 := 78) ?_
        refine wp_add jF_233_78 rfl (pc2 := 79) ?_
        refine wp_pi jF_233_79 kd117 (by decide) rfl rfl rfl (pc2 := 82) g87 (lo := 0) (hi := 5) rfl (by omega) (by omega) ?_
        intro τ90 g91 f92 e93
        refine wp_rv jF_233_82 ?_
        have b94 := GI.b g77 117 2 kd117 (lo := 0) (hi := 1601) rfl
        have q95 : (τ90.1 117 2) = (τ76.1 117 2) := ((FRw.nj f92 (by decide)).trans ((FRw.na f88 (by decide)).trans (FRw.na f85 (by decide))))
        have q96 : (τ90.1 117 5) = (τ76.1 117 5) := ((FRw.nj f92 (by decide)).trans ((FRw.na f88 (by decide)).trans (FRw.na f85 (by decide))))
        exact ⟨rfl, g91, (FR.w (FR.w (FR.w (FR.up (FR.up (FR.up FR.rf f58 sb_Wsp_Wnp) f69 sb_Wask_Wnp) f78 sb_Wask_Wnp) f85 rfl) f88 rfl) f92 rfl), (by omega), (by omega), (by omega)⟩
      · intro h82
        clear p75
        refine wp_rv jF_233_50 ?_
        have b97 := GI.b g77 117 2 kd117 (lo := 0) (hi := 1601) rfl
        exact ⟨rfl, g77, (FR.up (FR.up (FR.up FR.rf f58 sb_Wsp_Wnp) f69 sb_Wask_Wnp) f78 sb_Wask_Wnp), (by omega), (by omega), (by omega)⟩
    · intro h51
      refine wp_al1 jF_233_15 rfl rfl (pc2 := 16) ?_
      refine wp_ic jF_233_16 rfl (pc2 := 17) ?_
      refine wp_il1 jF_233_17 rfl rfl (pc2 := 18) ?_
      refine wp_cV (as := [iV 5, iV begun]) (rest := []) (a := 117) (mx := 3) (ci := 12) jF_233_18 kd117 (by decide) rfl rfl rfl rfl rfl (by omega) (by omega) rfl (pc2 := 21) ?_
      refine wp_use (m_218 σ hg 5 (by omega) (by omega) begun (by omega) (by omega)  _ _ (by omega) (by omega)) ?_
      rintro _ τ100 ⟨rfl, g101, f102, p98, p99⟩
      clear p98
      replace p99 := p99 (by omega)
      show WP 233 21 [(0, .ref 117), (1, iV begun)] [] _ _ _ _
      refine wp_al1 jF_233_21 rfl rfl (pc2 := 22) ?_
      refine wp_cV (as := []) (rest := []) (a := 117) (mx := 3) (ci := 12) jF_233_22 kd117 (by decide) rfl rfl rfl rfl rfl (by omega) (by omega) rfl (pc2 := 25) ?_
      have b103 := GI.b hg 117 2 kd117 (lo := 0) (hi := 1601) rfl
      have q104 : (τ100.1 117 2) = (σ.1 117 2) := (FR.at f102 117 2 rfl)
      have b105 := GI.b g101 117 5 kd117 (lo := (-2147483648)) (hi := 2147483647) rfl
      refine wp_use (m_224 τ100 g101   _ _ (by omega) (by omega)) ?_
      rintro _ τ109 ⟨y112, rfl, g110, f111, p106, p107, p108⟩
      replace p107 := p107 (by omega)
      show WP 233 25 [(0, .ref 117), (1, iV begun)] [.long y112] _ _ _ _
      refine wp_ls1 (lv2 := [(0, .ref 117), (1, iV begun), (2, .long y112)]) jF_233_25 rfl rfl rfl (pc2 := 26) ?_
      refine wp_al1 jF_233_26 rfl rfl (pc2 := 27) ?_
      refine wp_al1 jF_233_27 rfl rfl (pc2 := 28) ?_
      refine wp_gr (b := 126) jF_233_28 kd117 (by decide) (c := 226) rfl rfl rfl (pc2 := 31) ?_
      refine wp_cV (as := [.ref 126]) (rest := []) (a := 117) (mx := 2) (ci := 12) jF_233_31 kd117 (by decide) rfl rfl rfl rfl rfl (by omega) (by omega) rfl (pc2 := 34) ?_
      have b113 := GI.b g110 117 2 kd117 (lo := 0) (hi := 1601) rfl
      have b114 := GI.b hg 117 3 kd117 (lo := 0) (hi := 1600) rfl
      have q115 : (τ109.1 117 3) = (σ.1 117 3) := ((FR.at f111 117 3 rfl).trans (FR.at f102 117 3 rfl))
      have b116 := GI.b g110 117 5 kd117 (lo := (-2147483648)) (hi := 2147483647) rfl
      refine wp_use (m_234 τ109 g110 126 5 cw126.1 cw126.2 (by decide)  _ _ (by omega) (by omega)) ?_
      rintro _ τ120 ⟨rfl, g121, f122, p117, p118, p119⟩
      show WP 233 34 [(0, .ref 117), (1, iV begun), (2, .long y112)] [] _ _ _ _
      refine wp_al1 jF_233_34 rfl rfl (pc2 := 35) ?_
      refine wp_ic jF_233_35 rfl (pc2 := 36) ?_
      refine wp_bi jF_233_36 (by decide) rfl (pc2 := 38) ?_
      refine wp_cV (as := [iV 1, iV 9]) (rest := []) (a := 117) (mx := 5) (ci := 12) jF_233_38 kd117 (by decide) rfl rfl rfl rfl rfl (by omega) (by omega) rfl (pc2 := 41) ?_
      have b123 := GI.b g121 117 2 kd117 (lo := 0) (hi := 1601) rfl
      have q124 : (τ120.1 117 3) = (σ.1 117 3) := ((FR.at f122 117 3 rfl).trans ((FR.at f111 117 3 rfl).trans (FR.at f102 117 3 rfl)))
      have b125 := GI.b g121 117 5 kd117 (lo := (-2147483648)) (hi := 2147483647) rfl
      refine wp_use (m_230 τ120 g121 1 (by omega) (by omega) 9 (by omega) (by omega)  _ _ (by omega) (by omega)) ?_
      rintro _ τ129 ⟨z132, rfl, h133, g130, f131, p126, p127, p128⟩
      show WP 233 41 [(0, .ref 117), (1, iV begun), (2, .long y112)] [iV z132] _ _ _ _
      refine wp_is2 (lv2 := [(0, .ref 117), (1, iV begun), (2, .long y112), (4, iV z132)]) jF_233_41 rfl rfl rfl (pc2 := 43) ?_
      refine wp_al1 jF_233_43 rfl rfl (pc2 := 44) ?_
      have b134 := GI.b g130 117 5 kd117 (lo := (-2147483648)) (hi := 2147483647) rfl
      refine wp_gi jF_233_44 kd117 (by decide) rfl rfl rfl (pc2 := 47) ?_
      refine wp_z_eq jF_233_47 (m_rgb b134 rfl) rfl (pc2 := 50) ?_ ?_
      · intro h135
        replace p128 := p128 (by omega)
        refine wp_al1 jF_233_51 rfl rfl (pc2 := 52) ?_
        refine wp_gr (b := 140) jF_233_52 kd117 (by decide) (c := 240) rfl rfl rfl (pc2 := 55) ?_
        refine wp_al1 jF_233_55 rfl rfl (pc2 := 56) ?_
        refine wp_gi jF_233_56 kd117 (by decide) rfl ((FR.at f131 117 33 rfl).trans ((FR.at f122 117 33 rfl).trans ((FR.at f111 117 33 rfl).trans (FR.at f102 117 33 rfl)))) rfl (pc2 := 59) ?_
        refine wp_ll1 jF_233_59 rfl rfl (pc2 := 60) ?_
        refine wp_last (n := 10) jF_233_60 kd140 (by decide) rfl rfl (by omega) (by omega) rfl (pc2 := 61) g130 ?_
        intro τ136 g137 f138
        refine wp_al1 jF_233_61 rfl rfl (pc2 := 62) ?_
        refine wp_gr (b := 141) jF_233_62 kd117 (by decide) (c := 241) rfl rfl rfl (pc2 := 65) ?_
        refine wp_al1 jF_233_65 rfl rfl (pc2 := 66) ?_
        refine wp_gi jF_233_66 kd117 (by decide) rfl ((FRw.na f138 (by decide)).trans ((FR.at f131 117 33 rfl).trans ((FR.at f122 117 33 rfl).trans ((FR.at f111 117 33 rfl).trans (FR.at f102 117 33 rfl))))) rfl (pc2 := 69) ?_
        refine wp_il2 jF_233_69 rfl rfl (pc2 := 71) ?_
        refine wp_iast (n := 10) jF_233_71 kd141 (by decide) rfl rfl (by omega) (by omega) rfl (pc2 := 72) g137 (lo := (-2147483648)) (hi := 2147483647) rfl (by omega) (by omega) ?_
        intro τ139 g140 f141 e142
        refine wp_al1 jF_233_72 rfl rfl (pc2 := 73) ?_
        refine wp_dup jF_233_73 rfl rfl (pc2 := 74) ?_
        refine wp_gi jF_233_74 kd117 (by decide) rfl ((FRw.na f141 (by decide)).trans ((FRw.na f138 (by decide)).trans ((FR.at f131 117 33 rfl).trans ((FR.at f122 117 33 rfl).trans ((FR.at f111 117 33 rfl).trans (FR.at f102 117 33 rfl)))))) rfl (pc2 := 77) ?_
        refine wp_ic jF_233_77 rfl (pc2 := 78) ?_
        refine wp_add jF_233_78 rfl (pc2 := 79) ?_
        refine wp_pi jF_233_79 kd117 (by decide) rfl rfl rfl (pc2 := 82) g140 (lo := 0) (hi := 5) rfl (by omega) (by omega) ?_
        intro τ143 g144 f145 e146
        refine wp_rv jF_233_82 ?_
        have b147 := GI.b g130 117 2 kd117 (lo := 0) (hi := 1601) rfl
        have q148 : (τ143.1 117 2) = (τ129.1 117 2) := ((FRw.nj f145 (by decide)).trans ((FRw.na f141 (by decide)).trans (FRw.na f138 (by decide))))
        have q149 : (τ143.1 117 5) = (τ129.1 117 5) := ((FRw.nj f145 (by decide)).trans ((FRw.na f141 (by decide)).trans (FRw.na f138 (by decide))))
        exact ⟨rfl, g144, (FR.w (FR.w (FR.w (FR.up (FR.up (FR.up (FR.up FR.rf f102 sb_Wbad_Wnp) f111 sb_Wsp_Wnp) f122 sb_Wask_Wnp) f131 sb_Wask_Wnp) f138 rfl) f141 rfl) f145 rfl), (by omega), (by omega), (by omega)⟩
      · intro h135
        clear p128
        refine wp_rv jF_233_50 ?_
        have b150 := GI.b g130 117 2 kd117 (lo := 0) (hi := 1601) rfl
        exact ⟨rfl, g130, (FR.up (FR.up (FR.up (FR.up FR.rf f102 sb_Wbad_Wnp) f111 sb_Wsp_Wnp) f122 sb_Wask_Wnp) f131 sb_Wask_Wnp), (by omega), (by omega), (by omega)⟩
set_option maxHeartbeats 4000000 in
set_option maxRecDepth 20000 in
/-- M.oneOf -/
theorem m_237 (σ : jM) (hg : GI σ) (sort : Int) (hl_sort : 0 ≤ sort) (hu_sort : sort ≤ 2)  (fr lo : Nat) (hfr : 4 ≤ fr) (hlo : 86 ≤ lo) : WP 237 0 (lv_args 0 [.ref 117, iV sort]) [] fr lo σ (fun v τ => ∃ z : Int, v = some (iV z) ∧ ((-2147483648) ≤ z ∧ z ≤ 2147483647) ∧ GI τ ∧ FR Wsp σ τ ∧ ((σ.1 117 2) ≤ (τ.1 117 2)) ∧ ((σ.1 117 5) ≠ 0 → (τ.1 117 5) = (σ.1 117 5)) ∧ ((τ.1 117 5) = 0 → (σ.1 117 5) = 0)) := by
  show WP 237 0 [(0, .ref 117), (1, iV sort)] [] _ _ _ _
  refine wp_al1 jF_237_0 rfl rfl (pc2 := 1) ?_
  refine wp_al1 jF_237_1 rfl rfl (pc2 := 2) ?_
  refine wp_gr (b := 132) jF_237_2 kd117 (by decide) (c := 232) rfl rfl rfl (pc2 := 5) ?_
  refine wp_cV (as := [.ref 132]) (rest := []) (a := 117) (mx := 2) (ci := 12) jF_237_5 kd117 (by decide) rfl rfl rfl rfl rfl (by omega) (by omega) rfl (pc2 := 8) ?_
  have b1 := GI.b hg 117 2 kd117 (lo := 0) (hi := 1601) rfl
  have b2 := GI.b hg 117 3 kd117 (lo := 0) (hi := 1600) rfl
  have b3 := GI.b hg 117 5 kd117 (lo := (-2147483648)) (hi := 2147483647) rfl
  refine wp_use (m_219 σ hg 132 3 cw132.1 cw132.2 (by decide)  _ _ (by omega) (by omega)) ?_
  rintro _ τ8 ⟨z11, rfl, h12, g9, f10, p4, p5, p6, p7⟩
  show WP 237 8 [(0, .ref 117), (1, iV sort)] [iV z11] _ _ _ _
  refine wp_z_eq jF_237_8 (m_rgb h12 rfl) rfl (pc2 := 11) ?_ ?_
  · intro h13
    clear p5
    refine wp_al1 jF_237_13 rfl rfl (pc2 := 14) ?_
    refine wp_cV (as := []) (rest := []) (a := 117) (mx := 3) (ci := 12) jF_237_14 kd117 (by decide) rfl rfl rfl rfl rfl (by omega) (by omega) rfl (pc2 := 17) ?_
    have b14 := GI.b g9 117 2 kd117 (lo := 0) (hi := 1601) rfl
    have q15 : (τ8.1 117 5) = (σ.1 117 5) := (FR.at f10 117 5 rfl)
    refine wp_use (m_225 τ8 g9   _ _ (by omega) (by omega)) ?_
    rintro _ τ20 ⟨y23, rfl, g21, f22, p16, p17, p18, p19⟩
    show WP 237 17 [(0, .ref 117), (1, iV sort)] [.long y23] _ _ _ _
    refine wp_ls1 (lv2 := [(0, .ref 117), (1, iV sort), (2, .long y23)]) jF_237_17 rfl rfl rfl (pc2 := 18) ?_
    refine wp_al1 jF_237_18 rfl rfl (pc2 := 19) ?_
    refine wp_ll1 jF_237_19 rfl rfl (pc2 := 20) ?_
    refine wp_cV (as := [.long y23]) (rest := []) (a := 117) (mx := 4) (ci := 12) jF_237_20 kd117 (by decide) rfl rfl rfl rfl rfl (by omega) (by omega) rfl (pc2 := 23) ?_
    refine wp_use (m_227 τ20 g21 y23  _ _ (by omega) (by omega)) ?_
    rintro _ _ ⟨z26, rfl, h27, rfl⟩
    show WP 237 23 [(0, .ref 117), (1, iV sort), (2, .long y23)] [iV z26] _ _ _ _
    refine wp_is2 (lv2 := [(0, .ref 117), (1, iV sort), (2, .long y23), (4, iV z26)]) jF_237_23 rfl rfl rfl (pc2 := 25) ?_
    refine wp_il2 jF_237_25 rfl rfl (pc2 := 27) ?_
    refine wp_bi jF_237_27 (by decide) rfl (pc2 := 29) ?_
    refine wp_i_ge jF_237_29 (m_rgb h27 rfl) (m_rgl rfl) rfl (pc2 := 32) ?_ ?_
    · intro h28
      refine wp_al1 jF_237_37 rfl rfl (pc2 := 38) ?_
      refine wp_gr (b := 139) jF_237_38 kd117 (by decide) (c := 239) rfl rfl rfl (pc2 := 41) ?_
      refine wp_il2 jF_237_41 rfl rfl (pc2 := 43) ?_
      refine wp_bi jF_237_43 (by decide) rfl (pc2 := 45) ?_
      refine wp_sub jF_237_45 rfl (pc2 := 46) ?_
      have b29 := GI.b hg 139 (z26 - 12).toNat kd139 (lo := 0) (hi := 11) rfl
      refine wp_iald (n := 12) jF_237_46 kd139 (by decide) rfl rfl (by omega) (by omega) ((FR.at f22 139 (z26 - 12).toNat rfl).trans (FR.at f10 139 (z26 - 12).toNat rfl)) rfl (pc2 := 47) ?_
      refine wp_is2 (lv2 := [(0, .ref 117), (1, iV sort), (2, .long y23), (4, iV z26), (5, iV (σ.1 139 (z26 - 12).toNat))]) jF_237_47 rfl rfl rfl (pc2 := 49) ?_
      refine wp_al1 jF_237_49 rfl rfl (pc2 := 50) ?_
      have b30 := GI.b g21 117 5 kd117 (lo := (-2147483648)) (hi := 2147483647) rfl
      refine wp_gi jF_237_50 kd117 (by decide) rfl rfl rfl (pc2 := 53) ?_
      refine wp_z_ne jF_237_53 (m_rgb b30 rfl) rfl (pc2 := 56) ?_ ?_
      · intro h31
        clear p18
        refine wp_al1 jF_237_79 rfl rfl (pc2 := 80) ?_
        refine wp_gi jF_237_80 kd117 (by decide) rfl rfl rfl (pc2 := 83) ?_
        refine wp_z_ne jF_237_83 (m_rgb b30 rfl) rfl (pc2 := 86) ?_ ?_
        · intro h32
          refine wp_ic jF_237_93 rfl (pc2 := 94) ?_
          refine wp_ri jF_237_94 rfl ?_
          have b33 := GI.b g21 117 2 kd117 (lo := 0) (hi := 1601) rfl
          exact ⟨(-1), rfl, ⟨by omega, by omega⟩, g21, (FR.up (FR.up FR.rf f10 sb_Wtak_Wsp) f22 sb_Wsp_Wsp), (by omega), (by omega), (by omega)⟩
        · intro h32
          refine wp_il2 jF_237_86 rfl rfl (pc2 := 88) ?_
          refine wp_ic jF_237_88 rfl (pc2 := 89) ?_
          refine wp_rem jF_237_89 (m_rgb b29 rfl) (by omega) (m_rgl rfl) (by omega) rfl (pc2 := 90) ?_
          refine wp_go jF_237_90 ?_
          refine wp_ri jF_237_94 rfl ?_
          have b34 := GI.b g21 117 2 kd117 (lo := 0) (hi := 1601) rfl
          exact ⟨((σ.1 139 (z26 - 12).toNat) % 4), rfl, ⟨by omega, by omega⟩, g21, (FR.up (FR.up FR.rf f10 sb_Wtak_Wsp) f22 sb_Wsp_Wsp), (by omega), (by omega), (by omega)⟩
      · intro h31
        replace p18 := p18 (by omega)
        clear p17
        refine wp_il2 jF_237_56 rfl rfl (pc2 := 58) ?_
        refine wp_ic jF_237_58 rfl (pc2 := 59) ?_
        refine wp_i_eq jF_237_59 ⟨by omega, by omega⟩ (m_rgl rfl) rfl (pc2 := 62) ?_ ?_
        · intro h35; exfalso; omega
        · intro h35
          refine wp_il2 jF_237_62 rfl rfl (pc2 := 64) ?_
          refine wp_ic jF_237_64 rfl (pc2 := 65) ?_
          refine wp_div jF_237_65 (m_rgb b29 rfl) (by omega) (m_rgl rfl) (by omega) rfl (pc2 := 66) ?_
          refine wp_il1 jF_237_66 rfl rfl (pc2 := 67) ?_
          refine wp_i_eq jF_237_67 ⟨by omega, by omega⟩ ⟨by omega, by omega⟩ rfl (pc2 := 70) ?_ ?_
          · intro h36
            refine wp_al1 jF_237_79 rfl rfl (pc2 := 80) ?_
            refine wp_gi jF_237_80 kd117 (by decide) rfl rfl rfl (pc2 := 83) ?_
            refine wp_z_ne jF_237_83 (m_rgb b30 rfl) rfl (pc2 := 86) ?_ ?_
            · intro h37
              refine wp_ic jF_237_93 rfl (pc2 := 94) ?_
              refine wp_ri jF_237_94 rfl ?_
              have b38 := GI.b g21 117 2 kd117 (lo := 0) (hi := 1601) rfl
              exact ⟨(-1), rfl, ⟨by omega, by omega⟩, g21, (FR.up (FR.up FR.rf f10 sb_Wtak_Wsp) f22 sb_Wsp_Wsp), (by omega), (by omega), (by omega)⟩
            · intro h37
              refine wp_il2 jF_237_86 rfl rfl (pc2 := 88) ?_
              refine wp_ic jF_237_88 rfl (pc2 := 89) ?_
              refine wp_rem jF_237_89 (m_rgb b29 rfl) (by omega) (m_rgl rfl) (by omega) rfl (pc2 := 90) ?_
              refine wp_go jF_237_90 ?_
              refine wp_ri jF_237_94 rfl ?_
              have b39 := GI.b g21 117 2 kd117 (lo := 0) (hi := 1601) rfl
              exact ⟨((σ.1 139 (z26 - 12).toNat) % 4), rfl, ⟨by omega, by omega⟩, g21, (FR.up (FR.up FR.rf f10 sb_Wtak_Wsp) f22 sb_Wsp_Wsp), (by omega), (by omega), (by omega)⟩
          · intro h36
            refine wp_al1 jF_237_70 rfl rfl (pc2 := 71) ?_
            refine wp_ic jF_237_71 rfl (pc2 := 72) ?_
            refine wp_al1 jF_237_72 rfl rfl (pc2 := 73) ?_
            have b40 := GI.b g21 117 28 kd117 (lo := (-2147483648)) (hi := 2147483647) rfl
            refine wp_gi jF_237_73 kd117 (by decide) rfl rfl rfl (pc2 := 76) ?_
            refine wp_cV (as := [iV 3, iV (τ20.1 117 28)]) (rest := []) (a := 117) (mx := 3) (ci := 12) jF_237_76 kd117 (by decide) rfl rfl rfl rfl rfl (by omega) (by omega) rfl (pc2 := 79) ?_
            refine wp_use (m_218 τ20 g21 3 (by omega) (by omega) (τ20.1 117 28) (by omega) (by omega)  _ _ (by omega) (by omega)) ?_
            rintro _ τ43 ⟨rfl, g44, f45, p41, p42⟩
            clear p41
            replace p42 := p42 (by omega)
            show WP 237 79 [(0, .ref 117), (1, iV sort), (2, .long y23), (4, iV z26), (5, iV (σ.1 139 (z26 - 12).toNat))] [] _ _ _ _
            refine wp_al1 jF_237_79 rfl rfl (pc2 := 80) ?_
            have b46 := GI.b g44 117 5 kd117 (lo := (-2147483648)) (hi := 2147483647) rfl
            refine wp_gi jF_237_80 kd117 (by decide) rfl rfl rfl (pc2 := 83) ?_
            refine wp_z_ne jF_237_83 (m_rgb b46 rfl) rfl (pc2 := 86) ?_ ?_
            · intro h47
              refine wp_ic jF_237_93 rfl (pc2 := 94) ?_
              refine wp_ri jF_237_94 rfl ?_
              have b48 := GI.b g21 117 2 kd117 (lo := 0) (hi := 1601) rfl
              have q49 : (τ43.1 117 2) = (τ20.1 117 2) := (FR.at f45 117 2 rfl)
              exact ⟨(-1), rfl, ⟨by omega, by omega⟩, g44, (FR.up (FR.up (FR.up FR.rf f10 sb_Wtak_Wsp) f22 sb_Wsp_Wsp) f45 sb_Wbad_Wsp), (by omega), (by omega), (by omega)⟩
            · intro h47
              refine wp_il2 jF_237_86 rfl rfl (pc2 := 88) ?_
              refine wp_ic jF_237_88 rfl (pc2 := 89) ?_
              refine wp_rem jF_237_89 (m_rgb b29 rfl) (by omega) (m_rgl rfl) (by omega) rfl (pc2 := 90) ?_
              refine wp_go jF_237_90 ?_
              refine wp_ri jF_237_94 rfl ?_
              have b50 := GI.b g21 117 2 kd117 (lo := 0) (hi := 1601) rfl
              have q51 : (τ43.1 117 2) = (τ20.1 117 2) := (FR.at f45 117 2 rfl)
              exact ⟨((σ.1 139 (z26 - 12).toNat) % 4), rfl, ⟨by omega, by omega⟩, g44, (FR.up (FR.up (FR.up FR.rf f10 sb_Wtak_Wsp) f22 sb_Wsp_Wsp) f45 sb_Wbad_Wsp), (by omega), (by omega), (by omega)⟩
    · intro h28
      refine wp_il2 jF_237_32 rfl rfl (pc2 := 34) ?_
      refine wp_go jF_237_34 ?_
      refine wp_is2 (lv2 := [(0, .ref 117), (1, iV sort), (2, .long y23), (4, iV z26), (5, iV z26)]) jF_237_47 rfl rfl rfl (pc2 := 49) ?_
      refine wp_al1 jF_237_49 rfl rfl (pc2 := 50) ?_
      have b52 := GI.b g21 117 5 kd117 (lo := (-2147483648)) (hi := 2147483647) rfl
      refine wp_gi jF_237_50 kd117 (by decide) rfl rfl rfl (pc2 := 53) ?_
      refine wp_z_ne jF_237_53 (m_rgb b52 rfl) rfl (pc2 := 56) ?_ ?_
      · intro h53
        clear p18
        refine wp_al1 jF_237_79 rfl rfl (pc2 := 80) ?_
        refine wp_gi jF_237_80 kd117 (by decide) rfl rfl rfl (pc2 := 83) ?_
        refine wp_z_ne jF_237_83 (m_rgb b52 rfl) rfl (pc2 := 86) ?_ ?_
        · intro h54
          refine wp_ic jF_237_93 rfl (pc2 := 94) ?_
          refine wp_ri jF_237_94 rfl ?_
          have b55 := GI.b g21 117 2 kd117 (lo := 0) (hi := 1601) rfl
          exact ⟨(-1), rfl, ⟨by omega, by omega⟩, g21, (FR.up (FR.up FR.rf f10 sb_Wtak_Wsp) f22 sb_Wsp_Wsp), (by omega), (by omega), (by omega)⟩
        · intro h54
          refine wp_il2 jF_237_86 rfl rfl (pc2 := 88) ?_
          refine wp_ic jF_237_88 rfl (pc2 := 89) ?_
          refine wp_irema jF_237_89 (m_rgl rfl) (by omega) rfl (pc2 := 90) ?_
          intro z56 h57
          refine wp_go jF_237_90 ?_
          refine wp_ri jF_237_94 rfl ?_
          have b58 := GI.b g21 117 2 kd117 (lo := 0) (hi := 1601) rfl
          exact ⟨z56, rfl, ⟨by omega, by omega⟩, g21, (FR.up (FR.up FR.rf f10 sb_Wtak_Wsp) f22 sb_Wsp_Wsp), (by omega), (by omega), (by omega)⟩
      · intro h53
        replace p18 := p18 (by omega)
        clear p17
        refine wp_il2 jF_237_56 rfl rfl (pc2 := 58) ?_
        refine wp_ic jF_237_58 rfl (pc2 := 59) ?_
        refine wp_i_eq jF_237_59 ⟨by omega, by omega⟩ (m_rgl rfl) rfl (pc2 := 62) ?_ ?_
        · intro h59
          refine wp_al1 jF_237_70 rfl rfl (pc2 := 71) ?_
          refine wp_ic jF_237_71 rfl (pc2 := 72) ?_
          refine wp_al1 jF_237_72 rfl rfl (pc2 := 73) ?_
          have b60 := GI.b g21 117 28 kd117 (lo := (-2147483648)) (hi := 2147483647) rfl
          refine wp_gi jF_237_73 kd117 (by decide) rfl rfl rfl (pc2 := 76) ?_
          refine wp_cV (as := [iV 3, iV (τ20.1 117 28)]) (rest := []) (a := 117) (mx := 3) (ci := 12) jF_237_76 kd117 (by decide) rfl rfl rfl rfl rfl (by omega) (by omega) rfl (pc2 := 79) ?_
          refine wp_use (m_218 τ20 g21 3 (by omega) (by omega) (τ20.1 117 28) (by omega) (by omega)  _ _ (by omega) (by omega)) ?_
          rintro _ τ63 ⟨rfl, g64, f65, p61, p62⟩
          clear p61
          replace p62 := p62 (by omega)
          show WP 237 79 [(0, .ref 117), (1, iV sort), (2, .long y23), (4, iV z26), (5, iV z26)] [] _ _ _ _
          refine wp_al1 jF_237_79 rfl rfl (pc2 := 80) ?_
          have b66 := GI.b g64 117 5 kd117 (lo := (-2147483648)) (hi := 2147483647) rfl
          refine wp_gi jF_237_80 kd117 (by decide) rfl rfl rfl (pc2 := 83) ?_
          refine wp_z_ne jF_237_83 (m_rgb b66 rfl) rfl (pc2 := 86) ?_ ?_
          · intro h67
            refine wp_ic jF_237_93 rfl (pc2 := 94) ?_
            refine wp_ri jF_237_94 rfl ?_
            have b68 := GI.b g21 117 2 kd117 (lo := 0) (hi := 1601) rfl
            have q69 : (τ63.1 117 2) = (τ20.1 117 2) := (FR.at f65 117 2 rfl)
            exact ⟨(-1), rfl, ⟨by omega, by omega⟩, g64, (FR.up (FR.up (FR.up FR.rf f10 sb_Wtak_Wsp) f22 sb_Wsp_Wsp) f65 sb_Wbad_Wsp), (by omega), (by omega), (by omega)⟩
          · intro h67
            refine wp_il2 jF_237_86 rfl rfl (pc2 := 88) ?_
            refine wp_ic jF_237_88 rfl (pc2 := 89) ?_
            refine wp_irema jF_237_89 (m_rgl rfl) (by omega) rfl (pc2 := 90) ?_
            intro z70 h71
            refine wp_go jF_237_90 ?_
            refine wp_ri jF_237_94 rfl ?_
            have b72 := GI.b g21 117 2 kd117 (lo := 0) (hi := 1601) rfl
            have q73 : (τ63.1 117 2) = (τ20.1 117 2) := (FR.at f65 117 2 rfl)
            exact ⟨z70, rfl, ⟨by omega, by omega⟩, g64, (FR.up (FR.up (FR.up FR.rf f10 sb_Wtak_Wsp) f22 sb_Wsp_Wsp) f65 sb_Wbad_Wsp), (by omega), (by omega), (by omega)⟩
        · intro h59
          refine wp_il2 jF_237_62 rfl rfl (pc2 := 64) ?_
          refine wp_ic jF_237_64 rfl (pc2 := 65) ?_
          refine wp_div jF_237_65 ⟨by omega, by omega⟩ (by omega) (m_rgl rfl) (by omega) rfl (pc2 := 66) ?_
          refine wp_il1 jF_237_66 rfl rfl (pc2 := 67) ?_
          refine wp_i_eq jF_237_67 ⟨by omega, by omega⟩ ⟨by omega, by omega⟩ rfl (pc2 := 70) ?_ ?_
          · intro h74
            refine wp_al1 jF_237_79 rfl rfl (pc2 := 80) ?_
            refine wp_gi jF_237_80 kd117 (by decide) rfl rfl rfl (pc2 := 83) ?_
            refine wp_z_ne jF_237_83 (m_rgb b52 rfl) rfl (pc2 := 86) ?_ ?_
            · intro h75
              refine wp_ic jF_237_93 rfl (pc2 := 94) ?_
              refine wp_ri jF_237_94 rfl ?_
              have b76 := GI.b g21 117 2 kd117 (lo := 0) (hi := 1601) rfl
              exact ⟨(-1), rfl, ⟨by omega, by omega⟩, g21, (FR.up (FR.up FR.rf f10 sb_Wtak_Wsp) f22 sb_Wsp_Wsp), (by omega), (by omega), (by omega)⟩
            · intro h75
              refine wp_il2 jF_237_86 rfl rfl (pc2 := 88) ?_
              refine wp_ic jF_237_88 rfl (pc2 := 89) ?_
              refine wp_rem jF_237_89 ⟨by omega, by omega⟩ (by omega) (m_rgl rfl) (by omega) rfl (pc2 := 90) ?_
              refine wp_go jF_237_90 ?_
              refine wp_ri jF_237_94 rfl ?_
              have b77 := GI.b g21 117 2 kd117 (lo := 0) (hi := 1601) rfl
              exact ⟨(z26 % 4), rfl, ⟨by omega, by omega⟩, g21, (FR.up (FR.up FR.rf f10 sb_Wtak_Wsp) f22 sb_Wsp_Wsp), (by omega), (by omega), (by omega)⟩
          · intro h74
            refine wp_al1 jF_237_70 rfl rfl (pc2 := 71) ?_
            refine wp_ic jF_237_71 rfl (pc2 := 72) ?_
            refine wp_al1 jF_237_72 rfl rfl (pc2 := 73) ?_
            have b78 := GI.b g21 117 28 kd117 (lo := (-2147483648)) (hi := 2147483647) rfl
            refine wp_gi jF_237_73 kd117 (by decide) rfl rfl rfl (pc2 := 76) ?_
            refine wp_cV (as := [iV 3, iV (τ20.1 117 28)]) (rest := []) (a := 117) (mx := 3) (ci := 12) jF_237_76 kd117 (by decide) rfl rfl rfl rfl rfl (by omega) (by omega) rfl (pc2 := 79) ?_
            refine wp_use (m_218 τ20 g21 3 (by omega) (by omega) (τ20.1 117 28) (by omega) (by omega)  _ _ (by omega) (by omega)) ?_
            rintro _ τ81 ⟨rfl, g82, f83, p79, p80⟩
            clear p79
            replace p80 := p80 (by omega)
            show WP 237 79 [(0, .ref 117), (1, iV sort), (2, .long y23), (4, iV z26), (5, iV z26)] [] _ _ _ _
            refine wp_al1 jF_237_79 rfl rfl (pc2 := 80) ?_
            have b84 := GI.b g82 117 5 kd117 (lo := (-2147483648)) (hi := 2147483647) rfl
            refine wp_gi jF_237_80 kd117 (by decide) rfl rfl rfl (pc2 := 83) ?_
            refine wp_z_ne jF_237_83 (m_rgb b84 rfl) rfl (pc2 := 86) ?_ ?_
            · intro h85
              refine wp_ic jF_237_93 rfl (pc2 := 94) ?_
              refine wp_ri jF_237_94 rfl ?_
              have b86 := GI.b g21 117 2 kd117 (lo := 0) (hi := 1601) rfl
              have q87 : (τ81.1 117 2) = (τ20.1 117 2) := (FR.at f83 117 2 rfl)
              exact ⟨(-1), rfl, ⟨by omega, by omega⟩, g82, (FR.up (FR.up (FR.up FR.rf f10 sb_Wtak_Wsp) f22 sb_Wsp_Wsp) f83 sb_Wbad_Wsp), (by omega), (by omega), (by omega)⟩
            · intro h85
              refine wp_il2 jF_237_86 rfl rfl (pc2 := 88) ?_
              refine wp_ic jF_237_88 rfl (pc2 := 89) ?_
              refine wp_rem jF_237_89 ⟨by omega, by omega⟩ (by omega) (m_rgl rfl) (by omega) rfl (pc2 := 90) ?_
              refine wp_go jF_237_90 ?_
              refine wp_ri jF_237_94 rfl ?_
              have b88 := GI.b g21 117 2 kd117 (lo := 0) (hi := 1601) rfl
              have q89 : (τ81.1 117 2) = (τ20.1 117 2) := (FR.at f83 117 2 rfl)
              exact ⟨(z26 % 4), rfl, ⟨by omega, by omega⟩, g82, (FR.up (FR.up (FR.up FR.rf f10 sb_Wtak_Wsp) f22 sb_Wsp_Wsp) f83 sb_Wbad_Wsp), (by omega), (by omega), (by omega)⟩
  · intro h13
    replace p5 := p5 (by omega)
    refine wp_ic jF_237_11 rfl (pc2 := 12) ?_
    refine wp_ri jF_237_12 rfl ?_
    have b90 := GI.b g9 117 2 kd117 (lo := 0) (hi := 1601) rfl
    have q91 : (τ8.1 117 5) = (σ.1 117 5) := (FR.at f10 117 5 rfl)
    exact ⟨(-1), rfl, ⟨by omega, by omega⟩, g9, (FR.up FR.rf f10 sb_Wtak_Wsp), (by omega), (by omega), (by omega)⟩
