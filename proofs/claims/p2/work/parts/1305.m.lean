set_option maxHeartbeats 4000000 in
set_option maxRecDepth 20000 in
/-- M.newWord -/
theorem m_222 (σ : jM) (hg : GI σ) (sort : Int) (hl_sort : 0 ≤ sort) (hu_sort : sort ≤ 2) (begun : Int) (hl_begun : (-2147483648) ≤ begun) (hu_begun : begun ≤ 2147483647)  (fr lo : Nat) (hfr : 5 ≤ fr) (hlo : 108 ≤ lo) : WP 222 0 (lv_args 0 [.ref 117, iV sort, iV begun]) [] fr lo σ (fun v τ => v = none ∧ GI τ ∧ FR Wnw σ τ ∧ ((σ.1 117 2) ≤ (τ.1 117 2)) ∧ ((σ.1 117 5) ≠ 0 → (τ.1 117 5) = (σ.1 117 5)) ∧ ((τ.1 117 5) = 0 → (σ.1 117 5) = 0)) := by
  show WP 222 0 [(0, .ref 117), (1, iV sort), (2, iV begun)] [] _ _ _ _
  refine wp_al1 jF_222_0 rfl rfl (pc2 := 1) ?_
  refine wp_ic jF_222_1 rfl (pc2 := 2) ?_
  refine wp_il1 jF_222_2 rfl rfl (pc2 := 3) ?_
  refine wp_mul jF_222_3 rfl (pc2 := 4) ?_
  refine wp_ic jF_222_4 rfl (pc2 := 5) ?_
  refine wp_cV (as := [iV (4 * sort), iV 4]) (rest := []) (a := 117) (mx := 4) (ci := 12) jF_222_5 kd117 (by decide) rfl rfl rfl rfl rfl (by omega) (by omega) rfl (pc2 := 8) ?_
  refine wp_use (m_223 σ hg (4 * sort) (by omega) (by omega) 4 (by omega) (by omega) (by omega) _ _ (by omega) (by omega)) ?_
  rintro _ _ ⟨z4, rfl, h5, rfl, p1⟩
  show WP 222 8 [(0, .ref 117), (1, iV sort), (2, iV begun)] [iV z4] _ _ _ _
  refine wp_is1 (lv2 := [(0, .ref 117), (1, iV sort), (2, iV begun), (3, iV z4)]) jF_222_8 rfl rfl rfl (pc2 := 9) ?_
  refine wp_il1 jF_222_9 rfl rfl (pc2 := 10) ?_
  refine wp_ic jF_222_10 rfl (pc2 := 11) ?_
  refine wp_i_ne jF_222_11 (m_rgb h5 rfl) (m_rgl rfl) rfl (pc2 := 14) ?_ ?_
  · intro h6
    refine wp_al1 jF_222_20 rfl rfl (pc2 := 21) ?_
    refine wp_cV (as := []) (rest := []) (a := 117) (mx := 3) (ci := 12) jF_222_21 kd117 (by decide) rfl rfl rfl rfl rfl (by omega) (by omega) rfl (pc2 := 24) ?_
    have b7 := GI.b hg 117 2 kd117 (lo := 0) (hi := 1601) rfl
    have b8 := GI.b hg 117 5 kd117 (lo := (-2147483648)) (hi := 2147483647) rfl
    refine wp_use (m_224 σ hg   _ _ (by omega) (by omega)) ?_
    rintro _ τ12 ⟨y15, rfl, g13, f14, p9, p10, p11⟩
    show WP 222 24 [(0, .ref 117), (1, iV sort), (2, iV begun), (3, iV z4)] [.long y15] _ _ _ _
    refine wp_ls2 (lv2 := [(0, .ref 117), (1, iV sort), (2, iV begun), (3, iV z4), (4, .long y15)]) jF_222_24 rfl rfl rfl (pc2 := 26) ?_
    refine wp_al1 jF_222_26 rfl rfl (pc2 := 27) ?_
    have b16 := GI.b g13 117 5 kd117 (lo := (-2147483648)) (hi := 2147483647) rfl
    refine wp_gi jF_222_27 kd117 (by decide) rfl rfl rfl (pc2 := 30) ?_
    refine wp_z_ne jF_222_30 (m_rgb b16 rfl) rfl (pc2 := 33) ?_ ?_
    · intro h17
      clear p11
      refine wp_rv jF_222_41 ?_
      have b18 := GI.b g13 117 2 kd117 (lo := 0) (hi := 1601) rfl
      exact ⟨rfl, g13, (FR.up FR.rf f14 sb_Wsp_Wnw), (by omega), (by omega), (by omega)⟩
    · intro h17
      replace p11 := p11 (by omega)
      clear p10
      refine wp_al1 jF_222_33 rfl rfl (pc2 := 34) ?_
      refine wp_gr (b := 138) jF_222_34 kd117 (by decide) (c := 238) rfl rfl rfl (pc2 := 37) ?_
      refine wp_il1 jF_222_37 rfl rfl (pc2 := 38) ?_
      refine wp_ll2 jF_222_38 rfl rfl (pc2 := 40) ?_
      refine wp_last (n := 36) jF_222_40 kd138 (by decide) rfl rfl (by omega) (by omega) rfl (pc2 := 41) g13 ?_
      intro τ19 g20 f21
      refine wp_rv jF_222_41 ?_
      have b22 := GI.b g13 117 2 kd117 (lo := 0) (hi := 1601) rfl
      have q23 : (τ19.1 117 2) = (τ12.1 117 2) := (FRw.na f21 (by decide))
      have q24 : (τ19.1 117 5) = (τ12.1 117 5) := (FRw.na f21 (by decide))
      exact ⟨rfl, g20, (FR.w (FR.up FR.rf f14 sb_Wsp_Wnw) f21 rfl), (by omega), (by omega), (by omega)⟩
  · intro h6
    refine wp_al1 jF_222_14 rfl rfl (pc2 := 15) ?_
    refine wp_ic jF_222_15 rfl (pc2 := 16) ?_
    refine wp_il1 jF_222_16 rfl rfl (pc2 := 17) ?_
    refine wp_cV (as := [iV 5, iV begun]) (rest := []) (a := 117) (mx := 3) (ci := 12) jF_222_17 kd117 (by decide) rfl rfl rfl rfl rfl (by omega) (by omega) rfl (pc2 := 20) ?_
    have b25 := GI.b hg 117 5 kd117 (lo := (-2147483648)) (hi := 2147483647) rfl
    refine wp_use (m_218 σ hg 5 (by omega) (by omega) begun (by omega) (by omega)  _ _ (by omega) (by omega)) ?_
    rintro _ τ28 ⟨rfl, g29, f30, p26, p27⟩
    show WP 222 20 [(0, .ref 117), (1, iV sort), (2, iV begun), (3, iV z4)] [] _ _ _ _
    refine wp_al1 jF_222_20 rfl rfl (pc2 := 21) ?_
    refine wp_cV (as := []) (rest := []) (a := 117) (mx := 3) (ci := 12) jF_222_21 kd117 (by decide) rfl rfl rfl rfl rfl (by omega) (by omega) rfl (pc2 := 24) ?_
    have b31 := GI.b hg 117 2 kd117 (lo := 0) (hi := 1601) rfl
    have q32 : (τ28.1 117 2) = (σ.1 117 2) := (FR.at f30 117 2 rfl)
    have b33 := GI.b g29 117 5 kd117 (lo := (-2147483648)) (hi := 2147483647) rfl
    refine wp_use (m_224 τ28 g29   _ _ (by omega) (by omega)) ?_
    rintro _ τ37 ⟨y40, rfl, g38, f39, p34, p35, p36⟩
    show WP 222 24 [(0, .ref 117), (1, iV sort), (2, iV begun), (3, iV z4)] [.long y40] _ _ _ _
    refine wp_ls2 (lv2 := [(0, .ref 117), (1, iV sort), (2, iV begun), (3, iV z4), (4, .long y40)]) jF_222_24 rfl rfl rfl (pc2 := 26) ?_
    refine wp_al1 jF_222_26 rfl rfl (pc2 := 27) ?_
    have b41 := GI.b g38 117 5 kd117 (lo := (-2147483648)) (hi := 2147483647) rfl
    refine wp_gi jF_222_27 kd117 (by decide) rfl rfl rfl (pc2 := 30) ?_
    refine wp_z_ne jF_222_30 (m_rgb b41 rfl) rfl (pc2 := 33) ?_ ?_
    · intro h42
      clear p36
      refine wp_rv jF_222_41 ?_
      have b43 := GI.b g38 117 2 kd117 (lo := 0) (hi := 1601) rfl
      exact ⟨rfl, g38, (FR.up (FR.up FR.rf f30 sb_Wbad_Wnw) f39 sb_Wsp_Wnw), (by omega), (by omega), (by omega)⟩
    · intro h42
      replace p36 := p36 (by omega)
      clear p35
      refine wp_al1 jF_222_33 rfl rfl (pc2 := 34) ?_
      refine wp_gr (b := 138) jF_222_34 kd117 (by decide) (c := 238) rfl rfl rfl (pc2 := 37) ?_
      refine wp_il1 jF_222_37 rfl rfl (pc2 := 38) ?_
      refine wp_ll2 jF_222_38 rfl rfl (pc2 := 40) ?_
      refine wp_last (n := 36) jF_222_40 kd138 (by decide) rfl rfl (by omega) (by omega) rfl (pc2 := 41) g38 ?_
      intro τ44 g45 f46
      refine wp_rv jF_222_41 ?_
      have b47 := GI.b g38 117 2 kd117 (lo := 0) (hi := 1601) rfl
      have q48 : (τ44.1 117 2) = (τ37.1 117 2) := (FRw.na f46 (by decide))
      have q49 : (τ44.1 117 5) = (τ37.1 117 5) := (FRw.na f46 (by decide))
      exact ⟨rfl, g45, (FR.w (FR.up (FR.up FR.rf f30 sb_Wbad_Wnw) f39 sb_Wsp_Wnw) f46 rfl), (by omega), (by omega), (by omega)⟩
set_option maxHeartbeats 4000000 in
set_option maxRecDepth 20000 in
/-- M.newLike -/
theorem m_229 (σ : jM) (hg : GI σ) (begun : Int) (hl_begun : (-2147483648) ≤ begun) (hu_begun : begun ≤ 2147483647)  (fr lo : Nat) (hfr : 5 ≤ fr) (hlo : 108 ≤ lo) : WP 229 0 (lv_args 0 [.ref 117, iV begun]) [] fr lo σ (fun v τ => v = none ∧ GI τ ∧ FR Wnl σ τ ∧ ((σ.1 117 2) ≤ (τ.1 117 2)) ∧ ((σ.1 117 5) ≠ 0 → (τ.1 117 5) = (σ.1 117 5)) ∧ ((τ.1 117 5) = 0 → (σ.1 117 5) = 0)) := by
  show WP 229 0 [(0, .ref 117), (1, iV begun)] [] _ _ _ _
  refine wp_al1 jF_229_0 rfl rfl (pc2 := 1) ?_
  refine wp_bi jF_229_1 (by decide) rfl (pc2 := 3) ?_
  refine wp_bi jF_229_3 (by decide) rfl (pc2 := 5) ?_
  refine wp_cV (as := [iV 12, iV 6]) (rest := []) (a := 117) (mx := 4) (ci := 12) jF_229_5 kd117 (by decide) rfl rfl rfl rfl rfl (by omega) (by omega) rfl (pc2 := 8) ?_
  refine wp_use (m_223 σ hg 12 (by omega) (by omega) 6 (by omega) (by omega) (by omega) _ _ (by omega) (by omega)) ?_
  rintro _ _ ⟨z4, rfl, h5, rfl, p1⟩
  show WP 229 8 [(0, .ref 117), (1, iV begun)] [iV z4] _ _ _ _
  refine wp_is1 (lv2 := [(0, .ref 117), (1, iV begun), (2, iV z4)]) jF_229_8 rfl rfl rfl (pc2 := 9) ?_
  refine wp_il1 jF_229_9 rfl rfl (pc2 := 10) ?_
  refine wp_ic jF_229_10 rfl (pc2 := 11) ?_
  refine wp_i_ne jF_229_11 (m_rgb h5 rfl) (m_rgl rfl) rfl (pc2 := 14) ?_ ?_
  · intro h6
    refine wp_al1 jF_229_20 rfl rfl (pc2 := 21) ?_
    refine wp_cV (as := []) (rest := []) (a := 117) (mx := 3) (ci := 12) jF_229_21 kd117 (by decide) rfl rfl rfl rfl rfl (by omega) (by omega) rfl (pc2 := 24) ?_
    have b7 := GI.b hg 117 2 kd117 (lo := 0) (hi := 1601) rfl
    have b8 := GI.b hg 117 5 kd117 (lo := (-2147483648)) (hi := 2147483647) rfl
    refine wp_use (m_224 σ hg   _ _ (by omega) (by omega)) ?_
    rintro _ τ12 ⟨y15, rfl, g13, f14, p9, p10, p11⟩
    show WP 229 24 [(0, .ref 117), (1, iV begun), (2, iV z4)] [.long y15] _ _ _ _
    refine wp_ls1 (lv2 := [(0, .ref 117), (1, iV begun), (2, iV z4), (3, .long y15)]) jF_229_24 rfl rfl rfl (pc2 := 25) ?_
    refine wp_al1 jF_229_25 rfl rfl (pc2 := 26) ?_
    refine wp_cV (as := []) (rest := []) (a := 117) (mx := 3) (ci := 12) jF_229_26 kd117 (by decide) rfl rfl rfl rfl rfl (by omega) (by omega) rfl (pc2 := 29) ?_
    have b16 := GI.b g13 117 2 kd117 (lo := 0) (hi := 1601) rfl
    have b17 := GI.b g13 117 5 kd117 (lo := (-2147483648)) (hi := 2147483647) rfl
    refine wp_use (m_225 τ12 g13   _ _ (by omega) (by omega)) ?_
    rintro _ τ21 ⟨y24, rfl, g22, f23, p18, p19, p20⟩
    show WP 229 29 [(0, .ref 117), (1, iV begun), (2, iV z4), (3, .long y15)] [.long y24] _ _ _ _
    refine wp_ls2 (lv2 := [(0, .ref 117), (1, iV begun), (2, iV z4), (3, .long y15), (5, .long y24)]) jF_229_29 rfl rfl rfl (pc2 := 31) ?_
    refine wp_al1 jF_229_31 rfl rfl (pc2 := 32) ?_
    refine wp_ll2 jF_229_32 rfl rfl (pc2 := 34) ?_
    refine wp_cV (as := [.long y24]) (rest := []) (a := 117) (mx := 4) (ci := 12) jF_229_34 kd117 (by decide) rfl rfl rfl rfl rfl (by omega) (by omega) rfl (pc2 := 37) ?_
    refine wp_use (m_227 τ21 g22 y24  _ _ (by omega) (by omega)) ?_
    rintro _ _ ⟨z27, rfl, h28, rfl⟩
    show WP 229 37 [(0, .ref 117), (1, iV begun), (2, iV z4), (3, .long y15), (5, .long y24)] [iV z27] _ _ _ _
    refine wp_is2 (lv2 := [(0, .ref 117), (1, iV begun), (2, iV z4), (3, .long y15), (5, .long y24), (7, iV z27)]) jF_229_37 rfl rfl rfl (pc2 := 39) ?_
    refine wp_al1 jF_229_39 rfl rfl (pc2 := 40) ?_
    have b29 := GI.b g22 117 5 kd117 (lo := (-2147483648)) (hi := 2147483647) rfl
    refine wp_gi jF_229_40 kd117 (by decide) rfl rfl rfl (pc2 := 43) ?_
    refine wp_z_ne jF_229_43 (m_rgb b29 rfl) rfl (pc2 := 46) ?_ ?_
    · intro h30
      clear p20
      refine wp_al1 jF_229_61 rfl rfl (pc2 := 62) ?_
      refine wp_gi jF_229_62 kd117 (by decide) rfl rfl rfl (pc2 := 65) ?_
      refine wp_z_eq jF_229_65 (m_rgb b29 rfl) rfl (pc2 := 68) ?_ ?_
      · intro h31
        refine wp_al1 jF_229_69 rfl rfl (pc2 := 70) ?_
        refine wp_gr (b := 139) jF_229_70 kd117 (by decide) (c := 239) rfl rfl rfl (pc2 := 73) ?_
        refine wp_il1 jF_229_73 rfl rfl (pc2 := 74) ?_
        refine wp_bi jF_229_74 (by decide) rfl (pc2 := 76) ?_
        refine wp_sub jF_229_76 rfl (pc2 := 77) ?_
        refine wp_il2 jF_229_77 rfl rfl (pc2 := 79) ?_
        refine wp_bi jF_229_79 (by decide) rfl (pc2 := 81) ?_
        refine wp_i_ge jF_229_81 (m_rgb h28 rfl) (m_rgl rfl) rfl (pc2 := 84) ?_ ?_
        · intro h32
          refine wp_al1 jF_229_89 rfl rfl (pc2 := 90) ?_
          refine wp_gr (b := 139) jF_229_90 kd117 (by decide) (c := 239) rfl rfl rfl (pc2 := 93) ?_
          refine wp_il2 jF_229_93 rfl rfl (pc2 := 95) ?_
          refine wp_bi jF_229_95 (by decide) rfl (pc2 := 97) ?_
          refine wp_sub jF_229_97 rfl (pc2 := 98) ?_
          have b33 := GI.b hg 139 (z27 - 12).toNat kd139 (lo := 0) (hi := 11) rfl
          refine wp_iald (n := 12) jF_229_98 kd139 (by decide) rfl rfl (by omega) (by omega) ((FR.at f23 139 (z27 - 12).toNat rfl).trans (FR.at f14 139 (z27 - 12).toNat rfl)) rfl (pc2 := 99) ?_
          refine wp_iast (n := 12) jF_229_99 kd139 (by decide) rfl rfl (by omega) (by omega) rfl (pc2 := 100) g22 (lo := 0) (hi := 11) rfl (by omega) (by omega) ?_
          intro τ34 g35 f36 e37
          refine wp_al1 jF_229_100 rfl rfl (pc2 := 101) ?_
          refine wp_gr (b := 138) jF_229_101 kd117 (by decide) (c := 238) rfl rfl rfl (pc2 := 104) ?_
          refine wp_il1 jF_229_104 rfl rfl (pc2 := 105) ?_
          refine wp_ll1 jF_229_105 rfl rfl (pc2 := 106) ?_
          refine wp_last (n := 36) jF_229_106 kd138 (by decide) rfl rfl (by omega) (by omega) rfl (pc2 := 107) g35 ?_
          intro τ38 g39 f40
          refine wp_rv jF_229_107 ?_
          have b41 := GI.b g22 117 2 kd117 (lo := 0) (hi := 1601) rfl
          have q42 : (τ38.1 117 2) = (τ21.1 117 2) := ((FRw.na f40 (by decide)).trans (FRw.na f36 (by decide)))
          have q43 : (τ38.1 117 5) = (τ21.1 117 5) := ((FRw.na f40 (by decide)).trans (FRw.na f36 (by decide)))
          exact ⟨rfl, g39, (FR.w (FR.w (FR.up (FR.up FR.rf f14 sb_Wsp_Wnl) f23 sb_Wsp_Wnl) f36 rfl) f40 rfl), (by omega), (by omega), (by omega)⟩
        · intro h32
          refine wp_il2 jF_229_84 rfl rfl (pc2 := 86) ?_
          refine wp_go jF_229_86 ?_
          refine wp_iast (n := 12) jF_229_99 kd139 (by decide) rfl rfl (by omega) (by omega) rfl (pc2 := 100) g22 (lo := 0) (hi := 11) rfl (by omega) (by omega) ?_
          intro τ44 g45 f46 e47
          refine wp_al1 jF_229_100 rfl rfl (pc2 := 101) ?_
          refine wp_gr (b := 138) jF_229_101 kd117 (by decide) (c := 238) rfl rfl rfl (pc2 := 104) ?_
          refine wp_il1 jF_229_104 rfl rfl (pc2 := 105) ?_
          refine wp_ll1 jF_229_105 rfl rfl (pc2 := 106) ?_
          refine wp_last (n := 36) jF_229_106 kd138 (by decide) rfl rfl (by omega) (by omega) rfl (pc2 := 107) g45 ?_
          intro τ48 g49 f50
          refine wp_rv jF_229_107 ?_
          have b51 := GI.b g22 117 2 kd117 (lo := 0) (hi := 1601) rfl
          have q52 : (τ48.1 117 2) = (τ21.1 117 2) := ((FRw.na f50 (by decide)).trans (FRw.na f46 (by decide)))
          have q53 : (τ48.1 117 5) = (τ21.1 117 5) := ((FRw.na f50 (by decide)).trans (FRw.na f46 (by decide)))
          exact ⟨rfl, g49, (FR.w (FR.w (FR.up (FR.up FR.rf f14 sb_Wsp_Wnl) f23 sb_Wsp_Wnl) f46 rfl) f50 rfl), (by omega), (by omega), (by omega)⟩
      · intro h31
        refine wp_rv jF_229_68 ?_
        have b54 := GI.b g22 117 2 kd117 (lo := 0) (hi := 1601) rfl
        exact ⟨rfl, g22, (FR.up (FR.up FR.rf f14 sb_Wsp_Wnl) f23 sb_Wsp_Wnl), (by omega), (by omega), (by omega)⟩
    · intro h30
      replace p20 := p20 (by omega)
      replace p11 := p11 (by omega)
      clear p19
      clear p10
      refine wp_il2 jF_229_46 rfl rfl (pc2 := 48) ?_
      refine wp_ic jF_229_48 rfl (pc2 := 49) ?_
      refine wp_i_ne jF_229_49 (m_rgb h28 rfl) (m_rgl rfl) rfl (pc2 := 52) ?_ ?_
      · intro h55
        refine wp_al1 jF_229_61 rfl rfl (pc2 := 62) ?_
        refine wp_gi jF_229_62 kd117 (by decide) rfl rfl rfl (pc2 := 65) ?_
        refine wp_z_eq jF_229_65 (m_rgb b29 rfl) rfl (pc2 := 68) ?_ ?_
        · intro h56
          refine wp_al1 jF_229_69 rfl rfl (pc2 := 70) ?_
          refine wp_gr (b := 139) jF_229_70 kd117 (by decide) (c := 239) rfl rfl rfl (pc2 := 73) ?_
          refine wp_il1 jF_229_73 rfl rfl (pc2 := 74) ?_
          refine wp_bi jF_229_74 (by decide) rfl (pc2 := 76) ?_
          refine wp_sub jF_229_76 rfl (pc2 := 77) ?_
          refine wp_il2 jF_229_77 rfl rfl (pc2 := 79) ?_
          refine wp_bi jF_229_79 (by decide) rfl (pc2 := 81) ?_
          refine wp_i_ge jF_229_81 ⟨by omega, by omega⟩ (m_rgl rfl) rfl (pc2 := 84) ?_ ?_
          · intro h57
            refine wp_al1 jF_229_89 rfl rfl (pc2 := 90) ?_
            refine wp_gr (b := 139) jF_229_90 kd117 (by decide) (c := 239) rfl rfl rfl (pc2 := 93) ?_
            refine wp_il2 jF_229_93 rfl rfl (pc2 := 95) ?_
            refine wp_bi jF_229_95 (by decide) rfl (pc2 := 97) ?_
            refine wp_sub jF_229_97 rfl (pc2 := 98) ?_
            have b58 := GI.b hg 139 (z27 - 12).toNat kd139 (lo := 0) (hi := 11) rfl
            refine wp_iald (n := 12) jF_229_98 kd139 (by decide) rfl rfl (by omega) (by omega) ((FR.at f23 139 (z27 - 12).toNat rfl).trans (FR.at f14 139 (z27 - 12).toNat rfl)) rfl (pc2 := 99) ?_
            refine wp_iast (n := 12) jF_229_99 kd139 (by decide) rfl rfl (by omega) (by omega) rfl (pc2 := 100) g22 (lo := 0) (hi := 11) rfl (by omega) (by omega) ?_
            intro τ59 g60 f61 e62
            refine wp_al1 jF_229_100 rfl rfl (pc2 := 101) ?_
            refine wp_gr (b := 138) jF_229_101 kd117 (by decide) (c := 238) rfl rfl rfl (pc2 := 104) ?_
            refine wp_il1 jF_229_104 rfl rfl (pc2 := 105) ?_
            refine wp_ll1 jF_229_105 rfl rfl (pc2 := 106) ?_
            refine wp_last (n := 36) jF_229_106 kd138 (by decide) rfl rfl (by omega) (by omega) rfl (pc2 := 107) g60 ?_
            intro τ63 g64 f65
            refine wp_rv jF_229_107 ?_
            have b66 := GI.b g22 117 2 kd117 (lo := 0) (hi := 1601) rfl
            have q67 : (τ63.1 117 2) = (τ21.1 117 2) := ((FRw.na f65 (by decide)).trans (FRw.na f61 (by decide)))
            have q68 : (τ63.1 117 5) = (τ21.1 117 5) := ((FRw.na f65 (by decide)).trans (FRw.na f61 (by decide)))
            exact ⟨rfl, g64, (FR.w (FR.w (FR.up (FR.up FR.rf f14 sb_Wsp_Wnl) f23 sb_Wsp_Wnl) f61 rfl) f65 rfl), (by omega), (by omega), (by omega)⟩
          · intro h57
            refine wp_il2 jF_229_84 rfl rfl (pc2 := 86) ?_
            refine wp_go jF_229_86 ?_
            refine wp_iast (n := 12) jF_229_99 kd139 (by decide) rfl rfl (by omega) (by omega) rfl (pc2 := 100) g22 (lo := 0) (hi := 11) rfl (by omega) (by omega) ?_
            intro τ69 g70 f71 e72
            refine wp_al1 jF_229_100 rfl rfl (pc2 := 101) ?_
            refine wp_gr (b := 138) jF_229_101 kd117 (by decide) (c := 238) rfl rfl rfl (pc2 := 104) ?_
            refine wp_il1 jF_229_104 rfl rfl (pc2 := 105) ?_
            refine wp_ll1 jF_229_105 rfl rfl (pc2 := 106) ?_
            refine wp_last (n := 36) jF_229_106 kd138 (by decide) rfl rfl (by omega) (by omega) rfl (pc2 := 107) g70 ?_
            intro τ73 g74 f75
            refine wp_rv jF_229_107 ?_
            have b76 := GI.b g22 117 2 kd117 (lo := 0) (hi := 1601) rfl
            have q77 : (τ73.1 117 2) = (τ21.1 117 2) := ((FRw.na f75 (by decide)).trans (FRw.na f71 (by decide)))
            have q78 : (τ73.1 117 5) = (τ21.1 117 5) := ((FRw.na f75 (by decide)).trans (FRw.na f71 (by decide)))
            exact ⟨rfl, g74, (FR.w (FR.w (FR.up (FR.up FR.rf f14 sb_Wsp_Wnl) f23 sb_Wsp_Wnl) f71 rfl) f75 rfl), (by omega), (by omega), (by omega)⟩
        · intro h56
          refine wp_rv jF_229_68 ?_
          have b79 := GI.b g22 117 2 kd117 (lo := 0) (hi := 1601) rfl
          exact ⟨rfl, g22, (FR.up (FR.up FR.rf f14 sb_Wsp_Wnl) f23 sb_Wsp_Wnl), (by omega), (by omega), (by omega)⟩
      · intro h55
        refine wp_al1 jF_229_52 rfl rfl (pc2 := 53) ?_
        refine wp_ic jF_229_53 rfl (pc2 := 54) ?_
        refine wp_al1 jF_229_54 rfl rfl (pc2 := 55) ?_
        have b80 := GI.b g22 117 28 kd117 (lo := (-2147483648)) (hi := 2147483647) rfl
        refine wp_gi jF_229_55 kd117 (by decide) rfl rfl rfl (pc2 := 58) ?_
        refine wp_cV (as := [iV 3, iV (τ21.1 117 28)]) (rest := []) (a := 117) (mx := 3) (ci := 12) jF_229_58 kd117 (by decide) rfl rfl rfl rfl rfl (by omega) (by omega) rfl (pc2 := 61) ?_
        refine wp_use (m_218 τ21 g22 3 (by omega) (by omega) (τ21.1 117 28) (by omega) (by omega)  _ _ (by omega) (by omega)) ?_
        rintro _ τ83 ⟨rfl, g84, f85, p81, p82⟩
        clear p81
        replace p82 := p82 (by omega)
        show WP 229 61 [(0, .ref 117), (1, iV begun), (2, iV z4), (3, .long y15), (5, .long y24), (7, iV z27)] [] _ _ _ _
        refine wp_al1 jF_229_61 rfl rfl (pc2 := 62) ?_
        have b86 := GI.b g84 117 5 kd117 (lo := (-2147483648)) (hi := 2147483647) rfl
        refine wp_gi jF_229_62 kd117 (by decide) rfl rfl rfl (pc2 := 65) ?_
        refine wp_z_eq jF_229_65 (m_rgb b86 rfl) rfl (pc2 := 68) ?_ ?_
        · intro h87
          refine wp_al1 jF_229_69 rfl rfl (pc2 := 70) ?_
          refine wp_gr (b := 139) jF_229_70 kd117 (by decide) (c := 239) rfl rfl rfl (pc2 := 73) ?_
          refine wp_il1 jF_229_73 rfl rfl (pc2 := 74) ?_
          refine wp_bi jF_229_74 (by decide) rfl (pc2 := 76) ?_
          refine wp_sub jF_229_76 rfl (pc2 := 77) ?_
          refine wp_il2 jF_229_77 rfl rfl (pc2 := 79) ?_
          refine wp_bi jF_229_79 (by decide) rfl (pc2 := 81) ?_
          refine wp_i_ge jF_229_81 ⟨by omega, by omega⟩ (m_rgl rfl) rfl (pc2 := 84) ?_ ?_
          · intro h88; exfalso; omega
          · intro h88
            refine wp_il2 jF_229_84 rfl rfl (pc2 := 86) ?_
            refine wp_go jF_229_86 ?_
            refine wp_iast (n := 12) jF_229_99 kd139 (by decide) rfl rfl (by omega) (by omega) rfl (pc2 := 100) g84 (lo := 0) (hi := 11) rfl (by omega) (by omega) ?_
            intro τ89 g90 f91 e92
            refine wp_al1 jF_229_100 rfl rfl (pc2 := 101) ?_
            refine wp_gr (b := 138) jF_229_101 kd117 (by decide) (c := 238) rfl rfl rfl (pc2 := 104) ?_
            refine wp_il1 jF_229_104 rfl rfl (pc2 := 105) ?_
            refine wp_ll1 jF_229_105 rfl rfl (pc2 := 106) ?_
            refine wp_last (n := 36) jF_229_106 kd138 (by decide) rfl rfl (by omega) (by omega) rfl (pc2 := 107) g90 ?_
            intro τ93 g94 f95
            refine wp_rv jF_229_107 ?_
            have b96 := GI.b g22 117 2 kd117 (lo := 0) (hi := 1601) rfl
            have q97 : (τ93.1 117 2) = (τ21.1 117 2) := ((FRw.na f95 (by decide)).trans ((FRw.na f91 (by decide)).trans (FR.at f85 117 2 rfl)))
            have q98 : (τ93.1 117 5) = (τ83.1 117 5) := ((FRw.na f95 (by decide)).trans (FRw.na f91 (by decide)))
            exact ⟨rfl, g94, (FR.w (FR.w (FR.up (FR.up (FR.up FR.rf f14 sb_Wsp_Wnl) f23 sb_Wsp_Wnl) f85 sb_Wbad_Wnl) f91 rfl) f95 rfl), (by omega), (by omega), (by omega)⟩
        · intro h87
          refine wp_rv jF_229_68 ?_
          have b99 := GI.b g22 117 2 kd117 (lo := 0) (hi := 1601) rfl
          have q100 : (τ83.1 117 2) = (τ21.1 117 2) := (FR.at f85 117 2 rfl)
          exact ⟨rfl, g84, (FR.up (FR.up (FR.up FR.rf f14 sb_Wsp_Wnl) f23 sb_Wsp_Wnl) f85 sb_Wbad_Wnl), (by omega), (by omega), (by omega)⟩
  · intro h6
    refine wp_al1 jF_229_14 rfl rfl (pc2 := 15) ?_
    refine wp_ic jF_229_15 rfl (pc2 := 16) ?_
    refine wp_il1 jF_229_16 rfl rfl (pc2 := 17) ?_
    refine wp_cV (as := [iV 5, iV begun]) (rest := []) (a := 117) (mx := 3) (ci := 12) jF_229_17 kd117 (by decide) rfl rfl rfl rfl rfl (by omega) (by omega) rfl (pc2 := 20) ?_
    have b101 := GI.b hg 117 5 kd117 (lo := (-2147483648)) (hi := 2147483647) rfl
    refine wp_use (m_218 σ hg 5 (by omega) (by omega) begun (by omega) (by omega)  _ _ (by omega) (by omega)) ?_
    rintro _ τ104 ⟨rfl, g105, f106, p102, p103⟩
    show WP 229 20 [(0, .ref 117), (1, iV begun), (2, iV z4)] [] _ _ _ _
    refine wp_al1 jF_229_20 rfl rfl (pc2 := 21) ?_
    refine wp_cV (as := []) (rest := []) (a := 117) (mx := 3) (ci := 12) jF_229_21 kd117 (by decide) rfl rfl rfl rfl rfl (by omega) (by omega) rfl (pc2 := 24) ?_
    have b107 := GI.b hg 117 2 kd117 (lo := 0) (hi := 1601) rfl
    have q108 : (τ104.1 117 2) = (σ.1 117 2) := (FR.at f106 117 2 rfl)
    have b109 := GI.b g105 117 5 kd117 (lo := (-2147483648)) (hi := 2147483647) rfl
    refine wp_use (m_224 τ104 g105   _ _ (by omega) (by omega)) ?_
    rintro _ τ113 ⟨y116, rfl, g114, f115, p110, p111, p112⟩
    show WP 229 24 [(0, .ref 117), (1, iV begun), (2, iV z4)] [.long y116] _ _ _ _
    refine wp_ls1 (lv2 := [(0, .ref 117), (1, iV begun), (2, iV z4), (3, .long y116)]) jF_229_24 rfl rfl rfl (pc2 := 25) ?_
    refine wp_al1 jF_229_25 rfl rfl (pc2 := 26) ?_
    refine wp_cV (as := []) (rest := []) (a := 117) (mx := 3) (ci := 12) jF_229_26 kd117 (by decide) rfl rfl rfl rfl rfl (by omega) (by omega) rfl (pc2 := 29) ?_
    have b117 := GI.b g114 117 2 kd117 (lo := 0) (hi := 1601) rfl
    have b118 := GI.b g114 117 5 kd117 (lo := (-2147483648)) (hi := 2147483647) rfl
    refine wp_use (m_225 τ113 g114   _ _ (by omega) (by omega)) ?_
    rintro _ τ122 ⟨y125, rfl, g123, f124, p119, p120, p121⟩
    show WP 229 29 [(0, .ref 117), (1, iV begun), (2, iV z4), (3, .long y116)] [.long y125] _ _ _ _
    refine wp_ls2 (lv2 := [(0, .ref 117), (1, iV begun), (2, iV z4), (3, .long y116), (5, .long y125)]) jF_229_29 rfl rfl rfl (pc2 := 31) ?_
    refine wp_al1 jF_229_31 rfl rfl (pc2 := 32) ?_
    refine wp_ll2 jF_229_32 rfl rfl (pc2 := 34) ?_
    refine wp_cV (as := [.long y125]) (rest := []) (a := 117) (mx := 4) (ci := 12) jF_229_34 kd117 (by decide) rfl rfl rfl rfl rfl (by omega) (by omega) rfl (pc2 := 37) ?_
    refine wp_use (m_227 τ122 g123 y125  _ _ (by omega) (by omega)) ?_
    rintro _ _ ⟨z128, rfl, h129, rfl⟩
    show WP 229 37 [(0, .ref 117), (1, iV begun), (2, iV z4), (3, .long y116), (5, .long y125)] [iV z128] _ _ _ _
    refine wp_is2 (lv2 := [(0, .ref 117), (1, iV begun), (2, iV z4), (3, .long y116), (5, .long y125), (7, iV z128)]) jF_229_37 rfl rfl rfl (pc2 := 39) ?_
    refine wp_al1 jF_229_39 rfl rfl (pc2 := 40) ?_
    have b130 := GI.b g123 117 5 kd117 (lo := (-2147483648)) (hi := 2147483647) rfl
    refine wp_gi jF_229_40 kd117 (by decide) rfl rfl rfl (pc2 := 43) ?_
    refine wp_z_ne jF_229_43 (m_rgb b130 rfl) rfl (pc2 := 46) ?_ ?_
    · intro h131
      clear p121
      refine wp_al1 jF_229_61 rfl rfl (pc2 := 62) ?_
      refine wp_gi jF_229_62 kd117 (by decide) rfl rfl rfl (pc2 := 65) ?_
      refine wp_z_eq jF_229_65 (m_rgb b130 rfl) rfl (pc2 := 68) ?_ ?_
      · intro h132
        refine wp_al1 jF_229_69 rfl rfl (pc2 := 70) ?_
        refine wp_gr (b := 139) jF_229_70 kd117 (by decide) (c := 239) rfl rfl rfl (pc2 := 73) ?_
        refine wp_il1 jF_229_73 rfl rfl (pc2 := 74) ?_
        refine wp_bi jF_229_74 (by decide) rfl (pc2 := 76) ?_
        refine wp_sub jF_229_76 rfl (pc2 := 77) ?_
        refine wp_il2 jF_229_77 rfl rfl (pc2 := 79) ?_
        refine wp_bi jF_229_79 (by decide) rfl (pc2 := 81) ?_
        refine wp_i_ge jF_229_81 (m_rgb h129 rfl) (m_rgl rfl) rfl (pc2 := 84) ?_ ?_
        · intro h133
          refine wp_al1 jF_229_89 rfl rfl (pc2 := 90) ?_
          refine wp_gr (b := 139) jF_229_90 kd117 (by decide) (c := 239) rfl rfl rfl (pc2 := 93) ?_
          refine wp_il2 jF_229_93 rfl rfl (pc2 := 95) ?_
          refine wp_bi jF_229_95 (by decide) rfl (pc2 := 97) ?_
          refine wp_sub jF_229_97 rfl (pc2 := 98) ?_
          have b134 := GI.b hg 139 (z128 - 12).toNat kd139 (lo := 0) (hi := 11) rfl
          refine wp_iald (n := 12) jF_229_98 kd139 (by decide) rfl rfl (by omega) (by omega) ((FR.at f124 139 (z128 - 12).toNat rfl).trans ((FR.at f115 139 (z128 - 12).toNat rfl).trans (FR.at f106 139 (z128 - 12).toNat rfl))) rfl (pc2 := 99) ?_
          refine wp_iast (n := 12) jF_229_99 kd139 (by decide) rfl rfl (by omega) (by omega) rfl (pc2 := 100) g123 (lo := 0) (hi := 11) rfl (by omega) (by omega) ?_
          intro τ135 g136 f137 e138
          refine wp_al1 jF_229_100 rfl rfl (pc2 := 101) ?_
          refine wp_gr (b := 138) jF_229_101 kd117 (by decide) (c := 238) rfl rfl rfl (pc2 := 104) ?_
          refine wp_il1 jF_229_104 rfl rfl (pc2 := 105) ?_
          refine wp_ll1 jF_229_105 rfl rfl (pc2 := 106) ?_
          refine wp_last (n := 36) jF_229_106 kd138 (by decide) rfl rfl (by omega) (by omega) rfl (pc2 := 107) g136 ?_
          intro τ139 g140 f141
          refine wp_rv jF_229_107 ?_
          have b142 := GI.b g123 117 2 kd117 (lo := 0) (hi := 1601) rfl
          have q143 : (τ139.1 117 2) = (τ122.1 117 2) := ((FRw.na f141 (by decide)).trans (FRw.na f137 (by decide)))
          have q144 : (τ139.1 117 5) = (τ122.1 117 5) := ((FRw.na f141 (by decide)).trans (FRw.na f137 (by decide)))
          exact ⟨rfl, g140, (FR.w (FR.w (FR.up (FR.up (FR.up FR.rf f106 sb_Wbad_Wnl) f115 sb_Wsp_Wnl) f124 sb_Wsp_Wnl) f137 rfl) f141 rfl), (by omega), (by omega), (by omega)⟩
        · intro h133
          refine wp_il2 jF_229_84 rfl rfl (pc2 := 86) ?_
          refine wp_go jF_229_86 ?_
          refine wp_iast (n := 12) jF_229_99 kd139 (by decide) rfl rfl (by omega) (by omega) rfl (pc2 := 100) g123 (lo := 0) (hi := 11) rfl (by omega) (by omega) ?_
          intro τ145 g146 f147 e148
          refine wp_al1 jF_229_100 rfl rfl (pc2 := 101) ?_
          refine wp_gr (b := 138) jF_229_101 kd117 (by decide) (c := 238) rfl rfl rfl (pc2 := 104) ?_
          refine wp_il1 jF_229_104 rfl rfl (pc2 := 105) ?_
          refine wp_ll1 jF_229_105 rfl rfl (pc2 := 106) ?_
          refine wp_last (n := 36) jF_229_106 kd138 (by decide) rfl rfl (by omega) (by omega) rfl (pc2 := 107) g146 ?_
          intro τ149 g150 f151
          refine wp_rv jF_229_107 ?_
          have b152 := GI.b g123 117 2 kd117 (lo := 0) (hi := 1601) rfl
          have q153 : (τ149.1 117 2) = (τ122.1 117 2) := ((FRw.na f151 (by decide)).trans (FRw.na f147 (by decide)))
          have q154 : (τ149.1 117 5) = (τ122.1 117 5) := ((FRw.na f151 (by decide)).trans (FRw.na f147 (by decide)))
          exact ⟨rfl, g150, (FR.w (FR.w (FR.up (FR.up (FR.up FR.rf f106 sb_Wbad_Wnl) f115 sb_Wsp_Wnl) f124 sb_Wsp_Wnl) f147 rfl) f151 rfl), (by omega), (by omega), (by omega)⟩
      · intro h132
        refine wp_rv jF_229_68 ?_
        have b155 := GI.b g123 117 2 kd117 (lo := 0) (hi := 1601) rfl
        exact ⟨rfl, g123, (FR.up (FR.up (FR.up FR.rf f106 sb_Wbad_Wnl) f115 sb_Wsp_Wnl) f124 sb_Wsp_Wnl), (by omega), (by omega), (by omega)⟩
    · intro h131
      replace p121 := p121 (by omega)
      replace p112 := p112 (by omega)
      clear p120
      clear p111
      refine wp_il2 jF_229_46 rfl rfl (pc2 := 48) ?_
      refine wp_ic jF_229_48 rfl (pc2 := 49) ?_
      refine wp_i_ne jF_229_49 (m_rgb h129 rfl) (m_rgl rfl) rfl (pc2 := 52) ?_ ?_
      · intro h156
        refine wp_al1 jF_229_61 rfl rfl (pc2 := 62) ?_
        refine wp_gi jF_229_62 kd117 (by decide) rfl rfl rfl (pc2 := 65) ?_
        refine wp_z_eq jF_229_65 (m_rgb b130 rfl) rfl (pc2 := 68) ?_ ?_
        · intro h157
          refine wp_al1 jF_229_69 rfl rfl (pc2 := 70) ?_
          refine wp_gr (b := 139) jF_229_70 kd117 (by decide) (c := 239) rfl rfl rfl (pc2 := 73) ?_
          refine wp_il1 jF_229_73 rfl rfl (pc2 := 74) ?_
          refine wp_bi jF_229_74 (by decide) rfl (pc2 := 76) ?_
          refine wp_sub jF_229_76 rfl (pc2 := 77) ?_
          refine wp_il2 jF_229_77 rfl rfl (pc2 := 79) ?_
          refine wp_bi jF_229_79 (by decide) rfl (pc2 := 81) ?_
          refine wp_i_ge jF_229_81 ⟨by omega, by omega⟩ (m_rgl rfl) rfl (pc2 := 84) ?_ ?_
          · intro h158
            refine wp_al1 jF_229_89 rfl rfl (pc2 := 90) ?_
            refine wp_gr (b := 139) jF_229_90 kd117 (by decide) (c := 239) rfl rfl rfl (pc2 := 93) ?_
            refine wp_il2 jF_229_93 rfl rfl (pc2 := 95) ?_
            refine wp_bi jF_229_95 (by decide) rfl (pc2 := 97) ?_
            refine wp_sub jF_229_97 rfl (pc2 := 98) ?_
            have b159 := GI.b hg 139 (z128 - 12).toNat kd139 (lo := 0) (hi := 11) rfl
            refine wp_iald (n := 12) jF_229_98 kd139 (by decide) rfl rfl (by omega) (by omega) ((FR.at f124 139 (z128 - 12).toNat rfl).trans ((FR.at f115 139 (z128 - 12).toNat rfl).trans (FR.at f106 139 (z128 - 12).toNat rfl))) rfl (pc2 := 99) ?_
            refine wp_iast (n := 12) jF_229_99 kd139 (by decide) rfl rfl (by omega) (by omega) rfl (pc2 := 100) g123 (lo := 0) (hi := 11) rfl (by omega) (by omega) ?_
            intro τ160 g161 f162 e163
            refine wp_al1 jF_229_100 rfl rfl (pc2 := 101) ?_
            refine wp_gr (b := 138) jF_229_101 kd117 (by decide) (c := 238) rfl rfl rfl (pc2 := 104) ?_
            refine wp_il1 jF_229_104 rfl rfl (pc2 := 105) ?_
            refine wp_ll1 jF_229_105 rfl rfl (pc2 := 106) ?_
            refine wp_last (n := 36) jF_229_106 kd138 (by decide) rfl rfl (by omega) (by omega) rfl (pc2 := 107) g161 ?_
            intro τ164 g165 f166
            refine wp_rv jF_229_107 ?_
            have b167 := GI.b g123 117 2 kd117 (lo := 0) (hi := 1601) rfl
            have q168 : (τ164.1 117 2) = (τ122.1 117 2) := ((FRw.na f166 (by decide)).trans (FRw.na f162 (by decide)))
            have q169 : (τ164.1 117 5) = (τ122.1 117 5) := ((FRw.na f166 (by decide)).trans (FRw.na f162 (by decide)))
            exact ⟨rfl, g165, (FR.w (FR.w (FR.up (FR.up (FR.up FR.rf f106 sb_Wbad_Wnl) f115 sb_Wsp_Wnl) f124 sb_Wsp_Wnl) f162 rfl) f166 rfl), (by omega), (by omega), (by omega)⟩
          · intro h158
            refine wp_il2 jF_229_84 rfl rfl (pc2 := 86) ?_
            refine wp_go jF_229_86 ?_
            refine wp_iast (n := 12) jF_229_99 kd139 (by decide) rfl rfl (by omega) (by omega) rfl (pc2 := 100) g123 (lo := 0) (hi := 11) rfl (by omega) (by omega) ?_
            intro τ170 g171 f172 e173
            refine wp_al1 jF_229_100 rfl rfl (pc2 := 101) ?_
            refine wp_gr (b := 138) jF_229_101 kd117 (by decide) (c := 238) rfl rfl rfl (pc2 := 104) ?_
            refine wp_il1 jF_229_104 rfl rfl (pc2 := 105) ?_
            refine wp_ll1 jF_229_105 rfl rfl (pc2 := 106) ?_
            refine wp_last (n := 36) jF_229_106 kd138 (by decide) rfl rfl (by omega) (by omega) rfl (pc2 := 107) g171 ?_
            intro τ174 g175 f176
            refine wp_rv jF_229_107 ?_
            have b177 := GI.b g123 117 2 kd117 (lo := 0) (hi := 1601) rfl
            have q178 : (τ174.1 117 2) = (τ122.1 117 2) := ((FRw.na f176 (by decide)).trans (FRw.na f172 (by decide)))
            have q179 : (τ174.1 117 5) = (τ122.1 117 5) := ((FRw.na f176 (by decide)).trans (FRw.na f172 (by decide)))
            exact ⟨rfl, g175, (FR.w (FR.w (FR.up (FR.up (FR.up FR.rf f106 sb_Wbad_Wnl) f115 sb_Wsp_Wnl) f124 sb_Wsp_Wnl) f172 rfl) f176 rfl), (by omega), (by omega), (by omega)⟩
        · intro h157
          refine wp_rv jF_229_68 ?_
          have b180 := GI.b g123 117 2 kd117 (lo := 0) (hi := 1601) rfl
          exact ⟨rfl, g123, (FR.up (FR.up (FR.up FR.rf f106 sb_Wbad_Wnl) f115 sb_Wsp_Wnl) f124 sb_Wsp_Wnl), (by omega), (by omega), (by omega)⟩
      · intro h156
        refine wp_al1 jF_229_52 rfl rfl (pc2 := 53) ?_
        refine wp_ic jF_229_53 rfl (pc2 := 54) ?_
        refine wp_al1 jF_229_54 rfl rfl (pc2 := 55) ?_
        have b181 := GI.b g123 117 28 kd117 (lo := (-2147483648)) (hi := 2147483647) rfl
        refine wp_gi jF_229_55 kd117 (by decide) rfl rfl rfl (pc2 := 58) ?_
        refine wp_cV (as := [iV 3, iV (τ122.1 117 28)]) (rest := []) (a := 117) (mx := 3) (ci := 12) jF_229_58 kd117 (by decide) rfl rfl rfl rfl rfl (by omega) (by omega) rfl (pc2 := 61) ?_
        refine wp_use (m_218 τ122 g123 3 (by omega) (by omega) (τ122.1 117 28) (by omega) (by omega)  _ _ (by omega) (by omega)) ?_
        rintro _ τ184 ⟨rfl, g185, f186, p182, p183⟩
        clear p182
        replace p183 := p183 (by omega)
        show WP 229 61 [(0, .ref 117), (1, iV begun), (2, iV z4), (3, .long y116), (5, .long y125), (7, iV z128)] [] _ _ _ _
        refine wp_al1 jF_229_61 rfl rfl (pc2 := 62) ?_
        have b187 := GI.b g185 117 5 kd117 (lo := (-2147483648)) (hi := 2147483647) rfl
        refine wp_gi jF_229_62 kd117 (by decide) rfl rfl rfl (pc2 := 65) ?_
        refine wp_z_eq jF_229_65 (m_rgb b187 rfl) rfl (pc2 := 68) ?_ ?_
        · intro h188
          refine wp_al1 jF_229_69 rfl rfl (pc2 := 70) ?_
          refine wp_gr (b := 139) jF_229_70 kd117 (by decide) (c := 239) rfl rfl rfl (pc2 := 73) ?_
          refine wp_il1 jF_229_73 rfl rfl (pc2 := 74) ?_
          refine wp_bi jF_229_74 (by decide) rfl (pc2 := 76) ?_
          refine wp_sub jF_229_76 rfl (pc2 := 77) ?_
          refine wp_il2 jF_229_77 rfl rfl (pc2 := 79) ?_
          refine wp_bi jF_229_79 (by decide) rfl (pc2 := 81) ?_
          refine wp_i_ge jF_229_81 ⟨by omega, by omega⟩ (m_rgl rfl) rfl (pc2 := 84) ?_ ?_
          · intro h189; exfalso; omega
          · intro h189
            refine wp_il2 jF_229_84 rfl rfl (pc2 := 86) ?_
            refine wp_go jF_229_86 ?_
            refine wp_iast (n := 12) jF_229_99 kd139 (by decide) rfl rfl (by omega) (by omega) rfl (pc2 := 100) g185 (lo := 0) (hi := 11) rfl (by omega) (by omega) ?_
            intro τ190 g191 f192 e193
            refine wp_al1 jF_229_100 rfl rfl (pc2 := 101) ?_
            refine wp_gr (b := 138) jF_229_101 kd117 (by decide) (c := 238) rfl rfl rfl (pc2 := 104) ?_
            refine wp_il1 jF_229_104 rfl rfl (pc2 := 105) ?_
            refine wp_ll1 jF_229_105 rfl rfl (pc2 := 106) ?_
            refine wp_last (n := 36) jF_229_106 kd138 (by decide) rfl rfl (by omega) (by omega) rfl (pc2 := 107) g191 ?_
            intro τ194 g195 f196
            refine wp_rv jF_229_107 ?_
            have b197 := GI.b g123 117 2 kd117 (lo := 0) (hi := 1601) rfl
            have q198 : (τ194.1 117 2) = (τ122.1 117 2) := ((FRw.na f196 (by decide)).trans ((FRw.na f192 (by decide)).trans (FR.at f186 117 2 rfl)))
            have q199 : (τ194.1 117 5) = (τ184.1 117 5) := ((FRw.na f196 (by decide)).trans (FRw.na f192 (by decide)))
            exact ⟨rfl, g195, (FR.w (FR.w (FR.up (FR.up (FR.up (FR.up FR.rf f106 sb_Wbad_Wnl) f115 sb_Wsp_Wnl) f124 sb_Wsp_Wnl) f186 sb_Wbad_Wnl) f192 rfl) f196 rfl), (by omega), (by omega), (by omega)⟩
        · intro h188
          refine wp_rv jF_229_68 ?_
          have b200 := GI.b g123 117 2 kd117 (lo := 0) (hi := 1601) rfl
          have q201 : (τ184.1 117 2) = (τ122.1 117 2) := (FR.at f186 117 2 rfl)
          exact ⟨rfl, g185, (FR.up (FR.up (FR.up (FR.up FR.rf f106 sb_Wbad_Wnl) f115 sb_Wsp_Wnl) f124 sb_Wsp_Wnl) f186 sb_Wbad_Wnl), (by omega), (by omega), (by omega)⟩
