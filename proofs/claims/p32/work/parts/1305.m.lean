set_option maxHeartbeats 4000000 in
set_option maxRecDepth 20000 in
/-- M.newWord -/
theorem m_222 (σ : jM) (hg : GI σ) (sort : Int) (hl_sort : 0 ≤ sort) (hu_sort : sort ≤ 2) (begun : Int) (hl_begun : (-2147483648) ≤ begun) (hu_begun : begun ≤ 2147483647)  (fr lo : Nat) (hfr : 5 ≤ fr) (hlo : 108 ≤ lo) : WP 222 0 (lv_args 0 [.ref 117, iV sort, iV begun]) [] fr lo σ (fun v τ => v = none ∧ GI τ ∧ FR Wnw σ τ ∧ ((σ.1 117 2) ≤ (τ.1 117 2)) ∧ ((σ.1 117 5) ≠ 0 → (τ.1 117 5) = (σ.1 117 5)) ∧ ((τ.1 117 5) = 0 → (σ.1 117 5) = 0)) := by
  show WP 222 0 [(0, .ref 117), (1, iV sort), (2, iV begun)] [] _ _ _ _
  refine wp_al1 jF_222_0 rfl rfl (pc2 := 1) ?_
  refine wp_ic jF_222_1 rfl (pc2 := 2) ?_
  refine wp_il1 jF_222_2 rfl rfl (pc2 := 3) ?_
  refine wp_mul jF_222_3 rfl (pc2 := 4) ?_
  refine wp_ic jF_222_4 rfl (pc2 := 5) ?_
  refine wp_cV (as := [iV (4 * sort), iV 4]) (rest := []) (a := 117) (mx := 4) (ci := 12) jF_222_5 kd117 (by decide) rfl rfl rfl rfl rfl (by omega) (by omega) rfl (pc2 := 8) ?_
  refine wp_use (m_223 σ hg (4 * sort) (by omega) (by omega) 4 (by omega) (by omega) (by omega) _ _ (by omega) (by omega)) ?_
  rintro _ _ ⟨z4, rfl, h5, rfl, p1⟩
  show WP 222 8 [(0, .ref 117), (1, iV sort), (2, iV begun)] [iV z4] _ _ _ _
  refine wp_is1 (lv2 := [(0, .ref 117), (1, iV sort), (2, iV begun), (3, iV z4)]) jF_222_8 rfl rfl rfl (pc2 := 9) ?_
  refine wp_il1 jF_222_9 rfl rfl (pc2 := 10) ?_
  refine wp_ic jF_222_10 rfl (pc2 := 11) ?_
  refine wp_i_ne jF_222_11 (m_rgb h5 rfl) (m_rgl rfl) rfl (pc2 := 14) ?_ ?_
  · intro h6
    refine wp_al1 jF_222_20 rfl rfl (pc2 := 21) ?_
    refine wp_cV (as := []) (rest := []) (a := 117) (mx := 3) (ci := 12) jF_222_21 kd117 (by decide) rfl rfl rfl rfl rfl (by omega) (by omega) rfl (pc2 := 24) ?_
    have b7 := GI.b hg 117 2 kd117 (lo := 0) (hi := 1601) rfl
    have b8 := GI.b hg 117 5 kd117 (lo := (-2147483648)) (hi := 2147483647) rfl
    refine wp_use (m_224 σ hg   _ _ (by omega) (by omega)) ?_
    rintro _ τ12 ⟨y15, rfl, g13, f14, p9, p10, p11⟩
    show WP 222 24 [(0, .ref 117), (1, iV sort), (2, iV begun), (3, iV z4)] [.long y15] _ _ _ _
    refine wp_ls2 (lv2 := [(0, .ref 117), (1, iV sort), (2, iV begun), (3, iV z4), (4, .long y15)]) jF_222_24 rfl rfl rfl (pc2 := 26) ?_
    refine wp_al1 jF_222_26 rfl rfl (pc2 := 27) ?_
    have b16 := GI.b g13 117 5 kd117 (lo := (-2147483648)) (hi := 2147483647) rfl
    refine wp_gi jF_222_27 kd117 (by decide) rfl rfl rfl (pc2 := 30) ?_
    refine wp_z_ne jF_222_30 (m_rgb b16 rfl) rfl (pc2 := 33) ?_ ?_
    · intro h17
      clear p11
      refine wp_rv jF_222_41 ?_
      have b18 := GI.b g13 117 2 kd117 (lo := 0) (hi := 1601) rfl
      exact ⟨rfl, g13, (FR.up FR.rf f14 sb_Wsp_Wnw), (by omega), (by omega), (by omega)⟩
    · intro h17
      replace p11 := p11 (by omega)
      clear p10
      refine wp_al1 jF_222_33 rfl rfl (pc2 := 34) ?_
      refine wp_gr (b := 138) jF_222_34 kd117 (by decide) (c := 238) rfl rfl rfl (pc2 := 37) ?_
      refine wp_il1 jF_222_37 rfl rfl (pc2 := 38) ?_
      refine wp_ll2 jF_222_38 rfl rfl (pc2 := 40) ?_
      refine wp_last (n := 36) jF_222_40 kd138 (by decide) rfl rfl (by omega) (by omega) rfl (pc2 := 41) g13 ?_
      intro τ19 g20 f21
      refine wp_rv jF_222_41 ?_
      have b22 := GI.b g13 117 2 kd117 (lo := 0) (hi := 1601) rfl
      have q23 : (τ19.1 117 2) = (τ12.1 117 2) := (FRw.na f21 (by decide))
      have q24 : (τ19.1 117 5) = (τ12.1 117 5) := (FRw.na f21 (by decide))
      exact ⟨rfl, g20, (FR.w (FR.up FR.rf f14 sb_Wsp_Wnw) f21 rfl), (by omega), (by omega), (by omega)⟩
  · intro h6
    refine wp_al1 jF_222_14 rfl rfl (pc2 := 15) ?_
    refine wp_ic jF_222_15 rfl (pc2 := 16) ?_
    refine wp_il1 jF_222_16 rfl rfl (pc2 := 17) ?_
    refine wp_cV (as := [iV 5, iV begun]) (rest := []) (a := 117) (mx := 3) (ci := 12) jF_222_17 kd117 (by decide) rfl rfl rfl rfl rfl (by omega) (by omega) rfl (pc2 := 20) ?_
    have b25 := GI.b hg 117 5 kd117 (lo := (-2147483648)) (hi := 2147483647) rfl
    refine wp_use (m_218 σ hg 5 (by omega) (by omega) begun (by omega) (by omega)  _ _ (by omega) (by omega)) ?_
    rintro _ τ28 ⟨rfl, g29, f30, p26, p27⟩
    show WP 222 20 [(0, .ref 117), (1, iV sort), (2, iV begun), (3, iV z4)] [] _ _ _ _
    refine wp_al1 jF_222_20 rfl rfl (pc2 := 21) ?_
    refine wp_cV (as := []) (rest := []) (a := 117) (mx := 3) (ci := 12) jF_222_21 kd117 (by decide) rfl rfl rfl rfl rfl (by omega) (by omega) rfl (pc2 := 24) ?_
    have b31 := GI.b hg 117 2 kd117 (lo := 0) (hi := 1601) rfl
    have q32 : (τ28.1 117 2) = (σ.1 117 2) := (FR.at f30 117 2 rfl)
    have b33 := GI.b g29 117 5 kd117 (lo := (-2147483648)) (hi := 2147483647) rfl
    refine wp_use (m_224 τ28 g29   _ _ (by omega) (by omega)) ?_
    rintro _ τ37 ⟨y40, rfl, g38, f39, p34, p35, p36⟩
    show WP 222 24 [(0, .ref 117), (1, iV sort), (2, iV begun), (3, iV z4)] [.long y40] _ _ _ _
    refine wp_ls2 (lv2 := [(0, .ref 117), (1, iV sort), (2, iV begun), (3, iV z4), (4, .long y40)]) jF_222_24 rfl rfl rfl (pc2 := 26) ?_
    refine wp_al1 jF_222_26 rfl rfl (pc2 := 27) ?_
    have b41 := GI.b g38 117 5 kd117 (lo := (-2147483648)) (hi := 2147483647) rfl
    refine wp_gi jF_222_27 kd117 (by decide) rfl rfl rfl (pc2 := 30) ?_
    refine wp_z_ne jF_222_30 (m_rgb b41 rfl) rfl (pc2 := 33) ?_ ?_
    · intro h42
      clear p36
      refine wp_rv jF_222_41 ?_
      have b43 := GI.b g38 117 2 kd117 (lo := 0) (hi := 1601) rfl
      exact ⟨rfl, g38, (FR.up (FR.up FR.rf f30 sb_Wbad_Wnw) f39 sb_Wsp_Wnw), (by omega), (by omega), (by omega)⟩
    · intro h42
      replace p36 := p36 (by omega)
      clear p35
      refine wp_al1 jF_222_33 rfl rfl (pc2 := 34) ?_
      refine wp_gr (b := 138) jF_222_34 kd117 (by decide) (c := 238) rfl rfl rfl (pc2 := 37) ?_
      refine wp_il1 jF_222_37 rfl rfl (pc2 := 38) ?_
      refine wp_ll2 jF_222_38 rfl rfl (pc2 := 40) ?_
      refine wp_last (n := 36) jF_222_40 kd138 (by decide) rfl rfl (by omega) (by omega) rfl (pc2 := 41) g38 ?_
      intro τ44 g45 f46
      refine wp_rv jF_222_41 ?_
      have b47 := GI.b g38 117 2 kd117 (lo := 0) (hi := 1601) rfl
      have q48 : (τ44.1 117 2) = (τ37.1 117 2) := (FRw.na f46 (by decide))
      have q49 : (τ44.1 117 5) = (τ37.1 117 5) := (FRw.na f46 (by decide))
      exact ⟨rfl, g45, (FR.w (FR.up (FR.up FR.rf f30 sb_Wbad_Wnw) f39 sb_Wsp_Wnw) f46 rfl), (by omega), (by omega), (by omega)⟩
set_option maxHeartbeats 4000000 in
set_option maxRecDepth 20000 in
/-- M.newLike -/
theorem m_229 (σ : jM) (hg : GI σ) (begun : Int) (hl_begun : (-2147483648) ≤ begun) (hu_begun : begun ≤ 2147483647)  (fr lo : Nat) (hfr : 5 ≤ fr) (hlo : 108 ≤ lo) : WP 229 0 (lv_args 0 [.ref 117, iV begun]) [] fr lo σ (fun v τ => v = none ∧ GI τ ∧ FR Wnl σ τ ∧ ((σ.1 117 2) ≤ (τ.1 117 2)) ∧ ((σ.1 117 5) ≠ 0 → (τ.1 117 5) = (σ.1 117 5)) ∧ ((τ.1 117 5) = 0 → (σ.1 117 5) = 0)) := by
  show WP 229 0 [(0, .ref 117), (1, iV begun)] [] _ _ _ _
  refine wp_al1 jF_229_0 rfl rfl (pc2 := 1) ?_
  refine wp_bi jF_229_1 (by decide) rfl (pc2 := 3) ?_
  refine wp_bi jF_229_3 (by decide) rfl (pc2 := 5) ?_
  refine wp_cV (as := [iV 12, iV 6]) (rest := []) (a := 117) (mx := 4) (ci := 12) jF_229_5 kd117 (by decide) rfl rfl rfl rfl rfl (by omega) (by omega) rfl (pc2 := 8) ?_
  refine wp_use (m_223 σ hg 12 (by omega) (by omega) 6 (by omega) (by omega) (by omega) _ _ (by omega) (by omega)) ?_
  rintro _ _ ⟨z4, rfl, h5, rfl, p1⟩
  show WP 229 8 [(0, .ref 117), (1, iV begun)] [iV z4] _ _ _ _
  refine wp_is1 (lv2 := [(0, .ref 117), (1, iV begun), (2, iV z4)]) jF_229_8 rfl rfl rfl (pc2 := 9) ?_
  refine wp_il1 jF_229_9 rfl rfl (pc2 := 10) ?_
  refine wp_ic jF_229_10 rfl (pc2 := 11) ?_
  refine wp_i_ne jF_229_11 (m_rgb h5 rfl) (m_rgl rfl) rfl (pc2 := 14) ?_ ?_
  · intro h6
    refine wp_al1 jF_229_20 rfl rfl (pc2 := 21) ?_
    refine wp_cV (as := []) (rest := []) (a := 117) (mx := 3) (ci := 12) jF_229_21 kd117 (by decide) rfl rfl rfl rfl rfl (by omega) (by omega) rfl (pc2 := 24) ?_
    have b7 := GI.b hg 117 2 kd117 (lo := 0) (hi := 1601) rfl
    have b8 := GI.b hg 117 5 kd117 (lo := (-2147483648)) (hi := 2147483647) rfl
    refine wp_use (m_224 σ hg   _ _ (by omega) (by omega)) ?_
    rintro _ τ12 ⟨y15, rfl, g13, f14, p9, p10, p11⟩
    show WP 229 24 [(0, .ref 117), (1, iV begun), (2, iV z4)] [.long y15] _ _ _ _
    refine wp_ls1 (lv2 := [(0, .ref 117), (1, iV begun), (2, iV z4), (3, .long y15)]) jF_229_24 rfl rfl rfl (pc2 := 25) ?_
    refine wp_al1 jF_229_25 rfl rfl (pc2 := 26) ?_
    refine wp_cV (as := []) (rest := []) (a := 117) (mx := 3) (ci := 12) jF_229_26 kd117 (by decide) rfl rfl rfl rfl rfl (by omega) (by omega) rfl (pc2 := 29) ?_
    have b16 := GI.b g13 117 2 kd117 (lo := 0) (hi := 1601) rfl
    have b17 := GI.b g13 117 5 kd117 (lo := (-2147483648)) (hi := 2147483647) rfl
    refine wp_use (m_225 τ12 g13   _ _ (by omega) (by omega)) ?_
    rintro _ τ22 ⟨y25, rfl, g23, f24, p18, p19, p20, p21⟩
    show WP 229 29 [(0, .ref 117), (1, iV begun), (2, iV z4), (3, .long y15)] [.long y25] _ _ _ _
    refine wp_ls2 (lv2 := [(0, .ref 117), (1, iV begun), (2, iV z4), (3, .long y15), (5, .long y25)]) jF_229_29 rfl rfl rfl (pc2 := 31) ?_
    refine wp_al1 jF_229_31 rfl rfl (pc2 := 32) ?_
    refine wp_ll2 jF_229_32 rfl rfl (pc2 := 34) ?_
    refine wp_cV (as := [.long y25]) (rest := []) (a := 117) (mx := 4) (ci := 12) jF_229_34 kd117 (by decide) rfl rfl rfl rfl rfl (by omega) (by omega) rfl (pc2 := 37) ?_
    refine wp_use (m_227 τ22 g23 y25  _ _ (by omega) (by omega)) ?_
    rintro _ _ ⟨z28, rfl, h29, rfl⟩
    show WP 229 37 [(0, .ref 117), (1, iV begun), (2, iV z4), (3, .long y15), (5, .long y25)] [iV z28] _ _ _ _
    refine wp_is2 (lv2 := [(0, .ref 117), (1, iV begun), (2, iV z4), (3, .long y15), (5, .long y25), (7, iV z28)]) jF_229_37 rfl rfl rfl (pc2 := 39) ?_
    refine wp_al1 jF_229_39 rfl rfl (pc2 := 40) ?_
    have b30 := GI.b g23 117 5 kd117 (lo := (-2147483648)) (hi := 2147483647) rfl
    refine wp_gi jF_229_40 kd117 (by decide) rfl rfl rfl (pc2 := 43) ?_
    refine wp_z_ne jF_229_43 (m_rgb b30 rfl) rfl (pc2 := 46) ?_ ?_
    · intro h31
      clear p20
      refine wp_al1 jF_229_61 rfl rfl (pc2 := 62) ?_
      refine wp_gi jF_229_62 kd117 (by decide) rfl rfl rfl (pc2 := 65) ?_
      refine wp_z_eq jF_229_65 (m_rgb b30 rfl) rfl (pc2 := 68) ?_ ?_
      · intro h32
        refine wp_al1 jF_229_69 rfl rfl (pc2 := 70) ?_
        refine wp_gr (b := 139) jF_229_70 kd117 (by decide) (c := 239) rfl rfl rfl (pc2 := 73) ?_
        refine wp_il1 jF_229_73 rfl rfl (pc2 := 74) ?_
        refine wp_bi jF_229_74 (by decide) rfl (pc2 := 76) ?_
        refine wp_sub jF_229_76 rfl (pc2 := 77) ?_
        refine wp_il2 jF_229_77 rfl rfl (pc2 := 79) ?_
        refine wp_bi jF_229_79 (by decide) rfl (pc2 := 81) ?_
        refine wp_i_ge jF_229_81 (m_rgb h29 rfl) (m_rgl rfl) rfl (pc2 := 84) ?_ ?_
        · intro h33
          refine wp_al1 jF_229_89 rfl rfl (pc2 := 90) ?_
          refine wp_gr (b := 139) jF_229_90 kd117 (by decide) (c := 239) rfl rfl rfl (pc2 := 93) ?_
          refine wp_il2 jF_229_93 rfl rfl (pc2 := 95) ?_
          refine wp_bi jF_229_95 (by decide) rfl (pc2 := 97) ?_
          refine wp_sub jF_229_97 rfl (pc2 := 98) ?_
          have b34 := GI.b hg 139 (z28 - 12).toNat kd139 (lo := 0) (hi := 11) rfl
          refine wp_iald (n := 12) jF_229_98 kd139 (by decide) rfl rfl (by omega) (by omega) ((FR.at f24 139 (z28 - 12).toNat rfl).trans (FR.at f14 139 (z28 - 12).toNat rfl)) rfl (pc2 := 99) ?_
          refine wp_iast (n := 12) jF_229_99 kd139 (by decide) rfl rfl (by omega) (by omega) rfl (pc2 := 100) g23 (lo := 0) (hi := 11) rfl (by omega) (by omega) ?_
          intro τ35 g36 f37 e38
          refine wp_al1 jF_229_100 rfl rfl (pc2 := 101) ?_
          refine wp_gr (b := 138) jF_229_101 kd117 (by decide) (c := 238) rfl rfl rfl (pc2 := 104) ?_
          refine wp_il1 jF_229_104 rfl rfl (pc2 := 105) ?_
          refine wp_ll1 jF_229_105 rfl rfl (pc2 := 106) ?_
          refine wp_last (n := 36) jF_229_106 kd138 (by decide) rfl rfl (by omega) (by omega) rfl (pc2 := 107) g36 ?_
          intro τ39 g40 f41
          refine wp_rv jF_229_107 ?_
          have b42 := GI.b g23 117 2 kd117 (lo := 0) (hi := 1601) rfl
          have q43 : (τ39.1 117 2) = (τ22.1 117 2) := ((FRw.na f41 (by decide)).trans (FRw.na f37 (by decide)))
          have q44 : (τ39.1 117 5) = (τ22.1 117 5) := ((FRw.na f41 (by decide)).trans (FRw.na f37 (by decide)))
          exact ⟨rfl, g40, (FR.w (FR.w (FR.up (FR.up FR.rf f14 sb_Wsp_Wnl) f24 sb_Wsp_Wnl) f37 rfl) f41 rfl), (by omega), (by omega), (by omega)⟩
        · intro h33
          refine wp_il2 jF_229_84 rfl rfl (pc2 := 86) ?_
          refine wp_go jF_229_86 ?_
          refine wp_iast (n := 12) jF_229_99 kd139 (by decide) rfl rfl (by omega) (by omega) rfl (pc2 := 100) g23 (lo := 0) (hi := 11) rfl (by omega) (by omega) ?_
          intro τ45 g46 f47 e48
          refine wp_al1 jF_229_100 rfl rfl (pc2 := 101) ?_
          refine wp_gr (b := 138) jF_229_101 kd117 (by decide) (c := 238) rfl rfl rfl (pc2 := 104) ?_
          refine wp_il1 jF_229_104 rfl rfl (pc2 := 105) ?_
          refine wp_ll1 jF_229_105 rfl rfl (pc2 := 106) ?_
          refine wp_last (n := 36) jF_229_106 kd138 (by decide) rfl rfl (by omega) (by omega) rfl (pc2 := 107) g46 ?_
          intro τ49 g50 f51
          refine wp_rv jF_229_107 ?_
          have b52 := GI.b g23 117 2 kd117 (lo := 0) (hi := 1601) rfl
          have q53 : (τ49.1 117 2) = (τ22.1 117 2) := ((FRw.na f51 (by decide)).trans (FRw.na f47 (by decide)))
          have q54 : (τ49.1 117 5) = (τ22.1 117 5) := ((FRw.na f51 (by decide)).trans (FRw.na f47 (by decide)))
          exact ⟨rfl, g50, (FR.w (FR.w (FR.up (FR.up FR.rf f14 sb_Wsp_Wnl) f24 sb_Wsp_Wnl) f47 rfl) f51 rfl), (by omega), (by omega), (by omega)⟩
      · intro h32
        refine wp_rv jF_229_68 ?_
        have b55 := GI.b g23 117 2 kd117 (lo := 0) (hi := 1601) rfl
        exact ⟨rfl, g23, (FR.up (FR.up FR.rf f14 sb_Wsp_Wnl) f24 sb_Wsp_Wnl), (by omega), (by omega), (by omega)⟩
    · intro h31
      replace p20 := p20 (by omega)
      replace p11 := p11 (by omega)
      clear p19
      clear p10
      refine wp_il2 jF_229_46 rfl rfl (pc2 := 48) ?_
      refine wp_ic jF_229_48 rfl (pc2 := 49) ?_
      refine wp_i_ne jF_229_49 (m_rgb h29 rfl) (m_rgl rfl) rfl (pc2 := 52) ?_ ?_
      · intro h56
        refine wp_al1 jF_229_61 rfl rfl (pc2 := 62) ?_
        refine wp_gi jF_229_62 kd117 (by decide) rfl rfl rfl (pc2 := 65) ?_
        refine wp_z_eq jF_229_65 (m_rgb b30 rfl) rfl (pc2 := 68) ?_ ?_
        · intro h57
          refine wp_al1 jF_229_69 rfl rfl (pc2 := 70) ?_
          refine wp_gr (b := 139) jF_229_70 kd117 (by decide) (c := 239) rfl rfl rfl (pc2 := 73) ?_
          refine wp_il1 jF_229_73 rfl rfl (pc2 := 74) ?_
          refine wp_bi jF_229_74 (by decide) rfl (pc2 := 76) ?_
          refine wp_sub jF_229_76 rfl (pc2 := 77) ?_
          refine wp_il2 jF_229_77 rfl rfl (pc2 := 79) ?_
          refine wp_bi jF_229_79 (by decide) rfl (pc2 := 81) ?_
          refine wp_i_ge jF_229_81 ⟨by omega, by omega⟩ (m_rgl rfl) rfl (pc2 := 84) ?_ ?_
          · intro h58
            refine wp_al1 jF_229_89 rfl rfl (pc2 := 90) ?_
            refine wp_gr (b := 139) jF_229_90 kd117 (by decide) (c := 239) rfl rfl rfl (pc2 := 93) ?_
            refine wp_il2 jF_229_93 rfl rfl (pc2 := 95) ?_
            refine wp_bi jF_229_95 (by decide) rfl (pc2 := 97) ?_
            refine wp_sub jF_229_97 rfl (pc2 := 98) ?_
            have b59 := GI.b hg 139 (z28 - 12).toNat kd139 (lo := 0) (hi := 11) rfl
            refine wp_iald (n := 12) jF_229_98 kd139 (by decide) rfl rfl (by omega) (by omega) ((FR.at f24 139 (z28 - 12).toNat rfl).trans (FR.at f14 139 (z28 - 12).toNat rfl)) rfl (pc2 := 99) ?_
            refine wp_iast (n := 12) jF_229_99 kd139 (by decide) rfl rfl (by omega) (by omega) rfl (pc2 := 100) g23 (lo := 0) (hi := 11) rfl (by omega) (by omega) ?_
            intro τ60 g61 f62 e63
            refine wp_al1 jF_229_100 rfl rfl (pc2 := 101) ?_
            refine wp_gr (b := 138) jF_229_101 kd117 (by decide) (c := 238) rfl rfl rfl (pc2 := 104) ?_
            refine wp_il1 jF_229_104 rfl rfl (pc2 := 105) ?_
            refine wp_ll1 jF_229_105 rfl rfl (pc2 := 106) ?_
            refine wp_last (n := 36) jF_229_106 kd138 (by decide) rfl rfl (by omega) (by omega) rfl (pc2 := 107) g61 ?_
            intro τ64 g65 f66
            refine wp_rv jF_229_107 ?_
            have b67 := GI.b g23 117 2 kd117 (lo := 0) (hi := 1601) rfl
            have q68 : (τ64.1 117 2) = (τ22.1 117 2) := ((FRw.na f66 (by decide)).trans (FRw.na f62 (by decide)))
            have q69 : (τ64.1 117 5) = (τ22.1 117 5) := ((FRw.na f66 (by decide)).trans (FRw.na f62 (by decide)))
            exact ⟨rfl, g65, (FR.w (FR.w (FR.up (FR.up FR.rf f14 sb_Wsp_Wnl) f24 sb_Wsp_Wnl) f62 rfl) f66 rfl), (by omega), (by omega), (by omega)⟩
          · intro h58
            refine wp_il2 jF_229_84 rfl rfl (pc2 := 86) ?_
            refine wp_go jF_229_86 ?_
            refine wp_iast (n := 12) jF_229_99 kd139 (by decide) rfl rfl (by omega) (by omega) rfl (pc2 := 100) g23 (lo := 0) (hi := 11) rfl (by omega) (by omega) ?_
            intro τ70 g71 f72 e73
            refine wp_al1 jF_229_100 rfl rfl (pc2 := 101) ?_
            refine wp_gr (b := 138) jF_229_101 kd117 (by decide) (c := 238) rfl rfl rfl (pc2 := 104) ?_
            refine wp_il1 jF_229_104 rfl rfl (pc2 := 105) ?_
            refine wp_ll1 jF_229_105 rfl rfl (pc2 := 106) ?_
            refine wp_last (n := 36) jF_229_106 kd138 (by decide) rfl rfl (by omega) (by omega) rfl (pc2 := 107) g71 ?_
            intro τ74 g75 f76
            refine wp_rv jF_229_107 ?_
            have b77 := GI.b g23 117 2 kd117 (lo := 0) (hi := 1601) rfl
            have q78 : (τ74.1 117 2) = (τ22.1 117 2) := ((FRw.na f76 (by decide)).trans (FRw.na f72 (by decide)))
            have q79 : (τ74.1 117 5) = (τ22.1 117 5) := ((FRw.na f76 (by decide)).trans (FRw.na f72 (by decide)))
            exact ⟨rfl, g75, (FR.w (FR.w (FR.up (FR.up FR.rf f14 sb_Wsp_Wnl) f24 sb_Wsp_Wnl) f72 rfl) f76 rfl), (by omega), (by omega), (by omega)⟩
        · intro h57
          refine wp_rv jF_229_68 ?_
          have b80 := GI.b g23 117 2 kd117 (lo := 0) (hi := 1601) rfl
          exact ⟨rfl, g23, (FR.up (FR.up FR.rf f14 sb_Wsp_Wnl) f24 sb_Wsp_Wnl), (by omega), (by omega), (by omega)⟩
      · intro h56
        refine wp_al1 jF_229_52 rfl rfl (pc2 := 53) ?_
        refine wp_ic jF_229_53 rfl (pc2 := 54) ?_
        refine wp_al1 jF_229_54 rfl rfl (pc2 := 55) ?_
        have b81 := GI.b g23 117 28 kd117 (lo := (-2147483648)) (hi := 2147483647) rfl
        refine wp_gi jF_229_55 kd117 (by decide) rfl rfl rfl (pc2 := 58) ?_
        refine wp_cV (as := [iV 3, iV (τ22.1 117 28)]) (rest := []) (a := 117) (mx := 3) (ci := 12) jF_229_58 kd117 (by decide) rfl rfl rfl rfl rfl (by omega) (by omega) rfl (pc2 := 61) ?_
        refine wp_use (m_218 τ22 g23 3 (by omega) (by omega) (τ22.1 117 28) (by omega) (by omega)  _ _ (by omega) (by omega)) ?_
        rintro _ τ84 ⟨rfl, g85, f86, p82, p83⟩
        clear p82
        replace p83 := p83 (by omega)
        show WP 229 61 [(0, .ref 117), (1, iV begun), (2, iV z4), (3, .long y15), (5, .long y25), (7, iV z28)] [] _ _ _ _
        refine wp_al1 jF_229_61 rfl rfl (pc2 := 62) ?_
        have b87 := GI.b g85 117 5 kd117 (lo := (-2147483648)) (hi := 2147483647) rfl
        refine wp_gi jF_229_62 kd117 (by decide) rfl rfl rfl (pc2 := 65) ?_
        refine wp_z_eq jF_229_65 (m_rgb b87 rfl) rfl (pc2 := 68) ?_ ?_
        · intro h88
          refine wp_al1 jF_229_69 rfl rfl (pc2 := 70) ?_
          refine wp_gr (b := 139) jF_229_70 kd117 (by decide) (c := 239) rfl rfl rfl (pc2 := 73) ?_
          refine wp_il1 jF_229_73 rfl rfl (pc2 := 74) ?_
          refine wp_bi jF_229_74 (by decide) rfl (pc2 := 76) ?_
          refine wp_sub jF_229_76 rfl (pc2 := 77) ?_
          refine wp_il2 jF_229_77 rfl rfl (pc2 := 79) ?_
          refine wp_bi jF_229_79 (by decide) rfl (pc2 := 81) ?_
          refine wp_i_ge jF_229_81 ⟨by omega, by omega⟩ (m_rgl rfl) rfl (pc2 := 84) ?_ ?_
          · intro h89; exfalso; omega
          · intro h89
            refine wp_il2 jF_229_84 rfl rfl (pc2 := 86) ?_
            refine wp_go jF_229_86 ?_
            refine wp_iast (n := 12) jF_229_99 kd139 (by decide) rfl rfl (by omega) (by omega) rfl (pc2 := 100) g85 (lo := 0) (hi := 11) rfl (by omega) (by omega) ?_
            intro τ90 g91 f92 e93
            refine wp_al1 jF_229_100 rfl rfl (pc2 := 101) ?_
            refine wp_gr (b := 138) jF_229_101 kd117 (by decide) (c := 238) rfl rfl rfl (pc2 := 104) ?_
            refine wp_il1 jF_229_104 rfl rfl (pc2 := 105) ?_
            refine wp_ll1 jF_229_105 rfl rfl (pc2 := 106) ?_
            refine wp_last (n := 36) jF_229_106 kd138 (by decide) rfl rfl (by omega) (by omega) rfl (pc2 := 107) g91 ?_
            intro τ94 g95 f96
            refine wp_rv jF_229_107 ?_
            have b97 := GI.b g23 117 2 kd117 (lo := 0) (hi := 1601) rfl
            have q98 : (τ94.1 117 2) = (τ22.1 117 2) := ((FRw.na f96 (by decide)).trans ((FRw.na f92 (by decide)).trans (FR.at f86 117 2 rfl)))
            have q99 : (τ94.1 117 5) = (τ84.1 117 5) := ((FRw.na f96 (by decide)).trans (FRw.na f92 (by decide)))
            exact ⟨rfl, g95, (FR.w (FR.w (FR.up (FR.up (FR.up FR.rf f14 sb_Wsp_Wnl) f24 sb_Wsp_Wnl) f86 sb_Wbad_Wnl) f92 rfl) f96 rfl), (by omega), (by omega), (by omega)⟩
        · intro h88
          refine wp_rv jF_229_68 ?_
          have b100 := GI.b g23 117 2 kd117 (lo := 0) (hi := 1601) rfl
          have q101 : (τ84.1 117 2) = (τ22.1 117 2) := (FR.at f86 117 2 rfl)
          exact ⟨rfl, g85, (FR.up (FR.up (FR.up FR.rf f14 sb_Wsp_Wnl) f24 sb_Wsp_Wnl) f86 sb_Wbad_Wnl), (by omega), (by omega), (by omega)⟩
  · intro h6
    refine wp_al1 jF_229_14 rfl rfl (pc2 := 15) ?_
    refine wp_ic jF_229_15 rfl (pc2 := 16) ?_
    refine wp_il1 jF_229_16 rfl rfl (pc2 := 17) ?_
    refine wp_cV (as := [iV 5, iV begun]) (rest := []) (a := 117) (mx := 3) (ci := 12) jF_229_17 kd117 (by decide) rfl rfl rfl rfl rfl (by omega) (by omega) rfl (pc2 := 20) ?_
    have b102 := GI.b hg 117 5 kd117 (lo := (-2147483648)) (hi := 2147483647) rfl
    refine wp_use (m_218 σ hg 5 (by omega) (by omega) begun (by omega) (by omega)  _ _ (by omega) (by omega)) ?_
    rintro _ τ105 ⟨rfl, g106, f107, p103, p104⟩
    show WP 229 20 [(0, .ref 117), (1, iV begun), (2, iV z4)] [] _ _ _ _
    refine wp_al1 jF_229_20 rfl rfl (pc2 := 21) ?_
    refine wp_cV (as := []) (rest := []) (a := 117) (mx := 3) (ci := 12) jF_229_21 kd117 (by decide) rfl rfl rfl rfl rfl (by omega) (by omega) rfl (pc2 := 24) ?_
    have b108 := GI.b hg 117 2 kd117 (lo := 0) (hi := 1601) rfl
    have q109 : (τ105.1 117 2) = (σ.1 117 2) := (FR.at f107 117 2 rfl)
    have b110 := GI.b g106 117 5 kd117 (lo := (-2147483648)) (hi := 2147483647) rfl
    refine wp_use (m_224 τ105 g106   _ _ (by omega) (by omega)) ?_
    rintro _ τ114 ⟨y117, rfl, g115, f116, p111, p112, p113⟩
    show WP 229 24 [(0, .ref 117), (1, iV begun), (2, iV z4)] [.long y117] _ _ _ _
    refine wp_ls1 (lv2 := [(0, .ref 117), (1, iV begun), (2, iV z4), (3, .long y117)]) jF_229_24 rfl rfl rfl (pc2 := 25) ?_
    refine wp_al1 jF_229_25 rfl rfl (pc2 := 26) ?_
    refine wp_cV (as := []) (rest := []) (a := 117) (mx := 3) (ci := 12) jF_229_26 kd117 (by decide) rfl rfl rfl rfl rfl (by omega) (by omega) rfl (pc2 := 29) ?_
    have b118 := GI.b g115 117 2 kd117 (lo := 0) (hi := 1601) rfl
    have b119 := GI.b g115 117 5 kd117 (lo := (-2147483648)) (hi := 2147483647) rfl
    refine wp_use (m_225 τ114 g115   _ _ (by omega) (by omega)) ?_
    rintro _ τ124 ⟨y127, rfl, g125, f126, p120, p121, p122, p123⟩
    show WP 229 29 [(0, .ref 117), (1, iV begun), (2, iV z4), (3, .long y117)] [.long y127] _ _ _ _
    refine wp_ls2 (lv2 := [(0, .ref 117), (1, iV begun), (2, iV z4), (3, .long y117), (5, .long y127)]) jF_229_29 rfl rfl rfl (pc2 := 31) ?_
    refine wp_al1 jF_229_31 rfl rfl (pc2 := 32) ?_
    refine wp_ll2 jF_229_32 rfl rfl (pc2 := 34) ?_
    refine wp_cV (as := [.long y127]) (rest := []) (a := 117) (mx := 4) (ci := 12) jF_229_34 kd117 (by decide) rfl rfl rfl rfl rfl (by omega) (by omega) rfl (pc2 := 37) ?_
    refine wp_use (m_227 τ124 g125 y127  _ _ (by omega) (by omega)) ?_
    rintro _ _ ⟨z130, rfl, h131, rfl⟩
    show WP 229 37 [(0, .ref 117), (1, iV begun), (2, iV z4), (3, .long y117), (5, .long y127)] [iV z130] _ _ _ _
    refine wp_is2 (lv2 := [(0, .ref 117), (1, iV begun), (2, iV z4), (3, .long y117), (5, .long y127), (7, iV z130)]) jF_229_37 rfl rfl rfl (pc2 := 39) ?_
    refine wp_al1 jF_229_39 rfl rfl (pc2 := 40) ?_
    have b132 := GI.b g125 117 5 kd117 (lo := (-2147483648)) (hi := 2147483647) rfl
    refine wp_gi jF_229_40 kd117 (by decide) rfl rfl rfl (pc2 := 43) ?_
    refine wp_z_ne jF_229_43 (m_rgb b132 rfl) rfl (pc2 := 46) ?_ ?_
    · intro h133
      clear p122
      refine wp_al1 jF_229_61 rfl rfl (pc2 := 62) ?_
      refine wp_gi jF_229_62 kd117 (by decide) rfl rfl rfl (pc2 := 65) ?_
      refine wp_z_eq jF_229_65 (m_rgb b132 rfl) rfl (pc2 := 68) ?_ ?_
      · intro h134
        refine wp_al1 jF_229_69 rfl rfl (pc2 := 70) ?_
        refine wp_gr (b := 139) jF_229_70 kd117 (by decide) (c := 239) rfl rfl rfl (pc2 := 73) ?_
        refine wp_il1 jF_229_73 rfl rfl (pc2 := 74) ?_
        refine wp_bi jF_229_74 (by decide) rfl (pc2 := 76) ?_
        refine wp_sub jF_229_76 rfl (pc2 := 77) ?_
        refine wp_il2 jF_229_77 rfl rfl (pc2 := 79) ?_
        refine wp_bi jF_229_79 (by decide) rfl (pc2 := 81) ?_
        refine wp_i_ge jF_229_81 (m_rgb h131 rfl) (m_rgl rfl) rfl (pc2 := 84) ?_ ?_
        · intro h135
          refine wp_al1 jF_229_89 rfl rfl (pc2 := 90) ?_
          refine wp_gr (b := 139) jF_229_90 kd117 (by decide) (c := 239) rfl rfl rfl (pc2 := 93) ?_
          refine wp_il2 jF_229_93 rfl rfl (pc2 := 95) ?_
          refine wp_bi jF_229_95 (by decide) rfl (pc2 := 97) ?_
          refine wp_sub jF_229_97 rfl (pc2 := 98) ?_
          have b136 := GI.b hg 139 (z130 - 12).toNat kd139 (lo := 0) (hi := 11) rfl
          refine wp_iald (n := 12) jF_229_98 kd139 (by decide) rfl rfl (by omega) (by omega) ((FR.at f126 139 (z130 - 12).toNat rfl).trans ((FR.at f116 139 (z130 - 12).toNat rfl).trans (FR.at f107 139 (z130 - 12).toNat rfl))) rfl (pc2 := 99) ?_
          refine wp_iast (n := 12) jF_229_99 kd139 (by decide) rfl rfl (by omega) (by omega) rfl (pc2 := 100) g125 (lo := 0) (hi := 11) rfl (by omega) (by omega) ?_
          intro τ137 g138 f139 e140
          refine wp_al1 jF_229_100 rfl rfl (pc2 := 101) ?_
          refine wp_gr (b := 138) jF_229_101 kd117 (by decide) (c := 238) rfl rfl rfl (pc2 := 104) ?_
          refine wp_il1 jF_229_104 rfl rfl (pc2 := 105) ?_
          refine wp_ll1 jF_229_105 rfl rfl (pc2 := 106) ?_
          refine wp_last (n := 36) jF_229_106 kd138 (by decide) rfl rfl (by omega) (by omega) rfl (pc2 := 107) g138 ?_
          intro τ141 g142 f143
          refine wp_rv jF_229_107 ?_
          have b144 := GI.b g125 117 2 kd117 (lo := 0) (hi := 1601) rfl
          have q145 : (τ141.1 117 2) = (τ124.1 117 2) := ((FRw.na f143 (by decide)).trans (FRw.na f139 (by decide)))
          have q146 : (τ141.1 117 5) = (τ124.1 117 5) := ((FRw.na f143 (by decide)).trans (FRw.na f139 (by decide)))
          exact ⟨rfl, g142, (FR.w (FR.w (FR.up (FR.up (FR.up FR.rf f107 sb_Wbad_Wnl) f116 sb_Wsp_Wnl) f126 sb_Wsp_Wnl) f139 rfl) f143 rfl), (by omega), (by omega), (by omega)⟩
        · intro h135
          refine wp_il2 jF_229_84 rfl rfl (pc2 := 86) ?_
          refine wp_go jF_229_86 ?_
          refine wp_iast (n := 12) jF_229_99 kd139 (by decide) rfl rfl (by omega) (by omega) rfl (pc2 := 100) g125 (lo := 0) (hi := 11) rfl (by omega) (by omega) ?_
          intro τ147 g148 f149 e150
          refine wp_al1 jF_229_100 rfl rfl (pc2 := 101) ?_
          refine wp_gr (b := 138) jF_229_101 kd117 (by decide) (c := 238) rfl rfl rfl (pc2 := 104) ?_
          refine wp_il1 jF_229_104 rfl rfl (pc2 := 105) ?_
          refine wp_ll1 jF_229_105 rfl rfl (pc2 := 106) ?_
          refine wp_last (n := 36) jF_229_106 kd138 (by decide) rfl rfl (by omega) (by omega) rfl (pc2 := 107) g148 ?_
          intro τ151 g152 f153
          refine wp_rv jF_229_107 ?_
          have b154 := GI.b g125 117 2 kd117 (lo := 0) (hi := 1601) rfl
          have q155 : (τ151.1 117 2) = (τ124.1 117 2) := ((FRw.na f153 (by decide)).trans (FRw.na f149 (by decide)))
          have q156 : (τ151.1 117 5) = (τ124.1 117 5) := ((FRw.na f153 (by decide)).trans (FRw.na f149 (by decide)))
          exact ⟨rfl, g152, (FR.w (FR.w (FR.up (FR.up (FR.up FR.rf f107 sb_Wbad_Wnl) f116 sb_Wsp_Wnl) f126 sb_Wsp_Wnl) f149 rfl) f153 rfl), (by omega), (by omega), (by omega)⟩
      · intro h134
        refine wp_rv jF_229_68 ?_
        have b157 := GI.b g125 117 2 kd117 (lo := 0) (hi := 1601) rfl
        exact ⟨rfl, g125, (FR.up (FR.up (FR.up FR.rf f107 sb_Wbad_Wnl) f116 sb_Wsp_Wnl) f126 sb_Wsp_Wnl), (by omega), (by omega), (by omega)⟩
    · intro h133
      replace p122 := p122 (by omega)
      replace p113 := p113 (by omega)
      clear p121
      clear p112
      refine wp_il2 jF_229_46 rfl rfl (pc2 := 48) ?_
      refine wp_ic jF_229_48 rfl (pc2 := 49) ?_
      refine wp_i_ne jF_229_49 (m_rgb h131 rfl) (m_rgl rfl) rfl (pc2 := 52) ?_ ?_
      · intro h158
        refine wp_al1 jF_229_61 rfl rfl (pc2 := 62) ?_
        refine wp_gi jF_229_62 kd117 (by decide) rfl rfl rfl (pc2 := 65) ?_
        refine wp_z_eq jF_229_65 (m_rgb b132 rfl) rfl (pc2 := 68) ?_ ?_
        · intro h159
          refine wp_al1 jF_229_69 rfl rfl (pc2 := 70) ?_
          refine wp_gr (b := 139) jF_229_70 kd117 (by decide) (c := 239) rfl rfl rfl (pc2 := 73) ?_
          refine wp_il1 jF_229_73 rfl rfl (pc2 := 74) ?_
          refine wp_bi jF_229_74 (by decide) rfl (pc2 := 76) ?_
          refine wp_sub jF_229_76 rfl (pc2 := 77) ?_
          refine wp_il2 jF_229_77 rfl rfl (pc2 := 79) ?_
          refine wp_bi jF_229_79 (by decide) rfl (pc2 := 81) ?_
          refine wp_i_ge jF_229_81 ⟨by omega, by omega⟩ (m_rgl rfl) rfl (pc2 := 84) ?_ ?_
          · intro h160
            refine wp_al1 jF_229_89 rfl rfl (pc2 := 90) ?_
            refine wp_gr (b := 139) jF_229_90 kd117 (by decide) (c := 239) rfl rfl rfl (pc2 := 93) ?_
            refine wp_il2 jF_229_93 rfl rfl (pc2 := 95) ?_
            refine wp_bi jF_229_95 (by decide) rfl (pc2 := 97) ?_
            refine wp_sub jF_229_97 rfl (pc2 := 98) ?_
            have b161 := GI.b hg 139 (z130 - 12).toNat kd139 (lo := 0) (hi := 11) rfl
            refine wp_iald (n := 12) jF_229_98 kd139 (by decide) rfl rfl (by omega) (by omega) ((FR.at f126 139 (z130 - 12).toNat rfl).trans ((FR.at f116 139 (z130 - 12).toNat rfl).trans (FR.at f107 139 (z130 - 12).toNat rfl))) rfl (pc2 := 99) ?_
            refine wp_iast (n := 12) jF_229_99 kd139 (by decide) rfl rfl (by omega) (by omega) rfl (pc2 := 100) g125 (lo := 0) (hi := 11) rfl (by omega) (by omega) ?_
            intro τ162 g163 f164 e165
            refine wp_al1 jF_229_100 rfl rfl (pc2 := 101) ?_
            refine wp_gr (b := 138) jF_229_101 kd117 (by decide) (c := 238) rfl rfl rfl (pc2 := 104) ?_
            refine wp_il1 jF_229_104 rfl rfl (pc2 := 105) ?_
            refine wp_ll1 jF_229_105 rfl rfl (pc2 := 106) ?_
            refine wp_last (n := 36) jF_229_106 kd138 (by decide) rfl rfl (by omega) (by omega) rfl (pc2 := 107) g163 ?_
            intro τ166 g167 f168
            refine wp_rv jF_229_107 ?_
            have b169 := GI.b g125 117 2 kd117 (lo := 0) (hi := 1601) rfl
            have q170 : (τ166.1 117 2) = (τ124.1 117 2) := ((FRw.na f168 (by decide)).trans (FRw.na f164 (by decide)))
            have q171 : (τ166.1 117 5) = (τ124.1 117 5) := ((FRw.na f168 (by decide)).trans (FRw.na f164 (by decide)))
            exact ⟨rfl, g167, (FR.w (FR.w (FR.up (FR.up (FR.up FR.rf f107 sb_Wbad_Wnl) f116 sb_Wsp_Wnl) f126 sb_Wsp_Wnl) f164 rfl) f168 rfl), (by omega), (by omega), (by omega)⟩
          · intro h160
            refine wp_il2 jF_229_84 rfl rfl (pc2 := 86) ?_
            refine wp_go jF_229_86 ?_
            refine wp_iast (n := 12) jF_229_99 kd139 (by decide) rfl rfl (by omega) (by omega) rfl (pc2 := 100) g125 (lo := 0) (hi := 11) rfl (by omega) (by omega) ?_
            intro τ172 g173 f174 e175
            refine wp_al1 jF_229_100 rfl rfl (pc2 := 101) ?_
            refine wp_gr (b := 138) jF_229_101 kd117 (by decide) (c := 238) rfl rfl rfl (pc2 := 104) ?_
            refine wp_il1 jF_229_104 rfl rfl (pc2 := 105) ?_
            refine wp_ll1 jF_229_105 rfl rfl (pc2 := 106) ?_
            refine wp_last (n := 36) jF_229_106 kd138 (by decide) rfl rfl (by omega) (by omega) rfl (pc2 := 107) g173 ?_
            intro τ176 g177 f178
            refine wp_rv jF_229_107 ?_
            have b179 := GI.b g125 117 2 kd117 (lo := 0) (hi := 1601) rfl
            have q180 : (τ176.1 117 2) = (τ124.1 117 2) := ((FRw.na f178 (by decide)).trans (FRw.na f174 (by decide)))
            have q181 : (τ176.1 117 5) = (τ124.1 117 5) := ((FRw.na f178 (by decide)).trans (FRw.na f174 (by decide)))
            exact ⟨rfl, g177, (FR.w (FR.w (FR.up (FR.up (FR.up FR.rf f107 sb_Wbad_Wnl) f116 sb_Wsp_Wnl) f126 sb_Wsp_Wnl) f174 rfl) f178 rfl), (by omega), (by omega), (by omega)⟩
        · intro h159
          refine wp_rv jF_229_68 ?_
          have b182 := GI.b g125 117 2 kd117 (lo := 0) (hi := 1601) rfl
          exact ⟨rfl, g125, (FR.up (FR.up (FR.up FR.rf f107 sb_Wbad_Wnl) f116 sb_Wsp_Wnl) f126 sb_Wsp_Wnl), (by omega), (by omega), (by omega)⟩
      · intro h158
        refine wp_al1 jF_229_52 rfl rfl (pc2 := 53) ?_
        refine wp_ic jF_229_53 rfl (pc2 := 54) ?_
        refine wp_al1 jF_229_54 rfl rfl (pc2 := 55) ?_
        have b183 := GI.b g125 117 28 kd117 (lo := (-2147483648)) (hi := 2147483647) rfl
        refine wp_gi jF_229_55 kd117 (by decide) rfl rfl rfl (pc2 := 58) ?_
        refine wp_cV (as := [iV 3, iV (τ124.1 117 28)]) (rest := []) (a := 117) (mx := 3) (ci := 12) jF_229_58 kd117 (by decide) rfl rfl rfl rfl rfl (by omega) (by omega) rfl (pc2 := 61) ?_
        refine wp_use (m_218 τ124 g125 3 (by omega) (by omega) (τ124.1 117 28) (by omega) (by omega)  _ _ (by omega) (by omega)) ?_
        rintro _ τ186 ⟨rfl, g187, f188, p184, p185⟩
        clear p184
        replace p185 := p185 (by omega)
        show WP 229 61 [(0, .ref 117), (1, iV begun), (2, iV z4), (3, .long y117), (5, .long y127), (7, iV z130)] [] _ _ _ _
        refine wp_al1 jF_229_61 rfl rfl (pc2 := 62) ?_
        have b189 := GI.b g187 117 5 kd117 (lo := (-2147483648)) (hi := 2147483647) rfl
        refine wp_gi jF_229_62 kd117 (by decide) rfl rfl rfl (pc2 := 65) ?_
        refine wp_z_eq jF_229_65 (m_rgb b189 rfl) rfl (pc2 := 68) ?_ ?_
        · intro h190
          refine wp_al1 jF_229_69 rfl rfl (pc2 := 70) ?_
          refine wp_gr (b := 139) jF_229_70 kd117 (by decide) (c := 239) rfl rfl rfl (pc2 := 73) ?_
          refine wp_il1 jF_229_73 rfl rfl (pc2 := 74) ?_
          refine wp_bi jF_229_74 (by decide) rfl (pc2 := 76) ?_
          refine wp_sub jF_229_76 rfl (pc2 := 77) ?_
          refine wp_il2 jF_229_77 rfl rfl (pc2 := 79) ?_
          refine wp_bi jF_229_79 (by decide) rfl (pc2 := 81) ?_
          refine wp_i_ge jF_229_81 ⟨by omega, by omega⟩ (m_rgl rfl) rfl (pc2 := 84) ?_ ?_
          · intro h191; exfalso; omega
          · intro h191
            refine wp_il2 jF_229_84 rfl rfl (pc2 := 86) ?_
            refine wp_go jF_229_86 ?_
            refine wp_iast (n := 12) jF_229_99 kd139 (by decide) rfl rfl (by omega) (by omega) rfl (pc2 := 100) g187 (lo := 0) (hi := 11) rfl (by omega) (by omega) ?_
            intro τ192 g193 f194 e195
            refine wp_al1 jF_229_100 rfl rfl (pc2 := 101) ?_
            refine wp_gr (b := 138) jF_229_101 kd117 (by decide) (c := 238) rfl rfl rfl (pc2 := 104) ?_
            refine wp_il1 jF_229_104 rfl rfl (pc2 := 105) ?_
            refine wp_ll1 jF_229_105 rfl rfl (pc2 := 106) ?_
            refine wp_last (n := 36) jF_229_106 kd138 (by decide) rfl rfl (by omega) (by omega) rfl (pc2 := 107) g193 ?_
            intro τ196 g197 f198
            refine wp_rv jF_229_107 ?_
            have b199 := GI.b g125 117 2 kd117 (lo := 0) (hi := 1601) rfl
            have q200 : (τ196.1 117 2) = (τ124.1 117 2) := ((FRw.na f198 (by decide)).trans ((FRw.na f194 (by decide)).trans (FR.at f188 117 2 rfl)))
            have q201 : (τ196.1 117 5) = (τ186.1 117 5) := ((FRw.na f198 (by decide)).trans (FRw.na f194 (by decide)))
            exact ⟨rfl, g197, (FR.w (FR.w (FR.up (FR.up (FR.up (FR.up FR.rf f107 sb_Wbad_Wnl) f116 sb_Wsp_Wnl) f126 sb_Wsp_Wnl) f188 sb_Wbad_Wnl) f194 rfl) f198 rfl), (by omega), (by omega), (by omega)⟩
        · intro h190
          refine wp_rv jF_229_68 ?_
          have b202 := GI.b g125 117 2 kd117 (lo := 0) (hi := 1601) rfl
          have q203 : (τ186.1 117 2) = (τ124.1 117 2) := (FR.at f188 117 2 rfl)
          exact ⟨rfl, g187, (FR.up (FR.up (FR.up (FR.up FR.rf f107 sb_Wbad_Wnl) f116 sb_Wsp_Wnl) f126 sb_Wsp_Wnl) f188 sb_Wbad_Wnl), (by omega), (by omega), (by omega)⟩
