set_option maxHeartbeats 4000000 in
set_option maxRecDepth 20000 in
/-- M.has -/
theorem m_265 (σ : jM) (hg : GI σ) (k : Int) (hl_k : (-2147483648) ≤ k) (hu_k : k ≤ 2147483647)  (fr lo : Nat) (hfr : 2 ≤ fr) (hlo : 43 ≤ lo) : WP 265 0 (lv_args 0 [.ref 117, iV k]) [] fr lo σ (fun v τ => ∃ z : Int, v = some (iV z) ∧ ((-2147483648) ≤ z ∧ z ≤ 2147483647) ∧ σ = τ) := by
  show WP 265 0 [(0, .ref 117), (1, iV k)] [] _ _ _ _
  refine wp_il1 jF_265_0 rfl rfl (pc2 := 1) ?_
  rcases m_tsw k 0 10 with h1 | h1
  · refine wp_tswd (tgt := 134) jF_265_1 ⟨by omega, by omega⟩ h1 (by decide) ?_
    refine wp_ic jF_265_134 rfl (pc2 := 135) ?_
    refine wp_ri jF_265_135 rfl ?_
    exact ⟨(-1), rfl, ⟨by omega, by omega⟩, rfl⟩
  · have h1c : k = 0 ∨ k = 1 ∨ k = 2 ∨ k = 3 ∨ k = 4 ∨ k = 5 ∨ k = 6 ∨ k = 7 ∨ k = 8 ∨ k = 9 ∨ k = 10 := by omega
    rcases h1c with hh | hh | hh | hh | hh | hh | hh | hh | hh | hh | hh
    · refine wp_tswx (x := 0) (tgt := 60) jF_265_1 hh (by decide) ?_
      subst hh
      refine wp_al1 jF_265_60 rfl rfl (pc2 := 61) ?_
      refine wp_il1 jF_265_61 rfl rfl (pc2 := 62) ?_
      refine wp_cV (as := [iV 0]) (rest := []) (a := 117) (mx := 4) (ci := 12) jF_265_62 kd117 (by decide) rfl rfl rfl rfl rfl (by omega) (by omega) rfl (pc2 := 65) ?_
      refine wp_use (m_244_0 σ hg   _ _ (by omega) (by omega)) ?_
      rintro _ _ ⟨z5, rfl, h6, rfl, p2⟩
      show WP 265 65 [(0, .ref 117), (1, iV 0)] [iV z5] _ _ _ _
      refine wp_ri jF_265_65 rfl ?_
      exact ⟨z5, rfl, ⟨by omega, by omega⟩, rfl⟩
    · refine wp_tswx (x := 1) (tgt := 60) jF_265_1 hh (by decide) ?_
      subst hh
      refine wp_al1 jF_265_60 rfl rfl (pc2 := 61) ?_
      refine wp_il1 jF_265_61 rfl rfl (pc2 := 62) ?_
      refine wp_cV (as := [iV 1]) (rest := []) (a := 117) (mx := 4) (ci := 12) jF_265_62 kd117 (by decide) rfl rfl rfl rfl rfl (by omega) (by omega) rfl (pc2 := 65) ?_
      refine wp_use (m_244_1 σ hg   _ _ (by omega) (by omega)) ?_
      rintro _ _ ⟨z10, rfl, h11, rfl, p7⟩
      show WP 265 65 [(0, .ref 117), (1, iV 1)] [iV z10] _ _ _ _
      refine wp_ri jF_265_65 rfl ?_
      exact ⟨z10, rfl, ⟨by omega, by omega⟩, rfl⟩
    · refine wp_tswx (x := 2) (tgt := 60) jF_265_1 hh (by decide) ?_
      subst hh
      refine wp_al1 jF_265_60 rfl rfl (pc2 := 61) ?_
      refine wp_il1 jF_265_61 rfl rfl (pc2 := 62) ?_
      refine wp_cV (as := [iV 2]) (rest := []) (a := 117) (mx := 4) (ci := 12) jF_265_62 kd117 (by decide) rfl rfl rfl rfl rfl (by omega) (by omega) rfl (pc2 := 65) ?_
      refine wp_use (m_244_2 σ hg   _ _ (by omega) (by omega)) ?_
      rintro _ _ ⟨z15, rfl, h16, rfl, p12⟩
      show WP 265 65 [(0, .ref 117), (1, iV 2)] [iV z15] _ _ _ _
      refine wp_ri jF_265_65 rfl ?_
      exact ⟨z15, rfl, ⟨by omega, by omega⟩, rfl⟩
    · refine wp_tswx (x := 3) (tgt := 66) jF_265_1 hh (by decide) ?_
      subst hh
      refine wp_ic jF_265_66 rfl (pc2 := 67) ?_
      refine wp_is1 (lv2 := [(0, .ref 117), (1, iV 3), (2, iV 0)]) jF_265_67 rfl rfl rfl (pc2 := 68) ?_
      refine wp_bi jF_265_68 (by decide) rfl (pc2 := 70) ?_
      refine wp_is1 (lv2 := [(0, .ref 117), (1, iV 3), (2, iV 0), (3, iV 12)]) jF_265_70 rfl rfl rfl (pc2 := 71) ?_
      refine wp_loop (α := Int × Int) (fun a => [(0, .ref 117), (1, iV 3), (2, iV (a.1)), (3, iV (a.2))]) (fun a τ => (0 ≤ a.1 ∧ a.1 ≤ 6) ∧ (12 ≤ a.2 ∧ a.2 ≤ 18) ∧ σ = τ ∧ ((a.1) + 12 ≤ (a.2))) (fun a τ => Int.toNat (18 - (a.2))) (0, 12) σ ?_ ?_
      · skip
        exact ⟨⟨by (try dsimp only); omega, by (try dsimp only); omega⟩, ⟨by (try dsimp only); omega, by (try dsimp only); omega⟩, rfl, (by (try dsimp only); omega)⟩
      · rintro ⟨x17, x18⟩ _ ⟨h19, h20, rfl, p24⟩ ih25
        try dsimp only at h19 h20 p24
        show WP 265 71 [(0, .ref 117), (1, iV 3), (2, iV x17), (3, iV x18)] [] _ _ _ _
        show WP 265 71 [(0, .ref 117), (1, iV 3), (2, iV x17), (3, iV x18)] [] _ _ _ _
        refine wp_il1 jF_265_71 rfl rfl (pc2 := 72) ?_
        refine wp_bi jF_265_72 (by decide) rfl (pc2 := 74) ?_
        refine wp_i_ge jF_265_74 (m_rgb h20 rfl) (m_rgl rfl) rfl (pc2 := 77) ?_ ?_
        · intro h26
          refine wp_il1 jF_265_100 rfl rfl (pc2 := 101) ?_
          refine wp_ri jF_265_101 rfl ?_
          exact ⟨x17, rfl, ⟨by omega, by omega⟩, rfl⟩
        · intro h26
          refine wp_al1 jF_265_77 rfl rfl (pc2 := 78) ?_
          refine wp_gr (b := 138) jF_265_78 kd117 (by decide) (c := 238) rfl rfl rfl (pc2 := 81) ?_
          refine wp_bi jF_265_81 (by decide) rfl (pc2 := 83) ?_
          refine wp_il1 jF_265_83 rfl rfl (pc2 := 84) ?_
          refine wp_add jF_265_84 rfl (pc2 := 85) ?_
          refine wp_lald (n := 36) jF_265_85 kd138 (by decide) rfl rfl (by omega) (by omega) rfl (pc2 := 86) ?_
          intro y27
          refine wp_lc jF_265_86 rfl (pc2 := 87) ?_
          refine wp_anyL (pc2 := 88) jF_265_87 rfl rfl ?_
          intro z28 h29
          refine wp_z_eq jF_265_88 (m_rgb h29 rfl) rfl (pc2 := 91) ?_ ?_
          · intro h30
            refine wp_inc (lv2 := [(0, .ref 117), (1, iV 3), (2, iV x17), (3, iV (x18 + 1))]) jF_265_94 rfl rfl rfl rfl (pc2 := 97) ?_
            refine wp_go jF_265_97 ?_
            exact ih25 (x17, (x18 + 1)) σ ⟨⟨by (try dsimp only); omega, by (try dsimp only); omega⟩, ⟨by (try dsimp only); omega, by (try dsimp only); omega⟩, rfl, (by (try dsimp only); omega)⟩ (by show Int.toNat (18 - (x18 + 1)) < Int.toNat (18 - x18); omega)
          · intro h30
            refine wp_inc (lv2 := [(0, .ref 117), (1, iV 3), (2, iV (x17 + 1)), (3, iV x18)]) jF_265_91 rfl rfl rfl rfl (pc2 := 94) ?_
            refine wp_inc (lv2 := [(0, .ref 117), (1, iV 3), (2, iV (x17 + 1)), (3, iV (x18 + 1))]) jF_265_94 rfl rfl rfl rfl (pc2 := 97) ?_
            refine wp_go jF_265_97 ?_
            exact ih25 ((x17 + 1), (x18 + 1)) σ ⟨⟨by (try dsimp only); omega, by (try dsimp only); omega⟩, ⟨by (try dsimp only); omega, by (try dsimp only); omega⟩, rfl, (by (try dsimp only); omega)⟩ (by show Int.toNat (18 - (x18 + 1)) < Int.toNat (18 - x18); omega)
    · refine wp_tswx (x := 4) (tgt := 102) jF_265_1 hh (by decide) ?_
      subst hh
      refine wp_al1 jF_265_102 rfl rfl (pc2 := 103) ?_
      have b31 := GI.b hg 117 38 kd117 (lo := (-2147483648)) (hi := 2147483647) rfl
      refine wp_gi jF_265_103 kd117 (by decide) rfl rfl rfl (pc2 := 106) ?_
      refine wp_ri jF_265_106 rfl ?_
      exact ⟨(σ.1 117 38), rfl, ⟨by omega, by omega⟩, rfl⟩
    · refine wp_tswx (x := 5) (tgt := 107) jF_265_1 hh (by decide) ?_
      subst hh
      refine wp_al1 jF_265_107 rfl rfl (pc2 := 108) ?_
      have b32 := GI.b hg 117 34 kd117 (lo := 0) (hi := 5) rfl
      refine wp_gi jF_265_108 kd117 (by decide) rfl rfl rfl (pc2 := 111) ?_
      refine wp_ri jF_265_111 rfl ?_
      exact ⟨(σ.1 117 34), rfl, ⟨by omega, by omega⟩, rfl⟩
    · refine wp_tswx (x := 6) (tgt := 112) jF_265_1 hh (by decide) ?_
      subst hh
      refine wp_al1 jF_265_112 rfl rfl (pc2 := 113) ?_
      refine wp_gr (b := 143) jF_265_113 kd117 (by decide) (c := 243) rfl rfl rfl (pc2 := 116) ?_
      refine wp_ic jF_265_116 rfl (pc2 := 117) ?_
      refine wp_il1 jF_265_117 rfl rfl (pc2 := 118) ?_
      refine wp_addx (c := 9) jF_265_118 rfl rfl (pc2 := 119) ?_
      refine wp_bi jF_265_119 (by decide) rfl (pc2 := 121) ?_
      refine wp_subx (c := 3) jF_265_121 rfl rfl (pc2 := 122) ?_
      have b33 := GI.b hg 143 3 kd143 (lo := 0) (hi := 16) rfl
      refine wp_iald (n := 6) (e := (σ.1 143 3)) jF_265_122 kd143 (by decide) rfl rfl (by omega) (by omega) rfl rfl (pc2 := 123) ?_
      refine wp_ri jF_265_123 rfl ?_
      exact ⟨(σ.1 143 3), rfl, ⟨by omega, by omega⟩, rfl⟩
    · refine wp_tswx (x := 7) (tgt := 112) jF_265_1 hh (by decide) ?_
      subst hh
      refine wp_al1 jF_265_112 rfl rfl (pc2 := 113) ?_
      refine wp_gr (b := 143) jF_265_113 kd117 (by decide) (c := 243) rfl rfl rfl (pc2 := 116) ?_
      refine wp_ic jF_265_116 rfl (pc2 := 117) ?_
      refine wp_il1 jF_265_117 rfl rfl (pc2 := 118) ?_
      refine wp_addx (c := 10) jF_265_118 rfl rfl (pc2 := 119) ?_
      refine wp_bi jF_265_119 (by decide) rfl (pc2 := 121) ?_
      refine wp_subx (c := 4) jF_265_121 rfl rfl (pc2 := 122) ?_
      have b34 := GI.b hg 143 4 kd143 (lo := 0) (hi := 16) rfl
      refine wp_iald (n := 6) (e := (σ.1 143 4)) jF_265_122 kd143 (by decide) rfl rfl (by omega) (by omega) rfl rfl (pc2 := 123) ?_
      refine wp_ri jF_265_123 rfl ?_
      exact ⟨(σ.1 143 4), rfl, ⟨by omega, by omega⟩, rfl⟩
    · refine wp_tswx (x := 8) (tgt := 112) jF_265_1 hh (by decide) ?_
      subst hh
      refine wp_al1 jF_265_112 rfl rfl (pc2 := 113) ?_
      refine wp_gr (b := 143) jF_265_113 kd117 (by decide) (c := 243) rfl rfl rfl (pc2 := 116) ?_
      refine wp_ic jF_265_116 rfl (pc2 := 117) ?_
      refine wp_il1 jF_265_117 rfl rfl (pc2 := 118) ?_
      refine wp_addx (c := 11) jF_265_118 rfl rfl (pc2 := 119) ?_
      refine wp_bi jF_265_119 (by decide) rfl (pc2 := 121) ?_
      refine wp_subx (c := 5) jF_265_121 rfl rfl (pc2 := 122) ?_
      have b35 := GI.b hg 143 5 kd143 (lo := 0) (hi := 16) rfl
      refine wp_iald (n := 6) (e := (σ.1 143 5)) jF_265_122 kd143 (by decide) rfl rfl (by omega) (by omega) rfl rfl (pc2 := 123) ?_
      refine wp_ri jF_265_123 rfl ?_
      exact ⟨(σ.1 143 5), rfl, ⟨by omega, by omega⟩, rfl⟩
    · refine wp_tswx (x := 9) (tgt := 124) jF_265_1 hh (by decide) ?_
      subst hh
      refine wp_al1 jF_265_124 rfl rfl (pc2 := 125) ?_
      refine wp_cV (as := []) (rest := []) (a := 117) (mx := 1) (ci := 12) jF_265_125 kd117 (by decide) rfl rfl rfl rfl rfl (by omega) (by omega) rfl (pc2 := 128) ?_
      refine wp_use (m_243 σ hg   _ _ (by omega) (by omega)) ?_
      rintro _ _ ⟨z40, rfl, h41, rfl, p36, p37⟩
      show WP 265 128 [(0, .ref 117), (1, iV 9)] [iV z40] _ _ _ _
      refine wp_ri jF_265_128 rfl ?_
      exact ⟨z40, rfl, ⟨by omega, by omega⟩, rfl⟩
    · refine wp_tswx (x := 10) (tgt := 129) jF_265_1 hh (by decide) ?_
      subst hh
      refine wp_al1 jF_265_129 rfl rfl (pc2 := 130) ?_
      have b42 := GI.b hg 117 52 kd117 (lo := 0) (hi := 20) rfl
      refine wp_gi jF_265_130 kd117 (by decide) rfl rfl rfl (pc2 := 133) ?_
      refine wp_ri jF_265_133 rfl ?_
      exact ⟨(σ.1 117 52), rfl, ⟨by omega, by omega⟩, rfl⟩
set_option maxHeartbeats 4000000 in
set_option maxRecDepth 20000 in
/-- M.nameOf -/
theorem m_267 (σ : jM) (hg : GI σ) (k : Int) (hl_k : (-2147483648) ≤ k) (hu_k : k ≤ 2147483647)  (fr lo : Nat) (hfr : 1 ≤ fr) (hlo : 25 ≤ lo) : WP 267 0 (lv_args 0 [.ref 117, iV k]) [] fr lo σ (fun v τ => ∃ z : Int64, v = some (.long z) ∧ σ = τ) := by
  show WP 267 0 [(0, .ref 117), (1, iV k)] [] _ _ _ _
  refine wp_il1 jF_267_0 rfl rfl (pc2 := 1) ?_
  refine wp_i2l jF_267_1 rfl (pc2 := 2) ?_
  refine wp_lc jF_267_2 rfl (pc2 := 3) ?_
  refine wp_ld jF_267_3 rfl (pc2 := 6) ?_
  refine wp_cS (as := [.long (Int32.toInt64 (Int32.ofInt k)), .long (Int64.ofNat 0), .long (17)]) (rest := []) (mx := 6) jF_267_6 rfl rfl rfl rfl (by omega) (by omega) rfl (pc2 := 9) ?_
  show WP 232 0 [(0, .long (Int32.toInt64 (Int32.ofInt k))), (2, .long (Int64.ofNat 0)), (4, .long (17))] [] _ _ _ _
  refine wp_ll1 jF_232_0 rfl rfl (pc2 := 1) ?_
  refine wp_ll1 jF_232_1 rfl rfl (pc2 := 2) ?_
  refine wp_lcmp2 (a := k) (b := 0) jF_232_2 (m_i2lt ⟨by omega, by omega⟩) (by decide) rfl (pc2 := 3) ?_
  intro z1 h2
  refine wp_z_lt jF_232_3 ⟨by omega, by omega⟩ rfl (pc2 := 6) ?_ ?_
  · intro h3
    refine wp_ic jF_232_17 rfl (pc2 := 18) ?_
    refine wp_ri jF_232_18 rfl ?_
    show WP 267 9 [(0, .ref 117), (1, iV k)] [iV 0] _ _ _ _
    refine wp_z_eq jF_267_9 (m_rgl rfl) rfl (pc2 := 12) ?_ ?_
    · intro h4
      refine wp_il1 jF_267_22 rfl rfl (pc2 := 23) ?_
      refine wp_bi jF_267_23 (by decide) rfl (pc2 := 25) ?_
      refine wp_subw jF_267_25 ⟨by omega, by omega⟩ (m_rgl rfl) rfl (pc2 := 26) ?_
      intro z5 h6
      refine wp_i2l jF_267_26 rfl (pc2 := 27) ?_
      refine wp_lc jF_267_27 rfl (pc2 := 28) ?_
      refine wp_al1 jF_267_28 rfl rfl (pc2 := 29) ?_
      have b7 := GI.b hg 117 34 kd117 (lo := 0) (hi := 5) rfl
      refine wp_gi jF_267_29 kd117 (by decide) rfl rfl rfl (pc2 := 32) ?_
      refine wp_ic jF_267_32 rfl (pc2 := 33) ?_
      refine wp_sub jF_267_33 rfl (pc2 := 34) ?_
      refine wp_i2l jF_267_34 rfl (pc2 := 35) ?_
      refine wp_cS (as := [.long (Int32.toInt64 (Int32.ofInt z5)), .long (Int64.ofNat 0), .long (Int32.toInt64 (Int32.ofInt ((σ.1 117 34) - 1)))]) (rest := []) (mx := 6) jF_267_35 rfl rfl rfl rfl (by omega) (by omega) rfl (pc2 := 38) ?_
      show WP 232 0 [(0, .long (Int32.toInt64 (Int32.ofInt z5))), (2, .long (Int64.ofNat 0)), (4, .long (Int32.toInt64 (Int32.ofInt ((σ.1 117 34) - 1))))] [] _ _ _ _
      refine wp_ll1 jF_232_0 rfl rfl (pc2 := 1) ?_
      refine wp_ll1 jF_232_1 rfl rfl (pc2 := 2) ?_
      refine wp_lcmp2 (a := z5) (b := 0) jF_232_2 (m_i2lt (m_rgb h6.1 rfl)) (by decide) rfl (pc2 := 3) ?_
      intro z8 h9
      refine wp_z_lt jF_232_3 ⟨by omega, by omega⟩ rfl (pc2 := 6) ?_ ?_
      · intro h10
        refine wp_ic jF_232_17 rfl (pc2 := 18) ?_
        refine wp_ri jF_232_18 rfl ?_
        show WP 267 38 [(0, .ref 117), (1, iV k)] [iV 0] _ _ _ _
        refine wp_z_eq jF_267_38 (m_rgl rfl) rfl (pc2 := 41) ?_ ?_
        · intro h11
          refine wp_lc jF_267_55 rfl (pc2 := 56) ?_
          refine wp_rl jF_267_56 ?_
          exact ⟨(Int64.ofNat 0), rfl, rfl⟩
        · intro h11; exfalso; omega
      · intro h10
        refine wp_ll1 jF_232_6 rfl rfl (pc2 := 7) ?_
        refine wp_ll2 jF_232_7 rfl rfl (pc2 := 9) ?_
        refine wp_lcmp2 (a := z5) (b := ((σ.1 117 34) - 1)) jF_232_9 (m_i2lt ⟨by omega, by omega⟩) (m_i2lt ⟨by omega, by omega⟩) rfl (pc2 := 10) ?_
        intro z12 h13
        refine wp_z_gt jF_232_10 ⟨by omega, by omega⟩ rfl (pc2 := 13) ?_ ?_
        · intro h14
          refine wp_ic jF_232_17 rfl (pc2 := 18) ?_
          refine wp_ri jF_232_18 rfl ?_
          show WP 267 38 [(0, .ref 117), (1, iV k)] [iV 0] _ _ _ _
          refine wp_z_eq jF_267_38 (m_rgl rfl) rfl (pc2 := 41) ?_ ?_
          · intro h15
            refine wp_lc jF_267_55 rfl (pc2 := 56) ?_
            refine wp_rl jF_267_56 ?_
            exact ⟨(Int64.ofNat 0), rfl, rfl⟩
          · intro h15; exfalso; omega
        · intro h14
          refine wp_ic jF_232_13 rfl (pc2 := 14) ?_
          refine wp_go jF_232_14 ?_
          refine wp_ri jF_232_18 rfl ?_
          show WP 267 38 [(0, .ref 117), (1, iV k)] [iV 1] _ _ _ _
          refine wp_z_eq jF_267_38 (m_rgl rfl) rfl (pc2 := 41) ?_ ?_
          · intro h16; exfalso; omega
          · intro h16
            refine wp_al1 jF_267_41 rfl rfl (pc2 := 42) ?_
            refine wp_gr (b := 140) jF_267_42 kd117 (by decide) (c := 240) rfl rfl rfl (pc2 := 45) ?_
            refine wp_ic jF_267_45 rfl (pc2 := 46) ?_
            refine wp_il1 jF_267_46 rfl rfl (pc2 := 47) ?_
            refine wp_add jF_267_47 rfl (pc2 := 48) ?_
            refine wp_bi jF_267_48 (by decide) rfl (pc2 := 50) ?_
            refine wp_sub jF_267_50 rfl (pc2 := 51) ?_
            refine wp_lald (n := 10) jF_267_51 kd140 (by decide) rfl rfl (by omega) (by omega) rfl (pc2 := 52) ?_
            intro y17
            refine wp_go jF_267_52 ?_
            refine wp_rl jF_267_56 ?_
            exact ⟨y17, rfl, rfl⟩
    · intro h4; exfalso; omega
  · intro h3
    refine wp_ll1 jF_232_6 rfl rfl (pc2 := 7) ?_
    refine wp_ll2 jF_232_7 rfl rfl (pc2 := 9) ?_
    refine wp_lcmp2 (a := k) (b := 17) jF_232_9 (m_i2lt ⟨by omega, by omega⟩) (by decide) rfl (pc2 := 10) ?_
    intro z18 h19
    refine wp_z_gt jF_232_10 ⟨by omega, by omega⟩ rfl (pc2 := 13) ?_ ?_
    · intro h20
      refine wp_ic jF_232_17 rfl (pc2 := 18) ?_
      refine wp_ri jF_232_18 rfl ?_
      show WP 267 9 [(0, .ref 117), (1, iV k)] [iV 0] _ _ _ _
      refine wp_z_eq jF_267_9 (m_rgl rfl) rfl (pc2 := 12) ?_ ?_
      · intro h21
        refine wp_il1 jF_267_22 rfl rfl (pc2 := 23) ?_
        refine wp_bi jF_267_23 (by decide) rfl (pc2 := 25) ?_
        refine wp_sub jF_267_25 rfl (pc2 := 26) ?_
        refine wp_i2l jF_267_26 rfl (pc2 := 27) ?_
        refine wp_lc jF_267_27 rfl (pc2 := 28) ?_
        refine wp_al1 jF_267_28 rfl rfl (pc2 := 29) ?_
        have b22 := GI.b hg 117 34 kd117 (lo := 0) (hi := 5) rfl
        refine wp_gi jF_267_29 kd117 (by decide) rfl rfl rfl (pc2 := 32) ?_
        refine wp_ic jF_267_32 rfl (pc2 := 33) ?_
        refine wp_sub jF_267_33 rfl (pc2 := 34) ?_
        refine wp_i2l jF_267_34 rfl (pc2 := 35) ?_
        refine wp_cS (as := [.long (Int32.toInt64 (Int32.ofInt (k - 20))), .long (Int64.ofNat 0), .long (Int32.toInt64 (Int32.ofInt ((σ.1 117 34) - 1)))]) (rest := []) (mx := 6) jF_267_35 rfl rfl rfl rfl (by omega) (by omega) rfl (pc2 := 38) ?_
        show WP 232 0 [(0, .long (Int32.toInt64 (Int32.ofInt (k - 20)))), (2, .long (Int64.ofNat 0)), (4, .long (Int32.toInt64 (Int32.ofInt ((σ.1 117 34) - 1))))] [] _ _ _ _
        refine wp_ll1 jF_232_0 rfl rfl (pc2 := 1) ?_
        refine wp_ll1 jF_232_1 rfl rfl (pc2 := 2) ?_
        refine wp_lcmp2 (a := (k - 20)) (b := 0) jF_232_2 (m_i2lt ⟨by omega, by omega⟩) (by decide) rfl (pc2 := 3) ?_
        intro z23 h24
        refine wp_z_lt jF_232_3 ⟨by omega, by omega⟩ rfl (pc2 := 6) ?_ ?_
        · intro h25
          refine wp_ic jF_232_17 rfl (pc2 := 18) ?_
          refine wp_ri jF_232_18 rfl ?_
          show WP 267 38 [(0, .ref 117), (1, iV k)] [iV 0] _ _ _ _
          refine wp_z_eq jF_267_38 (m_rgl rfl) rfl (pc2 := 41) ?_ ?_
          · intro h26
            refine wp_lc jF_267_55 rfl (pc2 := 56) ?_
            refine wp_rl jF_267_56 ?_
            exact ⟨(Int64.ofNat 0), rfl, rfl⟩
          · intro h26; exfalso; omega
        · intro h25
          refine wp_ll1 jF_232_6 rfl rfl (pc2 := 7) ?_
          refine wp_ll2 jF_232_7 rfl rfl (pc2 := 9) ?_
          refine wp_lcmp2 (a := (k - 20)) (b := ((σ.1 117 34) - 1)) jF_232_9 (m_i2lt ⟨by omega, by omega⟩) (m_i2lt ⟨by omega, by omega⟩) rfl (pc2 := 10) ?_
          intro z27 h28
          refine wp_z_gt jF_232_10 ⟨by omega, by omega⟩ rfl (pc2 := 13) ?_ ?_
          · intro h29
            refine wp_ic jF_232_17 rfl (pc2 := 18) ?_
            refine wp_ri jF_232_18 rfl ?_
            show WP 267 38 [(0, .ref 117), (1, iV k)] [iV 0] _ _ _ _
            refine wp_z_eq jF_267_38 (m_rgl rfl) rfl (pc2 := 41) ?_ ?_
            · intro h30
              refine wp_lc jF_267_55 rfl (pc2 := 56) ?_
              refine wp_rl jF_267_56 ?_
              exact ⟨(Int64.ofNat 0), rfl, rfl⟩
            · intro h30; exfalso; omega
          · intro h29
            refine wp_ic jF_232_13 rfl (pc2 := 14) ?_
            refine wp_go jF_232_14 ?_
            refine wp_ri jF_232_18 rfl ?_
            show WP 267 38 [(0, .ref 117), (1, iV k)] [iV 1] _ _ _ _
            refine wp_z_eq jF_267_38 (m_rgl rfl) rfl (pc2 := 41) ?_ ?_
            · intro h31; exfalso; omega
            · intro h31
              refine wp_al1 jF_267_41 rfl rfl (pc2 := 42) ?_
              refine wp_gr (b := 140) jF_267_42 kd117 (by decide) (c := 240) rfl rfl rfl (pc2 := 45) ?_
              refine wp_ic jF_267_45 rfl (pc2 := 46) ?_
              refine wp_il1 jF_267_46 rfl rfl (pc2 := 47) ?_
              refine wp_add jF_267_47 rfl (pc2 := 48) ?_
              refine wp_bi jF_267_48 (by decide) rfl (pc2 := 50) ?_
              refine wp_sub jF_267_50 rfl (pc2 := 51) ?_
              refine wp_lald (n := 10) jF_267_51 kd140 (by decide) rfl rfl (by omega) (by omega) rfl (pc2 := 52) ?_
              intro y32
              refine wp_go jF_267_52 ?_
              refine wp_rl jF_267_56 ?_
              exact ⟨y32, rfl, rfl⟩
      · intro h21; exfalso; omega
    · intro h20
      refine wp_ic jF_232_13 rfl (pc2 := 14) ?_
      refine wp_go jF_232_14 ?_
      refine wp_ri jF_232_18 rfl ?_
      show WP 267 9 [(0, .ref 117), (1, iV k)] [iV 1] _ _ _ _
      refine wp_z_eq jF_267_9 (m_rgl rfl) rfl (pc2 := 12) ?_ ?_
      · intro h33; exfalso; omega
      · intro h33
        refine wp_al1 jF_267_12 rfl rfl (pc2 := 13) ?_
        refine wp_gr (b := 138) jF_267_13 kd117 (by decide) (c := 238) rfl rfl rfl (pc2 := 16) ?_
        refine wp_bi jF_267_16 (by decide) rfl (pc2 := 18) ?_
        refine wp_il1 jF_267_18 rfl rfl (pc2 := 19) ?_
        refine wp_add jF_267_19 rfl (pc2 := 20) ?_
        refine wp_lald (n := 36) jF_267_20 kd138 (by decide) rfl rfl (by omega) (by omega) rfl (pc2 := 21) ?_
        intro y34
        refine wp_rl jF_267_21 ?_
        exact ⟨y34, rfl, rfl⟩
set_option maxHeartbeats 4000000 in
set_option maxRecDepth 20000 in
/-- M.letter -/
theorem m_266 (σ : jM) (hg : GI σ) (k : Int) (hl_k : (-2147483648) ≤ k) (hu_k : k ≤ 2147483647) (n : Int) (hl_n : (-2147483648) ≤ n) (hu_n : n ≤ 2147483647)  (fr lo : Nat) (hfr : 2 ≤ fr) (hlo : 46 ≤ lo) : WP 266 0 (lv_args 0 [.ref 117, iV k, iV n]) [] fr lo σ (fun v τ => ∃ z : Int, v = some (iV z) ∧ ((-2147483648) ≤ z ∧ z ≤ 2147483647) ∧ σ = τ) := by
  show WP 266 0 [(0, .ref 117), (1, iV k), (2, iV n)] [] _ _ _ _
  refine wp_al1 jF_266_0 rfl rfl (pc2 := 1) ?_
  refine wp_il1 jF_266_1 rfl rfl (pc2 := 2) ?_
  refine wp_cV (as := [iV k]) (rest := []) (a := 117) (mx := 2) (ci := 12) jF_266_2 kd117 (by decide) rfl rfl rfl rfl rfl (by omega) (by omega) rfl (pc2 := 5) ?_
  refine wp_use (m_267 σ hg k (by omega) (by omega)  _ _ (by omega) (by omega)) ?_
  rintro _ _ ⟨y3, rfl, rfl⟩
  show WP 266 5 [(0, .ref 117), (1, iV k), (2, iV n)] [.long y3] _ _ _ _
  refine wp_ls1 (lv2 := [(0, .ref 117), (1, iV k), (2, iV n), (3, .long y3)]) jF_266_5 rfl rfl rfl (pc2 := 6) ?_
  refine wp_ll1 jF_266_6 rfl rfl (pc2 := 7) ?_
  refine wp_lc jF_266_7 rfl (pc2 := 8) ?_
  refine wp_lcmp2 (a := (Int64.toInt y3)) (b := 0) jF_266_8 rfl (by decide) rfl (pc2 := 9) ?_
  intro z4 h5
  refine wp_z_eq jF_266_9 ⟨by omega, by omega⟩ rfl (pc2 := 12) ?_ ?_
  · intro h6
    refine wp_ic jF_266_24 rfl (pc2 := 25) ?_
    refine wp_ri jF_266_25 rfl ?_
    exact ⟨(-1), rfl, ⟨by omega, by omega⟩, rfl⟩
  · intro h6
    refine wp_il1 jF_266_12 rfl rfl (pc2 := 13) ?_
    refine wp_i2l jF_266_13 rfl (pc2 := 14) ?_
    refine wp_lc jF_266_14 rfl (pc2 := 15) ?_
    refine wp_ld jF_266_15 rfl (pc2 := 18) ?_
    refine wp_cS (as := [.long (Int32.toInt64 (Int32.ofInt n)), .long (Int64.ofNat 0), .long (5)]) (rest := []) (mx := 6) jF_266_18 rfl rfl rfl rfl (by omega) (by omega) rfl (pc2 := 21) ?_
    show WP 232 0 [(0, .long (Int32.toInt64 (Int32.ofInt n))), (2, .long (Int64.ofNat 0)), (4, .long (5))] [] _ _ _ _
    refine wp_ll1 jF_232_0 rfl rfl (pc2 := 1) ?_
    refine wp_ll1 jF_232_1 rfl rfl (pc2 := 2) ?_
    refine wp_lcmp2 (a := n) (b := 0) jF_232_2 (m_i2lt ⟨by omega, by omega⟩) (by decide) rfl (pc2 := 3) ?_
    intro z7 h8
    refine wp_z_lt jF_232_3 ⟨by omega, by omega⟩ rfl (pc2 := 6) ?_ ?_
    · intro h9
      refine wp_ic jF_232_17 rfl (pc2 := 18) ?_
      refine wp_ri jF_232_18 rfl ?_
      show WP 266 21 [(0, .ref 117), (1, iV k), (2, iV n), (3, .long y3)] [iV 0] _ _ _ _
      refine wp_z_ne jF_266_21 (m_rgl rfl) rfl (pc2 := 24) ?_ ?_
      · intro h10; exfalso; omega
      · intro h10
        refine wp_ic jF_266_24 rfl (pc2 := 25) ?_
        refine wp_ri jF_266_25 rfl ?_
        exact ⟨(-1), rfl, ⟨by omega, by omega⟩, rfl⟩
    · intro h9
      refine wp_ll1 jF_232_6 rfl rfl (pc2 := 7) ?_
      refine wp_ll2 jF_232_7 rfl rfl (pc2 := 9) ?_
      refine wp_lcmp2 (a := n) (b := 5) jF_232_9 (m_i2lt ⟨by omega, by omega⟩) (by decide) rfl (pc2 := 10) ?_
      intro z11 h12
      refine wp_z_gt jF_232_10 ⟨by omega, by omega⟩ rfl (pc2 := 13) ?_ ?_
      · intro h13
        refine wp_ic jF_232_17 rfl (pc2 := 18) ?_
        refine wp_ri jF_232_18 rfl ?_
        show WP 266 21 [(0, .ref 117), (1, iV k), (2, iV n), (3, .long y3)] [iV 0] _ _ _ _
        refine wp_z_ne jF_266_21 (m_rgl rfl) rfl (pc2 := 24) ?_ ?_
        · intro h14; exfalso; omega
        · intro h14
          refine wp_ic jF_266_24 rfl (pc2 := 25) ?_
          refine wp_ri jF_266_25 rfl ?_
          exact ⟨(-1), rfl, ⟨by omega, by omega⟩, rfl⟩
      · intro h13
        refine wp_ic jF_232_13 rfl (pc2 := 14) ?_
        refine wp_go jF_232_14 ?_
        refine wp_ri jF_232_18 rfl ?_
        show WP 266 21 [(0, .ref 117), (1, iV k), (2, iV n), (3, .long y3)] [iV 1] _ _ _ _
        refine wp_z_ne jF_266_21 (m_rgl rfl) rfl (pc2 := 24) ?_ ?_
        · intro h15
          refine wp_ic jF_266_26 rfl (pc2 := 27) ?_
          refine wp_is2 (lv2 := [(0, .ref 117), (1, iV k), (2, iV n), (3, .long y3), (5, iV 0)]) jF_266_27 rfl rfl rfl (pc2 := 29) ?_
          refine wp_ll1 jF_266_29 rfl rfl (pc2 := 30) ?_
          refine wp_ls2 (lv2 := [(0, .ref 117), (1, iV k), (2, iV n), (3, .long y3), (5, iV 0), (6, .long y3)]) jF_266_30 rfl rfl rfl (pc2 := 32) ?_
          refine wp_loop (α := Int × Int64) (fun a => [(0, .ref 117), (1, iV k), (2, iV n), (3, .long y3), (5, iV (a.1)), (6, .long (a.2))]) (fun a τ => ((-2147483648) ≤ a.1 ∧ a.1 ≤ 2147483647) ∧ σ = τ) (fun a τ => Int.toNat (((a.2)).toInt)) (0, y3) σ ?_ ?_
          · skip
            exact ⟨⟨by (try dsimp only); omega, by (try dsimp only); omega⟩, rfl⟩
          · rintro ⟨x16, y17⟩ _ ⟨h18, rfl⟩ ih22
            try dsimp only at h18
            show WP 266 32 [(0, .ref 117), (1, iV k), (2, iV n), (3, .long y3), (5, iV x16), (6, .long y17)] [] _ _ _ _
            show WP 266 32 [(0, .ref 117), (1, iV k), (2, iV n), (3, .long y3), (5, iV x16), (6, .long y17)] [] _ _ _ _
            refine wp_ll2 jF_266_32 rfl rfl (pc2 := 34) ?_
            refine wp_lc jF_266_34 rfl (pc2 := 35) ?_
            refine wp_lcmp2 (a := (Int64.toInt y17)) (b := 0) jF_266_35 rfl (by decide) rfl (pc2 := 36) ?_
            intro z23 h24
            refine wp_z_le jF_266_36 ⟨by omega, by omega⟩ rfl (pc2 := 39) ?_ ?_
            · intro h25
              refine wp_il1 jF_266_53 rfl rfl (pc2 := 54) ?_
              refine wp_il2 jF_266_54 rfl rfl (pc2 := 56) ?_
              refine wp_i_lt jF_266_56 ⟨by omega, by omega⟩ (m_rgb h18 rfl) rfl (pc2 := 59) ?_ ?_
              · intro h26
                refine wp_il2 jF_266_61 rfl rfl (pc2 := 63) ?_
                refine wp_ic jF_266_63 rfl (pc2 := 64) ?_
                refine wp_sub jF_266_64 rfl (pc2 := 65) ?_
                refine wp_is2 (lv2 := [(0, .ref 117), (1, iV k), (2, iV n), (3, .long y3), (5, iV x16), (6, iV (x16 - 1))]) jF_266_65 rfl rfl rfl (pc2 := 67) ?_
                refine wp_loop (α := Int64 × Int) (fun a => [(0, .ref 117), (1, iV k), (2, iV n), (3, .long (a.1)), (5, iV x16), (6, iV (a.2))]) (fun a τ => ((-2147483648) ≤ a.2 ∧ a.2 ≤ 2147483647) ∧ σ = τ) (fun a τ => Int.toNat ((a.2) - n)) (y3, (x16 - 1)) σ ?_ ?_
                · skip
                  exact ⟨⟨by (try dsimp only); omega, by (try dsimp only); omega⟩, rfl⟩
                · rintro ⟨y27, x28⟩ _ ⟨h29, rfl⟩ ih33
                  try dsimp only at h29
                  show WP 266 67 [(0, .ref 117), (1, iV k), (2, iV n), (3, .long y27), (5, iV x16), (6, iV x28)] [] _ _ _ _
                  show WP 266 67 [(0, .ref 117), (1, iV k), (2, iV n), (3, .long y27), (5, iV x16), (6, iV x28)] [] _ _ _ _
                  refine wp_il2 jF_266_67 rfl rfl (pc2 := 69) ?_
                  refine wp_il1 jF_266_69 rfl rfl (pc2 := 70) ?_
                  refine wp_i_le jF_266_70 (m_rgb h29 rfl) ⟨by omega, by omega⟩ rfl (pc2 := 73) ?_ ?_
                  · intro h34
                    refine wp_ll1 jF_266_85 rfl rfl (pc2 := 86) ?_
                    refine wp_ld jF_266_86 rfl (pc2 := 89) ?_
                    refine wp_lrem jF_266_89 (by decide) rfl (pc2 := 90) ?_
                    intro y35
                    refine wp_any1 (pc2 := 91) jF_266_90 rfl rfl ?_
                    intro z36 h37
                    refine wp_ri jF_266_91 rfl ?_
                    exact ⟨z36, rfl, ⟨by omega, by omega⟩, rfl⟩
                  · intro h34
                    refine wp_ll1 jF_266_73 rfl rfl (pc2 := 74) ?_
                    refine wp_ld jF_266_74 rfl (pc2 := 77) ?_
                    refine wp_ldx jF_266_77 (by decide) rfl (pc2 := 78) ?_
                    refine wp_ls1 (lv2 := [(0, .ref 117), (1, iV k), (2, iV n), (3, .long (y27 / (27))), (5, iV x16), (6, iV x28)]) jF_266_78 rfl rfl rfl (pc2 := 79) ?_
                    refine wp_inc (lv2 := [(0, .ref 117), (1, iV k), (2, iV n), (3, .long (y27 / (27))), (5, iV x16), (6, iV (x28 + (-1)))]) jF_266_79 rfl rfl rfl rfl (pc2 := 82) ?_
                    refine wp_go jF_266_82 ?_
                    exact ih33 ((y27 / (27)), (x28 + (-1))) σ ⟨⟨by (try dsimp only); omega, by (try dsimp only); omega⟩, rfl⟩ (by show Int.toNat ((x28 + (-1)) - n) < Int.toNat (x28 - n); omega)
              · intro h26
                refine wp_ic jF_266_59 rfl (pc2 := 60) ?_
                refine wp_ri jF_266_60 rfl ?_
                exact ⟨0, rfl, ⟨by omega, by omega⟩, rfl⟩
            · intro h25
              have n38 := ldiv_lt (x := y17) (by omega)
              refine wp_inca (lv2 := fun z39 => [(0, .ref 117), (1, iV k), (2, iV n), (3, .long y3), (5, iV z39), (6, .long y17)]) jF_266_39 rfl rfl (fun _ => rfl) rfl ?_
              intro z39 h40
              refine wp_ll2 jF_266_42 rfl rfl (pc2 := 44) ?_
              refine wp_ld jF_266_44 rfl (pc2 := 47) ?_
              refine wp_ldx jF_266_47 (by decide) rfl (pc2 := 48) ?_
              refine wp_ls2 (lv2 := [(0, .ref 117), (1, iV k), (2, iV n), (3, .long y3), (5, iV z39), (6, .long (y17 / (27)))]) jF_266_48 rfl rfl rfl (pc2 := 50) ?_
              refine wp_go jF_266_50 ?_
              exact ih22 (z39, (y17 / (27))) σ ⟨⟨by (try dsimp only); omega, by (try dsimp only); omega⟩, rfl⟩ (by show Int.toNat (((y17 / (27))).toInt) < Int.toNat ((y17).toInt); omega)
        · intro h15; exfalso; omega
set_option maxHeartbeats 4000000 in
set_option maxRecDepth 20000 in
/-- M.shorts -/
theorem m_297 (σ : jM) (hg : GI σ)   (fr lo : Nat) (hfr : 0 ≤ fr) (hlo : 0 ≤ lo) : WP 297 0 (lv_args 0 [.ref 117]) [] fr lo σ (fun v τ => ∃ z : Int, v = some (iV z) ∧ ((-2147483648) ≤ z ∧ z ≤ 2147483647) ∧ σ = τ) := by
  show WP 297 0 [(0, .ref 117)] [] _ _ _ _
  refine wp_al1 jF_297_0 rfl rfl (pc2 := 1) ?_
  have b1 := GI.b hg 117 56 kd117 (lo := 0) (hi := 1752) rfl
  refine wp_gi jF_297_1 kd117 (by decide) rfl rfl rfl (pc2 := 4) ?_
  refine wp_ri jF_297_4 rfl ?_
  exact ⟨(σ.1 117 56), rfl, ⟨by omega, by omega⟩, rfl⟩
