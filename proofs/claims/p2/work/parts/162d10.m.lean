set_option maxHeartbeats 4000000 in
set_option maxRecDepth 20000 in
/-- Tongue.votesOn -/
theorem m_158_r45 (σ : jM) (hg : GI σ) (la : Int64) (lb : Int64) (yes : Int) (hl_yes : 0 ≤ yes) (hu_yes : yes ≤ 1)  (fr lo : Nat) (hfr : 3 ≤ fr) (hlo : 72 ≤ lo) : WP 158 0 (lv_args 0 [.ref 45, .long la, .long lb, iV yes]) [] fr lo σ (fun v τ => ∃ z : Int, v = some (iV z) ∧ ((-2147483648) ≤ z ∧ z ≤ 2147483647) ∧ GI τ ∧ FR Wc50 σ τ) := by
  show WP 158 0 [(0, .ref 45), (1, .long la), (3, .long lb), (5, iV yes)] [] _ _ _ _
  refine wp_al1 jF_158_0 rfl rfl (pc2 := 1) ?_
  refine wp_ll1 jF_158_1 rfl rfl (pc2 := 2) ?_
  refine wp_ll1 jF_158_2 rfl rfl (pc2 := 3) ?_
  refine wp_cV (as := [.long la, .long lb]) (rest := []) (a := 45) (mx := 7) (ci := 8) jF_158_3 kd45 (by decide) rfl rfl rfl rfl rfl (by omega) (by omega) rfl (pc2 := 6) ?_
  refine wp_use (m_159_r45 σ hg la lb  _ _ (by omega) (by omega)) ?_
  rintro _ τ1 ⟨rfl, g2, f3⟩
  show WP 158 6 [(0, .ref 45), (1, .long la), (3, .long lb), (5, iV yes)] [] _ _ _ _
  refine wp_ic jF_158_6 rfl (pc2 := 7) ?_
  refine wp_is2 (lv2 := [(0, .ref 45), (1, .long la), (3, .long lb), (5, iV yes), (6, iV 0)]) jF_158_7 rfl rfl rfl (pc2 := 9) ?_
  refine wp_ic jF_158_9 rfl (pc2 := 10) ?_
  refine wp_is2 (lv2 := [(0, .ref 45), (1, .long la), (3, .long lb), (5, iV yes), (6, iV 0), (7, iV 0)]) jF_158_10 rfl rfl rfl (pc2 := 12) ?_
  refine wp_loop (α := Int × Int) (fun a => [(0, .ref 45), (1, .long la), (3, .long lb), (5, iV yes), (6, iV (a.1)), (7, iV (a.2))]) (fun a τ => ((-2147483648) ≤ a.1 ∧ a.1 ≤ 2147483647) ∧ (0 ≤ a.2 ∧ a.2 ≤ 5) ∧ τ1 = τ) (fun a τ => Int.toNat (5 - (a.2))) (0, 0) τ1 ?_ ?_
  · skip
    exact ⟨⟨by (try dsimp only); omega, by (try dsimp only); omega⟩, ⟨by (try dsimp only); omega, by (try dsimp only); omega⟩, rfl⟩
  · rintro ⟨x4, x5⟩ _ ⟨h6, h7, rfl⟩ ih11
    try dsimp only at h6 h7
    show WP 158 12 [(0, .ref 45), (1, .long la), (3, .long lb), (5, iV yes), (6, iV x4), (7, iV x5)] [] _ _ _ _
    show WP 158 12 [(0, .ref 45), (1, .long la), (3, .long lb), (5, iV yes), (6, iV x4), (7, iV x5)] [] _ _ _ _
    refine wp_il2 jF_158_12 rfl rfl (pc2 := 14) ?_
    refine wp_al1 jF_158_14 rfl rfl (pc2 := 15) ?_
    have b12 := GI.b hg 45 11 kd45 (lo := 0) (hi := 5) rfl
    refine wp_gi jF_158_15 kd45 (by decide) rfl (FR.at f3 45 11 rfl) rfl (pc2 := 18) ?_
    refine wp_i_ge jF_158_18 (m_rgb h7 rfl) (m_rgb b12 rfl) rfl (pc2 := 21) ?_ ?_
    · intro h13
      refine wp_il2 jF_158_67 rfl rfl (pc2 := 69) ?_
      refine wp_ri jF_158_69 rfl ?_
      exact ⟨x4, rfl, ⟨by omega, by omega⟩, g2, f3⟩
    · intro h13
      refine wp_il2 jF_158_21 rfl rfl (pc2 := 23) ?_
      refine wp_z_eq jF_158_23 ⟨by omega, by omega⟩ rfl (pc2 := 26) ?_ ?_
      · intro h14
        refine wp_al1 jF_158_39 rfl rfl (pc2 := 40) ?_
        refine wp_gr (b := 50) jF_158_40 kd45 (by decide) (c := 8) rfl rfl rfl (pc2 := 43) ?_
        refine wp_il2 jF_158_43 rfl rfl (pc2 := 45) ?_
        have b15 := GI.b g2 50 x5.toNat kd50 (lo := (-2147483648)) (hi := 2147483647) rfl
        refine wp_iald (n := 5) (e := (τ1.1 50 x5.toNat)) jF_158_45 kd50 (by decide) rfl rfl (by omega) (by omega) rfl rfl (pc2 := 46) ?_
        refine wp_z_ge jF_158_46 (m_rgb b15 rfl) rfl (pc2 := 49) ?_ ?_
        · intro h16
          refine wp_inc (lv2 := [(0, .ref 45), (1, .long la), (3, .long lb), (5, iV yes), (6, iV x4), (7, iV (x5 + 1))]) jF_158_61 rfl rfl rfl rfl (pc2 := 64) ?_
          refine wp_go jF_158_64 ?_
          exact ih11 (x4, (x5 + 1)) τ1 ⟨⟨by (try dsimp only); omega, by (try dsimp only); omega⟩, ⟨by (try dsimp only); omega, by (try dsimp only); omega⟩, rfl⟩ (by show Int.toNat (5 - (x5 + 1)) < Int.toNat (5 - x5); omega)
        · intro h16
          refine wp_il2 jF_158_49 rfl rfl (pc2 := 51) ?_
          refine wp_al1 jF_158_51 rfl rfl (pc2 := 52) ?_
          refine wp_gr (b := 49) jF_158_52 kd45 (by decide) (c := 7) rfl rfl rfl (pc2 := 55) ?_
          refine wp_il2 jF_158_55 rfl rfl (pc2 := 57) ?_
          have b17 := GI.b hg 49 x5.toNat kd49 (lo := (-2147483648)) (hi := 2147483647) rfl
          refine wp_iald (n := 5) (e := (σ.1 49 x5.toNat)) jF_158_57 kd49 (by decide) rfl rfl (by omega) (by omega) (FR.at f3 49 x5.toNat rfl) rfl (pc2 := 58) ?_
          refine wp_any2 (pc2 := 59) jF_158_58 rfl rfl ?_
          intro z18 h19
          refine wp_is2 (lv2 := [(0, .ref 45), (1, .long la), (3, .long lb), (5, iV yes), (6, iV z18), (7, iV x5)]) jF_158_59 rfl rfl rfl (pc2 := 61) ?_
          refine wp_inc (lv2 := [(0, .ref 45), (1, .long la), (3, .long lb), (5, iV yes), (6, iV z18), (7, iV (x5 + 1))]) jF_158_61 rfl rfl rfl rfl (pc2 := 64) ?_
          refine wp_go jF_158_64 ?_
          exact ih11 (z18, (x5 + 1)) τ1 ⟨⟨by (try dsimp only); omega, by (try dsimp only); omega⟩, ⟨by (try dsimp only); omega, by (try dsimp only); omega⟩, rfl⟩ (by show Int.toNat (5 - (x5 + 1)) < Int.toNat (5 - x5); omega)
      · intro h14
        refine wp_al1 jF_158_26 rfl rfl (pc2 := 27) ?_
        refine wp_gr (b := 50) jF_158_27 kd45 (by decide) (c := 8) rfl rfl rfl (pc2 := 30) ?_
        refine wp_il2 jF_158_30 rfl rfl (pc2 := 32) ?_
        have b20 := GI.b g2 50 x5.toNat kd50 (lo := (-2147483648)) (hi := 2147483647) rfl
        refine wp_iald (n := 5) (e := (τ1.1 50 x5.toNat)) jF_158_32 kd50 (by decide) rfl rfl (by omega) (by omega) rfl rfl (pc2 := 33) ?_
        refine wp_z_le jF_158_33 (m_rgb b20 rfl) rfl (pc2 := 36) ?_ ?_
        · intro h21
          refine wp_inc (lv2 := [(0, .ref 45), (1, .long la), (3, .long lb), (5, iV yes), (6, iV x4), (7, iV (x5 + 1))]) jF_158_61 rfl rfl rfl rfl (pc2 := 64) ?_
          refine wp_go jF_158_64 ?_
          exact ih11 (x4, (x5 + 1)) τ1 ⟨⟨by (try dsimp only); omega, by (try dsimp only); omega⟩, ⟨by (try dsimp only); omega, by (try dsimp only); omega⟩, rfl⟩ (by show Int.toNat (5 - (x5 + 1)) < Int.toNat (5 - x5); omega)
        · intro h21
          refine wp_go jF_158_36 ?_
          refine wp_il2 jF_158_49 rfl rfl (pc2 := 51) ?_
          refine wp_al1 jF_158_51 rfl rfl (pc2 := 52) ?_
          refine wp_gr (b := 49) jF_158_52 kd45 (by decide) (c := 7) rfl rfl rfl (pc2 := 55) ?_
          refine wp_il2 jF_158_55 rfl rfl (pc2 := 57) ?_
          have b22 := GI.b hg 49 x5.toNat kd49 (lo := (-2147483648)) (hi := 2147483647) rfl
          refine wp_iald (n := 5) (e := (σ.1 49 x5.toNat)) jF_158_57 kd49 (by decide) rfl rfl (by omega) (by omega) (FR.at f3 49 x5.toNat rfl) rfl (pc2 := 58) ?_
          refine wp_any2 (pc2 := 59) jF_158_58 rfl rfl ?_
          intro z23 h24
          refine wp_is2 (lv2 := [(0, .ref 45), (1, .long la), (3, .long lb), (5, iV yes), (6, iV z23), (7, iV x5)]) jF_158_59 rfl rfl rfl (pc2 := 61) ?_
          refine wp_inc (lv2 := [(0, .ref 45), (1, .long la), (3, .long lb), (5, iV yes), (6, iV z23), (7, iV (x5 + 1))]) jF_158_61 rfl rfl rfl rfl (pc2 := 64) ?_
          refine wp_go jF_158_64 ?_
          exact ih11 (z23, (x5 + 1)) τ1 ⟨⟨by (try dsimp only); omega, by (try dsimp only); omega⟩, ⟨by (try dsimp only); omega, by (try dsimp only); omega⟩, rfl⟩ (by show Int.toNat (5 - (x5 + 1)) < Int.toNat (5 - x5); omega)
set_option maxHeartbeats 4000000 in
set_option maxRecDepth 20000 in
/-- Tongue.isVoted -/
theorem m_162_r45 (σ : jM) (hg : GI σ) (la : Int64) (lb : Int64)  (fr lo : Nat) (hfr : 3 ≤ fr) (hlo : 72 ≤ lo) : WP 162 0 (lv_args 0 [.ref 45, .long la, .long lb]) [] fr lo σ (fun v τ => ∃ z : Int, v = some (iV z) ∧ (0 ≤ z ∧ z ≤ 1) ∧ GI τ ∧ FR Wc50 σ τ) := by
  show WP 162 0 [(0, .ref 45), (1, .long la), (3, .long lb)] [] _ _ _ _
  refine wp_ll1 jF_162_0 rfl rfl (pc2 := 1) ?_
  refine wp_ll1 jF_162_1 rfl rfl (pc2 := 2) ?_
  refine wp_anyL (pc2 := 3) jF_162_2 rfl rfl ?_
  intro z1 h2
  refine wp_z_ne jF_162_3 (m_rgb h2 rfl) rfl (pc2 := 6) ?_ ?_
  · intro h3
    refine wp_al1 jF_162_8 rfl rfl (pc2 := 9) ?_
    refine wp_ll1 jF_162_9 rfl rfl (pc2 := 10) ?_
    refine wp_ll1 jF_162_10 rfl rfl (pc2 := 11) ?_
    refine wp_cV (as := [.long la, .long lb]) (rest := []) (a := 45) (mx := 7) (ci := 8) jF_162_11 kd45 (by decide) rfl rfl rfl rfl rfl (by omega) (by omega) rfl (pc2 := 14) ?_
    refine wp_use (m_159_r45 σ hg la lb  _ _ (by omega) (by omega)) ?_
    rintro _ τ4 ⟨rfl, g5, f6⟩
    show WP 162 14 [(0, .ref 45), (1, .long la), (3, .long lb)] [] _ _ _ _
    refine wp_ic jF_162_14 rfl (pc2 := 15) ?_
    refine wp_is2 (lv2 := [(0, .ref 45), (1, .long la), (3, .long lb), (5, iV 0)]) jF_162_15 rfl rfl rfl (pc2 := 17) ?_
    refine wp_ic jF_162_17 rfl (pc2 := 18) ?_
    refine wp_is2 (lv2 := [(0, .ref 45), (1, .long la), (3, .long lb), (5, iV 0), (6, iV 0)]) jF_162_18 rfl rfl rfl (pc2 := 20) ?_
    refine wp_loop (α := Int × Int) (fun a => [(0, .ref 45), (1, .long la), (3, .long lb), (5, iV (a.1)), (6, iV (a.2))]) (fun a τ => ((-2147483648) ≤ a.1 ∧ a.1 ≤ 2147483647) ∧ (0 ≤ a.2 ∧ a.2 ≤ 5) ∧ τ4 = τ) (fun a τ => Int.toNat (5 - (a.2))) (0, 0) τ4 ?_ ?_
    · skip
      exact ⟨⟨by (try dsimp only); omega, by (try dsimp only); omega⟩, ⟨by (try dsimp only); omega, by (try dsimp only); omega⟩, rfl⟩
    · rintro ⟨x7, x8⟩ _ ⟨h9, h10, rfl⟩ ih14
      try dsimp only at h9 h10
      show WP 162 20 [(0, .ref 45), (1, .long la), (3, .long lb), (5, iV x7), (6, iV x8)] [] _ _ _ _
      show WP 162 20 [(0, .ref 45), (1, .long la), (3, .long lb), (5, iV x7), (6, iV x8)] [] _ _ _ _
      refine wp_il2 jF_162_20 rfl rfl (pc2 := 22) ?_
      refine wp_al1 jF_162_22 rfl rfl (pc2 := 23) ?_
      have b15 := GI.b hg 45 11 kd45 (lo := 0) (hi := 5) rfl
      refine wp_gi jF_162_23 kd45 (by decide) rfl (FR.at f6 45 11 rfl) rfl (pc2 := 26) ?_
      refine wp_i_ge jF_162_26 (m_rgb h10 rfl) (m_rgb b15 rfl) rfl (pc2 := 29) ?_ ?_
      · intro h16
        refine wp_il2 jF_162_78 rfl rfl (pc2 := 80) ?_
        refine wp_z_le jF_162_80 (m_rgb h9 rfl) rfl (pc2 := 83) ?_ ?_
        · intro h17
          refine wp_ic jF_162_87 rfl (pc2 := 88) ?_
          refine wp_ri jF_162_88 rfl ?_
          exact ⟨0, rfl, ⟨by omega, by omega⟩, g5, f6⟩
        · intro h17
          refine wp_ic jF_162_83 rfl (pc2 := 84) ?_
          refine wp_go jF_162_84 ?_
          refine wp_ri jF_162_88 rfl ?_
          exact ⟨1, rfl, ⟨by omega, by omega⟩, g5, f6⟩
      · intro h16
        refine wp_al1 jF_162_29 rfl rfl (pc2 := 30) ?_
        refine wp_gr (b := 50) jF_162_30 kd45 (by decide) (c := 8) rfl rfl rfl (pc2 := 33) ?_
        refine wp_il2 jF_162_33 rfl rfl (pc2 := 35) ?_
        have b18 := GI.b g5 50 x8.toNat kd50 (lo := (-2147483648)) (hi := 2147483647) rfl
        refine wp_iald (n := 5) (e := (τ4.1 50 x8.toNat)) jF_162_35 kd50 (by decide) rfl rfl (by omega) (by omega) rfl rfl (pc2 := 36) ?_
        refine wp_z_eq jF_162_36 (m_rgb b18 rfl) rfl (pc2 := 39) ?_ ?_
        · intro h19
          refine wp_inc (lv2 := [(0, .ref 45), (1, .long la), (3, .long lb), (5, iV x7), (6, iV (x8 + 1))]) jF_162_72 rfl rfl rfl rfl (pc2 := 75) ?_
          refine wp_go jF_162_75 ?_
          exact ih14 (x7, (x8 + 1)) τ4 ⟨⟨by (try dsimp only); omega, by (try dsimp only); omega⟩, ⟨by (try dsimp only); omega, by (try dsimp only); omega⟩, rfl⟩ (by show Int.toNat (5 - (x8 + 1)) < Int.toNat (5 - x8); omega)
        · intro h19
          refine wp_il2 jF_162_39 rfl rfl (pc2 := 41) ?_
          refine wp_al1 jF_162_41 rfl rfl (pc2 := 42) ?_
          refine wp_gr (b := 50) jF_162_42 kd45 (by decide) (c := 8) rfl rfl rfl (pc2 := 45) ?_
          refine wp_il2 jF_162_45 rfl rfl (pc2 := 47) ?_
          refine wp_iald (n := 5) (e := (τ4.1 50 x8.toNat)) jF_162_47 kd50 (by decide) rfl rfl (by omega) (by omega) rfl rfl (pc2 := 48) ?_
          refine wp_z_le jF_162_48 (m_rgb b18 rfl) rfl (pc2 := 51) ?_ ?_
          · intro h20
            refine wp_al1 jF_162_61 rfl rfl (pc2 := 62) ?_
            refine wp_gr (b := 49) jF_162_62 kd45 (by decide) (c := 7) rfl rfl rfl (pc2 := 65) ?_
            refine wp_il2 jF_162_65 rfl rfl (pc2 := 67) ?_
            have b21 := GI.b hg 49 x8.toNat kd49 (lo := (-2147483648)) (hi := 2147483647) rfl
            refine wp_iald (n := 5) (e := (σ.1 49 x8.toNat)) jF_162_67 kd49 (by decide) rfl rfl (by omega) (by omega) (FR.at f6 49 x8.toNat rfl) rfl (pc2 := 68) ?_
            refine wp_any1 (pc2 := 69) jF_162_68 rfl rfl ?_
            intro z22 h23
            refine wp_any2 (pc2 := 70) jF_162_69 rfl rfl ?_
            intro z24 h25
            refine wp_is2 (lv2 := [(0, .ref 45), (1, .long la), (3, .long lb), (5, iV z24), (6, iV x8)]) jF_162_70 rfl rfl rfl (pc2 := 72) ?_
            refine wp_inc (lv2 := [(0, .ref 45), (1, .long la), (3, .long lb), (5, iV z24), (6, iV (x8 + 1))]) jF_162_72 rfl rfl rfl rfl (pc2 := 75) ?_
            refine wp_go jF_162_75 ?_
            exact ih14 (z24, (x8 + 1)) τ4 ⟨⟨by (try dsimp only); omega, by (try dsimp only); omega⟩, ⟨by (try dsimp only); omega, by (try dsimp only); omega⟩, rfl⟩ (by show Int.toNat (5 - (x8 + 1)) < Int.toNat (5 - x8); omega)
          · intro h20
            refine wp_al1 jF_162_51 rfl rfl (pc2 := 52) ?_
            refine wp_gr (b := 49) jF_162_52 kd45 (by decide) (c := 7) rfl rfl rfl (pc2 := 55) ?_
            refine wp_il2 jF_162_55 rfl rfl (pc2 := 57) ?_
            have b26 := GI.b hg 49 x8.toNat kd49 (lo := (-2147483648)) (hi := 2147483647) rfl
            refine wp_iald (n := 5) (e := (σ.1 49 x8.toNat)) jF_162_57 kd49 (by decide) rfl rfl (by omega) (by omega) (FR.at f6 49 x8.toNat rfl) rfl (pc2 := 58) ?_
            refine wp_go jF_162_58 ?_
            refine wp_any2 (pc2 := 70) jF_162_69 rfl rfl ?_
            intro z27 h28
            refine wp_is2 (lv2 := [(0, .ref 45), (1, .long la), (3, .long lb), (5, iV z27), (6, iV x8)]) jF_162_70 rfl rfl rfl (pc2 := 72) ?_
            refine wp_inc (lv2 := [(0, .ref 45), (1, .long la), (3, .long lb), (5, iV z27), (6, iV (x8 + 1))]) jF_162_72 rfl rfl rfl rfl (pc2 := 75) ?_
            refine wp_go jF_162_75 ?_
            exact ih14 (z27, (x8 + 1)) τ4 ⟨⟨by (try dsimp only); omega, by (try dsimp only); omega⟩, ⟨by (try dsimp only); omega, by (try dsimp only); omega⟩, rfl⟩ (by show Int.toNat (5 - (x8 + 1)) < Int.toNat (5 - x8); omega)
  · intro h3
    refine wp_ic jF_162_6 rfl (pc2 := 7) ?_
    refine wp_ri jF_162_7 rfl ?_
    exact ⟨0, rfl, ⟨by omega, by omega⟩, hg, FR.rf⟩
