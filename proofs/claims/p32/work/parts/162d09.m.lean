set_option maxHeartbeats 4000000 in
set_option maxRecDepth 20000 in
/-- Tongue.weighGains -/
theorem m_159_r20 (σ : jM) (hg : GI σ) (la : Int64) (lb : Int64)  (fr lo : Nat) (hfr : 2 ≤ fr) (hlo : 46 ≤ lo) : WP 159 0 (lv_args 0 [.ref 20, .long la, .long lb]) [] fr lo σ (fun v τ => v = none ∧ GI τ ∧ FR Wc25 σ τ) := by
  show WP 159 0 [(0, .ref 20), (1, .long la), (3, .long lb)] [] _ _ _ _
  refine wp_al1 jF_159_0 rfl rfl (pc2 := 1) ?_
  refine wp_gr (b := 25) jF_159_1 kd20 (by decide) (c := 8) rfl rfl rfl (pc2 := 4) ?_
  refine wp_ic jF_159_4 rfl (pc2 := 5) ?_
  refine wp_cS (as := [.ref 25, iV 0]) (rest := []) (mx := 4) jF_159_5 rfl rfl rfl rfl (by omega) (by omega) rfl (pc2 := 8) ?_
  refine wp_use (m_31_r25 σ hg   _ _ (by omega) (by omega)) ?_
  rintro _ τ1 ⟨rfl, g2, f3⟩
  show WP 159 8 [(0, .ref 20), (1, .long la), (3, .long lb)] [] _ _ _ _
  refine wp_ic jF_159_8 rfl (pc2 := 9) ?_
  refine wp_is2 (lv2 := [(0, .ref 20), (1, .long la), (3, .long lb), (5, iV 0)]) jF_159_9 rfl rfl rfl (pc2 := 11) ?_
  refine wp_loop (α := Int) (fun a => [(0, .ref 20), (1, .long la), (3, .long lb), (5, iV (a))]) (fun a τ => (0 ≤ a ∧ a ≤ 16) ∧ GI τ ∧ FR Wc25 τ1 τ) (fun a τ => Int.toNat (16 - (a))) (0) τ1 ?_ ?_
  · skip
    exact ⟨⟨by omega, by omega⟩, g2, FR.rf⟩
  · rintro x4 τ6 ⟨h5, g7, f8⟩ ih9
    show WP 159 11 [(0, .ref 20), (1, .long la), (3, .long lb), (5, iV x4)] [] _ _ _ _
    show WP 159 11 [(0, .ref 20), (1, .long la), (3, .long lb), (5, iV x4)] [] _ _ _ _
    refine wp_il2 jF_159_11 rfl rfl (pc2 := 13) ?_
    refine wp_al1 jF_159_13 rfl rfl (pc2 := 14) ?_
    refine wp_gr (b := 27) jF_159_14 kd20 (by decide) (c := 10) rfl rfl rfl (pc2 := 17) ?_
    have b10 := GI.b hg 27 5 kd27 (lo := 0) (hi := 16) rfl
    refine wp_gi jF_159_17 kd27 (by decide) rfl ((FR.at f8 27 5 rfl).trans (FR.at f3 27 5 rfl)) rfl (pc2 := 20) ?_
    refine wp_i_ge jF_159_20 (m_rgb h5 rfl) (m_rgb b10 rfl) rfl (pc2 := 23) ?_ ?_
    · intro h11
      refine wp_rv jF_159_87 ?_
      exact ⟨rfl, g7, (FR.up f3 f8 sb_Wc25_Wc25)⟩
    · intro h11
      refine wp_al1 jF_159_23 rfl rfl (pc2 := 24) ?_
      refine wp_gr (b := 27) jF_159_24 kd20 (by decide) (c := 10) rfl rfl rfl (pc2 := 27) ?_
      refine wp_gr (b := 30) jF_159_27 kd27 (by decide) (c := 6) rfl rfl rfl (pc2 := 30) ?_
      refine wp_il2 jF_159_30 rfl rfl (pc2 := 32) ?_
      have b12 := GI.b hg 30 x4.toNat kd30 (lo := (-2147483648)) (hi := 2147483647) rfl
      refine wp_iald (n := 16) (e := (σ.1 30 x4.toNat)) jF_159_32 kd30 (by decide) rfl rfl (by omega) (by omega) ((FR.at f8 30 x4.toNat rfl).trans (FR.at f3 30 x4.toNat rfl)) rfl (pc2 := 33) ?_
      refine wp_is2 (lv2 := [(0, .ref 20), (1, .long la), (3, .long lb), (5, iV x4), (6, iV (σ.1 30 x4.toNat))]) jF_159_33 rfl rfl rfl (pc2 := 35) ?_
      refine wp_il2 jF_159_35 rfl rfl (pc2 := 37) ?_
      refine wp_z_lt jF_159_37 (m_rgb b12 rfl) rfl (pc2 := 40) ?_ ?_
      · intro h13
        refine wp_inc (lv2 := [(0, .ref 20), (1, .long la), (3, .long lb), (5, iV (x4 + 1)), (6, iV (σ.1 30 x4.toNat))]) jF_159_81 rfl rfl rfl rfl (pc2 := 84) ?_
        refine wp_go jF_159_84 ?_
        refine wp_less [0, 1, 3, 5] (lv2 := [(0, .ref 20), (1, .long la), (3, .long lb), (5, iV (x4 + 1))]) rfl rfl ?_
        exact ih9 ((x4 + 1)) τ6 ⟨⟨by omega, by omega⟩, g7, f8⟩ (by show Int.toNat (16 - (x4 + 1)) < Int.toNat (16 - x4); omega)
      · intro h13
        refine wp_il2 jF_159_40 rfl rfl (pc2 := 42) ?_
        refine wp_al1 jF_159_42 rfl rfl (pc2 := 43) ?_
        refine wp_gr (b := 25) jF_159_43 kd20 (by decide) (c := 8) rfl rfl rfl (pc2 := 46) ?_
        refine wp_len (n := 5) (t := 0) jF_159_46 kd25 (by decide) rfl rfl (pc2 := 47) ?_
        refine wp_i_ge jF_159_47 ⟨by omega, by omega⟩ (m_rgl rfl) rfl (pc2 := 50) ?_ ?_
        · intro h14
          refine wp_inc (lv2 := [(0, .ref 20), (1, .long la), (3, .long lb), (5, iV (x4 + 1)), (6, iV (σ.1 30 x4.toNat))]) jF_159_81 rfl rfl rfl rfl (pc2 := 84) ?_
          refine wp_go jF_159_84 ?_
          refine wp_less [0, 1, 3, 5] (lv2 := [(0, .ref 20), (1, .long la), (3, .long lb), (5, iV (x4 + 1))]) rfl rfl ?_
          exact ih9 ((x4 + 1)) τ6 ⟨⟨by omega, by omega⟩, g7, f8⟩ (by show Int.toNat (16 - (x4 + 1)) < Int.toNat (16 - x4); omega)
        · intro h14
          refine wp_al1 jF_159_50 rfl rfl (pc2 := 51) ?_
          refine wp_gr (b := 25) jF_159_51 kd20 (by decide) (c := 8) rfl rfl rfl (pc2 := 54) ?_
          refine wp_il2 jF_159_54 rfl rfl (pc2 := 56) ?_
          refine wp_du2 jF_159_56 rfl rfl (pc2 := 57) ?_
          have b15 := GI.b g7 25 (σ.1 30 x4.toNat).toNat kd25 (lo := (-2147483648)) (hi := 2147483647) rfl
          refine wp_iald (n := 5) (e := (τ6.1 25 (σ.1 30 x4.toNat).toNat)) jF_159_57 kd25 (by decide) rfl rfl (by omega) (by omega) rfl rfl (pc2 := 58) ?_
          refine wp_al1 jF_159_58 rfl rfl (pc2 := 59) ?_
          refine wp_gr (b := 27) jF_159_59 kd20 (by decide) (c := 10) rfl rfl rfl (pc2 := 62) ?_
          refine wp_il2 jF_159_62 rfl rfl (pc2 := 64) ?_
          refine wp_ll1 jF_159_64 rfl rfl (pc2 := 65) ?_
          refine wp_cV (as := [iV x4, .long lb]) (rest := [iV (τ6.1 25 (σ.1 30 x4.toNat).toNat), iV (σ.1 30 x4.toNat), .ref 25]) (a := 27) (mx := 6) (ci := 7) jF_159_65 kd27 (by decide) rfl rfl rfl rfl rfl (by omega) (by omega) rfl (pc2 := 68) ?_
          refine wp_use (m_156_r27 τ6 g7 x4 (by omega) (by omega) lb  _ _ (by omega) (by omega)) ?_
          rintro _ _ ⟨z18, rfl, h19, rfl⟩
          show WP 159 68 [(0, .ref 20), (1, .long la), (3, .long lb), (5, iV x4), (6, iV (σ.1 30 x4.toNat))] [iV z18, iV (τ6.1 25 (σ.1 30 x4.toNat).toNat), iV (σ.1 30 x4.toNat), .ref 25] _ _ _ _
          refine wp_al1 jF_159_68 rfl rfl (pc2 := 69) ?_
          refine wp_gr (b := 27) jF_159_69 kd20 (by decide) (c := 10) rfl rfl rfl (pc2 := 72) ?_
          refine wp_il2 jF_159_72 rfl rfl (pc2 := 74) ?_
          refine wp_ll1 jF_159_74 rfl rfl (pc2 := 75) ?_
          refine wp_cV (as := [iV x4, .long la]) (rest := [iV z18, iV (τ6.1 25 (σ.1 30 x4.toNat).toNat), iV (σ.1 30 x4.toNat), .ref 25]) (a := 27) (mx := 6) (ci := 7) jF_159_75 kd27 (by decide) rfl rfl rfl rfl rfl (by omega) (by omega) rfl (pc2 := 78) ?_
          refine wp_use (m_156_r27 τ6 g7 x4 (by omega) (by omega) la  _ _ (by omega) (by omega)) ?_
          rintro _ _ ⟨z22, rfl, h23, rfl⟩
          show WP 159 78 [(0, .ref 20), (1, .long la), (3, .long lb), (5, iV x4), (6, iV (σ.1 30 x4.toNat))] [iV z22, iV z18, iV (τ6.1 25 (σ.1 30 x4.toNat).toNat), iV (σ.1 30 x4.toNat), .ref 25] _ _ _ _
          refine wp_any2 (pc2 := 79) jF_159_78 rfl rfl ?_
          intro z24 h25
          refine wp_any2 (pc2 := 80) jF_159_79 rfl rfl ?_
          intro z26 h27
          refine wp_iast (n := 5) jF_159_80 kd25 (by decide) rfl rfl (by omega) (by omega) rfl (pc2 := 81) g7 (lo := (-2147483648)) (hi := 2147483647) rfl (by omega) (by omega) ?_
          intro τ28 g29 f30 e31
          refine wp_inc (lv2 := [(0, .ref 20), (1, .long la), (3, .long lb), (5, iV (x4 + 1)), (6, iV (σ.1 30 x4.toNat))]) jF_159_81 rfl rfl rfl rfl (pc2 := 84) ?_
          refine wp_go jF_159_84 ?_
          refine wp_less [0, 1, 3, 5] (lv2 := [(0, .ref 20), (1, .long la), (3, .long lb), (5, iV (x4 + 1))]) rfl rfl ?_
          exact ih9 ((x4 + 1)) τ28 ⟨⟨by omega, by omega⟩, g29, (FR.w f8 f30 rfl)⟩ (by show Int.toNat (16 - (x4 + 1)) < Int.toNat (16 - x4); omega)
set_option maxHeartbeats 4000000 in
set_option maxRecDepth 20000 in
/-- Tongue.votesOn -/
theorem m_158_r20 (σ : jM) (hg : GI σ) (la : Int64) (lb : Int64) (yes : Int) (hl_yes : 0 ≤ yes) (hu_yes : yes ≤ 1)  (fr lo : Nat) (hfr : 3 ≤ fr) (hlo : 72 ≤ lo) : WP 158 0 (lv_args 0 [.ref 20, .long la, .long lb, iV yes]) [] fr lo σ (fun v τ => ∃ z : Int, v = some (iV z) ∧ ((-2147483648) ≤ z ∧ z ≤ 2147483647) ∧ GI τ ∧ FR Wc25 σ τ) := by
  show WP 158 0 [(0, .ref 20), (1, .long la), (3, .long lb), (5, iV yes)] [] _ _ _ _
  refine wp_al1 jF_158_0 rfl rfl (pc2 := 1) ?_
  refine wp_ll1 jF_158_1 rfl rfl (pc2 := 2) ?_
  refine wp_ll1 jF_158_2 rfl rfl (pc2 := 3) ?_
  refine wp_cV (as := [.long la, .long lb]) (rest := []) (a := 20) (mx := 7) (ci := 8) jF_158_3 kd20 (by decide) rfl rfl rfl rfl rfl (by omega) (by omega) rfl (pc2 := 6) ?_
  refine wp_use (m_159_r20 σ hg la lb  _ _ (by omega) (by omega)) ?_
  rintro _ τ1 ⟨rfl, g2, f3⟩
  show WP 158 6 [(0, .ref 20), (1, .long la), (3, .long lb), (5, iV yes)] [] _ _ _ _
  refine wp_ic jF_158_6 rfl (pc2 := 7) ?_
  refine wp_is2 (lv2 := [(0, .ref 20), (1, .long la), (3, .long lb), (5, iV yes), (6, iV 0)]) jF_158_7 rfl rfl rfl (pc2 := 9) ?_
  refine wp_ic jF_158_9 rfl (pc2 := 10) ?_
  refine wp_is2 (lv2 := [(0, .ref 20), (1, .long la), (3, .long lb), (5, iV yes), (6, iV 0), (7, iV 0)]) jF_158_10 rfl rfl rfl (pc2 := 12) ?_
  refine wp_loop (α := Int × Int) (fun a => [(0, .ref 20), (1, .long la), (3, .long lb), (5, iV yes), (6, iV (a.1)), (7, iV (a.2))]) (fun a τ => ((-2147483648) ≤ a.1 ∧ a.1 ≤ 2147483647) ∧ (0 ≤ a.2 ∧ a.2 ≤ 5) ∧ τ1 = τ) (fun a τ => Int.toNat (5 - (a.2))) (0, 0) τ1 ?_ ?_
  · skip
    exact ⟨⟨by (try dsimp only); omega, by (try dsimp only); omega⟩, ⟨by (try dsimp only); omega, by (try dsimp only); omega⟩, rfl⟩
  · rintro ⟨x4, x5⟩ _ ⟨h6, h7, rfl⟩ ih11
    try dsimp only at h6 h7
    show WP 158 12 [(0, .ref 20), (1, .long la), (3, .long lb), (5, iV yes), (6, iV x4), (7, iV x5)] [] _ _ _ _
    show WP 158 12 [(0, .ref 20), (1, .long la), (3, .long lb), (5, iV yes), (6, iV x4), (7, iV x5)] [] _ _ _ _
    refine wp_il2 jF_158_12 rfl rfl (pc2 := 14) ?_
    refine wp_al1 jF_158_14 rfl rfl (pc2 := 15) ?_
    have b12 := GI.b hg 20 11 kd20 (lo := 0) (hi := 5) rfl
    refine wp_gi jF_158_15 kd20 (by decide) rfl (FR.at f3 20 11 rfl) rfl (pc2 := 18) ?_
    refine wp_i_ge jF_158_18 (m_rgb h7 rfl) (m_rgb b12 rfl) rfl (pc2 := 21) ?_ ?_
    · intro h13
      refine wp_il2 jF_158_67 rfl rfl (pc2 := 69) ?_
      refine wp_ri jF_158_69 rfl ?_
      exact ⟨x4, rfl, ⟨by omega, by omega⟩, g2, f3⟩
    · intro h13
      refine wp_il2 jF_158_21 rfl rfl (pc2 := 23) ?_
      refine wp_z_eq jF_158_23 ⟨by omega, by omega⟩ rfl (pc2 := 26) ?_ ?_
      · intro h14
        refine wp_al1 jF_158_39 rfl rfl (pc2 := 40) ?_
        refine wp_gr (b := 25) jF_158_40 kd20 (by decide) (c := 8) rfl rfl rfl (pc2 := 43) ?_
        refine wp_il2 jF_158_43 rfl rfl (pc2 := 45) ?_
        have b15 := GI.b g2 25 x5.toNat kd25 (lo := (-2147483648)) (hi := 2147483647) rfl
        refine wp_iald (n := 5) (e := (τ1.1 25 x5.toNat)) jF_158_45 kd25 (by decide) rfl rfl (by omega) (by omega) rfl rfl (pc2 := 46) ?_
        refine wp_z_ge jF_158_46 (m_rgb b15 rfl) rfl (pc2 := 49) ?_ ?_
        · intro h16
          refine wp_inc (lv2 := [(0, .ref 20), (1, .long la), (3, .long lb), (5, iV yes), (6, iV x4), (7, iV (x5 + 1))]) jF_158_61 rfl rfl rfl rfl (pc2 := 64) ?_
          refine wp_go jF_158_64 ?_
          exact ih11 (x4, (x5 + 1)) τ1 ⟨⟨by (try dsimp only); omega, by (try dsimp only); omega⟩, ⟨by (try dsimp only); omega, by (try dsimp only); omega⟩, rfl⟩ (by show Int.toNat (5 - (x5 + 1)) < Int.toNat (5 - x5); omega)
        · intro h16
          refine wp_il2 jF_158_49 rfl rfl (pc2 := 51) ?_
          refine wp_al1 jF_158_51 rfl rfl (pc2 := 52) ?_
          refine wp_gr (b := 24) jF_158_52 kd20 (by decide) (c := 7) rfl rfl rfl (pc2 := 55) ?_
          refine wp_il2 jF_158_55 rfl rfl (pc2 := 57) ?_
          have b17 := GI.b hg 24 x5.toNat kd24 (lo := (-2147483648)) (hi := 2147483647) rfl
          refine wp_iald (n := 5) (e := (σ.1 24 x5.toNat)) jF_158_57 kd24 (by decide) rfl rfl (by omega) (by omega) (FR.at f3 24 x5.toNat rfl) rfl (pc2 := 58) ?_
          refine wp_any2 (pc2 := 59) jF_158_58 rfl rfl ?_
          intro z18 h19
          refine wp_is2 (lv2 := [(0, .ref 20), (1, .long la), (3, .long lb), (5, iV yes), (6, iV z18), (7, iV x5)]) jF_158_59 rfl rfl rfl (pc2 := 61) ?_
          refine wp_inc (lv2 := [(0, .ref 20), (1, .long la), (3, .long lb), (5, iV yes), (6, iV z18), (7, iV (x5 + 1))]) jF_158_61 rfl rfl rfl rfl (pc2 := 64) ?_
          refine wp_go jF_158_64 ?_
          exact ih11 (z18, (x5 + 1)) τ1 ⟨⟨by (try dsimp only); omega, by (try dsimp only); omega⟩, ⟨by (try dsimp only); omega, by (try dsimp only); omega⟩, rfl⟩ (by show Int.toNat (5 - (x5 + 1)) < Int.toNat (5 - x5); omega)
      · intro h14
        refine wp_al1 jF_158_26 rfl rfl (pc2 := 27) ?_
        refine wp_gr (b := 25) jF_158_27 kd20 (by decide) (c := 8) rfl rfl rfl (pc2 := 30) ?_
        refine wp_il2 jF_158_30 rfl rfl (pc2 := 32) ?_
        have b20 := GI.b g2 25 x5.toNat kd25 (lo := (-2147483648)) (hi := 2147483647) rfl
        refine wp_iald (n := 5) (e := (τ1.1 25 x5.toNat)) jF_158_32 kd25 (by decide) rfl rfl (by omega) (by omega) rfl rfl (pc2 := 33) ?_
        refine wp_z_le jF_158_33 (m_rgb b20 rfl) rfl (pc2 := 36) ?_ ?_
        · intro h21
          refine wp_inc (lv2 := [(0, .ref 20), (1, .long la), (3, .long lb), (5, iV yes), (6, iV x4), (7, iV (x5 + 1))]) jF_158_61 rfl rfl rfl rfl (pc2 := 64) ?_
          refine wp_go jF_158_64 ?_
          exact ih11 (x4, (x5 + 1)) τ1 ⟨⟨by (try dsimp only); omega, by (try dsimp only); omega⟩, ⟨by (try dsimp only); omega, by (try dsimp only); omega⟩, rfl⟩ (by show Int.toNat (5 - (x5 + 1)) < Int.toNat (5 - x5); omega)
        · intro h21
          refine wp_go jF_158_36 ?_
          refine wp_il2 jF_158_49 rfl rfl (pc2 := 51) ?_
          refine wp_al1 jF_158_51 rfl rfl (pc2 := 52) ?_
          refine wp_gr (b := 24) jF_158_52 kd20 (by decide) (c := 7) rfl rfl rfl (pc2 := 55) ?_
          refine wp_il2 jF_158_55 rfl rfl (pc2 := 57) ?_
          have b22 := GI.b hg 24 x5.toNat kd24 (lo := (-2147483648)) (hi := 2147483647) rfl
          refine wp_iald (n := 5) (e := (σ.1 24 x5.toNat)) jF_158_57 kd24 (by decide) rfl rfl (by omega) (by omega) (FR.at f3 24 x5.toNat rfl) rfl (pc2 := 58) ?_
          refine wp_any2 (pc2 := 59) jF_158_58 rfl rfl ?_
          intro z23 h24
          refine wp_is2 (lv2 := [(0, .ref 20), (1, .long la), (3, .long lb), (5, iV yes), (6, iV z23), (7, iV x5)]) jF_158_59 rfl rfl rfl (pc2 := 61) ?_
          refine wp_inc (lv2 := [(0, .ref 20), (1, .long la), (3, .long lb), (5, iV yes), (6, iV z23), (7, iV (x5 + 1))]) jF_158_61 rfl rfl rfl rfl (pc2 := 64) ?_
          refine wp_go jF_158_64 ?_
          exact ih11 (z23, (x5 + 1)) τ1 ⟨⟨by (try dsimp only); omega, by (try dsimp only); omega⟩, ⟨by (try dsimp only); omega, by (try dsimp only); omega⟩, rfl⟩ (by show Int.toNat (5 - (x5 + 1)) < Int.toNat (5 - x5); omega)
set_option maxHeartbeats 4000000 in
set_option maxRecDepth 20000 in
/-- Tongue.isVoted -/
theorem m_162_r20 (σ : jM) (hg : GI σ) (la : Int64) (lb : Int64)  (fr lo : Nat) (hfr : 3 ≤ fr) (hlo : 72 ≤ lo) : WP 162 0 (lv_args 0 [.ref 20, .long la, .long lb]) [] fr lo σ (fun v τ => ∃ z : Int, v = some (iV z) ∧ (0 ≤ z ∧ z ≤ 1) ∧ GI τ ∧ FR Wc25 σ τ) := by
  show WP 162 0 [(0, .ref 20), (1, .long la), (3, .long lb)] [] _ _ _ _
  refine wp_ll1 jF_162_0 rfl rfl (pc2 := 1) ?_
  refine wp_ll1 jF_162_1 rfl rfl (pc2 := 2) ?_
  refine wp_anyL (pc2 := 3) jF_162_2 rfl rfl ?_
  intro z1 h2
  refine wp_z_ne jF_162_3 (m_rgb h2 rfl) rfl (pc2 := 6) ?_ ?_
  · intro h3
    refine wp_al1 jF_162_8 rfl rfl (pc2 := 9) ?_
    refine wp_ll1 jF_162_9 rfl rfl (pc2 := 10) ?_
    refine wp_ll1 jF_162_10 rfl rfl (pc2 := 11) ?_
    refine wp_cV (as := [.long la, .long lb]) (rest := []) (a := 20) (mx := 7) (ci := 8) jF_162_11 kd20 (by decide) rfl rfl rfl rfl rfl (by omega) (by omega) rfl (pc2 := 14) ?_
    refine wp_use (m_159_r20 σ hg la lb  _ _ (by omega) (by omega)) ?_
    rintro _ τ4 ⟨rfl, g5, f6⟩
    show WP 162 14 [(0, .ref 20), (1, .long la), (3, .long lb)] [] _ _ _ _
    refine wp_ic jF_162_14 rfl (pc2 := 15) ?_
    refine wp_is2 (lv2 := [(0, .ref 20), (1, .long la), (3, .long lb), (5, iV 0)]) jF_162_15 rfl rfl rfl (pc2 := 17) ?_
    refine wp_ic jF_162_17 rfl (pc2 := 18) ?_
    refine wp_is2 (lv2 := [(0, .ref 20), (1, .long la), (3, .long lb), (5, iV 0), (6, iV 0)]) jF_162_18 rfl rfl rfl (pc2 := 20) ?_
    refine wp_loop (α := Int × Int) (fun a => [(0, .ref 20), (1, .long la), (3, .long lb), (5, iV (a.1)), (6, iV (a.2))]) (fun a τ => ((-2147483648) ≤ a.1 ∧ a.1 ≤ 2147483647) ∧ (0 ≤ a.2 ∧ a.2 ≤ 5) ∧ τ4 = τ) (fun a τ => Int.toNat (5 - (a.2))) (0, 0) τ4 ?_ ?_
    · skip
      exact ⟨⟨by (try dsimp only); omega, by (try dsimp only); omega⟩, ⟨by (try dsimp only); omega, by (try dsimp only); omega⟩, rfl⟩
    · rintro ⟨x7, x8⟩ _ ⟨h9, h10, rfl⟩ ih14
      try dsimp only at h9 h10
      show WP 162 20 [(0, .ref 20), (1, .long la), (3, .long lb), (5, iV x7), (6, iV x8)] [] _ _ _ _
      show WP 162 20 [(0, .ref 20), (1, .long la), (3, .long lb), (5, iV x7), (6, iV x8)] [] _ _ _ _
      refine wp_il2 jF_162_20 rfl rfl (pc2 := 22) ?_
      refine wp_al1 jF_162_22 rfl rfl (pc2 := 23) ?_
      have b15 := GI.b hg 20 11 kd20 (lo := 0) (hi := 5) rfl
      refine wp_gi jF_162_23 kd20 (by decide) rfl (FR.at f6 20 11 rfl) rfl (pc2 := 26) ?_
      refine wp_i_ge jF_162_26 (m_rgb h10 rfl) (m_rgb b15 rfl) rfl (pc2 := 29) ?_ ?_
      · intro h16
        refine wp_il2 jF_162_78 rfl rfl (pc2 := 80) ?_
        refine wp_z_le jF_162_80 (m_rgb h9 rfl) rfl (pc2 := 83) ?_ ?_
        · intro h17
          refine wp_ic jF_162_87 rfl (pc2 := 88) ?_
          refine wp_ri jF_162_88 rfl ?_
          exact ⟨0, rfl, ⟨by omega, by omega⟩, g5, f6⟩
        · intro h17
          refine wp_ic jF_162_83 rfl (pc2 := 84) ?_
          refine wp_go jF_162_84 ?_
          refine wp_ri jF_162_88 rfl ?_
          exact ⟨1, rfl, ⟨by omega, by omega⟩, g5, f6⟩
      · intro h16
        refine wp_al1 jF_162_29 rfl rfl (pc2 := 30) ?_
        refine wp_gr (b := 25) jF_162_30 kd20 (by decide) (c := 8) rfl rfl rfl (pc2 := 33) ?_
        refine wp_il2 jF_162_33 rfl rfl (pc2 := 35) ?_
        have b18 := GI.b g5 25 x8.toNat kd25 (lo := (-2147483648)) (hi := 2147483647) rfl
        refine wp_iald (n := 5) (e := (τ4.1 25 x8.toNat)) jF_162_35 kd25 (by decide) rfl rfl (by omega) (by omega) rfl rfl (pc2 := 36) ?_
        refine wp_z_eq jF_162_36 (m_rgb b18 rfl) rfl (pc2 := 39) ?_ ?_
        · intro h19
          refine wp_inc (lv2 := [(0, .ref 20), (1, .long la), (3, .long lb), (5, iV x7), (6, iV (x8 + 1))]) jF_162_72 rfl rfl rfl rfl (pc2 := 75) ?_
          refine wp_go jF_162_75 ?_
          exact ih14 (x7, (x8 + 1)) τ4 ⟨⟨by (try dsimp only); omega, by (try dsimp only); omega⟩, ⟨by (try dsimp only); omega, by (try dsimp only); omega⟩, rfl⟩ (by show Int.toNat (5 - (x8 + 1)) < Int.toNat (5 - x8); omega)
        · intro h19
          refine wp_il2 jF_162_39 rfl rfl (pc2 := 41) ?_
          refine wp_al1 jF_162_41 rfl rfl (pc2 := 42) ?_
          refine wp_gr (b := 25) jF_162_42 kd20 (by decide) (c := 8) rfl rfl rfl (pc2 := 45) ?_
          refine wp_il2 jF_162_45 rfl rfl (pc2 := 47) ?_
          refine wp_iald (n := 5) (e := (τ4.1 25 x8.toNat)) jF_162_47 kd25 (by decide) rfl rfl (by omega) (by omega) rfl rfl (pc2 := 48) ?_
          refine wp_z_le jF_162_48 (m_rgb b18 rfl) rfl (pc2 := 51) ?_ ?_
          · intro h20
            refine wp_al1 jF_162_61 rfl rfl (pc2 := 62) ?_
            refine wp_gr (b := 24) jF_162_62 kd20 (by decide) (c := 7) rfl rfl rfl (pc2 := 65) ?_
            refine wp_il2 jF_162_65 rfl rfl (pc2 := 67) ?_
            have b21 := GI.b hg 24 x8.toNat kd24 (lo := (-2147483648)) (hi := 2147483647) rfl
            refine wp_iald (n := 5) (e := (σ.1 24 x8.toNat)) jF_162_67 kd24 (by decide) rfl rfl (by omega) (by omega) (FR.at f6 24 x8.toNat rfl) rfl (pc2 := 68) ?_
            refine wp_any1 (pc2 := 69) jF_162_68 rfl rfl ?_
            intro z22 h23
            refine wp_any2 (pc2 := 70) jF_162_69 rfl rfl ?_
            intro z24 h25
            refine wp_is2 (lv2 := [(0, .ref 20), (1, .long la), (3, .long lb), (5, iV z24), (6, iV x8)]) jF_162_70 rfl rfl rfl (pc2 := 72) ?_
            refine wp_inc (lv2 := [(0, .ref 20), (1, .long la), (3, .long lb), (5, iV z24), (6, iV (x8 + 1))]) jF_162_72 rfl rfl rfl rfl (pc2 := 75) ?_
            refine wp_go jF_162_75 ?_
            exact ih14 (z24, (x8 + 1)) τ4 ⟨⟨by (try dsimp only); omega, by (try dsimp only); omega⟩, ⟨by (try dsimp only); omega, by (try dsimp only); omega⟩, rfl⟩ (by show Int.toNat (5 - (x8 + 1)) < Int.toNat (5 - x8); omega)
          · intro h20
            refine wp_al1 jF_162_51 rfl rfl (pc2 := 52) ?_
            refine wp_gr (b := 24) jF_162_52 kd20 (by decide) (c := 7) rfl rfl rfl (pc2 := 55) ?_
            refine wp_il2 jF_162_55 rfl rfl (pc2 := 57) ?_
            have b26 := GI.b hg 24 x8.toNat kd24 (lo := (-2147483648)) (hi := 2147483647) rfl
            refine wp_iald (n := 5) (e := (σ.1 24 x8.toNat)) jF_162_57 kd24 (by decide) rfl rfl (by omega) (by omega) (FR.at f6 24 x8.toNat rfl) rfl (pc2 := 58) ?_
            refine wp_go jF_162_58 ?_
            refine wp_any2 (pc2 := 70) jF_162_69 rfl rfl ?_
            intro z27 h28
            refine wp_is2 (lv2 := [(0, .ref 20), (1, .long la), (3, .long lb), (5, iV z27), (6, iV x8)]) jF_162_70 rfl rfl rfl (pc2 := 72) ?_
            refine wp_inc (lv2 := [(0, .ref 20), (1, .long la), (3, .long lb), (5, iV z27), (6, iV (x8 + 1))]) jF_162_72 rfl rfl rfl rfl (pc2 := 75) ?_
            refine wp_go jF_162_75 ?_
            exact ih14 (z27, (x8 + 1)) τ4 ⟨⟨by (try dsimp only); omega, by (try dsimp only); omega⟩, ⟨by (try dsimp only); omega, by (try dsimp only); omega⟩, rfl⟩ (by show Int.toNat (5 - (x8 + 1)) < Int.toNat (5 - x8); omega)
  · intro h3
    refine wp_ic jF_162_6 rfl (pc2 := 7) ?_
    refine wp_ri jF_162_7 rfl ?_
    exact ⟨0, rfl, ⟨by omega, by omega⟩, hg, FR.rf⟩
set_option maxHeartbeats 4000000 in
set_option maxRecDepth 20000 in
/-- Tongue.clear -/
theorem m_30_r45 (σ : jM) (hg : GI σ)   (fr lo : Nat) (hfr : 1 ≤ fr) (hlo : 24 ≤ lo) : WP 30 0 (lv_args 0 [.ref 45]) [] fr lo σ (fun v τ => v = none ∧ GI τ ∧ FR WG45 σ τ ∧ ((τ.1 58 5) = 0) ∧ ((τ.1 64 5) = 0)) := by
  show WP 30 0 [(0, .ref 45)] [] _ _ _ _
  refine wp_al1 jF_30_0 rfl rfl (pc2 := 1) ?_
  refine wp_gr (b := 46) jF_30_1 kd45 (by decide) (c := 4) rfl rfl rfl (pc2 := 4) ?_
  refine wp_ic jF_30_4 rfl (pc2 := 5) ?_
  refine wp_cS (as := [.ref 46, iV 0]) (rest := []) (mx := 4) jF_30_5 rfl rfl rfl rfl (by omega) (by omega) rfl (pc2 := 8) ?_
  refine wp_use (m_31_r46 σ hg   _ _ (by omega) (by omega)) ?_
  rintro _ τ1 ⟨rfl, g2, f3⟩
  show WP 30 8 [(0, .ref 45)] [] _ _ _ _
  refine wp_al1 jF_30_8 rfl rfl (pc2 := 9) ?_
  refine wp_gr (b := 47) jF_30_9 kd45 (by decide) (c := 5) rfl rfl rfl (pc2 := 12) ?_
  refine wp_ic jF_30_12 rfl (pc2 := 13) ?_
  refine wp_cS (as := [.ref 47, iV 0]) (rest := []) (mx := 4) jF_30_13 rfl rfl rfl rfl (by omega) (by omega) rfl (pc2 := 16) ?_
  refine wp_use (m_31_r47 τ1 g2   _ _ (by omega) (by omega)) ?_
  rintro _ τ4 ⟨rfl, g5, f6⟩
  show WP 30 16 [(0, .ref 45)] [] _ _ _ _
  refine wp_al1 jF_30_16 rfl rfl (pc2 := 17) ?_
  refine wp_gr (b := 51) jF_30_17 kd45 (by decide) (c := 9) rfl rfl rfl (pc2 := 20) ?_
  refine wp_lc jF_30_20 rfl (pc2 := 21) ?_
  refine wp_cS (as := [.ref 51, .long (Int64.ofNat 0)]) (rest := []) (mx := 5) jF_30_21 rfl rfl rfl rfl (by omega) (by omega) rfl (pc2 := 24) ?_
  refine wp_use (m_32_r51 τ4 g5 (Int64.ofNat 0)  _ _ (by omega) (by omega)) ?_
  rintro _ τ7 ⟨rfl, g8, f9⟩
  show WP 30 24 [(0, .ref 45)] [] _ _ _ _
  refine wp_al1 jF_30_24 rfl rfl (pc2 := 25) ?_
  refine wp_gr (b := 52) jF_30_25 kd45 (by decide) (c := 10) rfl rfl rfl (pc2 := 28) ?_
  refine wp_cV (as := []) (rest := []) (a := 52) (mx := 1) (ci := 7) jF_30_28 kd52 (by decide) rfl rfl rfl rfl rfl (by omega) (by omega) rfl (pc2 := 31) ?_
  refine wp_use (m_33_r52 τ7 g8   _ _ (by omega) (by omega)) ?_
  rintro _ τ11 ⟨rfl, g12, f13, p10⟩
  show WP 30 31 [(0, .ref 45)] [] _ _ _ _
  refine wp_al1 jF_30_31 rfl rfl (pc2 := 32) ?_
  refine wp_gr (b := 58) jF_30_32 kd45 (by decide) (c := 16) rfl rfl rfl (pc2 := 35) ?_
  refine wp_cV (as := []) (rest := []) (a := 58) (mx := 1) (ci := 7) jF_30_35 kd58 (by decide) rfl rfl rfl rfl rfl (by omega) (by omega) rfl (pc2 := 38) ?_
  refine wp_use (m_33_r58 τ11 g12   _ _ (by omega) (by omega)) ?_
  rintro _ τ15 ⟨rfl, g16, f17, p14⟩
  show WP 30 38 [(0, .ref 45)] [] _ _ _ _
  refine wp_al1 jF_30_38 rfl rfl (pc2 := 39) ?_
  refine wp_gr (b := 64) jF_30_39 kd45 (by decide) (c := 22) rfl rfl rfl (pc2 := 42) ?_
  refine wp_cV (as := []) (rest := []) (a := 64) (mx := 1) (ci := 7) jF_30_42 kd64 (by decide) rfl rfl rfl rfl rfl (by omega) (by omega) rfl (pc2 := 45) ?_
  refine wp_use (m_33_r64 τ15 g16   _ _ (by omega) (by omega)) ?_
  rintro _ τ19 ⟨rfl, g20, f21, p18⟩
  show WP 30 45 [(0, .ref 45)] [] _ _ _ _
  refine wp_al1 jF_30_45 rfl rfl (pc2 := 46) ?_
  refine wp_ic jF_30_46 rfl (pc2 := 47) ?_
  refine wp_pi jF_30_47 kd45 (by decide) rfl rfl rfl (pc2 := 50) g20 (lo := 0) (hi := 6) rfl (by omega) (by omega) ?_
  intro τ22 g23 f24 e25
  refine wp_al1 jF_30_50 rfl rfl (pc2 := 51) ?_
  refine wp_bi jF_30_51 (by decide) rfl (pc2 := 53) ?_
  refine wp_pi jF_30_53 kd45 (by decide) rfl rfl rfl (pc2 := 56) g23 (lo := (-2147483648)) (hi := 2147483647) rfl (by omega) (by omega) ?_
  intro τ26 g27 f28 e29
  refine wp_al1 jF_30_56 rfl rfl (pc2 := 57) ?_
  refine wp_ic jF_30_57 rfl (pc2 := 58) ?_
  refine wp_pi jF_30_58 kd45 (by decide) rfl rfl rfl (pc2 := 61) g27 (lo := 0) (hi := 5) rfl (by omega) (by omega) ?_
  intro τ30 g31 f32 e33
  refine wp_al1 jF_30_61 rfl rfl (pc2 := 62) ?_
  refine wp_ic jF_30_62 rfl (pc2 := 63) ?_
  refine wp_pi jF_30_63 kd45 (by decide) rfl rfl rfl (pc2 := 66) g31 (lo := (-2147483648)) (hi := 2147483647) rfl (by omega) (by omega) ?_
  intro τ34 g35 f36 e37
  refine wp_al1 jF_30_66 rfl rfl (pc2 := 67) ?_
  refine wp_lc jF_30_67 rfl (pc2 := 68) ?_
  refine wp_pl jF_30_68 kd45 (by decide) rfl rfl (pc2 := 71) g35 ?_
  intro τ38 g39 f40
  refine wp_rv jF_30_71 ?_
  have b41 := GI.b g16 58 5 kd58 (lo := 0) (hi := 16) rfl
  have q42 : (τ38.1 58 5) = (τ15.1 58 5) := ((FRw.na f40 (by decide)).trans ((FRw.na f36 (by decide)).trans ((FRw.na f32 (by decide)).trans ((FRw.na f28 (by decide)).trans ((FRw.na f24 (by decide)).trans (FR.at f21 58 5 rfl))))))
  have b43 := GI.b g20 64 5 kd64 (lo := 0) (hi := 16) rfl
  have q44 : (τ38.1 64 5) = (τ19.1 64 5) := ((FRw.na f40 (by decide)).trans ((FRw.na f36 (by decide)).trans ((FRw.na f32 (by decide)).trans ((FRw.na f28 (by decide)).trans (FRw.na f24 (by decide))))))
  exact ⟨rfl, g39, (FR.w (FR.w (FR.w (FR.w (FR.w (FR.up (FR.up (FR.up (FR.up (FR.up (FR.up FR.rf f3 sb_Wc46_WG45) f6 sb_Wc47_WG45) f9 sb_Wc51_WG45) f13 sb_WT52_WG45) f17 sb_WT58_WG45) f21 sb_WT64_WG45) f24 rfl) f28 rfl) f32 rfl) f36 rfl) f40 rfl), (by omega), (by omega)⟩
set_option maxHeartbeats 4000000 in
set_option maxRecDepth 20000 in
/-- Tongue.number -/
theorem m_91_r45 (σ : jM) (hg : GI σ) (what : Int) (hl_what : (-2147483648) ≤ what) (hu_what : what ≤ 2147483647)  (fr lo : Nat) (hfr : 0 ≤ fr) (hlo : 0 ≤ lo) : WP 91 0 (lv_args 0 [.ref 45, iV what]) [] fr lo σ (fun v τ => ∃ z : Int, v = some (iV z) ∧ ((-2147483648) ≤ z ∧ z ≤ 2147483647) ∧ σ = τ) := by
  show WP 91 0 [(0, .ref 45), (1, iV what)] [] _ _ _ _
  refine wp_il1 jF_91_0 rfl rfl (pc2 := 1) ?_
  rcases m_tsw what 0 9 with h1 | h1
  · refine wp_tswd (tgt := 107) jF_91_1 ⟨by omega, by omega⟩ h1 (by decide) ?_
    refine wp_ic jF_91_107 rfl (pc2 := 108) ?_
    refine wp_ri jF_91_108 rfl ?_
    exact ⟨(-1), rfl, ⟨by omega, by omega⟩, rfl⟩
  · have h1c : what = 0 ∨ what = 1 ∨ what = 2 ∨ what = 3 ∨ what = 4 ∨ what = 5 ∨ what = 6 ∨ what = 7 ∨ what = 8 ∨ what = 9 := by omega
    rcases h1c with hh | hh | hh | hh | hh | hh | hh | hh | hh | hh
    · refine wp_tswx (x := 0) (tgt := 56) jF_91_1 hh (by decide) ?_
      subst hh
      refine wp_al1 jF_91_56 rfl rfl (pc2 := 57) ?_
      refine wp_gr (b := 47) jF_91_57 kd45 (by decide) (c := 5) rfl rfl rfl (pc2 := 60) ?_
      refine wp_il1 jF_91_60 rfl rfl (pc2 := 61) ?_
      have b2 := GI.b hg 47 0 kd47 (lo := 0) (hi := 4) rfl
      refine wp_iald (n := 3) (e := (σ.1 47 0)) jF_91_61 kd47 (by decide) rfl rfl (by omega) (by omega) rfl rfl (pc2 := 62) ?_
      refine wp_ri jF_91_62 rfl ?_
      exact ⟨(σ.1 47 0), rfl, ⟨by omega, by omega⟩, rfl⟩
    · refine wp_tswx (x := 1) (tgt := 56) jF_91_1 hh (by decide) ?_
      subst hh
      refine wp_al1 jF_91_56 rfl rfl (pc2 := 57) ?_
      refine wp_gr (b := 47) jF_91_57 kd45 (by decide) (c := 5) rfl rfl rfl (pc2 := 60) ?_
      refine wp_il1 jF_91_60 rfl rfl (pc2 := 61) ?_
      have b3 := GI.b hg 47 1 kd47 (lo := 0) (hi := 4) rfl
      refine wp_iald (n := 3) (e := (σ.1 47 1)) jF_91_61 kd47 (by decide) rfl rfl (by omega) (by omega) rfl rfl (pc2 := 62) ?_
      refine wp_ri jF_91_62 rfl ?_
      exact ⟨(σ.1 47 1), rfl, ⟨by omega, by omega⟩, rfl⟩
    · refine wp_tswx (x := 2) (tgt := 56) jF_91_1 hh (by decide) ?_
      subst hh
      refine wp_al1 jF_91_56 rfl rfl (pc2 := 57) ?_
      refine wp_gr (b := 47) jF_91_57 kd45 (by decide) (c := 5) rfl rfl rfl (pc2 := 60) ?_
      refine wp_il1 jF_91_60 rfl rfl (pc2 := 61) ?_
      have b4 := GI.b hg 47 2 kd47 (lo := 0) (hi := 4) rfl
      refine wp_iald (n := 3) (e := (σ.1 47 2)) jF_91_61 kd47 (by decide) rfl rfl (by omega) (by omega) rfl rfl (pc2 := 62) ?_
      refine wp_ri jF_91_62 rfl ?_
      exact ⟨(σ.1 47 2), rfl, ⟨by omega, by omega⟩, rfl⟩
    · refine wp_tswx (x := 3) (tgt := 63) jF_91_1 hh (by decide) ?_
      subst hh
      refine wp_al1 jF_91_63 rfl rfl (pc2 := 64) ?_
      have b5 := GI.b hg 45 9 kd45 (lo := 0) (hi := 6) rfl
      refine wp_gi jF_91_64 kd45 (by decide) rfl rfl rfl (pc2 := 67) ?_
      refine wp_ri jF_91_67 rfl ?_
      exact ⟨(σ.1 45 9), rfl, ⟨by omega, by omega⟩, rfl⟩
    · refine wp_tswx (x := 4) (tgt := 68) jF_91_1 hh (by decide) ?_
      subst hh
      refine wp_al1 jF_91_68 rfl rfl (pc2 := 69) ?_
      have b6 := GI.b hg 45 10 kd45 (lo := (-2147483648)) (hi := 2147483647) rfl
      refine wp_gi jF_91_69 kd45 (by decide) rfl rfl rfl (pc2 := 72) ?_
      refine wp_ri jF_91_72 rfl ?_
      exact ⟨(σ.1 45 10), rfl, ⟨by omega, by omega⟩, rfl⟩
    · refine wp_tswx (x := 5) (tgt := 73) jF_91_1 hh (by decide) ?_
      subst hh
      refine wp_al1 jF_91_73 rfl rfl (pc2 := 74) ?_
      have b7 := GI.b hg 45 11 kd45 (lo := 0) (hi := 5) rfl
      refine wp_gi jF_91_74 kd45 (by decide) rfl rfl rfl (pc2 := 77) ?_
      refine wp_ri jF_91_77 rfl ?_
      exact ⟨(σ.1 45 11), rfl, ⟨by omega, by omega⟩, rfl⟩
    · refine wp_tswx (x := 6) (tgt := 78) jF_91_1 hh (by decide) ?_
      subst hh
      refine wp_al1 jF_91_78 rfl rfl (pc2 := 79) ?_
      refine wp_gr (b := 52) jF_91_79 kd45 (by decide) (c := 10) rfl rfl rfl (pc2 := 82) ?_
      have b8 := GI.b hg 52 5 kd52 (lo := 0) (hi := 16) rfl
      refine wp_gi jF_91_82 kd52 (by decide) rfl rfl rfl (pc2 := 85) ?_
      refine wp_ri jF_91_85 rfl ?_
      exact ⟨(σ.1 52 5), rfl, ⟨by omega, by omega⟩, rfl⟩
    · refine wp_tswx (x := 7) (tgt := 86) jF_91_1 hh (by decide) ?_
      subst hh
      refine wp_al1 jF_91_86 rfl rfl (pc2 := 87) ?_
      refine wp_gr (b := 58) jF_91_87 kd45 (by decide) (c := 16) rfl rfl rfl (pc2 := 90) ?_
      have b9 := GI.b hg 58 5 kd58 (lo := 0) (hi := 16) rfl
      refine wp_gi jF_91_90 kd58 (by decide) rfl rfl rfl (pc2 := 93) ?_
      refine wp_ri jF_91_93 rfl ?_
      exact ⟨(σ.1 58 5), rfl, ⟨by omega, by omega⟩, rfl⟩
    · refine wp_tswx (x := 8) (tgt := 94) jF_91_1 hh (by decide) ?_
      subst hh
      refine wp_al1 jF_91_94 rfl rfl (pc2 := 95) ?_
      refine wp_gr (b := 64) jF_91_95 kd45 (by decide) (c := 22) rfl rfl rfl (pc2 := 98) ?_
      have b10 := GI.b hg 64 5 kd64 (lo := 0) (hi := 16) rfl
      refine wp_gi jF_91_98 kd64 (by decide) rfl rfl rfl (pc2 := 101) ?_
      refine wp_ri jF_91_101 rfl ?_
      exact ⟨(σ.1 64 5), rfl, ⟨by omega, by omega⟩, rfl⟩
    · refine wp_tswx (x := 9) (tgt := 102) jF_91_1 hh (by decide) ?_
      subst hh
      refine wp_al1 jF_91_102 rfl rfl (pc2 := 103) ?_
      have b11 := GI.b hg 45 12 kd45 (lo := (-2147483648)) (hi := 2147483647) rfl
      refine wp_gi jF_91_103 kd45 (by decide) rfl rfl rfl (pc2 := 106) ?_
      refine wp_ri jF_91_106 rfl ?_
      exact ⟨(σ.1 45 12), rfl, ⟨by omega, by omega⟩, rfl⟩
set_option maxHeartbeats 4000000 in
set_option maxRecDepth 20000 in
/-- Tongue.isFull -/
theorem m_43_r45 (σ : jM) (hg : GI σ) (kind : Int) (hl_kind : 0 ≤ kind) (hu_kind : kind ≤ 8)  (fr lo : Nat) (hfr : 1 ≤ fr) (hlo : 20 ≤ lo) : WP 43 0 (lv_args 0 [.ref 45, iV kind]) [] fr lo σ (fun v τ => ∃ z : Int, v = some (iV z) ∧ (0 ≤ z ∧ z ≤ 1) ∧ σ = τ ∧ (z = 0 → kind ≤ 2 → (σ.1 47 (Int.toNat kind)) ≤ 3)) := by
  show WP 43 0 [(0, .ref 45), (1, iV kind)] [] _ _ _ _
  refine wp_il1 jF_43_0 rfl rfl (pc2 := 1) ?_
  rcases m_tsw kind 0 8 with h1 | h1
  · refine wp_tswd (tgt := 121) jF_43_1 ⟨by omega, by omega⟩ h1 (by decide) ?_
    refine wp_ic jF_43_121 rfl (pc2 := 122) ?_
    refine wp_ri jF_43_122 rfl ?_
    exact ⟨0, rfl, ⟨by omega, by omega⟩, rfl, (by omega)⟩
  · have h1c : kind = 0 ∨ kind = 1 ∨ kind = 2 ∨ kind = 3 ∨ kind = 4 ∨ kind = 5 ∨ kind = 6 ∨ kind = 7 ∨ kind = 8 := by omega
    rcases h1c with hh | hh | hh | hh | hh | hh | hh | hh | hh
    · refine wp_tswx (x := 0) (tgt := 52) jF_43_1 hh (by decide) ?_
      subst hh
      refine wp_al1 jF_43_52 rfl rfl (pc2 := 53) ?_
      refine wp_gr (b := 47) jF_43_53 kd45 (by decide) (c := 5) rfl rfl rfl (pc2 := 56) ?_
      refine wp_il1 jF_43_56 rfl rfl (pc2 := 57) ?_
      have b2 := GI.b hg 47 0 kd47 (lo := 0) (hi := 4) rfl
      refine wp_iald (n := 3) (e := (σ.1 47 0)) jF_43_57 kd47 (by decide) rfl rfl (by omega) (by omega) rfl rfl (pc2 := 58) ?_
      refine wp_ic jF_43_58 rfl (pc2 := 59) ?_
      refine wp_i_lt jF_43_59 (m_rgb b2 rfl) (m_rgl rfl) rfl (pc2 := 62) ?_ ?_
      · intro h3
        refine wp_ic jF_43_66 rfl (pc2 := 67) ?_
        refine wp_ri jF_43_67 rfl ?_
        exact ⟨0, rfl, ⟨by omega, by omega⟩, rfl, (fun hz _ => by show (σ.1 47 0) ≤ 3; omega)⟩
      · intro h3
        refine wp_ic jF_43_62 rfl (pc2 := 63) ?_
        refine wp_go jF_43_63 ?_
        refine wp_ri jF_43_67 rfl ?_
        exact ⟨1, rfl, ⟨by omega, by omega⟩, rfl, (fun hz _ => by show (σ.1 47 0) ≤ 3; omega)⟩
    · refine wp_tswx (x := 1) (tgt := 52) jF_43_1 hh (by decide) ?_
      subst hh
      refine wp_al1 jF_43_52 rfl rfl (pc2 := 53) ?_
      refine wp_gr (b := 47) jF_43_53 kd45 (by decide) (c := 5) rfl rfl rfl (pc2 := 56) ?_
      refine wp_il1 jF_43_56 rfl rfl (pc2 := 57) ?_
      have b4 := GI.b hg 47 1 kd47 (lo := 0) (hi := 4) rfl
      refine wp_iald (n := 3) (e := (σ.1 47 1)) jF_43_57 kd47 (by decide) rfl rfl (by omega) (by omega) rfl rfl (pc2 := 58) ?_
      refine wp_ic jF_43_58 rfl (pc2 := 59) ?_
      refine wp_i_lt jF_43_59 (m_rgb b4 rfl) (m_rgl rfl) rfl (pc2 := 62) ?_ ?_
      · intro h5
        refine wp_ic jF_43_66 rfl (pc2 := 67) ?_
        refine wp_ri jF_43_67 rfl ?_
        exact ⟨0, rfl, ⟨by omega, by omega⟩, rfl, (fun hz _ => by show (σ.1 47 1) ≤ 3; omega)⟩
      · intro h5
        refine wp_ic jF_43_62 rfl (pc2 := 63) ?_
        refine wp_go jF_43_63 ?_
        refine wp_ri jF_43_67 rfl ?_
        exact ⟨1, rfl, ⟨by omega, by omega⟩, rfl, (fun hz _ => by show (σ.1 47 1) ≤ 3; omega)⟩
    · refine wp_tswx (x := 2) (tgt := 52) jF_43_1 hh (by decide) ?_
      subst hh
      refine wp_al1 jF_43_52 rfl rfl (pc2 := 53) ?_
      refine wp_gr (b := 47) jF_43_53 kd45 (by decide) (c := 5) rfl rfl rfl (pc2 := 56) ?_
      refine wp_il1 jF_43_56 rfl rfl (pc2 := 57) ?_
      have b6 := GI.b hg 47 2 kd47 (lo := 0) (hi := 4) rfl
      refine wp_iald (n := 3) (e := (σ.1 47 2)) jF_43_57 kd47 (by decide) rfl rfl (by omega) (by omega) rfl rfl (pc2 := 58) ?_
      refine wp_ic jF_43_58 rfl (pc2 := 59) ?_
      refine wp_i_lt jF_43_59 (m_rgb b6 rfl) (m_rgl rfl) rfl (pc2 := 62) ?_ ?_
      · intro h7
        refine wp_ic jF_43_66 rfl (pc2 := 67) ?_
        refine wp_ri jF_43_67 rfl ?_
        exact ⟨0, rfl, ⟨by omega, by omega⟩, rfl, (fun hz _ => by show (σ.1 47 2) ≤ 3; omega)⟩
      · intro h7
        refine wp_ic jF_43_62 rfl (pc2 := 63) ?_
        refine wp_go jF_43_63 ?_
        refine wp_ri jF_43_67 rfl ?_
        exact ⟨1, rfl, ⟨by omega, by omega⟩, rfl, (fun hz _ => by show (σ.1 47 2) ≤ 3; omega)⟩
    · refine wp_tswx (x := 3) (tgt := 68) jF_43_1 hh (by decide) ?_
      subst hh
      refine wp_al1 jF_43_68 rfl rfl (pc2 := 69) ?_
      have b8 := GI.b hg 45 9 kd45 (lo := 0) (hi := 6) rfl
      refine wp_gi jF_43_69 kd45 (by decide) rfl rfl rfl (pc2 := 72) ?_
      refine wp_bi jF_43_72 (by decide) rfl (pc2 := 74) ?_
      refine wp_i_lt jF_43_74 (m_rgb b8 rfl) (m_rgl rfl) rfl (pc2 := 77) ?_ ?_
      · intro h9
        refine wp_ic jF_43_81 rfl (pc2 := 82) ?_
        refine wp_ri jF_43_82 rfl ?_
        exact ⟨0, rfl, ⟨by omega, by omega⟩, rfl, (by omega)⟩
      · intro h9
        refine wp_ic jF_43_77 rfl (pc2 := 78) ?_
        refine wp_go jF_43_78 ?_
        refine wp_ri jF_43_82 rfl ?_
        exact ⟨1, rfl, ⟨by omega, by omega⟩, rfl, (by omega)⟩
    · refine wp_tswx (x := 4) (tgt := 121) jF_43_1 hh (by decide) ?_
      subst hh
      refine wp_ic jF_43_121 rfl (pc2 := 122) ?_
      refine wp_ri jF_43_122 rfl ?_
      exact ⟨0, rfl, ⟨by omega, by omega⟩, rfl, (by omega)⟩
    · refine wp_tswx (x := 5) (tgt := 83) jF_43_1 hh (by decide) ?_
      subst hh
      refine wp_al1 jF_43_83 rfl rfl (pc2 := 84) ?_
      have b10 := GI.b hg 45 11 kd45 (lo := 0) (hi := 5) rfl
      refine wp_gi jF_43_84 kd45 (by decide) rfl rfl rfl (pc2 := 87) ?_
      refine wp_ic jF_43_87 rfl (pc2 := 88) ?_
      refine wp_i_lt jF_43_88 (m_rgb b10 rfl) (m_rgl rfl) rfl (pc2 := 91) ?_ ?_
      · intro h11
        refine wp_ic jF_43_95 rfl (pc2 := 96) ?_
        refine wp_ri jF_43_96 rfl ?_
        exact ⟨0, rfl, ⟨by omega, by omega⟩, rfl, (by omega)⟩
      · intro h11
        refine wp_ic jF_43_91 rfl (pc2 := 92) ?_
        refine wp_go jF_43_92 ?_
        refine wp_ri jF_43_96 rfl ?_
        exact ⟨1, rfl, ⟨by omega, by omega⟩, rfl, (by omega)⟩
    · refine wp_tswx (x := 6) (tgt := 97) jF_43_1 hh (by decide) ?_
      subst hh
      refine wp_al1 jF_43_97 rfl rfl (pc2 := 98) ?_
      refine wp_gr (b := 52) jF_43_98 kd45 (by decide) (c := 10) rfl rfl rfl (pc2 := 101) ?_
      refine wp_cV (as := []) (rest := []) (a := 52) (mx := 1) (ci := 7) jF_43_101 kd52 (by decide) rfl rfl rfl rfl rfl (by omega) (by omega) rfl (pc2 := 104) ?_
      have b12 := GI.b hg 52 5 kd52 (lo := 0) (hi := 16) rfl
      refine wp_use (m_44_r52 σ hg   _ _ (by omega) (by omega)) ?_
      rintro _ _ ⟨z16, rfl, h17, rfl, p13⟩
      show WP 43 104 [(0, .ref 45), (1, iV 6)] [iV z16] _ _ _ _
      refine wp_ri jF_43_104 (m_fitb (by omega) (by omega)) ?_
      exact ⟨z16, rfl, ⟨by omega, by omega⟩, rfl, (by omega)⟩
    · refine wp_tswx (x := 7) (tgt := 105) jF_43_1 hh (by decide) ?_
      subst hh
      refine wp_al1 jF_43_105 rfl rfl (pc2 := 106) ?_
      refine wp_gr (b := 58) jF_43_106 kd45 (by decide) (c := 16) rfl rfl rfl (pc2 := 109) ?_
      refine wp_cV (as := []) (rest := []) (a := 58) (mx := 1) (ci := 7) jF_43_109 kd58 (by decide) rfl rfl rfl rfl rfl (by omega) (by omega) rfl (pc2 := 112) ?_
      have b18 := GI.b hg 58 5 kd58 (lo := 0) (hi := 16) rfl
      refine wp_use (m_44_r58 σ hg   _ _ (by omega) (by omega)) ?_
      rintro _ _ ⟨z22, rfl, h23, rfl, p19⟩
      show WP 43 112 [(0, .ref 45), (1, iV 7)] [iV z22] _ _ _ _
      refine wp_ri jF_43_112 (m_fitb (by omega) (by omega)) ?_
      exact ⟨z22, rfl, ⟨by omega, by omega⟩, rfl, (by omega)⟩
    · refine wp_tswx (x := 8) (tgt := 113) jF_43_1 hh (by decide) ?_
      subst hh
      refine wp_al1 jF_43_113 rfl rfl (pc2 := 114) ?_
      refine wp_gr (b := 64) jF_43_114 kd45 (by decide) (c := 22) rfl rfl rfl (pc2 := 117) ?_
      refine wp_cV (as := []) (rest := []) (a := 64) (mx := 1) (ci := 7) jF_43_117 kd64 (by decide) rfl rfl rfl rfl rfl (by omega) (by omega) rfl (pc2 := 120) ?_
      have b24 := GI.b hg 64 5 kd64 (lo := 0) (hi := 16) rfl
      refine wp_use (m_44_r64 σ hg   _ _ (by omega) (by omega)) ?_
      rintro _ _ ⟨z28, rfl, h29, rfl, p25⟩
      show WP 43 120 [(0, .ref 45), (1, iV 8)] [iV z28] _ _ _ _
      refine wp_ri jF_43_120 (m_fitb (by omega) (by omega)) ?_
      exact ⟨z28, rfl, ⟨by omega, by omega⟩, rfl, (by omega)⟩
set_option maxHeartbeats 4000000 in
set_option maxRecDepth 20000 in
/-- Tongue.find -/
theorem m_50_r45 (σ : jM) (hg : GI σ) (code : Int) (hl_code : (-2147483648) ≤ code) (hu_code : code ≤ 2147483647)  (fr lo : Nat) (hfr : 0 ≤ fr) (hlo : 0 ≤ lo) : WP 50 0 (lv_args 0 [.ref 45, iV code]) [] fr lo σ (fun v τ => ∃ z : Int, v = some (iV z) ∧ ((-1) ≤ z ∧ z ≤ 24) ∧ σ = τ) := by
  show WP 50 0 [(0, .ref 45), (1, iV code)] [] _ _ _ _
  refine wp_ic jF_50_0 rfl (pc2 := 1) ?_
  refine wp_is1 (lv2 := [(0, .ref 45), (1, iV code), (2, iV 0)]) jF_50_1 rfl rfl rfl (pc2 := 2) ?_
  refine wp_loop (α := Int) (fun a => [(0, .ref 45), (1, iV code), (2, iV (a))]) (fun a τ => (0 ≤ a ∧ a ≤ 25) ∧ σ = τ) (fun a τ => Int.toNat (25 - (a))) (0) σ ?_ ?_
  · skip
    exact ⟨⟨by omega, by omega⟩, rfl⟩
  · rintro x1 _ ⟨h2, rfl⟩ ih6
    show WP 50 2 [(0, .ref 45), (1, iV code), (2, iV x1)] [] _ _ _ _
    show WP 50 2 [(0, .ref 45), (1, iV code), (2, iV x1)] [] _ _ _ _
    refine wp_il1 jF_50_2 rfl rfl (pc2 := 3) ?_
    refine wp_al1 jF_50_3 rfl rfl (pc2 := 4) ?_
    refine wp_gr (b := 46) jF_50_4 kd45 (by decide) (c := 4) rfl rfl rfl (pc2 := 7) ?_
    refine wp_len (n := 25) (t := 0) jF_50_7 kd46 (by decide) rfl rfl (pc2 := 8) ?_
    refine wp_i_ge jF_50_8 (m_rgb h2 rfl) (m_rgl rfl) rfl (pc2 := 11) ?_ ?_
    · intro h7
      refine wp_ic jF_50_29 rfl (pc2 := 30) ?_
      refine wp_ri jF_50_30 rfl ?_
      exact ⟨(-1), rfl, ⟨by omega, by omega⟩, rfl⟩
    · intro h7
      refine wp_al1 jF_50_11 rfl rfl (pc2 := 12) ?_
      refine wp_gr (b := 46) jF_50_12 kd45 (by decide) (c := 4) rfl rfl rfl (pc2 := 15) ?_
      refine wp_il1 jF_50_15 rfl rfl (pc2 := 16) ?_
      have b8 := GI.b hg 46 x1.toNat kd46 (lo := (-2147483648)) (hi := 2147483647) rfl
      refine wp_iald (n := 25) (e := (σ.1 46 x1.toNat)) jF_50_16 kd46 (by decide) rfl rfl (by omega) (by omega) rfl rfl (pc2 := 17) ?_
      refine wp_il1 jF_50_17 rfl rfl (pc2 := 18) ?_
      refine wp_i_ne jF_50_18 (m_rgb b8 rfl) ⟨by omega, by omega⟩ rfl (pc2 := 21) ?_ ?_
      · intro h9
        refine wp_inc (lv2 := [(0, .ref 45), (1, iV code), (2, iV (x1 + 1))]) jF_50_23 rfl rfl rfl rfl (pc2 := 26) ?_
        refine wp_go jF_50_26 ?_
        exact ih6 ((x1 + 1)) σ ⟨⟨by omega, by omega⟩, rfl⟩ (by show Int.toNat (25 - (x1 + 1)) < Int.toNat (25 - x1); omega)
      · intro h9
        refine wp_il1 jF_50_21 rfl rfl (pc2 := 22) ?_
        refine wp_ri jF_50_22 rfl ?_
        exact ⟨x1, rfl, ⟨by omega, by omega⟩, rfl⟩
set_option maxHeartbeats 4000000 in
set_option maxRecDepth 20000 in
/-- Tongue.isParty -/
theorem m_51_r45 (σ : jM) (hg : GI σ) (fd : Int) (hl_fd : (-2147483648) ≤ fd) (hu_fd : fd ≤ 2147483647)  (fr lo : Nat) (hfr : 0 ≤ fr) (hlo : 0 ≤ lo) : WP 51 0 (lv_args 0 [.ref 45, iV fd]) [] fr lo σ (fun v τ => ∃ z : Int, v = some (iV z) ∧ (0 ≤ z ∧ z ≤ 1) ∧ σ = τ) := by
  show WP 51 0 [(0, .ref 45), (1, iV fd)] [] _ _ _ _
  refine wp_il1 jF_51_0 rfl rfl (pc2 := 1) ?_
  refine wp_bi jF_51_1 (by decide) rfl (pc2 := 3) ?_
  refine wp_i_lt jF_51_3 ⟨by omega, by omega⟩ (m_rgl rfl) rfl (pc2 := 6) ?_ ?_
  · intro h1
    refine wp_ic jF_51_21 rfl (pc2 := 22) ?_
    refine wp_ri jF_51_22 rfl ?_
    exact ⟨0, rfl, ⟨by omega, by omega⟩, rfl⟩
  · intro h1
    refine wp_il1 jF_51_6 rfl rfl (pc2 := 7) ?_
    refine wp_bi jF_51_7 (by decide) rfl (pc2 := 9) ?_
    refine wp_al1 jF_51_9 rfl rfl (pc2 := 10) ?_
    have b2 := GI.b hg 45 11 kd45 (lo := 0) (hi := 5) rfl
    refine wp_gi jF_51_10 kd45 (by decide) rfl rfl rfl (pc2 := 13) ?_
    refine wp_add jF_51_13 rfl (pc2 := 14) ?_
    refine wp_i_ge jF_51_14 ⟨by omega, by omega⟩ ⟨by omega, by omega⟩ rfl (pc2 := 17) ?_ ?_
    · intro h3
      refine wp_ic jF_51_21 rfl (pc2 := 22) ?_
      refine wp_ri jF_51_22 rfl ?_
      exact ⟨0, rfl, ⟨by omega, by omega⟩, rfl⟩
    · intro h3
      refine wp_ic jF_51_17 rfl (pc2 := 18) ?_
      refine wp_go jF_51_18 ?_
      refine wp_ri jF_51_22 rfl ?_
      exact ⟨1, rfl, ⟨by omega, by omega⟩, rfl⟩
set_option maxHeartbeats 4000000 in
set_option maxRecDepth 20000 in
/-- Tongue.addWord -/
theorem m_67_r45 (σ : jM) (hg : GI σ) (sort : Int) (hl_sort : 0 ≤ sort) (hu_sort : sort ≤ 8) (code : Int) (hl_code : (-2147483648) ≤ code) (hu_code : code ≤ 2147483647)  (fr lo : Nat) (hfr : 2 ≤ fr) (hlo : 41 ≤ lo) : WP 67 0 (lv_args 0 [.ref 45, iV sort, iV code]) [] fr lo σ (fun v τ => v = none ∧ GI τ ∧ FR WG45 σ τ ∧ ((τ.1 58 5) = (σ.1 58 5)) ∧ ((τ.1 64 5) = (σ.1 64 5))) := by
  show WP 67 0 [(0, .ref 45), (1, iV sort), (2, iV code)] [] _ _ _ _
  refine wp_il1 jF_67_0 rfl rfl (pc2 := 1) ?_
  refine wp_z_lt jF_67_1 ⟨by omega, by omega⟩ rfl (pc2 := 4) ?_ ?_
  · intro h1; exfalso; omega
  · intro h1
    refine wp_il1 jF_67_4 rfl rfl (pc2 := 5) ?_
    refine wp_ic jF_67_5 rfl (pc2 := 6) ?_
    refine wp_i_ge jF_67_6 ⟨by omega, by omega⟩ (m_rgl rfl) rfl (pc2 := 9) ?_ ?_
    · intro h2
      refine wp_rv jF_67_43 ?_
      have b3 := GI.b hg 58 5 kd58 (lo := 0) (hi := 16) rfl
      have b4 := GI.b hg 64 5 kd64 (lo := 0) (hi := 16) rfl
      exact ⟨rfl, hg, FR.rf, (by omega), (by omega)⟩
    · intro h2
      refine wp_al1 jF_67_9 rfl rfl (pc2 := 10) ?_
      refine wp_il1 jF_67_10 rfl rfl (pc2 := 11) ?_
      refine wp_cV (as := [iV sort]) (rest := []) (a := 45) (mx := 2) (ci := 8) jF_67_11 kd45 (by decide) rfl rfl rfl rfl rfl (by omega) (by omega) rfl (pc2 := 14) ?_
      refine wp_use (m_43_r45 σ hg sort (by omega) (by omega)  _ _ (by omega) (by omega)) ?_
      rintro _ _ ⟨z8, rfl, h9, rfl, p5⟩
      show WP 67 14 [(0, .ref 45), (1, iV sort), (2, iV code)] [iV z8] _ _ _ _
      refine wp_z_ne jF_67_14 (m_rgb h9 rfl) rfl (pc2 := 17) ?_ ?_
      · intro h10
        clear p5
        refine wp_rv jF_67_43 ?_
        have b11 := GI.b hg 58 5 kd58 (lo := 0) (hi := 16) rfl
        have b12 := GI.b hg 64 5 kd64 (lo := 0) (hi := 16) rfl
        exact ⟨rfl, hg, FR.rf, (by omega), (by omega)⟩
      · intro h10
        replace p5 := p5 (by omega)
        refine wp_al1 jF_67_17 rfl rfl (pc2 := 18) ?_
        refine wp_gr (b := 46) jF_67_18 kd45 (by decide) (c := 4) rfl rfl rfl (pc2 := 21) ?_
        refine wp_il1 jF_67_21 rfl rfl (pc2 := 22) ?_
        refine wp_ic jF_67_22 rfl (pc2 := 23) ?_
        refine wp_mul jF_67_23 rfl (pc2 := 24) ?_
        refine wp_al1 jF_67_24 rfl rfl (pc2 := 25) ?_
        refine wp_gr (b := 47) jF_67_25 kd45 (by decide) (c := 5) rfl rfl rfl (pc2 := 28) ?_
        refine wp_il1 jF_67_28 rfl rfl (pc2 := 29) ?_
        have b13 := GI.b hg 47 sort.toNat kd47 (lo := 0) (hi := 4) rfl
        refine wp_iald (n := 3) (e := (σ.1 47 sort.toNat)) jF_67_29 kd47 (by decide) rfl rfl (by omega) (by omega) rfl rfl (pc2 := 30) ?_
        refine wp_add jF_67_30 rfl (pc2 := 31) ?_
        refine wp_il1 jF_67_31 rfl rfl (pc2 := 32) ?_
        refine wp_iast (n := 25) jF_67_32 kd46 (by decide) rfl rfl (by omega) (by omega) rfl (pc2 := 33) hg (lo := (-2147483648)) (hi := 2147483647) rfl (by omega) (by omega) ?_
        intro τ14 g15 f16 e17
        refine wp_al1 jF_67_33 rfl rfl (pc2 := 34) ?_
        refine wp_gr (b := 47) jF_67_34 kd45 (by decide) (c := 5) rfl rfl rfl (pc2 := 37) ?_
        refine wp_il1 jF_67_37 rfl rfl (pc2 := 38) ?_
        refine wp_du2 jF_67_38 rfl rfl (pc2 := 39) ?_
        refine wp_iald (n := 3) (e := (σ.1 47 sort.toNat)) jF_67_39 kd47 (by decide) rfl rfl (by omega) (by omega) (FRw.na f16 (by decide)) rfl (pc2 := 40) ?_
        refine wp_ic jF_67_40 rfl (pc2 := 41) ?_
        refine wp_add jF_67_41 rfl (pc2 := 42) ?_
        refine wp_iast (n := 3) jF_67_42 kd47 (by decide) rfl rfl (by omega) (by omega) rfl (pc2 := 43) g15 (lo := 0) (hi := 4) rfl (by omega) (by omega) ?_
        intro τ18 g19 f20 e21
        refine wp_rv jF_67_43 ?_
        have b22 := GI.b hg 58 5 kd58 (lo := 0) (hi := 16) rfl
        have q23 : (τ18.1 58 5) = (σ.1 58 5) := ((FRw.na f20 (by decide)).trans (FRw.na f16 (by decide)))
        have b24 := GI.b hg 64 5 kd64 (lo := 0) (hi := 16) rfl
        have q25 : (τ18.1 64 5) = (σ.1 64 5) := ((FRw.na f20 (by decide)).trans (FRw.na f16 (by decide)))
        exact ⟨rfl, g19, (FR.w (FR.w FR.rf f16 rfl) f20 rfl), (by omega), (by omega)⟩
set_option maxHeartbeats 4000000 in
set_option maxRecDepth 20000 in
/-- Tongue.addLike -/
theorem m_52_r45 (σ : jM) (hg : GI σ) (code : Int) (hl_code : (-2147483648) ≤ code) (hu_code : code ≤ 2147483647) (mg : Int) (hl_mg : (-2147483648) ≤ mg) (hu_mg : mg ≤ 2147483647)  (fr lo : Nat) (hfr : 0 ≤ fr) (hlo : 0 ≤ lo) : WP 52 0 (lv_args 0 [.ref 45, iV code, iV mg]) [] fr lo σ (fun v τ => v = none ∧ GI τ ∧ FR WG45 σ τ ∧ ((τ.1 58 5) = (σ.1 58 5)) ∧ ((τ.1 64 5) = (σ.1 64 5))) := by
  show WP 52 0 [(0, .ref 45), (1, iV code), (2, iV mg)] [] _ _ _ _
  refine wp_al1 jF_52_0 rfl rfl (pc2 := 1) ?_
  have b1 := GI.b hg 45 9 kd45 (lo := 0) (hi := 6) rfl
  refine wp_gi jF_52_1 kd45 (by decide) rfl rfl rfl (pc2 := 4) ?_
  refine wp_bi jF_52_4 (by decide) rfl (pc2 := 6) ?_
  refine wp_i_ge jF_52_6 (m_rgb b1 rfl) (m_rgl rfl) rfl (pc2 := 9) ?_ ?_
  · intro h2
    refine wp_rv jF_52_42 ?_
    have b3 := GI.b hg 58 5 kd58 (lo := 0) (hi := 16) rfl
    have b4 := GI.b hg 64 5 kd64 (lo := 0) (hi := 16) rfl
    exact ⟨rfl, hg, FR.rf, (by omega), (by omega)⟩
  · intro h2
    refine wp_al1 jF_52_9 rfl rfl (pc2 := 10) ?_
    refine wp_gr (b := 46) jF_52_10 kd45 (by decide) (c := 4) rfl rfl rfl (pc2 := 13) ?_
    refine wp_bi jF_52_13 (by decide) rfl (pc2 := 15) ?_
    refine wp_al1 jF_52_15 rfl rfl (pc2 := 16) ?_
    refine wp_gi jF_52_16 kd45 (by decide) rfl rfl rfl (pc2 := 19) ?_
    refine wp_add jF_52_19 rfl (pc2 := 20) ?_
    refine wp_il1 jF_52_20 rfl rfl (pc2 := 21) ?_
    refine wp_iast (n := 25) jF_52_21 kd46 (by decide) rfl rfl (by omega) (by omega) rfl (pc2 := 22) hg (lo := (-2147483648)) (hi := 2147483647) rfl (by omega) (by omega) ?_
    intro τ5 g6 f7 e8
    refine wp_al1 jF_52_22 rfl rfl (pc2 := 23) ?_
    refine wp_gr (b := 48) jF_52_23 kd45 (by decide) (c := 6) rfl rfl rfl (pc2 := 26) ?_
    refine wp_al1 jF_52_26 rfl rfl (pc2 := 27) ?_
    refine wp_gi jF_52_27 kd45 (by decide) rfl (FRw.na f7 (by decide)) rfl (pc2 := 30) ?_
    refine wp_il1 jF_52_30 rfl rfl (pc2 := 31) ?_
    refine wp_iast (n := 6) jF_52_31 kd48 (by decide) rfl rfl (by omega) (by omega) rfl (pc2 := 32) g6 (lo := (-2147483648)) (hi := 2147483647) rfl (by omega) (by omega) ?_
    intro τ9 g10 f11 e12
    refine wp_al1 jF_52_32 rfl rfl (pc2 := 33) ?_
    refine wp_dup jF_52_33 rfl rfl (pc2 := 34) ?_
    refine wp_gi jF_52_34 kd45 (by decide) rfl ((FRw.na f11 (by decide)).trans (FRw.na f7 (by decide))) rfl (pc2 := 37) ?_
    refine wp_ic jF_52_37 rfl (pc2 := 38) ?_
    refine wp_add jF_52_38 rfl (pc2 := 39) ?_
    refine wp_pi jF_52_39 kd45 (by decide) rfl rfl rfl (pc2 := 42) g10 (lo := 0) (hi := 6) rfl (by omega) (by omega) ?_
    intro τ13 g14 f15 e16
    refine wp_rv jF_52_42 ?_
    have b17 := GI.b hg 58 5 kd58 (lo := 0) (hi := 16) rfl
    have q18 : (τ13.1 58 5) = (σ.1 58 5) := ((FRw.na f15 (by decide)).trans ((FRw.na f11 (by decide)).trans (FRw.na f7 (by decide))))
    have b19 := GI.b hg 64 5 kd64 (lo := 0) (hi := 16) rfl
    have q20 : (τ13.1 64 5) = (σ.1 64 5) := ((FRw.na f15 (by decide)).trans ((FRw.na f11 (by decide)).trans (FRw.na f7 (by decide))))
    exact ⟨rfl, g14, (FR.w (FR.w (FR.w FR.rf f7 rfl) f11 rfl) f15 rfl), (by omega), (by omega)⟩
set_option maxHeartbeats 4000000 in
set_option maxRecDepth 20000 in
/-- Tongue.addParty -/
theorem m_57_r45 (σ : jM) (hg : GI σ) (code : Int) (hl_code : (-2147483648) ≤ code) (hu_code : code ≤ 2147483647) (vt : Int) (hl_vt : (-2147483648) ≤ vt) (hu_vt : vt ≤ 2147483647)  (fr lo : Nat) (hfr : 0 ≤ fr) (hlo : 0 ≤ lo) : WP 57 0 (lv_args 0 [.ref 45, iV code, iV vt]) [] fr lo σ (fun v τ => v = none ∧ GI τ ∧ FR WG45 σ τ ∧ ((τ.1 58 5) = (σ.1 58 5)) ∧ ((τ.1 64 5) = (σ.1 64 5))) := by
  show WP 57 0 [(0, .ref 45), (1, iV code), (2, iV vt)] [] _ _ _ _
  refine wp_al1 jF_57_0 rfl rfl (pc2 := 1) ?_
  have b1 := GI.b hg 45 11 kd45 (lo := 0) (hi := 5) rfl
  refine wp_gi jF_57_1 kd45 (by decide) rfl rfl rfl (pc2 := 4) ?_
  refine wp_ic jF_57_4 rfl (pc2 := 5) ?_
  refine wp_i_ge jF_57_5 (m_rgb b1 rfl) (m_rgl rfl) rfl (pc2 := 8) ?_ ?_
  · intro h2
    refine wp_rv jF_57_41 ?_
    have b3 := GI.b hg 58 5 kd58 (lo := 0) (hi := 16) rfl
    have b4 := GI.b hg 64 5 kd64 (lo := 0) (hi := 16) rfl
    exact ⟨rfl, hg, FR.rf, (by omega), (by omega)⟩
  · intro h2
    refine wp_al1 jF_57_8 rfl rfl (pc2 := 9) ?_
    refine wp_gr (b := 46) jF_57_9 kd45 (by decide) (c := 4) rfl rfl rfl (pc2 := 12) ?_
    refine wp_bi jF_57_12 (by decide) rfl (pc2 := 14) ?_
    refine wp_al1 jF_57_14 rfl rfl (pc2 := 15) ?_
    refine wp_gi jF_57_15 kd45 (by decide) rfl rfl rfl (pc2 := 18) ?_
    refine wp_add jF_57_18 rfl (pc2 := 19) ?_
    refine wp_il1 jF_57_19 rfl rfl (pc2 := 20) ?_
    refine wp_iast (n := 25) jF_57_20 kd46 (by decide) rfl rfl (by omega) (by omega) rfl (pc2 := 21) hg (lo := (-2147483648)) (hi := 2147483647) rfl (by omega) (by omega) ?_
    intro τ5 g6 f7 e8
    refine wp_al1 jF_57_21 rfl rfl (pc2 := 22) ?_
    refine wp_gr (b := 49) jF_57_22 kd45 (by decide) (c := 7) rfl rfl rfl (pc2 := 25) ?_
    refine wp_al1 jF_57_25 rfl rfl (pc2 := 26) ?_
    refine wp_gi jF_57_26 kd45 (by decide) rfl (FRw.na f7 (by decide)) rfl (pc2 := 29) ?_
    refine wp_il1 jF_57_29 rfl rfl (pc2 := 30) ?_
    refine wp_iast (n := 5) jF_57_30 kd49 (by decide) rfl rfl (by omega) (by omega) rfl (pc2 := 31) g6 (lo := (-2147483648)) (hi := 2147483647) rfl (by omega) (by omega) ?_
    intro τ9 g10 f11 e12
    refine wp_al1 jF_57_31 rfl rfl (pc2 := 32) ?_
    refine wp_dup jF_57_32 rfl rfl (pc2 := 33) ?_
    refine wp_gi jF_57_33 kd45 (by decide) rfl ((FRw.na f11 (by decide)).trans (FRw.na f7 (by decide))) rfl (pc2 := 36) ?_
    refine wp_ic jF_57_36 rfl (pc2 := 37) ?_
    refine wp_add jF_57_37 rfl (pc2 := 38) ?_
    refine wp_pi jF_57_38 kd45 (by decide) rfl rfl rfl (pc2 := 41) g10 (lo := 0) (hi := 5) rfl (by omega) (by omega) ?_
    intro τ13 g14 f15 e16
    refine wp_rv jF_57_41 ?_
    have b17 := GI.b hg 58 5 kd58 (lo := 0) (hi := 16) rfl
    have q18 : (τ13.1 58 5) = (σ.1 58 5) := ((FRw.na f15 (by decide)).trans ((FRw.na f11 (by decide)).trans (FRw.na f7 (by decide))))
    have b19 := GI.b hg 64 5 kd64 (lo := 0) (hi := 16) rfl
    have q20 : (τ13.1 64 5) = (σ.1 64 5) := ((FRw.na f15 (by decide)).trans ((FRw.na f11 (by decide)).trans (FRw.na f7 (by decide))))
    exact ⟨rfl, g14, (FR.w (FR.w (FR.w FR.rf f7 rfl) f11 rfl) f15 rfl), (by omega), (by omega)⟩
