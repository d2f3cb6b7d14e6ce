set_option maxHeartbeats 4000000 in
set_option maxRecDepth 20000 in
/-- Tongue.isCase -/
theorem m_100_r20 (σ : jM) (hg : GI σ) (nb : Int) (hl_nb : (-2147483648) ≤ nb) (hu_nb : nb ≤ 2147483647)  (fr lo : Nat) (hfr : 0 ≤ fr) (hlo : 0 ≤ lo) : WP 100 0 (lv_args 0 [.ref 20, iV nb]) [] fr lo σ (fun v τ => ∃ z : Int, v = some (iV z) ∧ (0 ≤ z ∧ z ≤ 1) ∧ σ = τ) := by
  show WP 100 0 [(0, .ref 20), (1, iV nb)] [] _ _ _ _
  refine wp_il1 jF_100_0 rfl rfl (pc2 := 1) ?_
  refine wp_z_lt jF_100_1 ⟨by omega, by omega⟩ rfl (pc2 := 4) ?_ ?_
  · intro h1
    refine wp_ic jF_100_16 rfl (pc2 := 17) ?_
    refine wp_ri jF_100_17 rfl ?_
    exact ⟨0, rfl, ⟨by omega, by omega⟩, rfl⟩
  · intro h1
    refine wp_il1 jF_100_4 rfl rfl (pc2 := 5) ?_
    refine wp_al1 jF_100_5 rfl rfl (pc2 := 6) ?_
    have b2 := GI.b hg 20 12 kd20 (lo := (-2147483648)) (hi := 2147483647) rfl
    refine wp_gi jF_100_6 kd20 (by decide) rfl rfl rfl (pc2 := 9) ?_
    refine wp_i_ge jF_100_9 ⟨by omega, by omega⟩ (m_rgb b2 rfl) rfl (pc2 := 12) ?_ ?_
    · intro h3
      refine wp_ic jF_100_16 rfl (pc2 := 17) ?_
      refine wp_ri jF_100_17 rfl ?_
      exact ⟨0, rfl, ⟨by omega, by omega⟩, rfl⟩
    · intro h3
      refine wp_ic jF_100_12 rfl (pc2 := 13) ?_
      refine wp_go jF_100_13 ?_
      refine wp_ri jF_100_17 rfl ?_
      exact ⟨1, rfl, ⟨by omega, by omega⟩, rfl⟩
set_option maxHeartbeats 4000000 in
set_option maxRecDepth 20000 in
/-- Tongue.keepsPeace -/
theorem m_85_r20 (σ : jM) (hg : GI σ) (fb : Int64)  (fr lo : Nat) (hfr : 1 ≤ fr) (hlo : 22 ≤ lo) : WP 85 0 (lv_args 0 [.ref 20, .long fb]) [] fr lo σ (fun v τ => ∃ z : Int, v = some (iV z) ∧ (0 ≤ z ∧ z ≤ 1) ∧ σ = τ) := by
  show WP 85 0 [(0, .ref 20), (1, .long fb)] [] _ _ _ _
  refine wp_al1 jF_85_0 rfl rfl (pc2 := 1) ?_
  refine wp_gr (b := 33) jF_85_1 kd20 (by decide) (c := 16) rfl rfl rfl (pc2 := 4) ?_
  refine wp_ll1 jF_85_4 rfl rfl (pc2 := 5) ?_
  refine wp_cV (as := [.long fb]) (rest := []) (a := 33) (mx := 3) (ci := 7) jF_85_5 kd33 (by decide) rfl rfl rfl rfl rfl (by omega) (by omega) rfl (pc2 := 8) ?_
  refine wp_use (m_86_r33 σ hg fb  _ _ (by omega) (by omega)) ?_
  rintro _ _ ⟨z3, rfl, h4, rfl⟩
  show WP 85 8 [(0, .ref 20), (1, .long fb)] [iV z3] _ _ _ _
  refine wp_ri jF_85_8 (m_fitb (by omega) (by omega)) ?_
  exact ⟨z3, rfl, ⟨by omega, by omega⟩, rfl⟩
set_option maxHeartbeats 4000000 in
set_option maxRecDepth 20000 in
/-- Tongue.worthFor -/
theorem m_155_r20 (σ : jM) (hg : GI σ) (pt : Int) (hl_pt : (-2147483648) ≤ pt) (hu_pt : pt ≤ 2147483647) (fb : Int64)  (fr lo : Nat) (hfr : 2 ≤ fr) (hlo : 46 ≤ lo) : WP 155 0 (lv_args 0 [.ref 20, iV pt, .long fb]) [] fr lo σ (fun v τ => ∃ z : Int, v = some (iV z) ∧ ((-2147483648) ≤ z ∧ z ≤ 2147483647) ∧ σ = τ) := by
  show WP 155 0 [(0, .ref 20), (1, iV pt), (2, .long fb)] [] _ _ _ _
  refine wp_il1 jF_155_0 rfl rfl (pc2 := 1) ?_
  refine wp_z_lt jF_155_1 ⟨by omega, by omega⟩ rfl (pc2 := 4) ?_ ?_
  · intro h1
    refine wp_ic jF_155_12 rfl (pc2 := 13) ?_
    refine wp_ri jF_155_13 rfl ?_
    exact ⟨(-1), rfl, ⟨by omega, by omega⟩, rfl⟩
  · intro h1
    refine wp_il1 jF_155_4 rfl rfl (pc2 := 5) ?_
    refine wp_al1 jF_155_5 rfl rfl (pc2 := 6) ?_
    have b2 := GI.b hg 20 11 kd20 (lo := 0) (hi := 5) rfl
    refine wp_gi jF_155_6 kd20 (by decide) rfl rfl rfl (pc2 := 9) ?_
    refine wp_i_lt jF_155_9 ⟨by omega, by omega⟩ (m_rgb b2 rfl) rfl (pc2 := 12) ?_ ?_
    · intro h3
      refine wp_ic jF_155_14 rfl (pc2 := 15) ?_
      refine wp_is2 (lv2 := [(0, .ref 20), (1, iV pt), (2, .long fb), (4, iV 0)]) jF_155_15 rfl rfl rfl (pc2 := 17) ?_
      refine wp_ic jF_155_17 rfl (pc2 := 18) ?_
      refine wp_is2 (lv2 := [(0, .ref 20), (1, iV pt), (2, .long fb), (4, iV 0), (5, iV 0)]) jF_155_18 rfl rfl rfl (pc2 := 20) ?_
      refine wp_loop (α := Int × Int) (fun a => [(0, .ref 20), (1, iV pt), (2, .long fb), (4, iV (a.1)), (5, iV (a.2))]) (fun a τ => ((-2147483648) ≤ a.1 ∧ a.1 ≤ 2147483647) ∧ (0 ≤ a.2 ∧ a.2 ≤ 16) ∧ σ = τ) (fun a τ => Int.toNat (16 - (a.2))) (0, 0) σ ?_ ?_
      · skip
        exact ⟨⟨by (try dsimp only); omega, by (try dsimp only); omega⟩, ⟨by (try dsimp only); omega, by (try dsimp only); omega⟩, rfl⟩
      · rintro ⟨x4, x5⟩ _ ⟨h6, h7, rfl⟩ ih11
        try dsimp only at h6 h7
        show WP 155 20 [(0, .ref 20), (1, iV pt), (2, .long fb), (4, iV x4), (5, iV x5)] [] _ _ _ _
        show WP 155 20 [(0, .ref 20), (1, iV pt), (2, .long fb), (4, iV x4), (5, iV x5)] [] _ _ _ _
        refine wp_il2 jF_155_20 rfl rfl (pc2 := 22) ?_
        refine wp_al1 jF_155_22 rfl rfl (pc2 := 23) ?_
        refine wp_gr (b := 27) jF_155_23 kd20 (by decide) (c := 10) rfl rfl rfl (pc2 := 26) ?_
        have b12 := GI.b hg 27 5 kd27 (lo := 0) (hi := 16) rfl
        refine wp_gi jF_155_26 kd27 (by decide) rfl rfl rfl (pc2 := 29) ?_
        refine wp_i_ge jF_155_29 (m_rgb h7 rfl) (m_rgb b12 rfl) rfl (pc2 := 32) ?_ ?_
        · intro h13
          refine wp_il2 jF_155_67 rfl rfl (pc2 := 69) ?_
          refine wp_ri jF_155_69 rfl ?_
          exact ⟨x4, rfl, ⟨by omega, by omega⟩, rfl⟩
        · intro h13
          refine wp_al1 jF_155_32 rfl rfl (pc2 := 33) ?_
          refine wp_gr (b := 27) jF_155_33 kd20 (by decide) (c := 10) rfl rfl rfl (pc2 := 36) ?_
          refine wp_gr (b := 30) jF_155_36 kd27 (by decide) (c := 6) rfl rfl rfl (pc2 := 39) ?_
          refine wp_il2 jF_155_39 rfl rfl (pc2 := 41) ?_
          have b14 := GI.b hg 30 x5.toNat kd30 (lo := (-2147483648)) (hi := 2147483647) rfl
          refine wp_iald (n := 16) (e := (σ.1 30 x5.toNat)) jF_155_41 kd30 (by decide) rfl rfl (by omega) (by omega) rfl rfl (pc2 := 42) ?_
          refine wp_il1 jF_155_42 rfl rfl (pc2 := 43) ?_
          refine wp_i_ne jF_155_43 (m_rgb b14 rfl) ⟨by omega, by omega⟩ rfl (pc2 := 46) ?_ ?_
          · intro h15
            refine wp_inc (lv2 := [(0, .ref 20), (1, iV pt), (2, .long fb), (4, iV x4), (5, iV (x5 + 1))]) jF_155_61 rfl rfl rfl rfl (pc2 := 64) ?_
            refine wp_go jF_155_64 ?_
            exact ih11 (x4, (x5 + 1)) σ ⟨⟨by (try dsimp only); omega, by (try dsimp only); omega⟩, ⟨by (try dsimp only); omega, by (try dsimp only); omega⟩, rfl⟩ (by show Int.toNat (16 - (x5 + 1)) < Int.toNat (16 - x5); omega)
          · intro h15
            refine wp_il2 jF_155_46 rfl rfl (pc2 := 48) ?_
            refine wp_al1 jF_155_48 rfl rfl (pc2 := 49) ?_
            refine wp_gr (b := 27) jF_155_49 kd20 (by decide) (c := 10) rfl rfl rfl (pc2 := 52) ?_
            refine wp_il2 jF_155_52 rfl rfl (pc2 := 54) ?_
            refine wp_ll1 jF_155_54 rfl rfl (pc2 := 55) ?_
            refine wp_cV (as := [iV x5, .long fb]) (rest := [iV x4]) (a := 27) (mx := 6) (ci := 7) jF_155_55 kd27 (by decide) rfl rfl rfl rfl rfl (by omega) (by omega) rfl (pc2 := 58) ?_
            refine wp_use (m_156_r27 σ hg x5 (by omega) (by omega) fb  _ _ (by omega) (by omega)) ?_
            rintro _ _ ⟨z18, rfl, h19, rfl⟩
            show WP 155 58 [(0, .ref 20), (1, iV pt), (2, .long fb), (4, iV x4), (5, iV x5)] [iV z18, iV x4] _ _ _ _
            refine wp_any2 (pc2 := 59) jF_155_58 rfl rfl ?_
            intro z20 h21
            refine wp_is2 (lv2 := [(0, .ref 20), (1, iV pt), (2, .long fb), (4, iV z20), (5, iV x5)]) jF_155_59 rfl rfl rfl (pc2 := 61) ?_
            refine wp_inc (lv2 := [(0, .ref 20), (1, iV pt), (2, .long fb), (4, iV z20), (5, iV (x5 + 1))]) jF_155_61 rfl rfl rfl rfl (pc2 := 64) ?_
            refine wp_go jF_155_64 ?_
            exact ih11 (z20, (x5 + 1)) σ ⟨⟨by (try dsimp only); omega, by (try dsimp only); omega⟩, ⟨by (try dsimp only); omega, by (try dsimp only); omega⟩, rfl⟩ (by show Int.toNat (16 - (x5 + 1)) < Int.toNat (16 - x5); omega)
    · intro h3
      refine wp_ic jF_155_12 rfl (pc2 := 13) ?_
      refine wp_ri jF_155_13 rfl ?_
      exact ⟨(-1), rfl, ⟨by omega, by omega⟩, rfl⟩
set_option maxHeartbeats 4000000 in
set_option maxRecDepth 20000 in
/-- Tongue.weighGains -/
theorem m_159_r20 (σ : jM) (hg : GI σ) (la : Int64) (lb : Int64)  (fr lo : Nat) (hfr : 2 ≤ fr) (hlo : 46 ≤ lo) : WP 159 0 (lv_args 0 [.ref 20, .long la, .long lb]) [] fr lo σ (fun v τ => v = none ∧ GI τ ∧ FR Wc25 σ τ) := by
  show WP 159 0 [(0, .ref 20), (1, .long la), (3, .long lb)] [] _ _ _ _
  refine wp_al1 jF_159_0 rfl rfl (pc2 := 1) ?_
  refine wp_gr (b := 25) jF_159_1 kd20 (by decide) (c := 8) rfl rfl rfl (pc2 := 4) ?_
  refine wp_ic jF_159_4 rfl (pc2 := 5) ?_
  refine wp_cS (as := [.ref 25, iV 0]) (rest := []) (mx := 4) jF_159_5 rfl rfl rfl rfl (by omega) (by omega) rfl (pc2 := 8) ?_
  refine wp_use (m_31_r25 σ hg   _ _ (by omega) (by omega)) ?_
  rintro _ τ1 ⟨rfl, g2, f3⟩
  show WP 159 8 [(0, .ref 20), (1, .long la), (3, .long lb)] [] _ _ _ _
  refine wp_ic jF_159_8 rfl (pc2 := 9) ?_
  refine wp_is2 (lv2 := [(0, .ref 20), (1, .long la), (3, .long lb), (5, iV 0)]) jF_159_9 rfl rfl rfl (pc2 := 11) ?_
  refine wp_loop (α := Int) (fun a => [(0, .ref 20), (1, .long la), (3, .long lb), (5, iV (a))]) (fun a τ => (0 ≤ a ∧ a ≤ 16) ∧ GI τ ∧ FR Wc25 τ1 τ) (fun a τ => Int.toNat (16 - (a))) (0) τ1 ?_ ?_
  · skip
    exact ⟨⟨by omega, by omega⟩, g2, FR.rf⟩
  · rintro x4 τ6 ⟨h5, g7, f8⟩ ih9
    show WP 159 11 [(0, .ref 20), (1, .long la), (3, .long lb), (5, iV x4)] [] _ _ _ _
    show WP 159 11 [(0, .ref 20), (1, .long la), (3, .long lb), (5, iV x4)] [] _ _ _ _
    refine wp_il2 jF_159_11 rfl rfl (pc2 := 13) ?_
    refine wp_al1 jF_159_13 rfl rfl (pc2 := 14) ?_
    refine wp_gr (b := 27) jF_159_14 kd20 (by decide) (c := 10) rfl rfl rfl (pc2 := 17) ?_
    have b10 := GI.b hg 27 5 kd27 (lo := 0) (hi := 16) rfl
    refine wp_gi jF_159_17 kd27 (by decide) rfl ((FR.at f8 27 5 rfl).trans (FR.at f3 27 5 rfl)) rfl (pc2 := 20) ?_
    refine wp_i_ge jF_159_20 (m_rgb h5 rfl) (m_rgb b10 rfl) rfl (pc2 := 23) ?_ ?_
    · intro h11
      refine wp_rv jF_159_87 ?_
      exact ⟨rfl, g7, (FR.up f3 f8 sb_Wc25_Wc25)⟩
    · intro h11
      refine wp_al1 jF_159_23 rfl rfl (pc2 := 24) ?_
      refine wp_gr (b := 27) jF_159_24 kd20 (by decide) (c := 10) rfl rfl rfl (pc2 := 27) ?_
      refine wp_gr (b := 30) jF_159_27 kd27 (by decide) (c := 6) rfl rfl rfl (pc2 := 30) ?_
      refine wp_il2 jF_159_30 rfl rfl (pc2 := 32) ?_
      have b12 := GI.b hg 30 x4.toNat kd30 (lo := (-2147483648)) (hi := 2147483647) rfl
      refine wp_iald (n := 16) (e := (σ.1 30 x4.toNat)) jF_159_32 kd30 (by decide) rfl rfl (by omega) (by omega) ((FR.at f8 30 x4.toNat rfl).trans (FR.at f3 30 x4.toNat rfl)) rfl (pc2 := 33) ?_
      refine wp_is2 (lv2 := [(0, .ref 20), (1, .long la), (3, .long lb), (5, iV x4), (6, iV (σ.1 30 x4.toNat))]) jF_159_33 rfl rfl rfl (pc2 := 35) ?_
      refine wp_il2 jF_159_35 rfl rfl (pc2 := 37) ?_
      refine wp_z_lt jF_159_37 (m_rgb b12 rfl) rfl (pc2 := 40) ?_ ?_
      · intro h13
        refine wp_inc (lv2 := [(0, .ref 20), (1, .long la), (3, .long lb), (5, iV (x4 + 1)), (6, iV (σ.1 30 x4.toNat))]) jF_159_81 rfl rfl rfl rfl (pc2 := 84) ?_
        refine wp_go jF_159_84 ?_
        refine wp_less [0, 1, 3, 5] (lv2 := [(0, .ref 20), (1, .long la), (3, .long lb), (5, iV (x4 + 1))]) rfl rfl ?_
        exact ih9 ((x4 + 1)) τ6 ⟨⟨by omega, by omega⟩, g7, f8⟩ (by show Int.toNat (16 - (x4 + 1)) < Int.toNat (16 - x4); omega)
      · intro h13
        refine wp_il2 jF_159_40 rfl rfl (pc2 := 42) ?_
        refine wp_al1 jF_159_42 rfl rfl (pc2 := 43) ?_
        refine wp_gr (b := 25) jF_159_43 kd20 (by decide) (c := 8) rfl rfl rfl (pc2 := 46) ?_
        refine wp_len (n := 5) (t := 0) jF_159_46 kd25 (by decide) rfl rfl (pc2 := 47) ?_
        refine wp_i_ge jF_159_47 ⟨by omega, by omega⟩ (m_rgl rfl) rfl (pc2 := 50) ?_ ?_
        · intro h14
          refine wp_inc (lv2 := [(0, .ref 20), (1, .long la), (3, .long lb), (5, iV (x4 + 1)), (6, iV (σ.1 30 x4.toNat))]) jF_159_81 rfl rfl rfl rfl (pc2 := 84) ?_
          refine wp_go jF_159_84 ?_
          refine wp_less [0, 1, 3, 5] (lv2 := [(0, .ref 20), (1, .long la), (3, .long lb), (5, iV (x4 + 1))]) rfl rfl ?_
          exact ih9 ((x4 + 1)) τ6 ⟨⟨by omega, by omega⟩, g7, f8⟩ (by show Int.toNat (16 - (x4 + 1)) < Int.toNat (16 - x4); omega)
        · intro h14
          refine wp_al1 jF_159_50 rfl rfl (pc2 := 51) ?_
          refine wp_gr (b := 25) jF_159_51 kd20 (by decide) (c := 8) rfl rfl rfl (pc2 := 54) ?_
          refine wp_il2 jF_159_54 rfl rfl (pc2 := 56) ?_
          refine wp_du2 jF_159_56 rfl rfl (pc2 := 57) ?_
          have b15 := GI.b g7 25 (σ.1 30 x4.toNat).toNat kd25 (lo := (-2147483648)) (hi := 2147483647) rfl
          refine wp_iald (n := 5) (e := (τ6.1 25 (σ.1 30 x4.toNat).toNat)) jF_159_57 kd25 (by decide) rfl rfl (by omega) (by omega) rfl rfl (pc2 := 58) ?_
          refine wp_al1 jF_159_58 rfl rfl (pc2 := 59) ?_
          refine wp_gr (b := 27) jF_159_59 kd20 (by decide) (c := 10) rfl rfl rfl (pc2 := 62) ?_
          refine wp_il2 jF_159_62 rfl rfl (pc2 := 64) ?_
          refine wp_ll1 jF_159_64 rfl rfl (pc2 := 65) ?_
          refine wp_cV (as := [iV x4, .long lb]) (rest := [iV (τ6.1 25 (σ.1 30 x4.toNat).toNat), iV (σ.1 30 x4.toNat), .ref 25]) (a := 27) (mx := 6) (ci := 7) jF_159_65 kd27 (by decide) rfl rfl rfl rfl rfl (by omega) (by omega) rfl (pc2 := 68) ?_
          refine wp_use (m_156_r27 τ6 g7 x4 (by omega) (by omega) lb  _ _ (by omega) (by omega)) ?_
          rintro _ _ ⟨z18, rfl, h19, rfl⟩
          show WP 159 68 [(0, .ref 20), (1, .long la), (3, .long lb), (5, iV x4), (6, iV (σ.1 30 x4.toNat))] [iV z18, iV (τ6.1 25 (σ.1 30 x4.toNat).toNat), iV (σ.1 30 x4.toNat), .ref 25] _ _ _ _
          refine wp_al1 jF_159_68 rfl rfl (pc2 := 69) ?_
          refine wp_gr (b := 27) jF_159_69 kd20 (by decide) (c := 10) rfl rfl rfl (pc2 := 72) ?_
          refine wp_il2 jF_159_72 rfl rfl (pc2 := 74) ?_
          refine wp_ll1 jF_159_74 rfl rfl (pc2 := 75) ?_
          refine wp_cV (as := [iV x4, .long la]) (rest := [iV z18, iV (τ6.1 25 (σ.1 30 x4.toNat).toNat), iV (σ.1 30 x4.toNat), .ref 25]) (a := 27) (mx := 6) (ci := 7) jF_159_75 kd27 (by decide) rfl rfl rfl rfl rfl (by omega) (by omega) rfl (pc2 := 78) ?_
          refine wp_use (m_156_r27 τ6 g7 x4 (by omega) (by omega) la  _ _ (by omega) (by omega)) ?_
          rintro _ _ ⟨z22, rfl, h23, rfl⟩
          show WP 159 78 [(0, .ref 20), (1, .long la), (3, .long lb), (5, iV x4), (6, iV (σ.1 30 x4.toNat))] [iV z22, iV z18, iV (τ6.1 25 (σ.1 30 x4.toNat).toNat), iV (σ.1 30 x4.toNat), .ref 25] _ _ _ _
          refine wp_any2 (pc2 := 79) jF_159_78 rfl rfl ?_
          intro z24 h25
          refine wp_any2 (pc2 := 80) jF_159_79 rfl rfl ?_
          intro z26 h27
          refine wp_iast (n := 5) jF_159_80 kd25 (by decide) rfl rfl (by omega) (by omega) rfl (pc2 := 81) g7 (lo := (-2147483648)) (hi := 2147483647) rfl (by omega) (by omega) ?_
          intro τ28 g29 f30 e31
          refine wp_inc (lv2 := [(0, .ref 20), (1, .long la), (3, .long lb), (5, iV (x4 + 1)), (6, iV (σ.1 30 x4.toNat))]) jF_159_81 rfl rfl rfl rfl (pc2 := 84) ?_
          refine wp_go jF_159_84 ?_
          refine wp_less [0, 1, 3, 5] (lv2 := [(0, .ref 20), (1, .long la), (3, .long lb), (5, iV (x4 + 1))]) rfl rfl ?_
          exact ih9 ((x4 + 1)) τ28 ⟨⟨by omega, by omega⟩, g29, (FR.w f8 f30 rfl)⟩ (by show Int.toNat (16 - (x4 + 1)) < Int.toNat (16 - x4); omega)
set_option maxHeartbeats 4000000 in
set_option maxRecDepth 20000 in
/-- Tongue.votesOn -/
theorem m_158_r20 (σ : jM) (hg : GI σ) (la : Int64) (lb : Int64) (yes : Int) (hl_yes : 0 ≤ yes) (hu_yes : yes ≤ 1)  (fr lo : Nat) (hfr : 3 ≤ fr) (hlo : 72 ≤ lo) : WP 158 0 (lv_args 0 [.ref 20, .long la, .long lb, iV yes]) [] fr lo σ (fun v τ => ∃ z : Int, v = some (iV z) ∧ ((-2147483648) ≤ z ∧ z ≤ 2147483647) ∧ GI τ ∧ FR Wc25 σ τ) := by
  show WP 158 0 [(0, .ref 20), (1, .long la), (3, .long lb), (5, iV yes)] [] _ _ _ _
  refine wp_al1 jF_158_0 rfl rfl (pc2 := 1) ?_
  refine wp_ll1 jF_158_1 rfl rfl (pc2 := 2) ?_
  refine wp_ll1 jF_158_2 rfl rfl (pc2 := 3) ?_
  refine wp_cV (as := [.long la, .long lb]) (rest := []) (a := 20) (mx := 7) (ci := 8) jF_158_3 kd20 (by decide) rfl rfl rfl rfl rfl (by omega) (by omega) rfl (pc2 := 6) ?_
  refine wp_use (m_159_r20 σ hg la lb  _ _ (by omega) (by omega)) ?_
  rintro _ τ1 ⟨rfl, g2, f3⟩
  show WP 158 6 [(0, .ref 20), (1, .long la), (3, .long lb), (5, iV yes)] [] _ _ _ _
  refine wp_ic jF_158_6 rfl (pc2 := 7) ?_
  refine wp_is2 (lv2 := [(0, .ref 20), (1, .long la), (3, .long lb), (5, iV yes), (6, iV 0)]) jF_158_7 rfl rfl rfl (pc2 := 9) ?_
  refine wp_ic jF_158_9 rfl (pc2 := 10) ?_
  refine wp_is2 (lv2 := [(0, .ref 20), (1, .long la), (3, .long lb), (5, iV yes), (6, iV 0), (7, iV 0)]) jF_158_10 rfl rfl rfl (pc2 := 12) ?_
  refine wp_loop (α := Int × Int) (fun a => [(0, .ref 20), (1, .long la), (3, .long lb), (5, iV yes), (6, iV (a.1)), (7, iV (a.2))]) (fun a τ => ((-2147483648) ≤ a.1 ∧ a.1 ≤ 2147483647) ∧ (0 ≤ a.2 ∧ a.2 ≤ 5) ∧ τ1 = τ) (fun a τ => Int.toNat (5 - (a.2))) (0, 0) τ1 ?_ ?_
  · skip
    exact ⟨⟨by (try dsimp only); omega, by (try dsimp only); omega⟩, ⟨by (try dsimp only); omega, by (try dsimp only); omega⟩, rfl⟩
  · rintro ⟨x4, x5⟩ _ ⟨h6, h7, rfl⟩ ih11
    try dsimp only at h6 h7
    show WP 158 12 [(0, .ref 20), (1, .long la), (3, .long lb), (5, iV yes), (6, iV x4), (7, iV x5)] [] _ _ _ _
    show WP 158 12 [(0, .ref 20), (1, .long la), (3, .long lb), (5, iV yes), (6, iV x4), (7, iV x5)] [] _ _ _ _
    refine wp_il2 jF_158_12 rfl rfl (pc2 := 14) ?_
    refine wp_al1 jF_158_14 rfl rfl (pc2 := 15) ?_
    have b12 := GI.b hg 20 11 kd20 (lo := 0) (hi := 5) rfl
    refine wp_gi jF_158_15 kd20 (by decide) rfl (FR.at f3 20 11 rfl) rfl (pc2 := 18) ?_
    refine wp_i_ge jF_158_18 (m_rgb h7 rfl) (m_rgb b12 rfl) rfl (pc2 := 21) ?_ ?_
    · intro h13
      refine wp_il2 jF_158_67 rfl rfl (pc2 := 69) ?_
      refine wp_ri jF_158_69 rfl ?_
      exact ⟨x4, rfl, ⟨by omega, by omega⟩, g2, f3⟩
    · intro h13
      refine wp_il2 jF_158_21 rfl rfl (pc2 := 23) ?_
      refine wp_z_eq jF_158_23 ⟨by omega, by omega⟩ rfl (pc2 := 26) ?_ ?_
      · intro h14
        refine wp_al1 jF_158_39 rfl rfl (pc2 := 40) ?_
        refine wp_gr (b := 25) jF_158_40 kd20 (by decide) (c := 8) rfl rfl rfl (pc2 := 43) ?_
        refine wp_il2 jF_158_43 rfl rfl (pc2 := 45) ?_
        have b15 := GI.b g2 25 x5.toNat kd25 (lo := (-2147483648)) (hi := 2147483647) rfl
        refine wp_iald (n := 5) (e := (τ1.1 25 x5.toNat)) jF_158_45 kd25 (by decide) rfl rfl (by omega) (by omega) rfl rfl (pc2 := 46) ?_
        refine wp_z_ge jF_158_46 (m_rgb b15 rfl) rfl (pc2 := 49) ?_ ?_
        · intro h16
          refine wp_inc (lv2 := [(0, .ref 20), (1, .long la), (3, .long lb), (5, iV yes), (6, iV x4), (7, iV (x5 + 1))]) jF_158_61 rfl rfl rfl rfl (pc2 := 64) ?_
          refine wp_go jF_158_64 ?_
          exact ih11 (x4, (x5 + 1)) τ1 ⟨⟨by (try dsimp only); omega, by (try dsimp only); omega⟩, ⟨by (try dsimp only); omega, by (try dsimp only); omega⟩, rfl⟩ (by show Int.toNat (5 - (x5 + 1)) < Int.toNat (5 - x5); omega)
        · intro h16
          refine wp_il2 jF_158_49 rfl rfl (pc2 := 51) ?_
          refine wp_al1 jF_158_51 rfl rfl (pc2 := 52) ?_
          refine wp_gr (b := 24) jF_158_52 kd20 (by decide) (c := 7) rfl rfl rfl (pc2 := 55) ?_
          refine wp_il2 jF_158_55 rfl rfl (pc2 := 57) ?_
          have b17 := GI.b hg 24 x5.toNat kd24 (lo := (-2147483648)) (hi := 2147483647) rfl
          refine wp_iald (n := 5) (e := (σ.1 24 x5.toNat)) jF_158_57 kd24 (by decide) rfl rfl (by omega) (by omega) (FR.at f3 24 x5.toNat rfl) rfl (pc2 := 58) ?_
          refine wp_any2 (pc2 := 59) jF_158_58 rfl rfl ?_
          intro z18 h19
          refine wp_is2 (lv2 := [(0, .ref 20), (1, .long la), (3, .long lb), (5, iV yes), (6, iV z18), (7, iV x5)]) jF_158_59 rfl rfl rfl (pc2 := 61) ?_
          refine wp_inc (lv2 := [(0, .ref 20), (1, .long la), (3, .long lb), (5, iV yes), (6, iV z18), (7, iV (x5 + 1))]) jF_158_61 rfl rfl rfl rfl (pc2 := 64) ?_
          refine wp_go jF_158_64 ?_
          exact ih11 (z18, (x5 + 1)) τ1 ⟨⟨by (try dsimp only); omega, by (try dsimp only); omega⟩, ⟨by (try dsimp only); omega, by (try dsimp only); omega⟩, rfl⟩ (by show Int.toNat (5 - (x5 + 1)) < Int.toNat (5 - x5); omega)
      · intro h14
        refine wp_al1 jF_158_26 rfl rfl (pc2 := 27) ?_
        refine wp_gr (b := 25) jF_158_27 kd20 (by decide) (c := 8) rfl rfl rfl (pc2 := 30) ?_
        refine wp_il2 jF_158_30 rfl rfl (pc2 := 32) ?_
        have b20 := GI.b g2 25 x5.toNat kd25 (lo := (-2147483648)) (hi := 2147483647) rfl
        refine wp_iald (n := 5) (e := (τ1.1 25 x5.toNat)) jF_158_32 kd25 (by decide) rfl rfl (by omega) (by omega) rfl rfl (pc2 := 33) ?_
        refine wp_z_le jF_158_33 (m_rgb b20 rfl) rfl (pc2 := 36) ?_ ?_
        · intro h21
          refine wp_inc (lv2 := [(0, .ref 20), (1, .long la), (3, .long lb), (5, iV yes), (6, iV x4), (7, iV (x5 + 1))]) jF_158_61 rfl rfl rfl rfl (pc2 := 64) ?_
          refine wp_go jF_158_64 ?_
          exact ih11 (x4, (x5 + 1)) τ1 ⟨⟨by (try dsimp only); omega, by (try dsimp only); omega⟩, ⟨by (try dsimp only); omega, by (try dsimp only); omega⟩, rfl⟩ (by show Int.toNat (5 - (x5 + 1)) < Int.toNat (5 - x5); omega)
        · intro h21
          refine wp_go jF_158_36 ?_
          refine wp_il2 jF_158_49 rfl rfl (pc2 := 51) ?_
          refine wp_al1 jF_158_51 rfl rfl (pc2 := 52) ?_
          refine wp_gr (b := 24) jF_158_52 kd20 (by decide) (c := 7) rfl rfl rfl (pc2 := 55) ?_
          refine wp_il2 jF_158_55 rfl rfl (pc2 := 57) ?_
          have b22 := GI.b hg 24 x5.toNat kd24 (lo := (-2147483648)) (hi := 2147483647) rfl
          refine wp_iald (n := 5) (e := (σ.1 24 x5.toNat)) jF_158_57 kd24 (by decide) rfl rfl (by omega) (by omega) (FR.at f3 24 x5.toNat rfl) rfl (pc2 := 58) ?_
          refine wp_any2 (pc2 := 59) jF_158_58 rfl rfl ?_
          intro z23 h24
          refine wp_is2 (lv2 := [(0, .ref 20), (1, .long la), (3, .long lb), (5, iV yes), (6, iV z23), (7, iV x5)]) jF_158_59 rfl rfl rfl (pc2 := 61) ?_
          refine wp_inc (lv2 := [(0, .ref 20), (1, .long la), (3, .long lb), (5, iV yes), (6, iV z23), (7, iV (x5 + 1))]) jF_158_61 rfl rfl rfl rfl (pc2 := 64) ?_
          refine wp_go jF_158_64 ?_
          exact ih11 (z23, (x5 + 1)) τ1 ⟨⟨by (try dsimp only); omega, by (try dsimp only); omega⟩, ⟨by (try dsimp only); omega, by (try dsimp only); omega⟩, rfl⟩ (by show Int.toNat (5 - (x5 + 1)) < Int.toNat (5 - x5); omega)
set_option maxHeartbeats 4000000 in
set_option maxRecDepth 20000 in
/-- Tongue.isVoted -/
theorem m_162_r20 (σ : jM) (hg : GI σ) (la : Int64) (lb : Int64)  (fr lo : Nat) (hfr : 3 ≤ fr) (hlo : 72 ≤ lo) : WP 162 0 (lv_args 0 [.ref 20, .long la, .long lb]) [] fr lo σ (fun v τ => ∃ z : Int, v = some (iV z) ∧ (0 ≤ z ∧ z ≤ 1) ∧ GI τ ∧ FR Wc25 σ τ) := by
  show WP 162 0 [(0, .ref 20), (1, .long la), (3, .long lb)] [] _ _ _ _
  refine wp_ll1 jF_162_0 rfl rfl (pc2 := 1) ?_
  refine wp_ll1 jF_162_1 rfl rfl (pc2 := 2) ?_
  refine wp_anyL (pc2 := 3) jF_162_2 rfl rfl ?_
  intro z1 h2
  refine wp_z_ne jF_162_3 (m_rgb h2 rfl) rfl (pc2 := 6) ?_ ?_
  · intro h3
    refine wp_al1 jF_162_8 rfl rfl (pc2 := 9) ?_
    refine wp_ll1 jF_162_9 rfl rfl (pc2 := 10) ?_
    refine wp_ll1 jF_162_10 rfl rfl (pc2 := 11) ?_
    refine wp_cV (as := [.long la, .long lb]) (rest := []) (a := 20) (mx := 7) (ci := 8) jF_162_11 kd20 (by decide) rfl rfl rfl rfl rfl (by omega) (by omega) rfl (pc2 := 14) ?_
    refine wp_use (m_159_r20 σ hg la lb  _ _ (by omega) (by omega)) ?_
    rintro _ τ4 ⟨rfl, g5, f6⟩
    show WP 162 14 [(0, .ref 20), (1, .long la), (3, .long lb)] [] _ _ _ _
    refine wp_ic jF_162_14 rfl (pc2 := 15) ?_
    refine wp_is2 (lv2 := [(0, .ref 20), (1, .long la), (3, .long lb), (5, iV 0)]) jF_162_15 rfl rfl rfl (pc2 := 17) ?_
    refine wp_ic jF_162_17 rfl (pc2 := 18) ?_
    refine wp_is2 (lv2 := [(0, .ref 20), (1, .long la), (3, .long lb), (5, iV 0), (6, iV 0)]) jF_162_18 rfl rfl rfl (pc2 := 20) ?_
    refine wp_loop (α := Int × Int) (fun a => [(0, .ref 20), (1, .long la), (3, .long lb), (5, iV (a.1)), (6, iV (a.2))]) (fun a τ => ((-2147483648) ≤ a.1 ∧ a.1 ≤ 2147483647) ∧ (0 ≤ a.2 ∧ a.2 ≤ 5) ∧ τ4 = τ) (fun a τ => Int.toNat (5 - (a.2))) (0, 0) τ4 ?_ ?_
    · skip
      exact ⟨⟨by (try dsimp only); omega, by (try dsimp only); omega⟩, ⟨by (try dsimp only); omega, by (try dsimp only); omega⟩, rfl⟩
    · rintro ⟨x7, x8⟩ _ ⟨h9, h10, rfl⟩ ih14
      try dsimp only at h9 h10
      show WP 162 20 [(0, .ref 20), (1, .long la), (3, .long lb), (5, iV x7), (6, iV x8)] [] _ _ _ _
      show WP 162 20 [(0, .ref 20), (1, .long la), (3, .long lb), (5, iV x7), (6, iV x8)] [] _ _ _ _
      refine wp_il2 jF_162_20 rfl rfl (pc2 := 22) ?_
      refine wp_al1 jF_162_22 rfl rfl (pc2 := 23) ?_
      have b15 := GI.b hg 20 11 kd20 (lo := 0) (hi := 5) rfl
      refine wp_gi jF_162_23 kd20 (by decide) rfl (FR.at f6 20 11 rfl) rfl (pc2 := 26) ?_
      refine wp_i_ge jF_162_26 (m_rgb h10 rfl) (m_rgb b15 rfl) rfl (pc2 := 29) ?_ ?_
      · intro h16
        refine wp_il2 jF_162_78 rfl rfl (pc2 := 80) ?_
        refine wp_z_le jF_162_80 (m_rgb h9 rfl) rfl (pc2 := 83) ?_ ?_
        · intro h17
          refine wp_ic jF_162_87 rfl (pc2 := 88) ?_
          refine wp_ri jF_162_88 rfl ?_
          exact ⟨0, rfl, ⟨by omega, by omega⟩, g5, f6⟩
        · intro h17
          refine wp_ic jF_162_83 rfl (pc2 := 84) ?_
          refine wp_go jF_162_84 ?_
          refine wp_ri jF_162_88 rfl ?_
          exact ⟨1, rfl, ⟨by omega, by omega⟩, g5, f6⟩
      · intro h16
        refine wp_al1 jF_162_29 rfl rfl (pc2 := 30) ?_
        refine wp_gr (b := 25) jF_162_30 kd20 (by decide) (c := 8) rfl rfl rfl (pc2 := 33) ?_
        refine wp_il2 jF_162_33 rfl rfl (pc2 := 35) ?_
        have b18 := GI.b g5 25 x8.toNat kd25 (lo := (-2147483648)) (hi := 2147483647) rfl
        refine wp_iald (n := 5) (e := (τ4.1 25 x8.toNat)) jF_162_35 kd25 (by decide) rfl rfl (by omega) (by omega) rfl rfl (pc2 := 36) ?_
        refine wp_z_eq jF_162_36 (m_rgb b18 rfl) rfl (pc2 := 39) ?_ ?_
        · intro h19
          refine wp_inc (lv2 := [(0, .ref 20), (1, .long la), (3, .long lb), (5, iV x7), (6, iV (x8 + 1))]) jF_162_72 rfl rfl rfl rfl (pc2 := 75) ?_
          refine wp_go jF_162_75 ?_
          exact ih14 (x7, (x8 + 1)) τ4 ⟨⟨by (try dsimp only); omega, by (try dsimp only); omega⟩, ⟨by (try dsimp only); omega, by (try dsimp only); omega⟩, rfl⟩ (by show Int.toNat (5 - (x8 + 1)) < Int.toNat (5 - x8); omega)
        · intro h19
          refine wp_il2 jF_162_39 rfl rfl (pc2 := 41) ?_
          refine wp_al1 jF_162_41 rfl rfl (pc2 := 42) ?_
          refine wp_gr (b := 25) jF_162_42 kd20 (by decide) (c := 8) rfl rfl rfl (pc2 := 45) ?_
          refine wp_il2 jF_162_45 rfl rfl (pc2 := 47) ?_
          refine wp_iald (n := 5) (e := (τ4.1 25 x8.toNat)) jF_162_47 kd25 (by decide) rfl rfl (by omega) (by omega) rfl rfl (pc2 := 48) ?_
          refine wp_z_le jF_162_48 (m_rgb b18 rfl) rfl (pc2 := 51) ?_ ?_
          · intro h20
            refine wp_al1 jF_162_61 rfl rfl (pc2 := 62) ?_
            refine wp_gr (b := 24) jF_162_62 kd20 (by decide) (c := 7) rfl rfl rfl (pc2 := 65) ?_
            refine wp_il2 jF_162_65 rfl rfl (pc2 := 67) ?_
            have b21 := GI.b hg 24 x8.toNat kd24 (lo := (-2147483648)) (hi := 2147483647) rfl
            refine wp_iald (n := 5) (e := (σ.1 24 x8.toNat)) jF_162_67 kd24 (by decide) rfl rfl (by omega) (by omega) (FR.at f6 24 x8.toNat rfl) rfl (pc2 := 68) ?_
            refine wp_any1 (pc2 := 69) jF_162_68 rfl rfl ?_
            intro z22 h23
            refine wp_any2 (pc2 := 70) jF_162_69 rfl rfl ?_
            intro z24 h25
            refine wp_is2 (lv2 := [(0, .ref 20), (1, .long la), (3, .long lb), (5, iV z24), (6, iV x8)]) jF_162_70 rfl rfl rfl (pc2 := 72) ?_
            refine wp_inc (lv2 := [(0, .ref 20), (1, .long la), (3, .long lb), (5, iV z24), (6, iV (x8 + 1))]) jF_162_72 rfl rfl rfl rfl (pc2 := 75) ?_
            refine wp_go jF_162_75 ?_
            exact ih14 (z24, (x8 + 1)) τ4 ⟨⟨by (try dsimp only); omega, by (try dsimp only); omega⟩, ⟨by (try dsimp only); omega, by (try dsimp only); omega⟩, rfl⟩ (by show Int.toNat (5 - (x8 + 1)) < Int.toNat (5 - x8); omega)
          · intro h20
            refine wp_al1 jF_162_51 rfl rfl (pc2 := 52) ?_
            refine wp_gr (b := 24) jF_162_52 kd20 (by decide) (c := 7) rfl rfl rfl (pc2 := 55) ?_
            refine wp_il2 jF_162_55 rfl rfl (pc2 := 57) ?_
            have b26 := GI.b hg 24 x8.toNat kd24 (lo := (-2147483648)) (hi := 2147483647) rfl
            refine wp_iald (n := 5) (e := (σ.1 24 x8.toNat)) jF_162_57 kd24 (by decide) rfl rfl (by omega) (by omega) (FR.at f6 24 x8.toNat rfl) rfl (pc2 := 58) ?_
            refine wp_go jF_162_58 ?_
            refine wp_any2 (pc2 := 70) jF_162_69 rfl rfl ?_
            intro z27 h28
            refine wp_is2 (lv2 := [(0, .ref 20), (1, .long la), (3, .long lb), (5, iV z27), (6, iV x8)]) jF_162_70 rfl rfl rfl (pc2 := 72) ?_
            refine wp_inc (lv2 := [(0, .ref 20), (1, .long la), (3, .long lb), (5, iV z27), (6, iV (x8 + 1))]) jF_162_72 rfl rfl rfl rfl (pc2 := 75) ?_
            refine wp_go jF_162_75 ?_
            exact ih14 (z27, (x8 + 1)) τ4 ⟨⟨by (try dsimp only); omega, by (try dsimp only); omega⟩, ⟨by (try dsimp only); omega, by (try dsimp only); omega⟩, rfl⟩ (by show Int.toNat (5 - (x8 + 1)) < Int.toNat (5 - x8); omega)
  · intro h3
    refine wp_ic jF_162_6 rfl (pc2 := 7) ?_
    refine wp_ri jF_162_7 rfl ?_
    exact ⟨0, rfl, ⟨by omega, by omega⟩, hg, FR.rf⟩
set_option maxHeartbeats 4000000 in
set_option maxRecDepth 20000 in
/-- Tongue.clear -/
theorem m_30_r45 (σ : jM) (hg : GI σ)   (fr lo : Nat) (hfr : 1 ≤ fr) (hlo : 24 ≤ lo) : WP 30 0 (lv_args 0 [.ref 45]) [] fr lo σ (fun v τ => v = none ∧ GI τ ∧ FR WG45 σ τ ∧ ((τ.1 58 5) = 0) ∧ ((τ.1 64 5) = 0)) := by
  show WP 30 0 [(0, .ref 45)] [] _ _ _ _
  refine wp_al1 jF_30_0 rfl rfl (pc2 := 1) ?_
  refine wp_gr (b := 46) jF_30_1 kd45 (by decide) (c := 4) rfl rfl rfl (pc2 := 4) ?_
  refine wp_ic jF_30_4 rfl (pc2 := 5) ?_
  refine wp_cS (as := [.ref 46, iV 0]) (rest := []) (mx := 4) jF_30_5 rfl rfl rfl rfl (by omega) (by omega) rfl (pc2 := 8) ?_
  refine wp_use (m_31_r46 σ hg   _ _ (by omega) (by omega)) ?_
  rintro _ τ1 ⟨rfl, g2, f3⟩
  show WP 30 8 [(0, .ref 45)] [] _ _ _ _
  refine wp_al1 jF_30_8 rfl rfl (pc2 := 9) ?_
  refine wp_gr (b := 47) jF_30_9 kd45 (by decide) (c := 5) rfl rfl rfl (pc2 := 12) ?_
  refine wp_ic jF_30_12 rfl (pc2 := 13) ?_
  refine wp_cS (as := [.ref 47, iV 0]) (rest := []) (mx := 4) jF_30_13 rfl rfl rfl rfl (by omega) (by omega) rfl (pc2 := 16) ?_
  refine wp_use (m_31_r47 τ1 g2   _ _ (by omega) (by omega)) ?_
  rintro _ τ4 ⟨rfl, g5, f6⟩
  show WP 30 16 [(0, .ref 45)] [] _ _ _ _
  refine wp_al1 jF_30_16 rfl rfl (pc2 := 17) ?_
  refine wp_gr (b := 51) jF_30_17 kd45 (by decide) (c := 9) rfl rfl rfl (pc2 := 20) ?_
  refine wp_lc jF_30_20 rfl (pc2 := 21) ?_
  refine wp_cS (as := [.ref 51, .long (Int64.ofNat 0)]) (rest := []) (mx := 5) jF_30_21 rfl rfl rfl rfl (by omega) (by omega) rfl (pc2 := 24) ?_
  refine wp_use (m_32_r51 τ4 g5 (Int64.ofNat 0)  _ _ (by omega) (by omega)) ?_
  rintro _ τ7 ⟨rfl, g8, f9⟩
  show WP 30 24 [(0, .ref 45)] [] _ _ _ _
  refine wp_al1 jF_30_24 rfl rfl (pc2 := 25) ?_
  refine wp_gr (b := 52) jF_30_25 kd45 (by decide) (c := 10) rfl rfl rfl (pc2 := 28) ?_
  refine wp_cV (as := []) (rest := []) (a := 52) (mx := 1) (ci := 7) jF_30_28 kd52 (by decide) rfl rfl rfl rfl rfl (by omega) (by omega) rfl (pc2 := 31) ?_
  refine wp_use (m_33_r52 τ7 g8   _ _ (by omega) (by omega)) ?_
  rintro _ τ11 ⟨rfl, g12, f13, p10⟩
  show WP 30 31 [(0, .ref 45)] [] _ _ _ _
  refine wp_al1 jF_30_31 rfl rfl (pc2 := 32) ?_
  refine wp_gr (b := 58) jF_30_32 kd45 (by decide) (c := 16) rfl rfl rfl (pc2 := 35) ?_
  refine wp_cV (as := []) (rest := []) (a := 58) (mx := 1) (ci := 7) jF_30_35 kd58 (by decide) rfl rfl rfl rfl rfl (by omega) (by omega) rfl (pc2 := 38) ?_
  refine wp_use (m_33_r58 τ11 g12   _ _ (by omega) (by omega)) ?_
  rintro _ τ15 ⟨rfl, g16, f17, p14⟩
  show WP 30 38 [(0, .ref 45)] [] _ _ _ _
  refine wp_al1 jF_30_38 rfl rfl (pc2 := 39) ?_
  refine wp_gr (b := 64) jF_30_39 kd45 (by decide) (c := 22) rfl rfl rfl (pc2 := 42) ?_
  refine wp_cV (as := []) (rest := []) (a := 64) (mx := 1) (ci := 7) jF_30_42 kd64 (by decide) rfl rfl rfl rfl rfl (by omega) (by omega) rfl (pc2 := 45) ?_
  refine wp_use (m_33_r64 τ15 g16   _ _ (by omega) (by omega)) ?_
  rintro _ τ19 ⟨rfl, g20, f21, p18⟩
  show WP 30 45 [(0, .ref 45)] [] _ _ _ _
  refine wp_al1 jF_30_45 rfl rfl (pc2 := 46) ?_
  refine wp_ic jF_30_46 rfl (pc2 := 47) ?_
  refine wp_pi jF_30_47 kd45 (by decide) rfl rfl rfl (pc2 := 50) g20 (lo := 0) (hi := 6) rfl (by omega) (by omega) ?_
  intro τ22 g23 f24 e25
  refine wp_al1 jF_30_50 rfl rfl (pc2 := 51) ?_
  refine wp_bi jF_30_51 (by decide) rfl (pc2 := 53) ?_
  refine wp_pi jF_30_53 kd45 (by decide) rfl rfl rfl (pc2 := 56) g23 (lo := (-2147483648)) (hi := 2147483647) rfl (by omega) (by omega) ?_
  intro τ26 g27 f28 e29
  refine wp_al1 jF_30_56 rfl rfl (pc2 := 57) ?_
  refine wp_ic jF_30_57 rfl (pc2 := 58) ?_
  refine wp_pi jF_30_58 kd45 (by decide) rfl rfl rfl (pc2 := 61) g27 (lo := 0) (hi := 5) rfl (by omega) (by omega) ?_
  intro τ30 g31 f32 e33
  refine wp_al1 jF_30_61 rfl rfl (pc2 := 62) ?_
  refine wp_ic jF_30_62 rfl (pc2 := 63) ?_
  refine wp_pi jF_30_63 kd45 (by decide) rfl rfl rfl (pc2 := 66) g31 (lo := (-2147483648)) (hi := 2147483647) rfl (by omega) (by omega) ?_
  intro τ34 g35 f36 e37
  refine wp_al1 jF_30_66 rfl rfl (pc2 := 67) ?_
  refine wp_lc jF_30_67 rfl (pc2 := 68) ?_
  refine wp_pl jF_30_68 kd45 (by decide) rfl rfl (pc2 := 71) g35 ?_
  intro τ38 g39 f40
  refine wp_rv jF_30_71 ?_
  have b41 := GI.b g16 58 5 kd58 (lo := 0) (hi := 16) rfl
  have q42 : (τ38.1 58 5) = (τ15.1 58 5) := ((FRw.na f40 (by decide)).trans ((FRw.na f36 (by decide)).trans ((FRw.na f32 (by decide)).trans ((FRw.na f28 (by decide)).trans ((FRw.na f24 (by decide)).trans (FR.at f21 58 5 rfl))))))
  have b43 := GI.b g20 64 5 kd64 (lo := 0) (hi := 16) rfl
  have q44 : (τ38.1 64 5) = (τ19.1 64 5) := ((FRw.na f40 (by decide)).trans ((FRw.na f36 (by decide)).trans ((FRw.na f32 (by decide)).trans ((FRw.na f28 (by decide)).trans (FRw.na f24 (by decide))))))
  exact ⟨rfl, g39, (FR.w (FR.w (FR.w (FR.w (FR.w (FR.up (FR.up (FR.up (FR.up (FR.up (FR.up FR.rf f3 sb_Wc46_WG45) f6 sb_Wc47_WG45) f9 sb_Wc51_WG45) f13 sb_WT52_WG45) f17 sb_WT58_WG45) f21 sb_WT64_WG45) f24 rfl) f28 rfl) f32 rfl) f36 rfl) f40 rfl), (by omega), (by omega)⟩
set_option maxHeartbeats 4000000 in
set_option maxRecDepth 20000 in
/-- Tongue.number -/
theorem m_91_r45 (σ : jM) (hg : GI σ) (what : Int) (hl_what : (-2147483648) ≤ what) (hu_what : what ≤ 2147483647)  (fr lo : Nat) (hfr : 0 ≤ fr) (hlo : 0 ≤ lo) : WP 91 0 (lv_args 0 [.ref 45, iV what]) [] fr lo σ (fun v τ => ∃ z : Int, v = some (iV z) ∧ ((-2147483648) ≤ z ∧ z ≤ 2147483647) ∧ σ = τ) := by
  show WP 91 0 [(0, .ref 45), (1, iV what)] [] _ _ _ _
  refine wp_il1 jF_91_0 rfl rfl (pc2 := 1) ?_
  rcases m_tsw what 0 9 with h1 | h1
  · refine wp_tswd (tgt := 107) jF_91_1 ⟨by omega, by omega⟩ h1 (by decide) ?_
    refine wp_ic jF_91_107 rfl (pc2 := 108) ?_
    refine wp_ri jF_91_108 rfl ?_
    exact ⟨(-1), rfl, ⟨by omega, by omega⟩, rfl⟩
  · have h1c : what = 0 ∨ what = 1 ∨ what = 2 ∨ what = 3 ∨ what = 4 ∨ what = 5 ∨ what = 6 ∨ what = 7 ∨ what = 8 ∨ what = 9 := by omega
    rcases h1c with hh | hh | hh | hh | hh | hh | hh | hh | hh | hh
    · refine wp_tswx (x := 0) (tgt := 56) jF_91_1 hh (by decide) ?_
      subst hh
      refine wp_al1 jF_91_56 rfl rfl (pc2 := 57) ?_
      refine wp_gr (b := 47) jF_91_57 kd45 (by decide) (c := 5) rfl rfl rfl (pc2 := 60) ?_
      refine wp_il1 jF_91_60 rfl rfl (pc2 := 61) ?_
      have b2 := GI.b hg 47 0 kd47 (lo := 0) (hi := 4) rfl
      refine wp_iald (n := 3) (e := (σ.1 47 0)) jF_91_61 kd47 (by decide) rfl rfl (by omega) (by omega) rfl rfl (pc2 := 62) ?_
      refine wp_ri jF_91_62 rfl ?_
      exact ⟨(σ.1 47 0), rfl, ⟨by omega, by omega⟩, rfl⟩
    · refine wp_tswx (x := 1) (tgt := 56) jF_91_1 hh (by decide) ?_
      subst hh
      refine wp_al1 jF_91_56 rfl rfl (pc2 := 57) ?_
      refine wp_gr (b := 47) jF_91_57 kd45 (by decide) (c := 5) rfl rfl rfl (pc2 := 60) ?_
      refine wp_il1 jF_91_60 rfl rfl (pc2 := 61) ?_
      have b3 := GI.b hg 47 1 kd47 (lo := 0) (hi := 4) rfl
      refine wp_iald (n := 3) (e := (σ.1 47 1)) jF_91_61 kd47 (by decide) rfl rfl (by omega) (by omega) rfl rfl (pc2 := 62) ?_
      refine wp_ri jF_91_62 rfl ?_
      exact ⟨(σ.1 47 1), rfl, ⟨by omega, by omega⟩, rfl⟩
    · refine wp_tswx (x := 2) (tgt := 56) jF_91_1 hh (by decide) ?_
      subst hh
      refine wp_al1 jF_91_56 rfl rfl (pc2 := 57) ?_
      refine wp_gr (b := 47) jF_91_57 kd45 (by decide) (c := 5) rfl rfl rfl (pc2 := 60) ?_
      refine wp_il1 jF_91_60 rfl rfl (pc2 := 61) ?_
      have b4 := GI.b hg 47 2 kd47 (lo := 0) (hi := 4) rfl
      refine wp_iald (n := 3) (e := (σ.1 47 2)) jF_91_61 kd47 (by decide) rfl rfl (by omega) (by omega) rfl rfl (pc2 := 62) ?_
      refine wp_ri jF_91_62 rfl ?_
      exact ⟨(σ.1 47 2), rfl, ⟨by omega, by omega⟩, rfl⟩
    · refine wp_tswx (x := 3) (tgt := 63) jF_91_1 hh (by decide) ?_
      subst hh
      refine wp_al1 jF_91_63 rfl rfl (pc2 := 64) ?_
      have b5 := GI.b hg 45 9 kd45 (lo := 0) (hi := 6) rfl
      refine wp_gi jF_91_64 kd45 (by decide) rfl rfl rfl (pc2 := 67) ?_
      refine wp_ri jF_91_67 rfl ?_
      exact ⟨(σ.1 45 9), rfl, ⟨by omega, by omega⟩, rfl⟩
    · refine wp_tswx (x := 4) (tgt := 68) jF_91_1 hh (by decide) ?_
      subst hh
      refine wp_al1 jF_91_68 rfl rfl (pc2 := 69) ?_
      have b6 := GI.b hg 45 10 kd45 (lo := (-2147483648)) (hi := 2147483647) rfl
      refine wp_gi jF_91_69 kd45 (by decide) rfl rfl rfl (pc2 := 72) ?_
      refine wp_ri jF_91_72 rfl ?_
      exact ⟨(σ.1 45 10), rfl, ⟨by omega, by omega⟩, rfl⟩
    · refine wp_tswx (x := 5) (tgt := 73) jF_91_1 hh (by decide) ?_
      subst hh
      refine wp_al1 jF_91_73 rfl rfl (pc2 := 74) ?_
      have b7 := GI.b hg 45 11 kd45 (lo := 0) (hi := 5) rfl
      refine wp_gi jF_91_74 kd45 (by decide) rfl rfl rfl (pc2 := 77) ?_
      refine wp_ri jF_91_77 rfl ?_
      exact ⟨(σ.1 45 11), rfl, ⟨by omega, by omega⟩, rfl⟩
    · refine wp_tswx (x := 6) (tgt := 78) jF_91_1 hh (by decide) ?_
      subst hh
      refine wp_al1 jF_91_78 rfl rfl (pc2 := 79) ?_
      refine wp_gr (b := 52) jF_91_79 kd45 (by decide) (c := 10) rfl rfl rfl (pc2 := 82) ?_
      have b8 := GI.b hg 52 5 kd52 (lo := 0) (hi := 16) rfl
      refine wp_gi jF_91_82 kd52 (by decide) rfl rfl rfl (pc2 := 85) ?_
      refine wp_ri jF_91_85 rfl ?_
      exact ⟨(σ.1 52 5), rfl, ⟨by omega, by omega⟩, rfl⟩
    · refine wp_tswx (x := 7) (tgt := 86) jF_91_1 hh (by decide) ?_
      subst hh
      refine wp_al1 jF_91_86 rfl rfl (pc2 := 87) ?_
      refine wp_gr (b := 58) jF_91_87 kd45 (by decide) (c := 16) rfl rfl rfl (pc2 := 90) ?_
      have b9 := GI.b hg 58 5 kd58 (lo := 0) (hi := 16) rfl
      refine wp_gi jF_91_90 kd58 (by decide) rfl rfl rfl (pc2 := 93) ?_
      refine wp_ri jF_91_93 rfl ?_
      exact ⟨(σ.1 58 5), rfl, ⟨by omega, by omega⟩, rfl⟩
    · refine wp_tswx (x := 8) (tgt := 94) jF_91_1 hh (by decide) ?_
      subst hh
      refine wp_al1 jF_91_94 rfl rfl (pc2 := 95) ?_
      refine wp_gr (b := 64) jF_91_95 kd45 (by decide) (c := 22) rfl rfl rfl (pc2 := 98) ?_
      have b10 := GI.b hg 64 5 kd64 (lo := 0) (hi := 16) rfl
      refine wp_gi jF_91_98 kd64 (by decide) rfl rfl rfl (pc2 := 101) ?_
      refine wp_ri jF_91_101 rfl ?_
      exact ⟨(σ.1 64 5), rfl, ⟨by omega, by omega⟩, rfl⟩
    · refine wp_tswx (x := 9) (tgt := 102) jF_91_1 hh (by decide) ?_
      subst hh
      refine wp_al1 jF_91_102 rfl rfl (pc2 := 103) ?_
      have b11 := GI.b hg 45 12 kd45 (lo := (-2147483648)) (hi := 2147483647) rfl
      refine wp_gi jF_91_103 kd45 (by decide) rfl rfl rfl (pc2 := 106) ?_
      refine wp_ri jF_91_106 rfl ?_
      exact ⟨(σ.1 45 12), rfl, ⟨by omega, by omega⟩, rfl⟩
