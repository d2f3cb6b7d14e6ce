set_option maxHeartbeats 4000000 in
set_option maxRecDepth 20000 in
/-- M.image -/
theorem m_354 (σ : jM) (hg : GI σ)   (fr lo : Nat) (hfr : 1 ≤ fr) (hlo : 23 ≤ lo) : WP 354 0 (lv_args 0 [.ref 117]) [] fr lo σ (fun v τ => ∃ z : Int, v = some (iV z) ∧ (0 ≤ z ∧ z ≤ 123) ∧ GI τ ∧ FR Wimg σ τ) := by
  show WP 354 0 [(0, .ref 117)] [] _ _ _ _
  refine wp_al1 jF_354_0 rfl rfl (pc2 := 1) ?_
  refine wp_ic jF_354_1 rfl (pc2 := 2) ?_
  refine wp_pi jF_354_2 kd117 (by decide) rfl rfl rfl (pc2 := 5) hg (lo := 0) (hi := 123) rfl (by omega) (by omega) ?_
  intro τ1 g2 f3 e4
  refine wp_ic jF_354_5 rfl (pc2 := 6) ?_
  refine wp_is1 (lv2 := [(0, .ref 117), (1, iV 0)]) jF_354_6 rfl rfl rfl (pc2 := 7) ?_
  refine wp_loop (α := Int) (fun a => [(0, .ref 117), (1, iV (a))]) (fun a τ => (0 ≤ a ∧ a ≤ 2) ∧ GI τ ∧ FR Wimg τ1 τ ∧ ((τ.1 117 97) ≤ 61 * (a))) (fun a τ => Int.toNat (2 - (a))) (0) τ1 ?_ ?_
  · skip
    have q5 : (τ1.1 117 97) = 0 := e4
    exact ⟨⟨by omega, by omega⟩, g2, FR.rf, (by omega)⟩
  · rintro x6 τ8 ⟨h7, g9, f10, p11⟩ ih12
    have b13 := GI.b g9 117 97 kd117 (lo := 0) (hi := 123) rfl
    show WP 354 7 [(0, .ref 117), (1, iV x6)] [] _ _ _ _
    show WP 354 7 [(0, .ref 117), (1, iV x6)] [] _ _ _ _
    refine wp_il1 jF_354_7 rfl rfl (pc2 := 8) ?_
    refine wp_ic jF_354_8 rfl (pc2 := 9) ?_
    refine wp_i_ge jF_354_9 (m_rgb h7 rfl) (m_rgl rfl) rfl (pc2 := 12) ?_ ?_
    · intro h14
      refine wp_al1 jF_354_91 rfl rfl (pc2 := 92) ?_
      refine wp_gr (b := 179) jF_354_92 kd117 (by decide) (c := 279) rfl rfl rfl (pc2 := 95) ?_
      refine wp_al1 jF_354_95 rfl rfl (pc2 := 96) ?_
      refine wp_gi jF_354_96 kd117 (by decide) rfl rfl rfl (pc2 := 99) ?_
      refine wp_al1 jF_354_99 rfl rfl (pc2 := 100) ?_
      refine wp_gr (b := 179) jF_354_100 kd117 (by decide) (c := 279) rfl rfl rfl (pc2 := 103) ?_
      refine wp_al1 jF_354_103 rfl rfl (pc2 := 104) ?_
      refine wp_gi jF_354_104 kd117 (by decide) rfl rfl rfl (pc2 := 107) ?_
      refine wp_cS (as := [.ref 179, iV (τ8.1 117 97)]) (rest := [iV (τ8.1 117 97), .ref 179]) (mx := 4) jF_354_107 rfl rfl rfl rfl (by omega) (by omega) rfl (pc2 := 110) ?_
      show WP 355 0 [(0, .ref 179), (1, iV (τ8.1 117 97))] [] _ _ _ _
      refine wp_bi jF_355_0 (by decide) rfl (pc2 := 2) ?_
      refine wp_is1 (lv2 := [(0, .ref 179), (1, iV (τ8.1 117 97)), (2, iV 101)]) jF_355_2 rfl rfl rfl (pc2 := 3) ?_
      refine wp_ic jF_355_3 rfl (pc2 := 4) ?_
      refine wp_is1 (lv2 := [(0, .ref 179), (1, iV (τ8.1 117 97)), (2, iV 101), (3, iV 0)]) jF_355_4 rfl rfl rfl (pc2 := 5) ?_
      refine wp_loop (α := Int × Int) (fun a => [(0, .ref 179), (1, iV (τ8.1 117 97)), (2, iV (a.1)), (3, iV (a.2))]) (fun a τ => ((-2147483648) ≤ a.1 ∧ a.1 ≤ 2147483647) ∧ (0 ≤ a.2 ∧ a.2 ≤ 1600) ∧ τ8 = τ) (fun a τ => Int.toNat ((τ8.1 117 97) - (a.2))) (101, 0) τ8 ?_ ?_
      · skip
        exact ⟨⟨by (try dsimp only); omega, by (try dsimp only); omega⟩, ⟨by (try dsimp only); omega, by (try dsimp only); omega⟩, rfl⟩
      · rintro ⟨x15, x16⟩ _ ⟨h17, h18, rfl⟩ ih22
        try dsimp only at h17 h18
        show WP 355 5 [(0, .ref 179), (1, iV (τ8.1 117 97)), (2, iV x15), (3, iV x16)] [] _ _ _ _
        show WP 355 5 [(0, .ref 179), (1, iV (τ8.1 117 97)), (2, iV x15), (3, iV x16)] [] _ _ _ _
        refine wp_il1 jF_355_5 rfl rfl (pc2 := 6) ?_
        refine wp_il1 jF_355_6 rfl rfl (pc2 := 7) ?_
        refine wp_i_ge jF_355_7 (m_rgb h18 rfl) (m_rgb b13 rfl) rfl (pc2 := 10) ?_ ?_
        · intro h23
          refine wp_il1 jF_355_28 rfl rfl (pc2 := 29) ?_
          refine wp_ri jF_355_29 rfl ?_
          show WP 354 110 [(0, .ref 117), (1, iV x6)] [iV x15, iV (τ8.1 117 97), .ref 179] _ _ _ _
          refine wp_iast (n := 123) jF_354_110 kd179 (by decide) rfl rfl (by omega) (by omega) rfl (pc2 := 111) g9 (lo := (-2147483648)) (hi := 2147483647) rfl (by omega) (by omega) ?_
          intro τ24 g25 f26 e27
          refine wp_al1 jF_354_111 rfl rfl (pc2 := 112) ?_
          refine wp_dup jF_354_112 rfl rfl (pc2 := 113) ?_
          refine wp_gi jF_354_113 kd117 (by decide) rfl (FRw.na f26 (by decide)) rfl (pc2 := 116) ?_
          refine wp_ic jF_354_116 rfl (pc2 := 117) ?_
          refine wp_add jF_354_117 rfl (pc2 := 118) ?_
          refine wp_pi jF_354_118 kd117 (by decide) rfl rfl rfl (pc2 := 121) g25 (lo := 0) (hi := 123) rfl (by omega) (by omega) ?_
          intro τ28 g29 f30 e31
          refine wp_al1 jF_354_121 rfl rfl (pc2 := 122) ?_
          refine wp_gi jF_354_122 kd117 (by decide) rfl e31 rfl (pc2 := 125) ?_
          refine wp_ri jF_354_125 rfl ?_
          exact ⟨((τ8.1 117 97) + 1), rfl, ⟨by omega, by omega⟩, g29, (FR.w (FR.w (FR.up (FR.w FR.rf f3 rfl) f10 sb_Wimg_Wimg) f26 rfl) f30 rfl)⟩
        · intro h23
          refine wp_ic jF_355_10 rfl (pc2 := 11) ?_
          refine wp_il1 jF_355_11 rfl rfl (pc2 := 12) ?_
          refine wp_any2 (pc2 := 13) jF_355_12 rfl rfl ?_
          intro z32 h33
          refine wp_al1 jF_355_13 rfl rfl (pc2 := 14) ?_
          refine wp_il1 jF_355_14 rfl rfl (pc2 := 15) ?_
          have b34 := GI.b g9 179 x16.toNat kd179 (lo := (-2147483648)) (hi := 2147483647) rfl
          refine wp_iald (n := 123) (e := (τ8.1 179 x16.toNat)) jF_355_15 kd179 (by decide) rfl rfl (by omega) (by omega) rfl rfl (pc2 := 16) ?_
          refine wp_any2 (pc2 := 17) jF_355_16 rfl rfl ?_
          intro z35 h36
          refine wp_si jF_355_17 (by decide) rfl (pc2 := 20) ?_
          refine wp_irema jF_355_20 (m_rgl rfl) (by omega) rfl (pc2 := 21) ?_
          intro z37 h38
          refine wp_is1 (lv2 := [(0, .ref 179), (1, iV (τ8.1 117 97)), (2, iV z37), (3, iV x16)]) jF_355_21 rfl rfl rfl (pc2 := 22) ?_
          refine wp_inc (lv2 := [(0, .ref 179), (1, iV (τ8.1 117 97)), (2, iV z37), (3, iV (x16 + 1))]) jF_355_22 rfl rfl rfl rfl (pc2 := 25) ?_
          refine wp_go jF_355_25 ?_
          exact ih22 (z37, (x16 + 1)) τ8 ⟨⟨by (try dsimp only); omega, by (try dsimp only); omega⟩, ⟨by (try dsimp only); omega, by (try dsimp only); omega⟩, rfl⟩ (by show Int.toNat ((τ8.1 117 97) - (x16 + 1)) < Int.toNat ((τ8.1 117 97) - x16); omega)
    · intro h14
      refine wp_al1 jF_354_12 rfl rfl (pc2 := 13) ?_
      refine wp_gr (b := 179) jF_354_13 kd117 (by decide) (c := 279) rfl rfl rfl (pc2 := 16) ?_
      refine wp_al1 jF_354_16 rfl rfl (pc2 := 17) ?_
      refine wp_gi jF_354_17 kd117 (by decide) rfl rfl rfl (pc2 := 20) ?_
      refine wp_al1 jF_354_20 rfl rfl (pc2 := 21) ?_
      refine wp_gr (b := 148) jF_354_21 kd117 (by decide) (c := 248) rfl rfl rfl (pc2 := 24) ?_
      refine wp_il1 jF_354_24 rfl rfl (pc2 := 25) ?_
      have b39 := GI.b hg 148 x6.toNat kd148 (lo := 0) (hi := 60) rfl
      refine wp_iald (n := 2) (e := (σ.1 148 x6.toNat)) jF_354_25 kd148 (by decide) rfl rfl (by omega) (by omega) ((FR.at f10 148 x6.toNat rfl).trans (FRw.na f3 (by decide))) rfl (pc2 := 26) ?_
      refine wp_iast (n := 123) jF_354_26 kd179 (by decide) rfl rfl (by omega) (by omega) rfl (pc2 := 27) g9 (lo := (-2147483648)) (hi := 2147483647) rfl (by omega) (by omega) ?_
      intro τ40 g41 f42 e43
      refine wp_al1 jF_354_27 rfl rfl (pc2 := 28) ?_
      refine wp_dup jF_354_28 rfl rfl (pc2 := 29) ?_
      refine wp_gi jF_354_29 kd117 (by decide) rfl (FRw.na f42 (by decide)) rfl (pc2 := 32) ?_
      refine wp_ic jF_354_32 rfl (pc2 := 33) ?_
      refine wp_add jF_354_33 rfl (pc2 := 34) ?_
      refine wp_pi jF_354_34 kd117 (by decide) rfl rfl rfl (pc2 := 37) g41 (lo := 0) (hi := 123) rfl (by omega) (by omega) ?_
      intro τ44 g45 f46 e47
      refine wp_ic jF_354_37 rfl (pc2 := 38) ?_
      refine wp_is1 (lv2 := [(0, .ref 117), (1, iV x6), (2, iV 0)]) jF_354_38 rfl rfl rfl (pc2 := 39) ?_
      refine wp_loop (α := Int) (fun a => [(0, .ref 117), (1, iV x6), (2, iV (a))]) (fun a τ => (0 ≤ a ∧ a ≤ 60) ∧ GI τ ∧ FR Wimg τ44 τ ∧ ((τ.1 117 97) ≤ 61 * x6 + 1 + (a))) (fun a τ => Int.toNat (60 - (a))) (0) τ44 ?_ ?_
      · skip
        have q48 : (τ44.1 117 97) = ((τ8.1 117 97) + 1) := e47
        exact ⟨⟨by omega, by omega⟩, g45, FR.rf, (by omega)⟩
      · rintro x49 τ51 ⟨h50, g52, f53, p54⟩ ih55
        have b56 := GI.b g52 117 97 kd117 (lo := 0) (hi := 123) rfl
        show WP 354 39 [(0, .ref 117), (1, iV x6), (2, iV x49)] [] _ _ _ _
        show WP 354 39 [(0, .ref 117), (1, iV x6), (2, iV x49)] [] _ _ _ _
        refine wp_il1 jF_354_39 rfl rfl (pc2 := 40) ?_
        refine wp_al1 jF_354_40 rfl rfl (pc2 := 41) ?_
        refine wp_gr (b := 148) jF_354_41 kd117 (by decide) (c := 248) rfl rfl rfl (pc2 := 44) ?_
        refine wp_il1 jF_354_44 rfl rfl (pc2 := 45) ?_
        refine wp_iald (n := 2) (e := (σ.1 148 x6.toNat)) jF_354_45 kd148 (by decide) rfl rfl (by omega) (by omega) ((FR.at f53 148 x6.toNat rfl).trans ((FRw.na f46 (by decide)).trans ((FRw.na f42 (by decide)).trans ((FR.at f10 148 x6.toNat rfl).trans (FRw.na f3 (by decide)))))) rfl (pc2 := 46) ?_
        refine wp_i_ge jF_354_46 (m_rgb h50 rfl) (m_rgb b39 rfl) rfl (pc2 := 49) ?_ ?_
        · intro h57
          refine wp_inc (lv2 := [(0, .ref 117), (1, iV (x6 + 1)), (2, iV x49)]) jF_354_85 rfl rfl rfl rfl (pc2 := 88) ?_
          refine wp_go jF_354_88 ?_
          refine wp_less [0, 1] (lv2 := [(0, .ref 117), (1, iV (x6 + 1))]) rfl rfl ?_
          exact ih12 ((x6 + 1)) τ51 ⟨⟨by omega, by omega⟩, g52, (FR.up (FR.w (FR.w f10 f42 rfl) f46 rfl) f53 sb_Wimg_Wimg), (by omega)⟩ (by show Int.toNat (2 - (x6 + 1)) < Int.toNat (2 - x6); omega)
        · intro h57
          refine wp_al1 jF_354_49 rfl rfl (pc2 := 50) ?_
          refine wp_gr (b := 179) jF_354_50 kd117 (by decide) (c := 279) rfl rfl rfl (pc2 := 53) ?_
          refine wp_al1 jF_354_53 rfl rfl (pc2 := 54) ?_
          refine wp_gi jF_354_54 kd117 (by decide) rfl rfl rfl (pc2 := 57) ?_
          refine wp_al1 jF_354_57 rfl rfl (pc2 := 58) ?_
          refine wp_gr (b := 147) jF_354_58 kd117 (by decide) (c := 247) rfl rfl rfl (pc2 := 61) ?_
          refine wp_bi jF_354_61 (by decide) rfl (pc2 := 63) ?_
          refine wp_il1 jF_354_63 rfl rfl (pc2 := 64) ?_
          refine wp_mul jF_354_64 rfl (pc2 := 65) ?_
          refine wp_il1 jF_354_65 rfl rfl (pc2 := 66) ?_
          refine wp_add jF_354_66 rfl (pc2 := 67) ?_
          have b58 := GI.b hg 147 ((64 * x6) + x49).toNat kd147 (lo := 0) (hi := 255) rfl
          refine wp_iald (n := 128) (e := (σ.1 147 ((64 * x6) + x49).toNat)) jF_354_67 kd147 (by decide) rfl rfl (by omega) (by omega) ((FR.at f53 147 ((64 * x6) + x49).toNat rfl).trans ((FRw.na f46 (by decide)).trans ((FRw.na f42 (by decide)).trans ((FR.at f10 147 ((64 * x6) + x49).toNat rfl).trans (FRw.na f3 (by decide)))))) rfl (pc2 := 68) ?_
          refine wp_iast (n := 123) jF_354_68 kd179 (by decide) rfl rfl (by omega) (by omega) rfl (pc2 := 69) g52 (lo := (-2147483648)) (hi := 2147483647) rfl (by omega) (by omega) ?_
          intro τ59 g60 f61 e62
          refine wp_al1 jF_354_69 rfl rfl (pc2 := 70) ?_
          refine wp_dup jF_354_70 rfl rfl (pc2 := 71) ?_
          refine wp_gi jF_354_71 kd117 (by decide) rfl (FRw.na f61 (by decide)) rfl (pc2 := 74) ?_
          refine wp_ic jF_354_74 rfl (pc2 := 75) ?_
          refine wp_add jF_354_75 rfl (pc2 := 76) ?_
          refine wp_pi jF_354_76 kd117 (by decide) rfl rfl rfl (pc2 := 79) g60 (lo := 0) (hi := 123) rfl (by omega) (by omega) ?_
          intro τ63 g64 f65 e66
          refine wp_inc (lv2 := [(0, .ref 117), (1, iV x6), (2, iV (x49 + 1))]) jF_354_79 rfl rfl rfl rfl (pc2 := 82) ?_
          refine wp_go jF_354_82 ?_
          have q67 : (τ63.1 117 97) = ((τ51.1 117 97) + 1) := e66
          exact ih55 ((x49 + 1)) τ63 ⟨⟨by omega, by omega⟩, g64, (FR.w (FR.w f53 f61 rfl) f65 rfl), (by omega)⟩ (by show Int.toNat (60 - (x49 + 1)) < Int.toNat (60 - x49); omega)
