set_option maxHeartbeats 4000000 in
set_option maxRecDepth 20000 in
/-- Question.plain -/
theorem m_191_r16_t20 (σ : jM) (hg : GI σ) (step : Int) (hl_step : (-2147483648) ≤ step) (hu_step : step ≤ 2147483647) (nb : Int) (hl_nb : 0 ≤ nb) (hu_nb : nb ≤ 2147483647) (hr0 : σ.2.2 16 8 = 20) (hr1 : σ.2.2 16 9 = 70) (hr2 : σ.2.2 16 10 = 75)  (fr lo : Nat) (hfr : 1 ≤ fr) (hlo : 22 ≤ lo) : WP 191 0 (lv_args 0 [.ref 16, iV step, iV nb]) [] fr lo σ (fun v τ => ∃ z : Int64, v = some (.long z) ∧ σ = τ) := by
  show WP 191 0 [(0, .ref 16), (1, iV step), (2, iV nb)] [] _ _ _ _
  refine wp_al1 jF_191_0 rfl rfl (pc2 := 1) ?_
  refine wp_gr jF_191_1 kd16 (by decide) (c := 2) rfl (m_fv2 hr0 rfl) rfl (pc2 := 4) ?_
  refine wp_ic jF_191_4 rfl (pc2 := 5) ?_
  refine wp_cV (as := [iV 0]) (rest := []) (a := 20) (mx := 2) (ci := 8) jF_191_5 kd20 (by decide) rfl rfl rfl rfl rfl (by omega) (by omega) rfl (pc2 := 8) ?_
  refine wp_use (m_91_r20 σ hg 0 (by omega) (by omega)  _ _ (by omega) (by omega)) ?_
  rintro _ _ ⟨z3, rfl, h4, rfl⟩
  show WP 191 8 [(0, .ref 16), (1, iV step), (2, iV nb)] [iV z3] _ _ _ _
  refine wp_is1 (lv2 := [(0, .ref 16), (1, iV step), (2, iV nb), (3, iV z3)]) jF_191_8 rfl rfl rfl (pc2 := 9) ?_
  refine wp_al1 jF_191_9 rfl rfl (pc2 := 10) ?_
  refine wp_gr jF_191_10 kd16 (by decide) (c := 2) rfl (m_fv2 hr0 rfl) rfl (pc2 := 13) ?_
  refine wp_ic jF_191_13 rfl (pc2 := 14) ?_
  refine wp_cV (as := [iV 1]) (rest := []) (a := 20) (mx := 2) (ci := 8) jF_191_14 kd20 (by decide) rfl rfl rfl rfl rfl (by omega) (by omega) rfl (pc2 := 17) ?_
  refine wp_use (m_91_r20 σ hg 1 (by omega) (by omega)  _ _ (by omega) (by omega)) ?_
  rintro _ _ ⟨z7, rfl, h8, rfl⟩
  show WP 191 17 [(0, .ref 16), (1, iV step), (2, iV nb), (3, iV z3)] [iV z7] _ _ _ _
  refine wp_is2 (lv2 := [(0, .ref 16), (1, iV step), (2, iV nb), (3, iV z3), (4, iV z7)]) jF_191_17 rfl rfl rfl (pc2 := 19) ?_
  refine wp_il1 jF_191_19 rfl rfl (pc2 := 20) ?_
  refine wp_z_le jF_191_20 (m_rgb h4 rfl) rfl (pc2 := 23) ?_ ?_
  · intro h9
    refine wp_lc jF_191_28 rfl (pc2 := 29) ?_
    refine wp_rl jF_191_29 ?_
    exact ⟨(Int64.ofNat 0), rfl, rfl⟩
  · intro h9
    refine wp_il2 jF_191_23 rfl rfl (pc2 := 25) ?_
    refine wp_z_gt jF_191_25 (m_rgb h8 rfl) rfl (pc2 := 28) ?_ ?_
    · intro h10
      refine wp_il1 jF_191_30 rfl rfl (pc2 := 31) ?_
      rcases m_tsw step 6 12 with h11 | h11
      · refine wp_tswd (tgt := 130) jF_191_31 ⟨by omega, by omega⟩ h11 (by decide) ?_
        refine wp_lc jF_191_130 rfl (pc2 := 131) ?_
        refine wp_rl jF_191_131 ?_
        exact ⟨(Int64.ofNat 0), rfl, rfl⟩
      · have h11c : step = 6 ∨ step = 7 ∨ step = 8 ∨ step = 9 ∨ step = 10 ∨ step = 11 ∨ step = 12 := by omega
        rcases h11c with hh | hh | hh | hh | hh | hh | hh
        · refine wp_tswx (x := 6) (tgt := 72) jF_191_31 hh (by decide) ?_
          subst hh
          refine wp_lc jF_191_72 rfl (pc2 := 73) ?_
          refine wp_rl jF_191_73 ?_
          exact ⟨(Int64.ofNat 1), rfl, rfl⟩
        · refine wp_tswx (x := 7) (tgt := 74) jF_191_31 hh (by decide) ?_
          subst hh
          refine wp_il1 jF_191_74 rfl rfl (pc2 := 75) ?_
          refine wp_i2l jF_191_75 rfl (pc2 := 76) ?_
          refine wp_rl jF_191_76 ?_
          exact ⟨(Int32.toInt64 (Int32.ofInt nb)), rfl, rfl⟩
        · refine wp_tswx (x := 8) (tgt := 77) jF_191_31 hh (by decide) ?_
          subst hh
          refine wp_il1 jF_191_77 rfl rfl (pc2 := 78) ?_
          refine wp_il1 jF_191_78 rfl rfl (pc2 := 79) ?_
          refine wp_remp jF_191_79 ⟨by omega, by omega⟩ (by omega) ⟨by omega, by omega⟩ (by omega) rfl (pc2 := 80) ?_
          intro z12 h13
          refine wp_i2l jF_191_80 rfl (pc2 := 81) ?_
          refine wp_rl jF_191_81 ?_
          exact ⟨(Int32.toInt64 (Int32.ofInt z12)), rfl, rfl⟩
        · refine wp_tswx (x := 9) (tgt := 82) jF_191_31 hh (by decide) ?_
          subst hh
          refine wp_il1 jF_191_82 rfl rfl (pc2 := 83) ?_
          refine wp_il1 jF_191_83 rfl rfl (pc2 := 84) ?_
          refine wp_divp jF_191_84 ⟨by omega, by omega⟩ (by omega) ⟨by omega, by omega⟩ (by omega) rfl (pc2 := 85) ?_
          intro z14 h15
          refine wp_il2 jF_191_85 rfl rfl (pc2 := 87) ?_
          refine wp_remp jF_191_87 ⟨by omega, by omega⟩ (by omega) ⟨by omega, by omega⟩ (by omega) rfl (pc2 := 88) ?_
          intro z16 h17
          refine wp_i2l jF_191_88 rfl (pc2 := 89) ?_
          refine wp_rl jF_191_89 ?_
          exact ⟨(Int32.toInt64 (Int32.ofInt z16)), rfl, rfl⟩
        · refine wp_tswx (x := 10) (tgt := 90) jF_191_31 hh (by decide) ?_
          subst hh
          refine wp_il1 jF_191_90 rfl rfl (pc2 := 91) ?_
          refine wp_il1 jF_191_91 rfl rfl (pc2 := 92) ?_
          refine wp_divp jF_191_92 ⟨by omega, by omega⟩ (by omega) ⟨by omega, by omega⟩ (by omega) rfl (pc2 := 93) ?_
          intro z18 h19
          refine wp_il2 jF_191_93 rfl rfl (pc2 := 95) ?_
          refine wp_divp jF_191_95 ⟨by omega, by omega⟩ (by omega) ⟨by omega, by omega⟩ (by omega) rfl (pc2 := 96) ?_
          intro z20 h21
          refine wp_i2l jF_191_96 rfl (pc2 := 97) ?_
          refine wp_rl jF_191_97 ?_
          exact ⟨(Int32.toInt64 (Int32.ofInt z20)), rfl, rfl⟩
        · refine wp_tswx (x := 11) (tgt := 98) jF_191_31 hh (by decide) ?_
          subst hh
          refine wp_al1 jF_191_98 rfl rfl (pc2 := 99) ?_
          refine wp_gr jF_191_99 kd16 (by decide) (c := 2) rfl (m_fv2 hr1 rfl) rfl (pc2 := 102) ?_
          refine wp_glA jF_191_102 kd70 (by decide) rfl rfl (pc2 := 105) ?_
          intro y22
          refine wp_il1 jF_191_105 rfl rfl (pc2 := 106) ?_
          refine wp_cS (as := [.long y22, iV nb]) (rest := []) (mx := 3) jF_191_106 rfl rfl rfl rfl (by omega) (by omega) rfl (pc2 := 109) ?_
          show WP 101 0 [(0, .long y22), (2, iV nb)] [] _ _ _ _
          refine wp_ll1 jF_101_0 rfl rfl (pc2 := 1) ?_
          refine wp_il1 jF_101_1 rfl rfl (pc2 := 2) ?_
          refine wp_lng (pc2 := 3) jF_101_2 rfl rfl ?_
          intro y23
          refine wp_lc jF_101_3 rfl (pc2 := 4) ?_
          refine wp_lng (pc2 := 5) jF_101_4 rfl rfl ?_
          intro y24
          refine wp_lc jF_101_5 rfl (pc2 := 6) ?_
          refine wp_anyL (pc2 := 7) jF_101_6 rfl rfl ?_
          intro z25 h26
          refine wp_z_eq jF_101_7 (m_rgb h26 rfl) rfl (pc2 := 10) ?_ ?_
          · intro h27
            refine wp_ic jF_101_14 rfl (pc2 := 15) ?_
            refine wp_ri jF_101_15 rfl ?_
            show WP 191 109 [(0, .ref 16), (1, iV 11), (2, iV nb), (3, iV z3), (4, iV z7)] [iV 0] _ _ _ _
            refine wp_cS (as := [iV 0]) (rest := []) (mx := 1) jF_191_109 rfl rfl rfl rfl (by omega) (by omega) rfl (pc2 := 112) ?_
            show WP 98 0 [(0, iV 0)] [] _ _ _ _
            refine wp_il1 jF_98_0 rfl rfl (pc2 := 1) ?_
            refine wp_z_eq jF_98_1 (m_rgl rfl) rfl (pc2 := 4) ?_ ?_
            · intro h28
              refine wp_ic jF_98_8 rfl (pc2 := 9) ?_
              refine wp_ri jF_98_9 rfl ?_
              show WP 191 112 [(0, .ref 16), (1, iV 11), (2, iV nb), (3, iV z3), (4, iV z7)] [iV 0] _ _ _ _
              refine wp_i2l jF_191_112 rfl (pc2 := 113) ?_
              refine wp_rl jF_191_113 ?_
              exact ⟨(Int32.toInt64 (Int32.ofInt 0)), rfl, rfl⟩
            · intro h28; exfalso; omega
          · intro h27
            refine wp_ic jF_101_10 rfl (pc2 := 11) ?_
            refine wp_go jF_101_11 ?_
            refine wp_ri jF_101_15 rfl ?_
            show WP 191 109 [(0, .ref 16), (1, iV 11), (2, iV nb), (3, iV z3), (4, iV z7)] [iV 1] _ _ _ _
            refine wp_cS (as := [iV 1]) (rest := []) (mx := 1) jF_191_109 rfl rfl rfl rfl (by omega) (by omega) rfl (pc2 := 112) ?_
            show WP 98 0 [(0, iV 1)] [] _ _ _ _
            refine wp_il1 jF_98_0 rfl rfl (pc2 := 1) ?_
            refine wp_z_eq jF_98_1 (m_rgl rfl) rfl (pc2 := 4) ?_ ?_
            · intro h29; exfalso; omega
            · intro h29
              refine wp_ic jF_98_4 rfl (pc2 := 5) ?_
              refine wp_go jF_98_5 ?_
              refine wp_ri jF_98_9 rfl ?_
              show WP 191 112 [(0, .ref 16), (1, iV 11), (2, iV nb), (3, iV z3), (4, iV z7)] [iV 1] _ _ _ _
              refine wp_i2l jF_191_112 rfl (pc2 := 113) ?_
              refine wp_rl jF_191_113 ?_
              exact ⟨(Int32.toInt64 (Int32.ofInt 1)), rfl, rfl⟩
        · refine wp_tswx (x := 12) (tgt := 114) jF_191_31 hh (by decide) ?_
          subst hh
          refine wp_al1 jF_191_114 rfl rfl (pc2 := 115) ?_
          refine wp_gr jF_191_115 kd16 (by decide) (c := 2) rfl (m_fv2 hr2 rfl) rfl (pc2 := 118) ?_
          refine wp_glA jF_191_118 kd75 (by decide) rfl rfl (pc2 := 121) ?_
          intro y30
          refine wp_il1 jF_191_121 rfl rfl (pc2 := 122) ?_
          refine wp_cS (as := [.long y30, iV nb]) (rest := []) (mx := 3) jF_191_122 rfl rfl rfl rfl (by omega) (by omega) rfl (pc2 := 125) ?_
          show WP 101 0 [(0, .long y30), (2, iV nb)] [] _ _ _ _
          refine wp_ll1 jF_101_0 rfl rfl (pc2 := 1) ?_
          refine wp_il1 jF_101_1 rfl rfl (pc2 := 2) ?_
          refine wp_lng (pc2 := 3) jF_101_2 rfl rfl ?_
          intro y31
          refine wp_lc jF_101_3 rfl (pc2 := 4) ?_
          refine wp_lng (pc2 := 5) jF_101_4 rfl rfl ?_
          intro y32
          refine wp_lc jF_101_5 rfl (pc2 := 6) ?_
          refine wp_anyL (pc2 := 7) jF_101_6 rfl rfl ?_
          intro z33 h34
          refine wp_z_eq jF_101_7 (m_rgb h34 rfl) rfl (pc2 := 10) ?_ ?_
          · intro h35
            refine wp_ic jF_101_14 rfl (pc2 := 15) ?_
            refine wp_ri jF_101_15 rfl ?_
            show WP 191 125 [(0, .ref 16), (1, iV 12), (2, iV nb), (3, iV z3), (4, iV z7)] [iV 0] _ _ _ _
            refine wp_cS (as := [iV 0]) (rest := []) (mx := 1) jF_191_125 rfl rfl rfl rfl (by omega) (by omega) rfl (pc2 := 128) ?_
            show WP 98 0 [(0, iV 0)] [] _ _ _ _
            refine wp_il1 jF_98_0 rfl rfl (pc2 := 1) ?_
            refine wp_z_eq jF_98_1 (m_rgl rfl) rfl (pc2 := 4) ?_ ?_
            · intro h36
              refine wp_ic jF_98_8 rfl (pc2 := 9) ?_
              refine wp_ri jF_98_9 rfl ?_
              show WP 191 128 [(0, .ref 16), (1, iV 12), (2, iV nb), (3, iV z3), (4, iV z7)] [iV 0] _ _ _ _
              refine wp_i2l jF_191_128 rfl (pc2 := 129) ?_
              refine wp_rl jF_191_129 ?_
              exact ⟨(Int32.toInt64 (Int32.ofInt 0)), rfl, rfl⟩
            · intro h36; exfalso; omega
          · intro h35
            refine wp_ic jF_101_10 rfl (pc2 := 11) ?_
            refine wp_go jF_101_11 ?_
            refine wp_ri jF_101_15 rfl ?_
            show WP 191 125 [(0, .ref 16), (1, iV 12), (2, iV nb), (3, iV z3), (4, iV z7)] [iV 1] _ _ _ _
            refine wp_cS (as := [iV 1]) (rest := []) (mx := 1) jF_191_125 rfl rfl rfl rfl (by omega) (by omega) rfl (pc2 := 128) ?_
            show WP 98 0 [(0, iV 1)] [] _ _ _ _
            refine wp_il1 jF_98_0 rfl rfl (pc2 := 1) ?_
            refine wp_z_eq jF_98_1 (m_rgl rfl) rfl (pc2 := 4) ?_ ?_
            · intro h37; exfalso; omega
            · intro h37
              refine wp_ic jF_98_4 rfl (pc2 := 5) ?_
              refine wp_go jF_98_5 ?_
              refine wp_ri jF_98_9 rfl ?_
              show WP 191 128 [(0, .ref 16), (1, iV 12), (2, iV nb), (3, iV z3), (4, iV z7)] [iV 1] _ _ _ _
              refine wp_i2l jF_191_128 rfl (pc2 := 129) ?_
              refine wp_rl jF_191_129 ?_
              exact ⟨(Int32.toInt64 (Int32.ofInt 1)), rfl, rfl⟩
    · intro h10
      refine wp_lc jF_191_28 rfl (pc2 := 29) ?_
      refine wp_rl jF_191_29 ?_
      exact ⟨(Int64.ofNat 0), rfl, rfl⟩
set_option maxHeartbeats 4000000 in
set_option maxRecDepth 20000 in
/-- Question.valueIn -/
theorem m_189_r16_t20 (σ : jM) (hg : GI σ) (nb : Int) (hl_nb : 0 ≤ nb) (hu_nb : nb ≤ 2147483647) (hr0 : σ.2.2 16 8 = 20) (hr1 : σ.2.2 16 9 = 70) (hr2 : σ.2.2 16 10 = 75)  (fr lo : Nat) (hfr : 3 ≤ fr) (hlo : 68 ≤ lo) : WP 189 0 (lv_args 0 [.ref 16, iV nb]) [] fr lo σ (fun v τ => ∃ z : Int64, v = some (.long z) ∧ GI τ ∧ FR WQp σ τ) := by
  show WP 189 0 [(0, .ref 16), (1, iV nb)] [] _ _ _ _
  refine wp_al1 jF_189_0 rfl rfl (pc2 := 1) ?_
  refine wp_ic jF_189_1 rfl (pc2 := 2) ?_
  refine wp_pi jF_189_2 kd16 (by decide) rfl rfl rfl (pc2 := 5) hg (lo := 0) (hi := 64) rfl (by omega) (by omega) ?_
  intro τ1 g2 f3 e4
  refine wp_ic jF_189_5 rfl (pc2 := 6) ?_
  refine wp_is1 (lv2 := [(0, .ref 16), (1, iV nb), (2, iV 0)]) jF_189_6 rfl rfl rfl (pc2 := 7) ?_
  refine wp_loop (α := Int) (fun a => [(0, .ref 16), (1, iV nb), (2, iV (a))]) (fun a τ => (0 ≤ a ∧ a ≤ 1600) ∧ GI τ ∧ FR WQp τ1 τ) (fun a τ => Int.toNat (1600 - (a))) (0) τ1 ?_ ?_
  · skip
    exact ⟨⟨by omega, by omega⟩, g2, FR.rf⟩
  · rintro x5 τ7 ⟨h6, g8, f9⟩ ih10
    show WP 189 7 [(0, .ref 16), (1, iV nb), (2, iV x5)] [] _ _ _ _
    show WP 189 7 [(0, .ref 16), (1, iV nb), (2, iV x5)] [] _ _ _ _
    refine wp_il1 jF_189_7 rfl rfl (pc2 := 8) ?_
    refine wp_al1 jF_189_8 rfl rfl (pc2 := 9) ?_
    have b11 := GI.b hg 16 4 kd16 (lo := 0) (hi := 1600) rfl
    refine wp_gi jF_189_9 kd16 (by decide) rfl ((FR.at f9 16 4 rfl).trans (FRw.nj f3 (by decide))) rfl (pc2 := 12) ?_
    refine wp_i_ge jF_189_12 (m_rgb h6 rfl) (m_rgb b11 rfl) rfl (pc2 := 15) ?_ ?_
    · intro h12
      refine wp_al1 jF_189_134 rfl rfl (pc2 := 135) ?_
      refine wp_cV (as := []) (rest := []) (a := 16) (mx := 1) (ci := 3) jF_189_135 kd16 (by decide) rfl rfl rfl rfl rfl (by omega) (by omega) rfl (pc2 := 138) ?_
      refine wp_use (m_192_r16 τ7 g8   _ _ (by omega) (by omega)) ?_
      rintro _ τ13 ⟨y16, rfl, g14, f15⟩
      show WP 189 138 [(0, .ref 16), (1, iV nb), (2, iV x5)] [.long y16] _ _ _ _
      refine wp_rl jF_189_138 ?_
      exact ⟨y16, rfl, g14, (FR.up (FR.up (FR.w FR.rf f3 rfl) f9 sb_WQp_WQp) f15 sb_WQp_WQp)⟩
    · intro h12
      refine wp_al1 jF_189_15 rfl rfl (pc2 := 16) ?_
      refine wp_gr (b := 18) jF_189_16 kd16 (by decide) (c := 118) rfl rfl rfl (pc2 := 19) ?_
      refine wp_il1 jF_189_19 rfl rfl (pc2 := 20) ?_
      have b17 := GI.b hg 18 x5.toNat kd18 (lo := (-1000000)) (hi := 1000000) rfl
      refine wp_iald (n := 1600) (e := (σ.1 18 x5.toNat)) jF_189_20 kd18 (by decide) rfl rfl (by omega) (by omega) ((FR.at f9 18 x5.toNat rfl).trans (FRw.na f3 (by decide))) rfl (pc2 := 21) ?_
      refine wp_is1 (lv2 := [(0, .ref 16), (1, iV nb), (2, iV x5), (3, iV (σ.1 18 x5.toNat))]) jF_189_21 rfl rfl rfl (pc2 := 22) ?_
      refine wp_il1 jF_189_22 rfl rfl (pc2 := 23) ?_
      refine wp_si jF_189_23 (by decide) rfl (pc2 := 26) ?_
      refine wp_i_lt jF_189_26 (m_rgb b17 rfl) (m_rgl rfl) rfl (pc2 := 29) ?_ ?_
      · intro h18
        refine wp_il1 jF_189_42 rfl rfl (pc2 := 43) ?_
        refine wp_bi jF_189_43 (by decide) rfl (pc2 := 45) ?_
        refine wp_i_lt jF_189_45 ⟨by omega, by omega⟩ (m_rgl rfl) rfl (pc2 := 48) ?_ ?_
        · intro h19
          refine wp_il1 jF_189_67 rfl rfl (pc2 := 68) ?_
          refine wp_bi jF_189_68 (by decide) rfl (pc2 := 70) ?_
          refine wp_i_ne jF_189_70 ⟨by omega, by omega⟩ (m_rgl rfl) rfl (pc2 := 73) ?_ ?_
          · intro h20
            refine wp_il1 jF_189_86 rfl rfl (pc2 := 87) ?_
            refine wp_bi jF_189_87 (by decide) rfl (pc2 := 89) ?_
            refine wp_i_ne jF_189_89 ⟨by omega, by omega⟩ (m_rgl rfl) rfl (pc2 := 92) ?_ ?_
            · intro h21
              refine wp_al1 jF_189_108 rfl rfl (pc2 := 109) ?_
              refine wp_cV (as := []) (rest := []) (a := 16) (mx := 1) (ci := 3) jF_189_109 kd16 (by decide) rfl rfl rfl rfl rfl (by omega) (by omega) rfl (pc2 := 112) ?_
              refine wp_use (m_192_r16 τ7 g8   _ _ (by omega) (by omega)) ?_
              rintro _ τ22 ⟨y25, rfl, g23, f24⟩
              show WP 189 112 [(0, .ref 16), (1, iV nb), (2, iV x5), (3, iV (σ.1 18 x5.toNat))] [.long y25] _ _ _ _
              refine wp_ls2 (lv2 := [(0, .ref 16), (1, iV nb), (2, iV x5), (3, iV (σ.1 18 x5.toNat)), (4, .long y25)]) jF_189_112 rfl rfl rfl (pc2 := 114) ?_
              refine wp_al1 jF_189_114 rfl rfl (pc2 := 115) ?_
              refine wp_il1 jF_189_115 rfl rfl (pc2 := 116) ?_
              refine wp_al1 jF_189_116 rfl rfl (pc2 := 117) ?_
              refine wp_cV (as := []) (rest := [iV (σ.1 18 x5.toNat), .ref 16]) (a := 16) (mx := 1) (ci := 3) jF_189_117 kd16 (by decide) rfl rfl rfl rfl rfl (by omega) (by omega) rfl (pc2 := 120) ?_
              refine wp_use (m_192_r16 τ22 g23   _ _ (by omega) (by omega)) ?_
              rintro _ τ26 ⟨y29, rfl, g27, f28⟩
              show WP 189 120 [(0, .ref 16), (1, iV nb), (2, iV x5), (3, iV (σ.1 18 x5.toNat)), (4, .long y25)] [.long y29, iV (σ.1 18 x5.toNat), .ref 16] _ _ _ _
              refine wp_ll2 jF_189_120 rfl rfl (pc2 := 122) ?_
              refine wp_cS (as := [iV (σ.1 18 x5.toNat), .long y29, .long y25]) (rest := [.ref 16]) (mx := 5) jF_189_122 rfl rfl rfl rfl (by omega) (by omega) rfl (pc2 := 125) ?_
              refine wp_use (m_194_r τ26 g27 (σ.1 18 x5.toNat) (by omega) (by omega) y29 y25  _ _ (by omega) (by omega)) ?_
              rintro _ _ ⟨y32, rfl, rfl⟩
              show WP 189 125 [(0, .ref 16), (1, iV nb), (2, iV x5), (3, iV (σ.1 18 x5.toNat)), (4, .long y25)] [.long y32, .ref 16] _ _ _ _
              refine wp_cV (as := [.long y32]) (rest := []) (a := 16) (mx := 3) (ci := 3) jF_189_125 kd16 (by decide) rfl rfl rfl rfl rfl (by omega) (by omega) rfl (pc2 := 128) ?_
              refine wp_use (m_190_r16 τ26 g27 y32  _ _ (by omega) (by omega)) ?_
              rintro _ τ33 ⟨rfl, g34, f35⟩
              show WP 189 128 [(0, .ref 16), (1, iV nb), (2, iV x5), (3, iV (σ.1 18 x5.toNat)), (4, .long y25)] [] _ _ _ _
              refine wp_inc (lv2 := [(0, .ref 16), (1, iV nb), (2, iV (x5 + 1)), (3, iV (σ.1 18 x5.toNat)), (4, .long y25)]) jF_189_128 rfl rfl rfl rfl (pc2 := 131) ?_
              refine wp_go jF_189_131 ?_
              refine wp_less [0, 1, 2] (lv2 := [(0, .ref 16), (1, iV nb), (2, iV (x5 + 1))]) rfl rfl ?_
              exact ih10 ((x5 + 1)) τ33 ⟨⟨by omega, by omega⟩, g34, (FR.up (FR.up (FR.up f9 f24 sb_WQp_WQp) f28 sb_WQp_WQp) f35 sb_WQp_WQp)⟩ (by show Int.toNat (1600 - (x5 + 1)) < Int.toNat (1600 - x5); omega)
            · intro h21; exfalso; omega
          · intro h20; exfalso; omega
        · intro h19
          refine wp_il1 jF_189_48 rfl rfl (pc2 := 49) ?_
          refine wp_bi jF_189_49 (by decide) rfl (pc2 := 51) ?_
          refine wp_i_gt jF_189_51 ⟨by omega, by omega⟩ (m_rgl rfl) rfl (pc2 := 54) ?_ ?_
          · intro h36
            refine wp_il1 jF_189_67 rfl rfl (pc2 := 68) ?_
            refine wp_bi jF_189_68 (by decide) rfl (pc2 := 70) ?_
            refine wp_i_ne jF_189_70 ⟨by omega, by omega⟩ (m_rgl rfl) rfl (pc2 := 73) ?_ ?_
            · intro h37
              refine wp_il1 jF_189_86 rfl rfl (pc2 := 87) ?_
              refine wp_bi jF_189_87 (by decide) rfl (pc2 := 89) ?_
              refine wp_i_ne jF_189_89 ⟨by omega, by omega⟩ (m_rgl rfl) rfl (pc2 := 92) ?_ ?_
              · intro h38
                refine wp_al1 jF_189_108 rfl rfl (pc2 := 109) ?_
                refine wp_cV (as := []) (rest := []) (a := 16) (mx := 1) (ci := 3) jF_189_109 kd16 (by decide) rfl rfl rfl rfl rfl (by omega) (by omega) rfl (pc2 := 112) ?_
                refine wp_use (m_192_r16 τ7 g8   _ _ (by omega) (by omega)) ?_
                rintro _ τ39 ⟨y42, rfl, g40, f41⟩
                show WP 189 112 [(0, .ref 16), (1, iV nb), (2, iV x5), (3, iV (σ.1 18 x5.toNat))] [.long y42] _ _ _ _
                refine wp_ls2 (lv2 := [(0, .ref 16), (1, iV nb), (2, iV x5), (3, iV (σ.1 18 x5.toNat)), (4, .long y42)]) jF_189_112 rfl rfl rfl (pc2 := 114) ?_
                refine wp_al1 jF_189_114 rfl rfl (pc2 := 115) ?_
                refine wp_il1 jF_189_115 rfl rfl (pc2 := 116) ?_
                refine wp_al1 jF_189_116 rfl rfl (pc2 := 117) ?_
                refine wp_cV (as := []) (rest := [iV (σ.1 18 x5.toNat), .ref 16]) (a := 16) (mx := 1) (ci := 3) jF_189_117 kd16 (by decide) rfl rfl rfl rfl rfl (by omega) (by omega) rfl (pc2 := 120) ?_
                refine wp_use (m_192_r16 τ39 g40   _ _ (by omega) (by omega)) ?_
                rintro _ τ43 ⟨y46, rfl, g44, f45⟩
                show WP 189 120 [(0, .ref 16), (1, iV nb), (2, iV x5), (3, iV (σ.1 18 x5.toNat)), (4, .long y42)] [.long y46, iV (σ.1 18 x5.toNat), .ref 16] _ _ _ _
                refine wp_ll2 jF_189_120 rfl rfl (pc2 := 122) ?_
                refine wp_cS (as := [iV (σ.1 18 x5.toNat), .long y46, .long y42]) (rest := [.ref 16]) (mx := 5) jF_189_122 rfl rfl rfl rfl (by omega) (by omega) rfl (pc2 := 125) ?_
                refine wp_use (m_194_r τ43 g44 (σ.1 18 x5.toNat) (by omega) (by omega) y46 y42  _ _ (by omega) (by omega)) ?_
                rintro _ _ ⟨y49, rfl, rfl⟩
                show WP 189 125 [(0, .ref 16), (1, iV nb), (2, iV x5), (3, iV (σ.1 18 x5.toNat)), (4, .long y42)] [.long y49, .ref 16] _ _ _ _
                refine wp_cV (as := [.long y49]) (rest := []) (a := 16) (mx := 3) (ci := 3) jF_189_125 kd16 (by decide) rfl rfl rfl rfl rfl (by omega) (by omega) rfl (pc2 := 128) ?_
                refine wp_use (m_190_r16 τ43 g44 y49  _ _ (by omega) (by omega)) ?_
                rintro _ τ50 ⟨rfl, g51, f52⟩
                show WP 189 128 [(0, .ref 16), (1, iV nb), (2, iV x5), (3, iV (σ.1 18 x5.toNat)), (4, .long y42)] [] _ _ _ _
                refine wp_inc (lv2 := [(0, .ref 16), (1, iV nb), (2, iV (x5 + 1)), (3, iV (σ.1 18 x5.toNat)), (4, .long y42)]) jF_189_128 rfl rfl rfl rfl (pc2 := 131) ?_
                refine wp_go jF_189_131 ?_
                refine wp_less [0, 1, 2] (lv2 := [(0, .ref 16), (1, iV nb), (2, iV (x5 + 1))]) rfl rfl ?_
                exact ih10 ((x5 + 1)) τ50 ⟨⟨by omega, by omega⟩, g51, (FR.up (FR.up (FR.up f9 f41 sb_WQp_WQp) f45 sb_WQp_WQp) f52 sb_WQp_WQp)⟩ (by show Int.toNat (1600 - (x5 + 1)) < Int.toNat (1600 - x5); omega)
              · intro h38
                refine wp_al1 jF_189_92 rfl rfl (pc2 := 93) ?_
                refine wp_al1 jF_189_93 rfl rfl (pc2 := 94) ?_
                refine wp_al1 jF_189_94 rfl rfl (pc2 := 95) ?_
                refine wp_cV (as := []) (rest := [.ref 16, .ref 16]) (a := 16) (mx := 1) (ci := 3) jF_189_95 kd16 (by decide) rfl rfl rfl rfl rfl (by omega) (by omega) rfl (pc2 := 98) ?_
                refine wp_use (m_192_r16 τ7 g8   _ _ (by omega) (by omega)) ?_
                rintro _ τ53 ⟨y56, rfl, g54, f55⟩
                show WP 189 98 [(0, .ref 16), (1, iV nb), (2, iV x5), (3, iV (σ.1 18 x5.toNat))] [.long y56, .ref 16, .ref 16] _ _ _ _
                refine wp_il1 jF_189_98 rfl rfl (pc2 := 99) ?_
                refine wp_cV (as := [.long y56, iV nb]) (rest := [.ref 16]) (a := 16) (mx := 4) (ci := 3) jF_189_99 kd16 (by decide) rfl rfl rfl rfl rfl (by omega) (by omega) rfl (pc2 := 102) ?_
                refine wp_use (m_193_r16 τ53 g54 y56 nb (by omega) (by omega) (((FR.ar f55 16 9 rfl).trans ((FR.ar f9 16 9 rfl).trans ((FRw.njr f3 (by decide)).trans hr1))))  _ _ (by omega) (by omega)) ?_
                rintro _ _ ⟨y59, rfl, rfl⟩
                show WP 189 102 [(0, .ref 16), (1, iV nb), (2, iV x5), (3, iV (σ.1 18 x5.toNat))] [.long y59, .ref 16] _ _ _ _
                refine wp_cV (as := [.long y59]) (rest := []) (a := 16) (mx := 3) (ci := 3) jF_189_102 kd16 (by decide) rfl rfl rfl rfl rfl (by omega) (by omega) rfl (pc2 := 105) ?_
                refine wp_use (m_190_r16 τ53 g54 y59  _ _ (by omega) (by omega)) ?_
                rintro _ τ60 ⟨rfl, g61, f62⟩
                show WP 189 105 [(0, .ref 16), (1, iV nb), (2, iV x5), (3, iV (σ.1 18 x5.toNat))] [] _ _ _ _
                refine wp_go jF_189_105 ?_
                refine wp_inc (lv2 := [(0, .ref 16), (1, iV nb), (2, iV (x5 + 1)), (3, iV (σ.1 18 x5.toNat))]) jF_189_128 rfl rfl rfl rfl (pc2 := 131) ?_
                refine wp_go jF_189_131 ?_
                refine wp_less [0, 1, 2] (lv2 := [(0, .ref 16), (1, iV nb), (2, iV (x5 + 1))]) rfl rfl ?_
                exact ih10 ((x5 + 1)) τ60 ⟨⟨by omega, by omega⟩, g61, (FR.up (FR.up f9 f55 sb_WQp_WQp) f62 sb_WQp_WQp)⟩ (by show Int.toNat (1600 - (x5 + 1)) < Int.toNat (1600 - x5); omega)
            · intro h37
              refine wp_al1 jF_189_73 rfl rfl (pc2 := 74) ?_
              refine wp_lc jF_189_74 rfl (pc2 := 75) ?_
              refine wp_al1 jF_189_75 rfl rfl (pc2 := 76) ?_
              refine wp_cV (as := []) (rest := [.long (Int64.ofNat 1), .ref 16]) (a := 16) (mx := 1) (ci := 3) jF_189_76 kd16 (by decide) rfl rfl rfl rfl rfl (by omega) (by omega) rfl (pc2 := 79) ?_
              refine wp_use (m_192_r16 τ7 g8   _ _ (by omega) (by omega)) ?_
              rintro _ τ63 ⟨y66, rfl, g64, f65⟩
              show WP 189 79 [(0, .ref 16), (1, iV nb), (2, iV x5), (3, iV (σ.1 18 x5.toNat))] [.long y66, .long (Int64.ofNat 1), .ref 16] _ _ _ _
              refine wp_lng (pc2 := 80) jF_189_79 rfl rfl ?_
              intro y67
              refine wp_cV (as := [.long y67]) (rest := []) (a := 16) (mx := 3) (ci := 3) jF_189_80 kd16 (by decide) rfl rfl rfl rfl rfl (by omega) (by omega) rfl (pc2 := 83) ?_
              refine wp_use (m_190_r16 τ63 g64 y67  _ _ (by omega) (by omega)) ?_
              rintro _ τ68 ⟨rfl, g69, f70⟩
              show WP 189 83 [(0, .ref 16), (1, iV nb), (2, iV x5), (3, iV (σ.1 18 x5.toNat))] [] _ _ _ _
              refine wp_go jF_189_83 ?_
              refine wp_inc (lv2 := [(0, .ref 16), (1, iV nb), (2, iV (x5 + 1)), (3, iV (σ.1 18 x5.toNat))]) jF_189_128 rfl rfl rfl rfl (pc2 := 131) ?_
              refine wp_go jF_189_131 ?_
              refine wp_less [0, 1, 2] (lv2 := [(0, .ref 16), (1, iV nb), (2, iV (x5 + 1))]) rfl rfl ?_
              exact ih10 ((x5 + 1)) τ68 ⟨⟨by omega, by omega⟩, g69, (FR.up (FR.up f9 f65 sb_WQp_WQp) f70 sb_WQp_WQp)⟩ (by show Int.toNat (1600 - (x5 + 1)) < Int.toNat (1600 - x5); omega)
          · intro h36
            refine wp_al1 jF_189_54 rfl rfl (pc2 := 55) ?_
            refine wp_al1 jF_189_55 rfl rfl (pc2 := 56) ?_
            refine wp_il1 jF_189_56 rfl rfl (pc2 := 57) ?_
            refine wp_il1 jF_189_57 rfl rfl (pc2 := 58) ?_
            refine wp_cV (as := [iV (σ.1 18 x5.toNat), iV nb]) (rest := [.ref 16]) (a := 16) (mx := 5) (ci := 3) jF_189_58 kd16 (by decide) rfl rfl rfl rfl rfl (by omega) (by omega) rfl (pc2 := 61) ?_
            refine wp_use (m_191_r16_t20 τ7 g8 (σ.1 18 x5.toNat) (by omega) (by omega) nb (by omega) (by omega) (((FR.ar f9 16 8 rfl).trans ((FRw.njr f3 (by decide)).trans hr0))) (((FR.ar f9 16 9 rfl).trans ((FRw.njr f3 (by decide)).trans hr1))) (((FR.ar f9 16 10 rfl).trans ((FRw.njr f3 (by decide)).trans hr2)))  _ _ (by omega) (by omega)) ?_
            rintro _ _ ⟨y73, rfl, rfl⟩
            show WP 189 61 [(0, .ref 16), (1, iV nb), (2, iV x5), (3, iV (σ.1 18 x5.toNat))] [.long y73, .ref 16] _ _ _ _
            refine wp_cV (as := [.long y73]) (rest := []) (a := 16) (mx := 3) (ci := 3) jF_189_61 kd16 (by decide) rfl rfl rfl rfl rfl (by omega) (by omega) rfl (pc2 := 64) ?_
            refine wp_use (m_190_r16 τ7 g8 y73  _ _ (by omega) (by omega)) ?_
            rintro _ τ74 ⟨rfl, g75, f76⟩
            show WP 189 64 [(0, .ref 16), (1, iV nb), (2, iV x5), (3, iV (σ.1 18 x5.toNat))] [] _ _ _ _
            refine wp_go jF_189_64 ?_
            refine wp_inc (lv2 := [(0, .ref 16), (1, iV nb), (2, iV (x5 + 1)), (3, iV (σ.1 18 x5.toNat))]) jF_189_128 rfl rfl rfl rfl (pc2 := 131) ?_
            refine wp_go jF_189_131 ?_
            refine wp_less [0, 1, 2] (lv2 := [(0, .ref 16), (1, iV nb), (2, iV (x5 + 1))]) rfl rfl ?_
            exact ih10 ((x5 + 1)) τ74 ⟨⟨by omega, by omega⟩, g75, (FR.up f9 f76 sb_WQp_WQp)⟩ (by show Int.toNat (1600 - (x5 + 1)) < Int.toNat (1600 - x5); omega)
      · intro h18
        refine wp_al1 jF_189_29 rfl rfl (pc2 := 30) ?_
        refine wp_il1 jF_189_30 rfl rfl (pc2 := 31) ?_
        refine wp_si jF_189_31 (by decide) rfl (pc2 := 34) ?_
        refine wp_sub jF_189_34 rfl (pc2 := 35) ?_
        refine wp_i2l jF_189_35 rfl (pc2 := 36) ?_
        refine wp_cV (as := [.long (Int32.toInt64 (Int32.ofInt ((σ.1 18 x5.toNat) - 1000)))]) (rest := []) (a := 16) (mx := 3) (ci := 3) jF_189_36 kd16 (by decide) rfl rfl rfl rfl rfl (by omega) (by omega) rfl (pc2 := 39) ?_
        refine wp_use (m_190_r16 τ7 g8 (Int32.toInt64 (Int32.ofInt ((σ.1 18 x5.toNat) - 1000)))  _ _ (by omega) (by omega)) ?_
        rintro _ τ77 ⟨rfl, g78, f79⟩
        show WP 189 39 [(0, .ref 16), (1, iV nb), (2, iV x5), (3, iV (σ.1 18 x5.toNat))] [] _ _ _ _
        refine wp_go jF_189_39 ?_
        refine wp_inc (lv2 := [(0, .ref 16), (1, iV nb), (2, iV (x5 + 1)), (3, iV (σ.1 18 x5.toNat))]) jF_189_128 rfl rfl rfl rfl (pc2 := 131) ?_
        refine wp_go jF_189_131 ?_
        refine wp_less [0, 1, 2] (lv2 := [(0, .ref 16), (1, iV nb), (2, iV (x5 + 1))]) rfl rfl ?_
        exact ih10 ((x5 + 1)) τ77 ⟨⟨by omega, by omega⟩, g78, (FR.up f9 f79 sb_WQp_WQp)⟩ (by show Int.toNat (1600 - (x5 + 1)) < Int.toNat (1600 - x5); omega)
