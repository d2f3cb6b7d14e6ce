set_option maxHeartbeats 4000000 in
set_option maxRecDepth 20000 in
/-- Question.answer -/
theorem m_188_r16_20_70_75 (σ : jM) (hg : GI σ)   (fr lo : Nat) (hfr : 4 ≤ fr) (hlo : 93 ≤ lo) : WP 188 0 (lv_args 0 [.ref 16, .ref 20, .ref 70, .ref 75]) [] fr lo σ (fun v τ => ∃ z : Int64, v = some (.long z) ∧ GI τ ∧ FR WQa σ τ) := by
  show WP 188 0 [(0, .ref 16), (1, .ref 20), (2, .ref 70), (3, .ref 75)] [] _ _ _ _
  refine wp_al1 jF_188_0 rfl rfl (pc2 := 1) ?_
  refine wp_al1 jF_188_1 rfl rfl (pc2 := 2) ?_
  refine wp_pr jF_188_2 kd16 (by decide) rfl rfl rfl (pc2 := 5) hg ?_
  intro τ1 g2 f3 e4
  refine wp_al1 jF_188_5 rfl rfl (pc2 := 6) ?_
  refine wp_al1 jF_188_6 rfl rfl (pc2 := 7) ?_
  refine wp_pr jF_188_7 kd16 (by decide) rfl rfl rfl (pc2 := 10) g2 ?_
  intro τ5 g6 f7 e8
  refine wp_al1 jF_188_10 rfl rfl (pc2 := 11) ?_
  refine wp_al1 jF_188_11 rfl rfl (pc2 := 12) ?_
  refine wp_pr jF_188_12 kd16 (by decide) rfl rfl rfl (pc2 := 15) g6 ?_
  intro τ9 g10 f11 e12
  refine wp_al1 jF_188_15 rfl rfl (pc2 := 16) ?_
  have b13 := GI.b hg 16 6 kd16 (lo := (-2147483648)) (hi := 2147483647) rfl
  refine wp_gi jF_188_16 kd16 (by decide) rfl ((FRw.nj f11 (by decide)).trans ((FRw.nj f7 (by decide)).trans (FRw.nj f3 (by decide)))) rfl (pc2 := 19) ?_
  refine wp_z_eq jF_188_19 (m_rgb b13 rfl) rfl (pc2 := 22) ?_ ?_
  · intro h14
    refine wp_ld jF_188_30 rfl (pc2 := 33) ?_
    refine wp_go jF_188_33 ?_
    refine wp_ls2 (lv2 := [(0, .ref 16), (1, .ref 20), (2, .ref 70), (3, .ref 75), (4, .long (-1))]) jF_188_37 rfl rfl rfl (pc2 := 39) ?_
    refine wp_ic jF_188_39 rfl (pc2 := 40) ?_
    refine wp_is2 (lv2 := [(0, .ref 16), (1, .ref 20), (2, .ref 70), (3, .ref 75), (4, .long (-1)), (6, iV 0)]) jF_188_40 rfl rfl rfl (pc2 := 42) ?_
    have b15 := GI.b hg 20 12 kd20 (lo := (-2147483648)) (hi := 2147483647) rfl
    have q16 : (τ9.1 20 12) = (σ.1 20 12) := ((FRw.na f11 (by decide)).trans ((FRw.na f7 (by decide)).trans (FRw.na f3 (by decide))))
    refine wp_loop (α := Int64 × Int) (fun a => [(0, .ref 16), (1, .ref 20), (2, .ref 70), (3, .ref 75), (4, .long (a.1)), (6, iV (a.2))]) (fun a τ => (0 ≤ a.2 ∧ a.2 ≤ 2147483647) ∧ GI τ ∧ FR WQp τ9 τ) (fun a τ => Int.toNat ((τ9.1 20 12) - (a.2))) ((-1), 0) τ9 ?_ ?_
    · skip
      exact ⟨⟨by (try dsimp only); omega, by (try dsimp only); omega⟩, g10, FR.rf⟩
    · rintro ⟨y17, x18⟩ τ20 ⟨h19, g21, f22⟩ ih23
      try dsimp only at h19 g21 f22
      show WP 188 42 [(0, .ref 16), (1, .ref 20), (2, .ref 70), (3, .ref 75), (4, .long y17), (6, iV x18)] [] _ _ _ _
      show WP 188 42 [(0, .ref 16), (1, .ref 20), (2, .ref 70), (3, .ref 75), (4, .long y17), (6, iV x18)] [] _ _ _ _
      refine wp_il2 jF_188_42 rfl rfl (pc2 := 44) ?_
      refine wp_al1 jF_188_44 rfl rfl (pc2 := 45) ?_
      refine wp_gr jF_188_45 kd16 (by decide) (c := 2) rfl (m_fv2 ((FR.ar f22 16 8 rfl).trans ((FRw.njr f11 (by decide)).trans ((FRw.njr f7 (by decide)).trans e4))) rfl) rfl (pc2 := 48) ?_
      refine wp_gi jF_188_48 kd20 (by decide) rfl ((FR.at f22 20 12 rfl).trans ((FRw.na f11 (by decide)).trans ((FRw.na f7 (by decide)).trans (FRw.na f3 (by decide))))) rfl (pc2 := 51) ?_
      refine wp_i_ge jF_188_51 (m_rgb h19 rfl) (m_rgb b15 rfl) rfl (pc2 := 54) ?_ ?_
      · intro h24
        refine wp_ll2 jF_188_116 rfl rfl (pc2 := 118) ?_
        refine wp_rl jF_188_118 ?_
        exact ⟨y17, rfl, g21, (FR.up (FR.w (FR.w (FR.w FR.rf f3 rfl) f7 rfl) f11 rfl) f22 sb_WQp_WQa)⟩
      · intro h24
        refine wp_al1 jF_188_54 rfl rfl (pc2 := 55) ?_
        refine wp_il2 jF_188_55 rfl rfl (pc2 := 57) ?_
        refine wp_cV (as := [iV x18]) (rest := []) (a := 16) (mx := 6) (ci := 3) jF_188_57 kd16 (by decide) rfl rfl rfl rfl rfl (by omega) (by omega) rfl (pc2 := 60) ?_
        refine wp_use (m_189_r16_t20 τ20 g21 x18 (by omega) (by omega) (((FR.ar f22 16 8 rfl).trans ((FRw.njr f11 (by decide)).trans ((FRw.njr f7 (by decide)).trans e4)))) (((FR.ar f22 16 9 rfl).trans ((FRw.njr f11 (by decide)).trans e8))) (((FR.ar f22 16 10 rfl).trans e12))  _ _ (by omega) (by omega)) ?_
        rintro _ τ25 ⟨y28, rfl, g26, f27⟩
        show WP 188 60 [(0, .ref 16), (1, .ref 20), (2, .ref 70), (3, .ref 75), (4, .long y17), (6, iV x18)] [.long y28] _ _ _ _
        refine wp_ls2 (lv2 := [(0, .ref 16), (1, .ref 20), (2, .ref 70), (3, .ref 75), (4, .long y17), (6, iV x18), (7, .long y28)]) jF_188_60 rfl rfl rfl (pc2 := 62) ?_
        refine wp_al1 jF_188_62 rfl rfl (pc2 := 63) ?_
        refine wp_gi jF_188_63 kd16 (by decide) rfl ((FR.at f27 16 6 rfl).trans ((FR.at f22 16 6 rfl).trans ((FRw.nj f11 (by decide)).trans ((FRw.nj f7 (by decide)).trans (FRw.nj f3 (by decide)))))) rfl (pc2 := 66) ?_
        refine wp_z_ne jF_188_66 (m_rgb b13 rfl) rfl (pc2 := 69) ?_ ?_
        · intro h29
          refine wp_il2 jF_188_80 rfl rfl (pc2 := 82) ?_
          refine wp_z_ne jF_188_82 ⟨by omega, by omega⟩ rfl (pc2 := 85) ?_ ?_
          · intro h30
            refine wp_al1 jF_188_98 rfl rfl (pc2 := 99) ?_
            refine wp_ll2 jF_188_99 rfl rfl (pc2 := 101) ?_
            refine wp_ll2 jF_188_101 rfl rfl (pc2 := 103) ?_
            refine wp_il2 jF_188_103 rfl rfl (pc2 := 105) ?_
            refine wp_cV (as := [.long y17, .long y28, iV x18]) (rest := []) (a := 16) (mx := 6) (ci := 3) jF_188_105 kd16 (by decide) rfl rfl rfl rfl rfl (by omega) (by omega) rfl (pc2 := 108) ?_
            refine wp_use (m_199_r16 τ25 g26 y17 y28 x18 (by omega) (by omega)  _ _ (by omega) (by omega)) ?_
            rintro _ _ ⟨y33, rfl, rfl⟩
            show WP 188 108 [(0, .ref 16), (1, .ref 20), (2, .ref 70), (3, .ref 75), (4, .long y17), (6, iV x18), (7, .long y28)] [.long y33] _ _ _ _
            refine wp_ls2 (lv2 := [(0, .ref 16), (1, .ref 20), (2, .ref 70), (3, .ref 75), (4, .long y33), (6, iV x18), (7, .long y28)]) jF_188_108 rfl rfl rfl (pc2 := 110) ?_
            refine wp_inc (lv2 := [(0, .ref 16), (1, .ref 20), (2, .ref 70), (3, .ref 75), (4, .long y33), (6, iV (x18 + 1)), (7, .long y28)]) jF_188_110 rfl rfl rfl rfl (pc2 := 113) ?_
            refine wp_go jF_188_113 ?_
            refine wp_less [0, 1, 2, 3, 4, 6] (lv2 := [(0, .ref 16), (1, .ref 20), (2, .ref 70), (3, .ref 75), (4, .long y33), (6, iV (x18 + 1))]) rfl rfl ?_
            exact ih23 (y33, (x18 + 1)) τ25 ⟨⟨by (try dsimp only); omega, by (try dsimp only); omega⟩, g26, (FR.up f22 f27 sb_WQp_WQp)⟩ (by show Int.toNat ((τ9.1 20 12) - (x18 + 1)) < Int.toNat ((τ9.1 20 12) - x18); omega)
          · intro h30
            refine wp_al1 jF_188_85 rfl rfl (pc2 := 86) ?_
            refine wp_gi jF_188_86 kd16 (by decide) rfl ((FR.at f27 16 6 rfl).trans ((FR.at f22 16 6 rfl).trans ((FRw.nj f11 (by decide)).trans ((FRw.nj f7 (by decide)).trans (FRw.nj f3 (by decide)))))) rfl (pc2 := 89) ?_
            refine wp_ic jF_188_89 rfl (pc2 := 90) ?_
            refine wp_i_lt jF_188_90 (m_rgb b13 rfl) (m_rgl rfl) rfl (pc2 := 93) ?_ ?_
            · intro h34
              refine wp_al1 jF_188_98 rfl rfl (pc2 := 99) ?_
              refine wp_ll2 jF_188_99 rfl rfl (pc2 := 101) ?_
              refine wp_ll2 jF_188_101 rfl rfl (pc2 := 103) ?_
              refine wp_il2 jF_188_103 rfl rfl (pc2 := 105) ?_
              refine wp_cV (as := [.long y17, .long y28, iV x18]) (rest := []) (a := 16) (mx := 6) (ci := 3) jF_188_105 kd16 (by decide) rfl rfl rfl rfl rfl (by omega) (by omega) rfl (pc2 := 108) ?_
              refine wp_use (m_199_r16 τ25 g26 y17 y28 x18 (by omega) (by omega)  _ _ (by omega) (by omega)) ?_
              rintro _ _ ⟨y37, rfl, rfl⟩
              show WP 188 108 [(0, .ref 16), (1, .ref 20), (2, .ref 70), (3, .ref 75), (4, .long y17), (6, iV x18), (7, .long y28)] [.long y37] _ _ _ _
              refine wp_ls2 (lv2 := [(0, .ref 16), (1, .ref 20), (2, .ref 70), (3, .ref 75), (4, .long y37), (6, iV x18), (7, .long y28)]) jF_188_108 rfl rfl rfl (pc2 := 110) ?_
              refine wp_inc (lv2 := [(0, .ref 16), (1, .ref 20), (2, .ref 70), (3, .ref 75), (4, .long y37), (6, iV (x18 + 1)), (7, .long y28)]) jF_188_110 rfl rfl rfl rfl (pc2 := 113) ?_
              refine wp_go jF_188_113 ?_
              refine wp_less [0, 1, 2, 3, 4, 6] (lv2 := [(0, .ref 16), (1, .ref 20), (2, .ref 70), (3, .ref 75), (4, .long y37), (6, iV (x18 + 1))]) rfl rfl ?_
              exact ih23 (y37, (x18 + 1)) τ25 ⟨⟨by (try dsimp only); omega, by (try dsimp only); omega⟩, g26, (FR.up f22 f27 sb_WQp_WQp)⟩ (by show Int.toNat ((τ9.1 20 12) - (x18 + 1)) < Int.toNat ((τ9.1 20 12) - x18); omega)
            · intro h34
              refine wp_ll2 jF_188_93 rfl rfl (pc2 := 95) ?_
              refine wp_go jF_188_95 ?_
              refine wp_ls2 (lv2 := [(0, .ref 16), (1, .ref 20), (2, .ref 70), (3, .ref 75), (4, .long y28), (6, iV x18), (7, .long y28)]) jF_188_108 rfl rfl rfl (pc2 := 110) ?_
              refine wp_inc (lv2 := [(0, .ref 16), (1, .ref 20), (2, .ref 70), (3, .ref 75), (4, .long y28), (6, iV (x18 + 1)), (7, .long y28)]) jF_188_110 rfl rfl rfl rfl (pc2 := 113) ?_
              refine wp_go jF_188_113 ?_
              refine wp_less [0, 1, 2, 3, 4, 6] (lv2 := [(0, .ref 16), (1, .ref 20), (2, .ref 70), (3, .ref 75), (4, .long y28), (6, iV (x18 + 1))]) rfl rfl ?_
              exact ih23 (y28, (x18 + 1)) τ25 ⟨⟨by (try dsimp only); omega, by (try dsimp only); omega⟩, g26, (FR.up f22 f27 sb_WQp_WQp)⟩ (by show Int.toNat ((τ9.1 20 12) - (x18 + 1)) < Int.toNat ((τ9.1 20 12) - x18); omega)
        · intro h29
          refine wp_ll2 jF_188_69 rfl rfl (pc2 := 71) ?_
          refine wp_lc jF_188_71 rfl (pc2 := 72) ?_
          refine wp_anyL (pc2 := 73) jF_188_72 rfl rfl ?_
          intro z38 h39
          refine wp_z_eq jF_188_73 (m_rgb h39 rfl) rfl (pc2 := 76) ?_ ?_
          · intro h40
            refine wp_il2 jF_188_80 rfl rfl (pc2 := 82) ?_
            refine wp_z_ne jF_188_82 ⟨by omega, by omega⟩ rfl (pc2 := 85) ?_ ?_
            · intro h41
              refine wp_al1 jF_188_98 rfl rfl (pc2 := 99) ?_
              refine wp_ll2 jF_188_99 rfl rfl (pc2 := 101) ?_
              refine wp_ll2 jF_188_101 rfl rfl (pc2 := 103) ?_
              refine wp_il2 jF_188_103 rfl rfl (pc2 := 105) ?_
              refine wp_cV (as := [.long y17, .long y28, iV x18]) (rest := []) (a := 16) (mx := 6) (ci := 3) jF_188_105 kd16 (by decide) rfl rfl rfl rfl rfl (by omega) (by omega) rfl (pc2 := 108) ?_
              refine wp_use (m_199_r16 τ25 g26 y17 y28 x18 (by omega) (by omega)  _ _ (by omega) (by omega)) ?_
              rintro _ _ ⟨y44, rfl, rfl⟩
              show WP 188 108 [(0, .ref 16), (1, .ref 20), (2, .ref 70), (3, .ref 75), (4, .long y17), (6, iV x18), (7, .long y28)] [.long y44] _ _ _ _
              refine wp_ls2 (lv2 := [(0, .ref 16), (1, .ref 20), (2, .ref 70), (3, .ref 75), (4, .long y44), (6, iV x18), (7, .long y28)]) jF_188_108 rfl rfl rfl (pc2 := 110) ?_
              refine wp_inc (lv2 := [(0, .ref 16), (1, .ref 20), (2, .ref 70), (3, .ref 75), (4, .long y44), (6, iV (x18 + 1)), (7, .long y28)]) jF_188_110 rfl rfl rfl rfl (pc2 := 113) ?_
              refine wp_go jF_188_113 ?_
              refine wp_less [0, 1, 2, 3, 4, 6] (lv2 := [(0, .ref 16), (1, .ref 20), (2, .ref 70), (3, .ref 75), (4, .long y44), (6, iV (x18 + 1))]) rfl rfl ?_
              exact ih23 (y44, (x18 + 1)) τ25 ⟨⟨by (try dsimp only); omega, by (try dsimp only); omega⟩, g26, (FR.up f22 f27 sb_WQp_WQp)⟩ (by show Int.toNat ((τ9.1 20 12) - (x18 + 1)) < Int.toNat ((τ9.1 20 12) - x18); omega)
            · intro h41
              refine wp_al1 jF_188_85 rfl rfl (pc2 := 86) ?_
              refine wp_gi jF_188_86 kd16 (by decide) rfl ((FR.at f27 16 6 rfl).trans ((FR.at f22 16 6 rfl).trans ((FRw.nj f11 (by decide)).trans ((FRw.nj f7 (by decide)).trans (FRw.nj f3 (by decide)))))) rfl (pc2 := 89) ?_
              refine wp_ic jF_188_89 rfl (pc2 := 90) ?_
              refine wp_i_lt jF_188_90 (m_rgb b13 rfl) (m_rgl rfl) rfl (pc2 := 93) ?_ ?_
              · intro h45
                refine wp_al1 jF_188_98 rfl rfl (pc2 := 99) ?_
                refine wp_ll2 jF_188_99 rfl rfl (pc2 := 101) ?_
                refine wp_ll2 jF_188_101 rfl rfl (pc2 := 103) ?_
                refine wp_il2 jF_188_103 rfl rfl (pc2 := 105) ?_
                refine wp_cV (as := [.long y17, .long y28, iV x18]) (rest := []) (a := 16) (mx := 6) (ci := 3) jF_188_105 kd16 (by decide) rfl rfl rfl rfl rfl (by omega) (by omega) rfl (pc2 := 108) ?_
                refine wp_use (m_199_r16 τ25 g26 y17 y28 x18 (by omega) (by omega)  _ _ (by omega) (by omega)) ?_
                rintro _ _ ⟨y48, rfl, rfl⟩
                show WP 188 108 [(0, .ref 16), (1, .ref 20), (2, .ref 70), (3, .ref 75), (4, .long y17), (6, iV x18), (7, .long y28)] [.long y48] _ _ _ _
                refine wp_ls2 (lv2 := [(0, .ref 16), (1, .ref 20), (2, .ref 70), (3, .ref 75), (4, .long y48), (6, iV x18), (7, .long y28)]) jF_188_108 rfl rfl rfl (pc2 := 110) ?_
                refine wp_inc (lv2 := [(0, .ref 16), (1, .ref 20), (2, .ref 70), (3, .ref 75), (4, .long y48), (6, iV (x18 + 1)), (7, .long y28)]) jF_188_110 rfl rfl rfl rfl (pc2 := 113) ?_
                refine wp_go jF_188_113 ?_
                refine wp_less [0, 1, 2, 3, 4, 6] (lv2 := [(0, .ref 16), (1, .ref 20), (2, .ref 70), (3, .ref 75), (4, .long y48), (6, iV (x18 + 1))]) rfl rfl ?_
                exact ih23 (y48, (x18 + 1)) τ25 ⟨⟨by (try dsimp only); omega, by (try dsimp only); omega⟩, g26, (FR.up f22 f27 sb_WQp_WQp)⟩ (by show Int.toNat ((τ9.1 20 12) - (x18 + 1)) < Int.toNat ((τ9.1 20 12) - x18); omega)
              · intro h45
                refine wp_ll2 jF_188_93 rfl rfl (pc2 := 95) ?_
                refine wp_go jF_188_95 ?_
                refine wp_ls2 (lv2 := [(0, .ref 16), (1, .ref 20), (2, .ref 70), (3, .ref 75), (4, .long y28), (6, iV x18), (7, .long y28)]) jF_188_108 rfl rfl rfl (pc2 := 110) ?_
                refine wp_inc (lv2 := [(0, .ref 16), (1, .ref 20), (2, .ref 70), (3, .ref 75), (4, .long y28), (6, iV (x18 + 1)), (7, .long y28)]) jF_188_110 rfl rfl rfl rfl (pc2 := 113) ?_
                refine wp_go jF_188_113 ?_
                refine wp_less [0, 1, 2, 3, 4, 6] (lv2 := [(0, .ref 16), (1, .ref 20), (2, .ref 70), (3, .ref 75), (4, .long y28), (6, iV (x18 + 1))]) rfl rfl ?_
                exact ih23 (y28, (x18 + 1)) τ25 ⟨⟨by (try dsimp only); omega, by (try dsimp only); omega⟩, g26, (FR.up f22 f27 sb_WQp_WQp)⟩ (by show Int.toNat ((τ9.1 20 12) - (x18 + 1)) < Int.toNat ((τ9.1 20 12) - x18); omega)
          · intro h40
            refine wp_il2 jF_188_76 rfl rfl (pc2 := 78) ?_
            refine wp_i2l jF_188_78 rfl (pc2 := 79) ?_
            refine wp_rl jF_188_79 ?_
            exact ⟨(Int32.toInt64 (Int32.ofInt x18)), rfl, g26, (FR.up (FR.up (FR.w (FR.w (FR.w FR.rf f3 rfl) f7 rfl) f11 rfl) f22 sb_WQp_WQa) f27 sb_WQp_WQa)⟩
  · intro h14
    refine wp_al1 jF_188_22 rfl rfl (pc2 := 23) ?_
    refine wp_gi jF_188_23 kd16 (by decide) rfl ((FRw.nj f11 (by decide)).trans ((FRw.nj f7 (by decide)).trans (FRw.nj f3 (by decide)))) rfl (pc2 := 26) ?_
    refine wp_ic jF_188_26 rfl (pc2 := 27) ?_
    refine wp_i_ne jF_188_27 (m_rgb b13 rfl) (m_rgl rfl) rfl (pc2 := 30) ?_ ?_
    · intro h49
      refine wp_lc jF_188_36 rfl (pc2 := 37) ?_
      refine wp_ls2 (lv2 := [(0, .ref 16), (1, .ref 20), (2, .ref 70), (3, .ref 75), (4, .long (Int64.ofNat 0))]) jF_188_37 rfl rfl rfl (pc2 := 39) ?_
      refine wp_ic jF_188_39 rfl (pc2 := 40) ?_
      refine wp_is2 (lv2 := [(0, .ref 16), (1, .ref 20), (2, .ref 70), (3, .ref 75), (4, .long (Int64.ofNat 0)), (6, iV 0)]) jF_188_40 rfl rfl rfl (pc2 := 42) ?_
      have b50 := GI.b hg 20 12 kd20 (lo := (-2147483648)) (hi := 2147483647) rfl
      have q51 : (τ9.1 20 12) = (σ.1 20 12) := ((FRw.na f11 (by decide)).trans ((FRw.na f7 (by decide)).trans (FRw.na f3 (by decide))))
      refine wp_loop (α := Int64 × Int) (fun a => [(0, .ref 16), (1, .ref 20), (2, .ref 70), (3, .ref 75), (4, .long (a.1)), (6, iV (a.2))]) (fun a τ => (0 ≤ a.2 ∧ a.2 ≤ 2147483647) ∧ GI τ ∧ FR WQp τ9 τ) (fun a τ => Int.toNat ((τ9.1 20 12) - (a.2))) ((Int64.ofNat 0), 0) τ9 ?_ ?_
      · skip
        exact ⟨⟨by (try dsimp only); omega, by (try dsimp only); omega⟩, g10, FR.rf⟩
      · rintro ⟨y52, x53⟩ τ55 ⟨h54, g56, f57⟩ ih58
        try dsimp only at h54 g56 f57
        show WP 188 42 [(0, .ref 16), (1, .ref 20), (2, .ref 70), (3, .ref 75), (4, .long y52), (6, iV x53)] [] _ _ _ _
        show WP 188 42 [(0, .ref 16), (1, .ref 20), (2, .ref 70), (3, .ref 75), (4, .long y52), (6, iV x53)] [] _ _ _ _
        refine wp_il2 jF_188_42 rfl rfl (pc2 := 44) ?_
        refine wp_al1 jF_188_44 rfl rfl (pc2 := 45) ?_
        refine wp_gr jF_188_45 kd16 (by decide) (c := 2) rfl (m_fv2 ((FR.ar f57 16 8 rfl).trans ((FRw.njr f11 (by decide)).trans ((FRw.njr f7 (by decide)).trans e4))) rfl) rfl (pc2 := 48) ?_
        refine wp_gi jF_188_48 kd20 (by decide) rfl ((FR.at f57 20 12 rfl).trans ((FRw.na f11 (by decide)).trans ((FRw.na f7 (by decide)).trans (FRw.na f3 (by decide))))) rfl (pc2 := 51) ?_
        refine wp_i_ge jF_188_51 (m_rgb h54 rfl) (m_rgb b50 rfl) rfl (pc2 := 54) ?_ ?_
        · intro h59
          refine wp_ll2 jF_188_116 rfl rfl (pc2 := 118) ?_
          refine wp_rl jF_188_118 ?_
          exact ⟨y52, rfl, g56, (FR.up (FR.w (FR.w (FR.w FR.rf f3 rfl) f7 rfl) f11 rfl) f57 sb_WQp_WQa)⟩
        · intro h59
          refine wp_al1 jF_188_54 rfl rfl (pc2 := 55) ?_
          refine wp_il2 jF_188_55 rfl rfl (pc2 := 57) ?_
          refine wp_cV (as := [iV x53]) (rest := []) (a := 16) (mx := 6) (ci := 3) jF_188_57 kd16 (by decide) rfl rfl rfl rfl rfl (by omega) (by omega) rfl (pc2 := 60) ?_
          refine wp_use (m_189_r16_t20 τ55 g56 x53 (by omega) (by omega) (((FR.ar f57 16 8 rfl).trans ((FRw.njr f11 (by decide)).trans ((FRw.njr f7 (by decide)).trans e4)))) (((FR.ar f57 16 9 rfl).trans ((FRw.njr f11 (by decide)).trans e8))) (((FR.ar f57 16 10 rfl).trans e12))  _ _ (by omega) (by omega)) ?_
          rintro _ τ60 ⟨y63, rfl, g61, f62⟩
          show WP 188 60 [(0, .ref 16), (1, .ref 20), (2, .ref 70), (3, .ref 75), (4, .long y52), (6, iV x53)] [.long y63] _ _ _ _
          refine wp_ls2 (lv2 := [(0, .ref 16), (1, .ref 20), (2, .ref 70), (3, .ref 75), (4, .long y52), (6, iV x53), (7, .long y63)]) jF_188_60 rfl rfl rfl (pc2 := 62) ?_
          refine wp_al1 jF_188_62 rfl rfl (pc2 := 63) ?_
          refine wp_gi jF_188_63 kd16 (by decide) rfl ((FR.at f62 16 6 rfl).trans ((FR.at f57 16 6 rfl).trans ((FRw.nj f11 (by decide)).trans ((FRw.nj f7 (by decide)).trans (FRw.nj f3 (by decide)))))) rfl (pc2 := 66) ?_
          refine wp_z_ne jF_188_66 (m_rgb b13 rfl) rfl (pc2 := 69) ?_ ?_
          · intro h64
            refine wp_il2 jF_188_80 rfl rfl (pc2 := 82) ?_
            refine wp_z_ne jF_188_82 ⟨by omega, by omega⟩ rfl (pc2 := 85) ?_ ?_
            · intro h65
              refine wp_al1 jF_188_98 rfl rfl (pc2 := 99) ?_
              refine wp_ll2 jF_188_99 rfl rfl (pc2 := 101) ?_
              refine wp_ll2 jF_188_101 rfl rfl (pc2 := 103) ?_
              refine wp_il2 jF_188_103 rfl rfl (pc2 := 105) ?_
              refine wp_cV (as := [.long y52, .long y63, iV x53]) (rest := []) (a := 16) (mx := 6) (ci := 3) jF_188_105 kd16 (by decide) rfl rfl rfl rfl rfl (by omega) (by omega) rfl (pc2 := 108) ?_
              refine wp_use (m_199_r16 τ60 g61 y52 y63 x53 (by omega) (by omega)  _ _ (by omega) (by omega)) ?_
              rintro _ _ ⟨y68, rfl, rfl⟩
              show WP 188 108 [(0, .ref 16), (1, .ref 20), (2, .ref 70), (3, .ref 75), (4, .long y52), (6, iV x53), (7, .long y63)] [.long y68] _ _ _ _
              refine wp_ls2 (lv2 := [(0, .ref 16), (1, .ref 20), (2, .ref 70), (3, .ref 75), (4, .long y68), (6, iV x53), (7, .long y63)]) jF_188_108 rfl rfl rfl (pc2 := 110) ?_
              refine wp_inc (lv2 := [(0, .ref 16), (1, .ref 20), (2, .ref 70), (3, .ref 75), (4, .long y68), (6, iV (x53 + 1)), (7, .long y63)]) jF_188_110 rfl rfl rfl rfl (pc2 := 113) ?_
              refine wp_go jF_188_113 ?_
              refine wp_less [0, 1, 2, 3, 4, 6] (lv2 := [(0, .ref 16), (1, .ref 20), (2, .ref 70), (3, .ref 75), (4, .long y68), (6, iV (x53 + 1))]) rfl rfl ?_
              exact ih58 (y68, (x53 + 1)) τ60 ⟨⟨by (try dsimp only); omega, by (try dsimp only); omega⟩, g61, (FR.up f57 f62 sb_WQp_WQp)⟩ (by show Int.toNat ((τ9.1 20 12) - (x53 + 1)) < Int.toNat ((τ9.1 20 12) - x53); omega)
            · intro h65
              refine wp_al1 jF_188_85 rfl rfl (pc2 := 86) ?_
              refine wp_gi jF_188_86 kd16 (by decide) rfl ((FR.at f62 16 6 rfl).trans ((FR.at f57 16 6 rfl).trans ((FRw.nj f11 (by decide)).trans ((FRw.nj f7 (by decide)).trans (FRw.nj f3 (by decide)))))) rfl (pc2 := 89) ?_
              refine wp_ic jF_188_89 rfl (pc2 := 90) ?_
              refine wp_i_lt jF_188_90 (m_rgb b13 rfl) (m_rgl rfl) rfl (pc2 := 93) ?_ ?_
              · intro h69
                refine wp_al1 jF_188_98 rfl rfl (pc2 := 99) ?_
                refine wp_ll2 jF_188_99 rfl rfl (pc2 := 101) ?_
                refine wp_ll2 jF_188_101 rfl rfl (pc2 := 103) ?_
                refine wp_il2 jF_188_103 rfl rfl (pc2 := 105) ?_
                refine wp_cV (as := [.long y52, .long y63, iV x53]) (rest := []) (a := 16) (mx := 6) (ci := 3) jF_188_105 kd16 (by decide) rfl rfl rfl rfl rfl (by omega) (by omega) rfl (pc2 := 108) ?_
                refine wp_use (m_199_r16 τ60 g61 y52 y63 x53 (by omega) (by omega)  _ _ (by omega) (by omega)) ?_
                rintro _ _ ⟨y72, rfl, rfl⟩
                show WP 188 108 [(0, .ref 16), (1, .ref 20), (2, .ref 70), (3, .ref 75), (4, .long y52), (6, iV x53), (7, .long y63)] [.long y72] _ _ _ _
                refine wp_ls2 (lv2 := [(0, .ref 16), (1, .ref 20), (2, .ref 70), (3, .ref 75), (4, .long y72), (6, iV x53), (7, .long y63)]) jF_188_108 rfl rfl rfl (pc2 := 110) ?_
                refine wp_inc (lv2 := [(0, .ref 16), (1, .ref 20), (2, .ref 70), (3, .ref 75), (4, .long y72), (6, iV (x53 + 1)), (7, .long y63)]) jF_188_110 rfl rfl rfl rfl (pc2 := 113) ?_
                refine wp_go jF_188_113 ?_
                refine wp_less [0, 1, 2, 3, 4, 6] (lv2 := [(0, .ref 16), (1, .ref 20), (2, .ref 70), (3, .ref 75), (4, .long y72), (6, iV (x53 + 1))]) rfl rfl ?_
                exact ih58 (y72, (x53 + 1)) τ60 ⟨⟨by (try dsimp only); omega, by (try dsimp only); omega⟩, g61, (FR.up f57 f62 sb_WQp_WQp)⟩ (by show Int.toNat ((τ9.1 20 12) - (x53 + 1)) < Int.toNat ((τ9.1 20 12) - x53); omega)
              · intro h69
                refine wp_ll2 jF_188_93 rfl rfl (pc2 := 95) ?_
                refine wp_go jF_188_95 ?_
                refine wp_ls2 (lv2 := [(0, .ref 16), (1, .ref 20), (2, .ref 70), (3, .ref 75), (4, .long y63), (6, iV x53), (7, .long y63)]) jF_188_108 rfl rfl rfl (pc2 := 110) ?_
                refine wp_inc (lv2 := [(0, .ref 16), (1, .ref 20), (2, .ref 70), (3, .ref 75), (4, .long y63), (6, iV (x53 + 1)), (7, .long y63)]) jF_188_110 rfl rfl rfl rfl (pc2 := 113) ?_
                refine wp_go jF_188_113 ?_
                refine wp_less [0, 1, 2, 3, 4, 6] (lv2 := [(0, .ref 16), (1, .ref 20), (2, .ref 70), (3, .ref 75), (4, .long y63), (6, iV (x53 + 1))]) rfl rfl ?_
                exact ih58 (y63, (x53 + 1)) τ60 ⟨⟨by (try dsimp only); omega, by (try dsimp only); omega⟩, g61, (FR.up f57 f62 sb_WQp_WQp)⟩ (by show Int.toNat ((τ9.1 20 12) - (x53 + 1)) < Int.toNat ((τ9.1 20 12) - x53); omega)
          · intro h64
            refine wp_ll2 jF_188_69 rfl rfl (pc2 := 71) ?_
            refine wp_lc jF_188_71 rfl (pc2 := 72) ?_
            refine wp_anyL (pc2 := 73) jF_188_72 rfl rfl ?_
            intro z73 h74
            refine wp_z_eq jF_188_73 (m_rgb h74 rfl) rfl (pc2 := 76) ?_ ?_
            · intro h75
              refine wp_il2 jF_188_80 rfl rfl (pc2 := 82) ?_
              refine wp_z_ne jF_188_82 ⟨by omega, by omega⟩ rfl (pc2 := 85) ?_ ?_
              · intro h76
                refine wp_al1 jF_188_98 rfl rfl (pc2 := 99) ?_
                refine wp_ll2 jF_188_99 rfl rfl (pc2 := 101) ?_
                refine wp_ll2 jF_188_101 rfl rfl (pc2 := 103) ?_
                refine wp_il2 jF_188_103 rfl rfl (pc2 := 105) ?_
                refine wp_cV (as := [.long y52, .long y63, iV x53]) (rest := []) (a := 16) (mx := 6) (ci := 3) jF_188_105 kd16 (by decide) rfl rfl rfl rfl rfl (by omega) (by omega) rfl (pc2 := 108) ?_
                refine wp_use (m_199_r16 τ60 g61 y52 y63 x53 (by omega) (by omega)  _ _ (by omega) (by omega)) ?_
                rintro _ _ ⟨y79, rfl, rfl⟩
                show WP 188 108 [(0, .ref 16), (1, .ref 20), (2, .ref 70), (3, .ref 75), (4, .long y52), (6, iV x53), (7, .long y63)] [.long y79] _ _ _ _
                refine wp_ls2 (lv2 := [(0, .ref 16), (1, .ref 20), (2, .ref 70), (3, .ref 75), (4, .long y79), (6, iV x53), (7, .long y63)]) jF_188_108 rfl rfl rfl (pc2 := 110) ?_
                refine wp_inc (lv2 := [(0, .ref 16), (1, .ref 20), (2, .ref 70), (3, .ref 75), (4, .long y79), (6, iV (x53 + 1)), (7, .long y63)]) jF_188_110 rfl rfl rfl rfl (pc2 := 113) ?_
                refine wp_go jF_188_113 ?_
                refine wp_less [0, 1, 2, 3, 4, 6] (lv2 := [(0, .ref 16), (1, .ref 20), (2, .ref 70), (3, .ref 75), (4, .long y79), (6, iV (x53 + 1))]) rfl rfl ?_
                exact ih58 (y79, (x53 + 1)) τ60 ⟨⟨by (try dsimp only); omega, by (try dsimp only); omega⟩, g61, (FR.up f57 f62 sb_WQp_WQp)⟩ (by show Int.toNat ((τ9.1 20 12) - (x53 + 1)) < Int.toNat ((τ9.1 20 12) - x53); omega)
              · intro h76
                refine wp_al1 jF_188_85 rfl rfl (pc2 := 86) ?_
                refine wp_gi jF_188_86 kd16 (by decide) rfl ((FR.at f62 16 6 rfl).trans ((FR.at f57 16 6 rfl).trans ((FRw.nj f11 (by decide)).trans ((FRw.nj f7 (by decide)).trans (FRw.nj f3 (by decide)))))) rfl (pc2 := 89) ?_
                refine wp_ic jF_188_89 rfl (pc2 := 90) ?_
                refine wp_i_lt jF_188_90 (m_rgb b13 rfl) (m_rgl rfl) rfl (pc2 := 93) ?_ ?_
                · intro h80
                  refine wp_al1 jF_188_98 rfl rfl (pc2 := 99) ?_
                  refine wp_ll2 jF_188_99 rfl rfl (pc2 := 101) ?_
                  refine wp_ll2 jF_188_101 rfl rfl (pc2 := 103) ?_
                  refine wp_il2 jF_188_103 rfl rfl (pc2 := 105) ?_
                  refine wp_cV (as := [.long y52, .long y63, iV x53]) (rest := []) (a := 16) (mx := 6) (ci := 3) jF_188_105 kd16 (by decide) rfl rfl rfl rfl rfl (by omega) (by omega) rfl (pc2 := 108) ?_
                  refine wp_use (m_199_r16 τ60 g61 y52 y63 x53 (by omega) (by omega)  _ _ (by omega) (by omega)) ?_
                  rintro _ _ ⟨y83, rfl, rfl⟩
                  show WP 188 108 [(0, .ref 16), (1, .ref 20), (2, .ref 70), (3, .ref 75), (4, .long y52), (6, iV x53), (7, .long y63)] [.long y83] _ _ _ _
                  refine wp_ls2 (lv2 := [(0, .ref 16), (1, .ref 20), (2, .ref 70), (3, .ref 75), (4, .long y83), (6, iV x53), (7, .long y63)]) jF_188_108 rfl rfl rfl (pc2 := 110) ?_
                  refine wp_inc (lv2 := [(0, .ref 16), (1, .ref 20), (2, .ref 70), (3, .ref 75), (4, .long y83), (6, iV (x53 + 1)), (7, .long y63)]) jF_188_110 rfl rfl rfl rfl (pc2 := 113) ?_
                  refine wp_go jF_188_113 ?_
                  refine wp_less [0, 1, 2, 3, 4, 6] (lv2 := [(0, .ref 16), (1, .ref 20), (2, .ref 70), (3, .ref 75), (4, .long y83), (6, iV (x53 + 1))]) rfl rfl ?_
                  exact ih58 (y83, (x53 + 1)) τ60 ⟨⟨by (try dsimp only); omega, by (try dsimp only); omega⟩, g61, (FR.up f57 f62 sb_WQp_WQp)⟩ (by show Int.toNat ((τ9.1 20 12) - (x53 + 1)) < Int.toNat ((τ9.1 20 12) - x53); omega)
                · intro h80
                  refine wp_ll2 jF_188_93 rfl rfl (pc2 := 95) ?_
                  refine wp_go jF_188_95 ?_
                  refine wp_ls2 (lv2 := [(0, .ref 16), (1, .ref 20), (2, .ref 70), (3, .ref 75), (4, .long y63), (6, iV x53), (7, .long y63)]) jF_188_108 rfl rfl rfl (pc2 := 110) ?_
                  refine wp_inc (lv2 := [(0, .ref 16), (1, .ref 20), (2, .ref 70), (3, .ref 75), (4, .long y63), (6, iV (x53 + 1)), (7, .long y63)]) jF_188_110 rfl rfl rfl rfl (pc2 := 113) ?_
                  refine wp_go jF_188_113 ?_
                  refine wp_less [0, 1, 2, 3, 4, 6] (lv2 := [(0, .ref 16), (1, .ref 20), (2, .ref 70), (3, .ref 75), (4, .long y63), (6, iV (x53 + 1))]) rfl rfl ?_
                  exact ih58 (y63, (x53 + 1)) τ60 ⟨⟨by (try dsimp only); omega, by (try dsimp only); omega⟩, g61, (FR.up f57 f62 sb_WQp_WQp)⟩ (by show Int.toNat ((τ9.1 20 12) - (x53 + 1)) < Int.toNat ((τ9.1 20 12) - x53); omega)
            · intro h75
              refine wp_il2 jF_188_76 rfl rfl (pc2 := 78) ?_
              refine wp_i2l jF_188_78 rfl (pc2 := 79) ?_
              refine wp_rl jF_188_79 ?_
              exact ⟨(Int32.toInt64 (Int32.ofInt x53)), rfl, g61, (FR.up (FR.up (FR.w (FR.w (FR.w FR.rf f3 rfl) f7 rfl) f11 rfl) f57 sb_WQp_WQa) f62 sb_WQp_WQa)⟩
    · intro h49
      refine wp_ld jF_188_30 rfl (pc2 := 33) ?_
      refine wp_go jF_188_33 ?_
      refine wp_ls2 (lv2 := [(0, .ref 16), (1, .ref 20), (2, .ref 70), (3, .ref 75), (4, .long (-1))]) jF_188_37 rfl rfl rfl (pc2 := 39) ?_
      refine wp_ic jF_188_39 rfl (pc2 := 40) ?_
      refine wp_is2 (lv2 := [(0, .ref 16), (1, .ref 20), (2, .ref 70), (3, .ref 75), (4, .long (-1)), (6, iV 0)]) jF_188_40 rfl rfl rfl (pc2 := 42) ?_
      have b84 := GI.b hg 20 12 kd20 (lo := (-2147483648)) (hi := 2147483647) rfl
      have q85 : (τ9.1 20 12) = (σ.1 20 12) := ((FRw.na f11 (by decide)).trans ((FRw.na f7 (by decide)).trans (FRw.na f3 (by decide))))
      refine wp_loop (α := Int64 × Int) (fun a => [(0, .ref 16), (1, .ref 20), (2, .ref 70), (3, .ref 75), (4, .long (a.1)), (6, iV (a.2))]) (fun a τ => (0 ≤ a.2 ∧ a.2 ≤ 2147483647) ∧ GI τ ∧ FR WQp τ9 τ) (fun a τ => Int.toNat ((τ9.1 20 12) - (a.2))) ((-1), 0) τ9 ?_ ?_
      · skip
        exact ⟨⟨by (try dsimp only); omega, by (try dsimp only); omega⟩, g10, FR.rf⟩
      · rintro ⟨y86, x87⟩ τ89 ⟨h88, g90, f91⟩ ih92
        try dsimp only at h88 g90 f91
        show WP 188 42 [(0, .ref 16), (1, .ref 20), (2, .ref 70), (3, .ref 75), (4, .long y86), (6, iV x87)] [] _ _ _ _
        show WP 188 42 [(0, .ref 16), (1, .ref 20), (2, .ref 70), (3, .ref 75), (4, .long y86), (6, iV x87)] [] _ _ _ _
        refine wp_il2 jF_188_42 rfl rfl (pc2 := 44) ?_
        refine wp_al1 jF_188_44 rfl rfl (pc2 := 45) ?_
        refine wp_gr jF_188_45 kd16 (by decide) (c := 2) rfl (m_fv2 ((FR.ar f91 16 8 rfl).trans ((FRw.njr f11 (by decide)).trans ((FRw.njr f7 (by decide)).trans e4))) rfl) rfl (pc2 := 48) ?_
        refine wp_gi jF_188_48 kd20 (by decide) rfl ((FR.at f91 20 12 rfl).trans ((FRw.na f11 (by decide)).trans ((FRw.na f7 (by decide)).trans (FRw.na f3 (by decide))))) rfl (pc2 := 51) ?_
        refine wp_i_ge jF_188_51 (m_rgb h88 rfl) (m_rgb b84 rfl) rfl (pc2 := 54) ?_ ?_
        · intro h93
          refine wp_ll2 jF_188_116 rfl rfl (pc2 := 118) ?_
          refine wp_rl jF_188_118 ?_
          exact ⟨y86, rfl, g90, (FR.up (FR.w (FR.w (FR.w FR.rf f3 rfl) f7 rfl) f11 rfl) f91 sb_WQp_WQa)⟩
        · intro h93
          refine wp_al1 jF_188_54 rfl rfl (pc2 := 55) ?_
          refine wp_il2 jF_188_55 rfl rfl (pc2 := 57) ?_
          refine wp_cV (as := [iV x87]) (rest := []) (a := 16) (mx := 6) (ci := 3) jF_188_57 kd16 (by decide) rfl rfl rfl rfl rfl (by omega) (by omega) rfl (pc2 := 60) ?_
          refine wp_use (m_189_r16_t20 τ89 g90 x87 (by omega) (by omega) (((FR.ar f91 16 8 rfl).trans ((FRw.njr f11 (by decide)).trans ((FRw.njr f7 (by decide)).trans e4)))) (((FR.ar f91 16 9 rfl).trans ((FRw.njr f11 (by decide)).trans e8))) (((FR.ar f91 16 10 rfl).trans e12))  _ _ (by omega) (by omega)) ?_
          rintro _ τ94 ⟨y97, rfl, g95, f96⟩
          show WP 188 60 [(0, .ref 16), (1, .ref 20), (2, .ref 70), (3, .ref 75), (4, .long y86), (6, iV x87)] [.long y97] _ _ _ _
          refine wp_ls2 (lv2 := [(0, .ref 16), (1, .ref 20), (2, .ref 70), (3, .ref 75), (4, .long y86), (6, iV x87), (7, .long y97)]) jF_188_60 rfl rfl rfl (pc2 := 62) ?_
          refine wp_al1 jF_188_62 rfl rfl (pc2 := 63) ?_
          refine wp_gi jF_188_63 kd16 (by decide) rfl ((FR.at f96 16 6 rfl).trans ((FR.at f91 16 6 rfl).trans ((FRw.nj f11 (by decide)).trans ((FRw.nj f7 (by decide)).trans (FRw.nj f3 (by decide)))))) rfl (pc2 := 66) ?_
          refine wp_z_ne jF_188_66 (m_rgb b13 rfl) rfl (pc2 := 69) ?_ ?_
          · intro h98
            refine wp_il2 jF_188_80 rfl rfl (pc2 := 82) ?_
            refine wp_z_ne jF_188_82 ⟨by omega, by omega⟩ rfl (pc2 := 85) ?_ ?_
            · intro h99
              refine wp_al1 jF_188_98 rfl rfl (pc2 := 99) ?_
              refine wp_ll2 jF_188_99 rfl rfl (pc2 := 101) ?_
              refine wp_ll2 jF_188_101 rfl rfl (pc2 := 103) ?_
              refine wp_il2 jF_188_103 rfl rfl (pc2 := 105) ?_
              refine wp_cV (as := [.long y86, .long y97, iV x87]) (rest := []) (a := 16) (mx := 6) (ci := 3) jF_188_105 kd16 (by decide) rfl rfl rfl rfl rfl (by omega) (by omega) rfl (pc2 := 108) ?_
              refine wp_use (m_199_r16 τ94 g95 y86 y97 x87 (by omega) (by omega)  _ _ (by omega) (by omega)) ?_
              rintro _ _ ⟨y102, rfl, rfl⟩
              show WP 188 108 [(0, .ref 16), (1, .ref 20), (2, .ref 70), (3, .ref 75), (4, .long y86), (6, iV x87), (7, .long y97)] [.long y102] _ _ _ _
              refine wp_ls2 (lv2 := [(0, .ref 16), (1, .ref 20), (2, .ref 70), (3, .ref 75), (4, .long y102), (6, iV x87), (7, .long y97)]) jF_188_108 rfl rfl rfl (pc2 := 110) ?_
              refine wp_inc (lv2 := [(0, .ref 16), (1, .ref 20), (2, .ref 70), (3, .ref 75), (4, .long y102), (6, iV (x87 + 1)), (7, .long y97)]) jF_188_110 rfl rfl rfl rfl (pc2 := 113) ?_
              refine wp_go jF_188_113 ?_
              refine wp_less [0, 1, 2, 3, 4, 6] (lv2 := [(0, .ref 16), (1, .ref 20), (2, .ref 70), (3, .ref 75), (4, .long y102), (6, iV (x87 + 1))]) rfl rfl ?_
              exact ih92 (y102, (x87 + 1)) τ94 ⟨⟨by (try dsimp only); omega, by (try dsimp only); omega⟩, g95, (FR.up f91 f96 sb_WQp_WQp)⟩ (by show Int.toNat ((τ9.1 20 12) - (x87 + 1)) < Int.toNat ((τ9.1 20 12) - x87); omega)
            · intro h99
              refine wp_al1 jF_188_85 rfl rfl (pc2 := 86) ?_
              refine wp_gi jF_188_86 kd16 (by decide) rfl ((FR.at f96 16 6 rfl).trans ((FR.at f91 16 6 rfl).trans ((FRw.nj f11 (by decide)).trans ((FRw.nj f7 (by decide)).trans (FRw.nj f3 (by decide)))))) rfl (pc2 := 89) ?_
              refine wp_ic jF_188_89 rfl (pc2 := 90) ?_
              refine wp_i_lt jF_188_90 (m_rgb b13 rfl) (m_rgl rfl) rfl (pc2 := 93) ?_ ?_
              · intro h103
                refine wp_al1 jF_188_98 rfl rfl (pc2 := 99) ?_
                refine wp_ll2 jF_188_99 rfl rfl (pc2 := 101) ?_
                refine wp_ll2 jF_188_101 rfl rfl (pc2 := 103) ?_
                refine wp_il2 jF_188_103 rfl rfl (pc2 := 105) ?_
                refine wp_cV (as := [.long y86, .long y97, iV x87]) (rest := []) (a := 16) (mx := 6) (ci := 3) jF_188_105 kd16 (by decide) rfl rfl rfl rfl rfl (by omega) (by omega) rfl (pc2 := 108) ?_
                refine wp_use (m_199_r16 τ94 g95 y86 y97 x87 (by omega) (by omega)  _ _ (by omega) (by omega)) ?_
                rintro _ _ ⟨y106, rfl, rfl⟩
                show WP 188 108 [(0, .ref 16), (1, .ref 20), (2, .ref 70), (3, .ref 75), (4, .long y86), (6, iV x87), (7, .long y97)] [.long y106] _ _ _ _
                refine wp_ls2 (lv2 := [(0, .ref 16), (1, .ref 20), (2, .ref 70), (3, .ref 75), (4, .long y106), (6, iV x87), (7, .long y97)]) jF_188_108 rfl rfl rfl (pc2 := 110) ?_
                refine wp_inc (lv2 := [(0, .ref 16), (1, .ref 20), (2, .ref 70), (3, .ref 75), (4, .long y106), (6, iV (x87 + 1)), (7, .long y97)]) jF_188_110 rfl rfl rfl rfl (pc2 := 113) ?_
                refine wp_go jF_188_113 ?_
                refine wp_less [0, 1, 2, 3, 4, 6] (lv2 := [(0, .ref 16), (1, .ref 20), (2, .ref 70), (3, .ref 75), (4, .long y106), (6, iV (x87 + 1))]) rfl rfl ?_
                exact ih92 (y106, (x87 + 1)) τ94 ⟨⟨by (try dsimp only); omega, by (try dsimp only); omega⟩, g95, (FR.up f91 f96 sb_WQp_WQp)⟩ (by show Int.toNat ((τ9.1 20 12) - (x87 + 1)) < Int.toNat ((τ9.1 20 12) - x87); omega)
              · intro h103
                refine wp_ll2 jF_188_93 rfl rfl (pc2 := 95) ?_
                refine wp_go jF_188_95 ?_
                refine wp_ls2 (lv2 := [(0, .ref 16), (1, .ref 20), (2, .ref 70), (3, .ref 75), (4, .long y97), (6, iV x87), (7, .long y97)]) jF_188_108 rfl rfl rfl (pc2 := 110) ?_
                refine wp_inc (lv2 := [(0, .ref 16), (1, .ref 20), (2, .ref 70), (3, .ref 75), (4, .long y97), (6, iV (x87 + 1)), (7, .long y97)]) jF_188_110 rfl rfl rfl rfl (pc2 := 113) ?_
                refine wp_go jF_188_113 ?_
                refine wp_less [0, 1, 2, 3, 4, 6] (lv2 := [(0, .ref 16), (1, .ref 20), (2, .ref 70), (3, .ref 75), (4, .long y97), (6, iV (x87 + 1))]) rfl rfl ?_
                exact ih92 (y97, (x87 + 1)) τ94 ⟨⟨by (try dsimp only); omega, by (try dsimp only); omega⟩, g95, (FR.up f91 f96 sb_WQp_WQp)⟩ (by show Int.toNat ((τ9.1 20 12) - (x87 + 1)) < Int.toNat ((τ9.1 20 12) - x87); omega)
          · intro h98
            refine wp_ll2 jF_188_69 rfl rfl (pc2 := 71) ?_
            refine wp_lc jF_188_71 rfl (pc2 := 72) ?_
            refine wp_anyL (pc2 := 73) jF_188_72 rfl rfl ?_
            intro z107 h108
            refine wp_z_eq jF_188_73 (m_rgb h108 rfl) rfl (pc2 := 76) ?_ ?_
            · intro h109
              refine wp_il2 jF_188_80 rfl rfl (pc2 := 82) ?_
              refine wp_z_ne jF_188_82 ⟨by omega, by omega⟩ rfl (pc2 := 85) ?_ ?_
              · intro h110
                refine wp_al1 jF_188_98 rfl rfl (pc2 := 99) ?_
                refine wp_ll2 jF_188_99 rfl rfl (pc2 := 101) ?_
                refine wp_ll2 jF_188_101 rfl rfl (pc2 := 103) ?_
                refine wp_il2 jF_188_103 rfl rfl (pc2 := 105) ?_
                refine wp_cV (as := [.long y86, .long y97, iV x87]) (rest := []) (a := 16) (mx := 6) (ci := 3) jF_188_105 kd16 (by decide) rfl rfl rfl rfl rfl (by omega) (by omega) rfl (pc2 := 108) ?_
                refine wp_use (m_199_r16 τ94 g95 y86 y97 x87 (by omega) (by omega)  _ _ (by omega) (by omega)) ?_
                rintro _ _ ⟨y113, rfl, rfl⟩
                show WP 188 108 [(0, .ref 16), (1, .ref 20), (2, .ref 70), (3, .ref 75), (4, .long y86), (6, iV x87), (7, .long y97)] [.long y113] _ _ _ _
                refine wp_ls2 (lv2 := [(0, .ref 16), (1, .ref 20), (2, .ref 70), (3, .ref 75), (4, .long y113), (6, iV x87), (7, .long y97)]) jF_188_108 rfl rfl rfl (pc2 := 110) ?_
                refine wp_inc (lv2 := [(0, .ref 16), (1, .ref 20), (2, .ref 70), (3, .ref 75), (4, .long y113), (6, iV (x87 + 1)), (7, .long y97)]) jF_188_110 rfl rfl rfl rfl (pc2 := 113) ?_
                refine wp_go jF_188_113 ?_
                refine wp_less [0, 1, 2, 3, 4, 6] (lv2 := [(0, .ref 16), (1, .ref 20), (2, .ref 70), (3, .ref 75), (4, .long y113), (6, iV (x87 + 1))]) rfl rfl ?_
                exact ih92 (y113, (x87 + 1)) τ94 ⟨⟨by (try dsimp only); omega, by (try dsimp only); omega⟩, g95, (FR.up f91 f96 sb_WQp_WQp)⟩ (by show Int.toNat ((τ9.1 20 12) - (x87 + 1)) < Int.toNat ((τ9.1 20 12) - x87); omega)
              · intro h110
                refine wp_al1 jF_188_85 rfl rfl (pc2 := 86) ?_
                refine wp_gi jF_188_86 kd16 (by decide) rfl ((FR.at f96 16 6 rfl).trans ((FR.at f91 16 6 rfl).trans ((FRw.nj f11 (by decide)).trans ((FRw.nj f7 (by decide)).trans (FRw.nj f3 (by decide)))))) rfl (pc2 := 89) ?_
                refine wp_ic jF_188_89 rfl (pc2 := 90) ?_
                refine wp_i_lt jF_188_90 (m_rgb b13 rfl) (m_rgl rfl) rfl (pc2 := 93) ?_ ?_
                · intro h114
                  refine wp_al1 jF_188_98 rfl rfl (pc2 := 99) ?_
                  refine wp_ll2 jF_188_99 rfl rfl (pc2 := 101) ?_
                  refine wp_ll2 jF_188_101 rfl rfl (pc2 := 103) ?_
                  refine wp_il2 jF_188_103 rfl rfl (pc2 := 105) ?_
                  refine wp_cV (as := [.long y86, .long y97, iV x87]) (rest := []) (a := 16) (mx := 6) (ci := 3) jF_188_105 kd16 (by decide) rfl rfl rfl rfl rfl (by omega) (by omega) rfl (pc2 := 108) ?_
                  refine wp_use (m_199_r16 τ94 g95 y86 y97 x87 (by omega) (by omega)  _ _ (by omega) (by omega)) ?_
                  rintro _ _ ⟨y117, rfl, rfl⟩
                  show WP 188 108 [(0, .ref 16), (1, .ref 20), (2, .ref 70), (3, .ref 75), (4, .long y86), (6, iV x87), (7, .long y97)] [.long y117] _ _ _ _
                  refine wp_ls2 (lv2 := [(0, .ref 16), (1, .ref 20), (2, .ref 70), (3, .ref 75), (4, .long y117), (6, iV x87), (7, .long y97)]) jF_188_108 rfl rfl rfl (pc2 := 110) ?_
                  refine wp_inc (lv2 := [(0, .ref 16), (1, .ref 20), (2, .ref 70), (3, .ref 75), (4, .long y117), (6, iV (x87 + 1)), (7, .long y97)]) jF_188_110 rfl rfl rfl rfl (pc2 := 113) ?_
                  refine wp_go jF_188_113 ?_
                  refine wp_less [0, 1, 2, 3, 4, 6] (lv2 := [(0, .ref 16), (1, .ref 20), (2, .ref 70), (3, .ref 75), (4, .long y117), (6, iV (x87 + 1))]) rfl rfl ?_
                  exact ih92 (y117, (x87 + 1)) τ94 ⟨⟨by (try dsimp only); omega, by (try dsimp only); omega⟩, g95, (FR.up f91 f96 sb_WQp_WQp)⟩ (by show Int.toNat ((τ9.1 20 12) - (x87 + 1)) < Int.toNat ((τ9.1 20 12) - x87); omega)
                · intro h114
                  refine wp_ll2 jF_188_93 rfl rfl (pc2 := 95) ?_
                  refine wp_go jF_188_95 ?_
                  refine wp_ls2 (lv2 := [(0, .ref 16), (1, .ref 20), (2, .ref 70), (3, .ref 75), (4, .long y97), (6, iV x87), (7, .long y97)]) jF_188_108 rfl rfl rfl (pc2 := 110) ?_
                  refine wp_inc (lv2 := [(0, .ref 16), (1, .ref 20), (2, .ref 70), (3, .ref 75), (4, .long y97), (6, iV (x87 + 1)), (7, .long y97)]) jF_188_110 rfl rfl rfl rfl (pc2 := 113) ?_
                  refine wp_go jF_188_113 ?_
                  refine wp_less [0, 1, 2, 3, 4, 6] (lv2 := [(0, .ref 16), (1, .ref 20), (2, .ref 70), (3, .ref 75), (4, .long y97), (6, iV (x87 + 1))]) rfl rfl ?_
                  exact ih92 (y97, (x87 + 1)) τ94 ⟨⟨by (try dsimp only); omega, by (try dsimp only); omega⟩, g95, (FR.up f91 f96 sb_WQp_WQp)⟩ (by show Int.toNat ((τ9.1 20 12) - (x87 + 1)) < Int.toNat ((τ9.1 20 12) - x87); omega)
            · intro h109
              refine wp_il2 jF_188_76 rfl rfl (pc2 := 78) ?_
              refine wp_i2l jF_188_78 rfl (pc2 := 79) ?_
              refine wp_rl jF_188_79 ?_
              exact ⟨(Int32.toInt64 (Int32.ofInt x87)), rfl, g95, (FR.up (FR.up (FR.w (FR.w (FR.w FR.rf f3 rfl) f7 rfl) f11 rfl) f91 sb_WQp_WQa) f96 sb_WQp_WQa)⟩
set_option maxHeartbeats 4000000 in
set_option maxRecDepth 20000 in
/-- Question.plain -/
theorem m_191_r16_t45 (σ : jM) (hg : GI σ) (step : Int) (hl_step : (-2147483648) ≤ step) (hu_step : step ≤ 2147483647) (nb : Int) (hl_nb : 0 ≤ nb) (hu_nb : nb ≤ 2147483647) (hr0 : σ.2.2 16 8 = 45) (hr1 : σ.2.2 16 9 = 70) (hr2 : σ.2.2 16 10 = 75)  (fr lo : Nat) (hfr : 1 ≤ fr) (hlo : 22 ≤ lo) : WP 191 0 (lv_args 0 [.ref 16, iV step, iV nb]) [] fr lo σ (fun v τ => ∃ z : Int64, v = some (.long z) ∧ σ = τ) := by
  show WP 191 0 [(0, .ref 16), (1, iV step), (2, iV nb)] [] _ _ _ _
  refine wp_al1 jF_191_0 rfl rfl (pc2 := 1) ?_
  refine wp_gr jF_191_1 kd16 (by decide) (c := 2) rfl (m_fv2 hr0 rfl) rfl (pc2 := 4) ?_
  refine wp_ic jF_191_4 rfl (pc2 := 5) ?_
  refine wp_cV (as := [iV 0]) (rest := []) (a := 45) (mx := 2) (ci := 8) jF_191_5 kd45 (by decide) rfl rfl rfl rfl rfl (by omega) (by omega) rfl (pc2 := 8) ?_
  refine wp_use (m_91_r45 σ hg 0 (by omega) (by omega)  _ _ (by omega) (by omega)) ?_
  rintro _ _ ⟨z3, rfl, h4, rfl⟩
  show WP 191 8 [(0, .ref 16), (1, iV step), (2, iV nb)] [iV z3] _ _ _ _
  refine wp_is1 (lv2 := [(0, .ref 16), (1, iV step), (2, iV nb), (3, iV z3)]) jF_191_8 rfl rfl rfl (pc2 := 9) ?_
  refine wp_al1 jF_191_9 rfl rfl (pc2 := 10) ?_
  refine wp_gr jF_191_10 kd16 (by decide) (c := 2) rfl (m_fv2 hr0 rfl) rfl (pc2 := 13) ?_
  refine wp_ic jF_191_13 rfl (pc2 := 14) ?_
  refine wp_cV (as := [iV 1]) (rest := []) (a := 45) (mx := 2) (ci := 8) jF_191_14 kd45 (by decide) rfl rfl rfl rfl rfl (by omega) (by omega) rfl (pc2 := 17) ?_
  refine wp_use (m_91_r45 σ hg 1 (by omega) (by omega)  _ _ (by omega) (by omega)) ?_
  rintro _ _ ⟨z7, rfl, h8, rfl⟩
  show WP 191 17 [(0, .ref 16), (1, iV step), (2, iV nb), (3, iV z3)] [iV z7] _ _ _ _
  refine wp_is2 (lv2 := [(0, .ref 16), (1, iV step), (2, iV nb), (3, iV z3), (4, iV z7)]) jF_191_17 rfl rfl rfl (pc2 := 19) ?_
  refine wp_il1 jF_191_19 rfl rfl (pc2 := 20) ?_
  refine wp_z_le jF_191_20 (m_rgb h4 rfl) rfl (pc2 := 23) ?_ ?_
  · intro h9
    refine wp_lc jF_191_28 rfl (pc2 := 29) ?_
    refine wp_rl jF_191_29 ?_
    exact ⟨(Int64.ofNat 0), rfl, rfl⟩
  · intro h9
    refine wp_il2 jF_191_23 rfl rfl (pc2 := 25) ?_
    refine wp_z_gt jF_191_25 (m_rgb h8 rfl) rfl (pc2 := 28) ?_ ?_
    · intro h10
      refine wp_il1 jF_191_30 rfl rfl (pc2 := 31) ?_
      rcases m_tsw step 6 12 with h11 | h11
      · refine wp_tswd (tgt := 130) jF_191_31 ⟨by omega, by omega⟩ h11 (by decide) ?_
        refine wp_lc jF_191_130 rfl (pc2 := 131) ?_
        refine wp_rl jF_191_131 ?_
        exact ⟨(Int64.ofNat 0), rfl, rfl⟩
      · have h11c : step = 6 ∨ step = 7 ∨ step = 8 ∨ step = 9 ∨ step = 10 ∨ step = 11 ∨ step = 12 := by omega
        rcases h11c with hh | hh | hh | hh | hh | hh | hh
        · refine wp_tswx (x := 6) (tgt := 72) jF_191_31 hh (by decide) ?_
          subst hh
          refine wp_lc jF_191_72 rfl (pc2 := 73) ?_
          refine wp_rl jF_191_73 ?_
          exact ⟨(Int64.ofNat 1), rfl, rfl⟩
        · refine wp_tswx (x := 7) (tgt := 74) jF_191_31 hh (by decide) ?_
          subst hh
          refine wp_il1 jF_191_74 rfl rfl (pc2 := 75) ?_
          refine wp_i2l jF_191_75 rfl (pc2 := 76) ?_
          refine wp_rl jF_191_76 ?_
          exact ⟨(Int32.toInt64 (Int32.ofInt nb)), rfl, rfl⟩
        · refine wp_tswx (x := 8) (tgt := 77) jF_191_31 hh (by decide) ?_
          subst hh
          refine wp_il1 jF_191_77 rfl rfl (pc2 := 78) ?_
          refine wp_il1 jF_191_78 rfl rfl (pc2 := 79) ?_
          refine wp_remp jF_191_79 ⟨by omega, by omega⟩ (by omega) ⟨by omega, by omega⟩ (by omega) rfl (pc2 := 80) ?_
          intro z12 h13
          refine wp_i2l jF_191_80 rfl (pc2 := 81) ?_
          refine wp_rl jF_191_81 ?_
          exact ⟨(Int32.toInt64 (Int32.ofInt z12)), rfl, rfl⟩
        · refine wp_tswx (x := 9) (tgt := 82) jF_191_31 hh (by decide) ?_
          subst hh
          refine wp_il1 jF_191_82 rfl rfl (pc2 := 83) ?_
          refine wp_il1 jF_191_83 rfl rfl (pc2 := 84) ?_
          refine wp_divp jF_191_84 ⟨by omega, by omega⟩ (by omega) ⟨by omega, by omega⟩ (by omega) rfl (pc2 := 85) ?_
          intro z14 h15
          refine wp_il2 jF_191_85 rfl rfl (pc2 := 87) ?_
          refine wp_remp jF_191_87 ⟨by omega, by omega⟩ (by omega) ⟨by omega, by omega⟩ (by omega) rfl (pc2 := 88) ?_
          intro z16 h17
          refine wp_i2l jF_191_88 rfl (pc2 := 89) ?_
          refine wp_rl jF_191_89 ?_
          exact ⟨(Int32.toInt64 (Int32.ofInt z16)), rfl, rfl⟩
        · refine wp_tswx (x := 10) (tgt := 90) jF_191_31 hh (by decide) ?_
          subst hh
          refine wp_il1 jF_191_90 rfl rfl (pc2 := 91) ?_
          refine wp_il1 jF_191_91 rfl rfl (pc2 := 92) ?_
          refine wp_divp jF_191_92 ⟨by omega, by omega⟩ (by omega) ⟨by omega, by omega⟩ (by omega) rfl (pc2 := 93) ?_
          intro z18 h19
          refine wp_il2 jF_191_93 rfl rfl (pc2 := 95) ?_
          refine wp_divp jF_191_95 ⟨by omega, by omega⟩ (by omega) ⟨by omega, by omega⟩ (by omega) rfl (pc2 := 96) ?_
          intro z20 h21
          refine wp_i2l jF_191_96 rfl (pc2 := 97) ?_
          refine wp_rl jF_191_97 ?_
          exact ⟨(Int32.toInt64 (Int32.ofInt z20)), rfl, rfl⟩
        · refine wp_tswx (x := 11) (tgt := 98) jF_191_31 hh (by decide) ?_
          subst hh
          refine wp_al1 jF_191_98 rfl rfl (pc2 := 99) ?_
          refine wp_gr jF_191_99 kd16 (by decide) (c := 2) rfl (m_fv2 hr1 rfl) rfl (pc2 := 102) ?_
          refine wp_glA jF_191_102 kd70 (by decide) rfl rfl (pc2 := 105) ?_
          intro y22
          refine wp_il1 jF_191_105 rfl rfl (pc2 := 106) ?_
          refine wp_cS (as := [.long y22, iV nb]) (rest := []) (mx := 3) jF_191_106 rfl rfl rfl rfl (by omega) (by omega) rfl (pc2 := 109) ?_
          show WP 101 0 [(0, .long y22), (2, iV nb)] [] _ _ _ _
          refine wp_ll1 jF_101_0 rfl rfl (pc2 := 1) ?_
          refine wp_il1 jF_101_1 rfl rfl (pc2 := 2) ?_
          refine wp_lng (pc2 := 3) jF_101_2 rfl rfl ?_
          intro y23
          refine wp_lc jF_101_3 rfl (pc2 := 4) ?_
          refine wp_lng (pc2 := 5) jF_101_4 rfl rfl ?_
          intro y24
          refine wp_lc jF_101_5 rfl (pc2 := 6) ?_
          refine wp_anyL (pc2 := 7) jF_101_6 rfl rfl ?_
          intro z25 h26
          refine wp_z_eq jF_101_7 (m_rgb h26 rfl) rfl (pc2 := 10) ?_ ?_
          · intro h27
            refine wp_ic jF_101_14 rfl (pc2 := 15) ?_
            refine wp_ri jF_101_15 rfl ?_
            show WP 191 109 [(0, .ref 16), (1, iV 11), (2, iV nb), (3, iV z3), (4, iV z7)] [iV 0] _ _ _ _
            refine wp_cS (as := [iV 0]) (rest := []) (mx := 1) jF_191_109 rfl rfl rfl rfl (by omega) (by omega) rfl (pc2 := 112) ?_
            show WP 98 0 [(0, iV 0)] [] _ _ _ _
            refine wp_il1 jF_98_0 rfl rfl (pc2 := 1) ?_
            refine wp_z_eq jF_98_1 (m_rgl rfl) rfl (pc2 := 4) ?_ ?_
            · intro h28
              refine wp_ic jF_98_8 rfl (pc2 := 9) ?_
              refine wp_ri jF_98_9 rfl ?_
              show WP 191 112 [(0, .ref 16), (1, iV 11), (2, iV nb), (3, iV z3), (4, iV z7)] [iV 0] _ _ _ _
              refine wp_i2l jF_191_112 rfl (pc2 := 113) ?_
              refine wp_rl jF_191_113 ?_
              exact ⟨(Int32.toInt64 (Int32.ofInt 0)), rfl, rfl⟩
            · intro h28; exfalso; omega
          · intro h27
            refine wp_ic jF_101_10 rfl (pc2 := 11) ?_
            refine wp_go jF_101_11 ?_
            refine wp_ri jF_101_15 rfl ?_
            show WP 191 109 [(0, .ref 16), (1, iV 11), (2, iV nb), (3, iV z3), (4, iV z7)] [iV 1] _ _ _ _
            refine wp_cS (as := [iV 1]) (rest := []) (mx := 1) jF_191_109 rfl rfl rfl rfl (by omega) (by omega) rfl (pc2 := 112) ?_
            show WP 98 0 [(0, iV 1)] [] _ _ _ _
            refine wp_il1 jF_98_0 rfl rfl (pc2 := 1) ?_
            refine wp_z_eq jF_98_1 (m_rgl rfl) rfl (pc2 := 4) ?_ ?_
            · intro h29; exfalso; omega
            · intro h29
              refine wp_ic jF_98_4 rfl (pc2 := 5) ?_
              refine wp_go jF_98_5 ?_
              refine wp_ri jF_98_9 rfl ?_
              show WP 191 112 [(0, .ref 16), (1, iV 11), (2, iV nb), (3, iV z3), (4, iV z7)] [iV 1] _ _ _ _
              refine wp_i2l jF_191_112 rfl (pc2 := 113) ?_
              refine wp_rl jF_191_113 ?_
              exact ⟨(Int32.toInt64 (Int32.ofInt 1)), rfl, rfl⟩
        · refine wp_tswx (x := 12) (tgt := 114) jF_191_31 hh (by decide) ?_
          subst hh
          refine wp_al1 jF_191_114 rfl rfl (pc2 := 115) ?_
          refine wp_gr jF_191_115 kd16 (by decide) (c := 2) rfl (m_fv2 hr2 rfl) rfl (pc2 := 118) ?_
          refine wp_glA jF_191_118 kd75 (by decide) rfl rfl (pc2 := 121) ?_
          intro y30
          refine wp_il1 jF_191_121 rfl rfl (pc2 := 122) ?_
          refine wp_cS (as := [.long y30, iV nb]) (rest := []) (mx := 3) jF_191_122 rfl rfl rfl rfl (by omega) (by omega) rfl (pc2 := 125) ?_
          show WP 101 0 [(0, .long y30), (2, iV nb)] [] _ _ _ _
          refine wp_ll1 jF_101_0 rfl rfl (pc2 := 1) ?_
          refine wp_il1 jF_101_1 rfl rfl (pc2 := 2) ?_
          refine wp_lng (pc2 := 3) jF_101_2 rfl rfl ?_
          intro y31
          refine wp_lc jF_101_3 rfl (pc2 := 4) ?_
          refine wp_lng (pc2 := 5) jF_101_4 rfl rfl ?_
          intro y32
          refine wp_lc jF_101_5 rfl (pc2 := 6) ?_
          refine wp_anyL (pc2 := 7) jF_101_6 rfl rfl ?_
          intro z33 h34
          refine wp_z_eq jF_101_7 (m_rgb h34 rfl) rfl (pc2 := 10) ?_ ?_
          · intro h35
            refine wp_ic jF_101_14 rfl (pc2 := 15) ?_
            refine wp_ri jF_101_15 rfl ?_
            show WP 191 125 [(0, .ref 16), (1, iV 12), (2, iV nb), (3, iV z3), (4, iV z7)] [iV 0] _ _ _ _
            refine wp_cS (as := [iV 0]) (rest := []) (mx := 1) jF_191_125 rfl rfl rfl rfl (by omega) (by omega) rfl (pc2 := 128) ?_
            show WP 98 0 [(0, iV 0)] [] _ _ _ _
            refine wp_il1 jF_98_0 rfl rfl (pc2 := 1) ?_
            refine wp_z_eq jF_98_1 (m_rgl rfl) rfl (pc2 := 4) ?_ ?_
            · intro h36
              refine wp_ic jF_98_8 rfl (pc2 := 9) ?_
              refine wp_ri jF_98_9 rfl ?_
              show WP 191 128 [(0, .ref 16), (1, iV 12), (2, iV nb), (3, iV z3), (4, iV z7)] [iV 0] _ _ _ _
              refine wp_i2l jF_191_128 rfl (pc2 := 129) ?_
              refine wp_rl jF_191_129 ?_
              exact ⟨(Int32.toInt64 (Int32.ofInt 0)), rfl, rfl⟩
            · intro h36; exfalso; omega
          · intro h35
            refine wp_ic jF_101_10 rfl (pc2 := 11) ?_
            refine wp_go jF_101_11 ?_
            refine wp_ri jF_101_15 rfl ?_
            show WP 191 125 [(0, .ref 16), (1, iV 12), (2, iV nb), (3, iV z3), (4, iV z7)] [iV 1] _ _ _ _
            refine wp_cS (as := [iV 1]) (rest := []) (mx := 1) jF_191_125 rfl rfl rfl rfl (by omega) (by omega) rfl (pc2 := 128) ?_
            show WP 98 0 [(0, iV 1)] [] _ _ _ _
            refine wp_il1 jF_98_0 rfl rfl (pc2 := 1) ?_
            refine wp_z_eq jF_98_1 (m_rgl rfl) rfl (pc2 := 4) ?_ ?_
            · intro h37; exfalso; omega
            · intro h37
              refine wp_ic jF_98_4 rfl (pc2 := 5) ?_
              refine wp_go jF_98_5 ?_
              refine wp_ri jF_98_9 rfl ?_
              show WP 191 128 [(0, .ref 16), (1, iV 12), (2, iV nb), (3, iV z3), (4, iV z7)] [iV 1] _ _ _ _
              refine wp_i2l jF_191_128 rfl (pc2 := 129) ?_
              refine wp_rl jF_191_129 ?_
              exact ⟨(Int32.toInt64 (Int32.ofInt 1)), rfl, rfl⟩
    · intro h10
      refine wp_lc jF_191_28 rfl (pc2 := 29) ?_
      refine wp_rl jF_191_29 ?_
      exact ⟨(Int64.ofNat 0), rfl, rfl⟩
