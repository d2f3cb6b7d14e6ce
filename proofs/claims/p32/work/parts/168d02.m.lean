set_option maxHeartbeats 4000000 in
set_option maxRecDepth 20000 in
/-- X.led -/
theorem m_104_r9 (σ : jM) (hg : GI σ) (nb : Int) (hl_nb : (-2147483648) ≤ nb) (hu_nb : nb ≤ 2147483647) (k : Int) (hl_k : (-2147483648) ≤ k) (hu_k : k ≤ 2147483647) (hsp : SPK σ)  (fr lo : Nat) (hfr : 4 ≤ fr) (hlo : 130 ≤ lo) : WP 104 0 (lv_args 0 [.ref 9, iV nb, iV k]) [] fr lo σ (fun v τ => ∃ z : Int, v = some (iV z) ∧ ((-2147483648) ≤ z ∧ z ≤ 2147483647) ∧ GI τ ∧ FR WXg σ τ) := by
  rcases hsp with ⟨hs1, hs2⟩ | ⟨hs1, hs2⟩
  · skip
    show WP 104 0 [(0, .ref 9), (1, iV nb), (2, iV k)] [] _ _ _ _
    refine wp_al1 jF_104_0 rfl rfl (pc2 := 1) ?_
    refine wp_gr jF_104_1 kd9 (by decide) (c := 2) rfl (m_fv2 hs1 rfl) rfl (pc2 := 4) ?_
    refine wp_il1 jF_104_4 rfl rfl (pc2 := 5) ?_
    refine wp_cV (as := [iV nb]) (rest := []) (a := 20) (mx := 2) (ci := 8) jF_104_5 kd20 (by decide) rfl rfl rfl rfl rfl (by omega) (by omega) rfl (pc2 := 8) ?_
    refine wp_use (m_100_r20 σ hg nb (by omega) (by omega)  _ _ (by omega) (by omega)) ?_
    rintro _ _ ⟨z3, rfl, h4, rfl⟩
    show WP 104 8 [(0, .ref 9), (1, iV nb), (2, iV k)] [iV z3] _ _ _ _
    refine wp_z_eq jF_104_8 (m_rgb h4 rfl) rfl (pc2 := 11) ?_ ?_
    · intro h5
      refine wp_ic jF_104_29 rfl (pc2 := 30) ?_
      refine wp_ri jF_104_30 rfl ?_
      exact ⟨(-1), rfl, ⟨by omega, by omega⟩, hg, FR.rf⟩
    · intro h5
      refine wp_al1 jF_104_11 rfl rfl (pc2 := 12) ?_
      refine wp_gr (b := 70) jF_104_12 kd9 (by decide) (c := 170) rfl rfl rfl (pc2 := 15) ?_
      refine wp_glA jF_104_15 kd70 (by decide) rfl rfl (pc2 := 18) ?_
      intro y6
      refine wp_il1 jF_104_18 rfl rfl (pc2 := 19) ?_
      refine wp_cS (as := [.long y6, iV nb]) (rest := []) (mx := 3) jF_104_19 rfl rfl rfl rfl (by omega) (by omega) rfl (pc2 := 22) ?_
      show WP 101 0 [(0, .long y6), (2, iV nb)] [] _ _ _ _
      refine wp_ll1 jF_101_0 rfl rfl (pc2 := 1) ?_
      refine wp_il1 jF_101_1 rfl rfl (pc2 := 2) ?_
      refine wp_lng (pc2 := 3) jF_101_2 rfl rfl ?_
      intro y7
      refine wp_lc jF_101_3 rfl (pc2 := 4) ?_
      refine wp_lng (pc2 := 5) jF_101_4 rfl rfl ?_
      intro y8
      refine wp_lc jF_101_5 rfl (pc2 := 6) ?_
      refine wp_anyL (pc2 := 7) jF_101_6 rfl rfl ?_
      intro z9 h10
      refine wp_z_eq jF_101_7 (m_rgb h10 rfl) rfl (pc2 := 10) ?_ ?_
      · intro h11
        refine wp_ic jF_101_14 rfl (pc2 := 15) ?_
        refine wp_ri jF_101_15 rfl ?_
        show WP 104 22 [(0, .ref 9), (1, iV nb), (2, iV k)] [iV 0] _ _ _ _
        refine wp_z_eq jF_104_22 (m_rgl rfl) rfl (pc2 := 25) ?_ ?_
        · intro h12
          refine wp_ic jF_104_29 rfl (pc2 := 30) ?_
          refine wp_ri jF_104_30 rfl ?_
          exact ⟨(-1), rfl, ⟨by omega, by omega⟩, hg, FR.rf⟩
        · intro h12; exfalso; omega
      · intro h11
        refine wp_ic jF_101_10 rfl (pc2 := 11) ?_
        refine wp_go jF_101_11 ?_
        refine wp_ri jF_101_15 rfl ?_
        show WP 104 22 [(0, .ref 9), (1, iV nb), (2, iV k)] [iV 1] _ _ _ _
        refine wp_z_eq jF_104_22 (m_rgl rfl) rfl (pc2 := 25) ?_ ?_
        · intro h13; exfalso; omega
        · intro h13
          refine wp_il1 jF_104_25 rfl rfl (pc2 := 26) ?_
          refine wp_z_ge jF_104_26 ⟨by omega, by omega⟩ rfl (pc2 := 29) ?_ ?_
          · intro h14
            refine wp_ic jF_104_31 rfl (pc2 := 32) ?_
            refine wp_is1 (lv2 := [(0, .ref 9), (1, iV nb), (2, iV k), (3, iV 0)]) jF_104_32 rfl rfl rfl (pc2 := 33) ?_
            refine wp_ic jF_104_33 rfl (pc2 := 34) ?_
            refine wp_is2 (lv2 := [(0, .ref 9), (1, iV nb), (2, iV k), (3, iV 0), (4, iV 0)]) jF_104_34 rfl rfl rfl (pc2 := 36) ?_
            refine wp_loop (α := Int × Int) (fun a => [(0, .ref 9), (1, iV nb), (2, iV k), (3, iV (a.1)), (4, iV (a.2))]) (fun a τ => (0 ≤ a.1 ∧ a.1 ≤ 60) ∧ (0 ≤ a.2 ∧ a.2 ≤ 60) ∧ GI τ ∧ FR WXg σ τ ∧ ((a.1) ≤ (a.2))) (fun a τ => Int.toNat (60 - (a.2))) (0, 0) σ ?_ ?_
            · skip
              exact ⟨⟨by (try dsimp only); omega, by (try dsimp only); omega⟩, ⟨by (try dsimp only); omega, by (try dsimp only); omega⟩, hg, FR.rf, (by (try dsimp only); omega)⟩
            · rintro ⟨x15, x16⟩ τ19 ⟨h17, h18, g20, f21, p22⟩ ih23
              try dsimp only at h17 h18 g20 f21 p22
              show WP 104 36 [(0, .ref 9), (1, iV nb), (2, iV k), (3, iV x15), (4, iV x16)] [] _ _ _ _
              show WP 104 36 [(0, .ref 9), (1, iV nb), (2, iV k), (3, iV x15), (4, iV x16)] [] _ _ _ _
              refine wp_il2 jF_104_36 rfl rfl (pc2 := 38) ?_
              refine wp_al1 jF_104_38 rfl rfl (pc2 := 39) ?_
              refine wp_gr (b := 70) jF_104_39 kd9 (by decide) (c := 170) rfl rfl rfl (pc2 := 42) ?_
              have b24 := GI.b g20 70 1 kd70 (lo := 0) (hi := 60) rfl
              refine wp_gi jF_104_42 kd70 (by decide) rfl rfl rfl (pc2 := 45) ?_
              refine wp_i_ge jF_104_45 (m_rgb h18 rfl) (m_rgb b24 rfl) rfl (pc2 := 48) ?_ ?_
              · intro h25
                refine wp_ic jF_104_102 rfl (pc2 := 103) ?_
                refine wp_ri jF_104_103 rfl ?_
                exact ⟨(-1), rfl, ⟨by omega, by omega⟩, g20, f21⟩
              · intro h25
                refine wp_al1 jF_104_48 rfl rfl (pc2 := 49) ?_
                refine wp_gr (b := 80) jF_104_49 kd9 (by decide) (c := 180) rfl rfl rfl (pc2 := 52) ?_
                refine wp_al1 jF_104_52 rfl rfl (pc2 := 53) ?_
                refine wp_gr jF_104_53 kd9 (by decide) (c := 2) rfl (m_fv2 ((FR.ar f21 9 4 rfl).trans hs1) rfl) rfl (pc2 := 56) ?_
                refine wp_al1 jF_104_56 rfl rfl (pc2 := 57) ?_
                refine wp_gr (b := 70) jF_104_57 kd9 (by decide) (c := 170) rfl rfl rfl (pc2 := 60) ?_
                refine wp_il2 jF_104_60 rfl rfl (pc2 := 62) ?_
                refine wp_bi jF_104_62 (by decide) rfl (pc2 := 64) ?_
                refine wp_mul jF_104_64 rfl (pc2 := 65) ?_
                refine wp_cV (as := [.ref 20, .ref 70, iV (x16 * 47)]) (rest := []) (a := 80) (mx := 4) (ci := 4) jF_104_65 kd80 (by decide) rfl rfl rfl rfl rfl (by omega) (by omega) rfl (pc2 := 68) ?_
                refine wp_use (m_105_r80_20_70 τ19 g20 (x16 * 47) (by omega) (by omega)  _ _ (by omega) (by omega)) ?_
                rintro _ τ26 ⟨z29, rfl, h30, g27, f28⟩
                show WP 104 68 [(0, .ref 9), (1, iV nb), (2, iV k), (3, iV x15), (4, iV x16)] [iV z29] _ _ _ _
                refine wp_z_eq jF_104_68 (m_rgb h30 rfl) rfl (pc2 := 71) ?_ ?_
                · intro h31
                  refine wp_inc (lv2 := [(0, .ref 9), (1, iV nb), (2, iV k), (3, iV x15), (4, iV (x16 + 1))]) jF_104_96 rfl rfl rfl rfl (pc2 := 99) ?_
                  refine wp_go jF_104_99 ?_
                  exact ih23 (x15, (x16 + 1)) τ26 ⟨⟨by (try dsimp only); omega, by (try dsimp only); omega⟩, ⟨by (try dsimp only); omega, by (try dsimp only); omega⟩, g27, (FR.up f21 f28 sb_WW80_WXg), (by (try dsimp only); omega)⟩ (by show Int.toNat (60 - (x16 + 1)) < Int.toNat (60 - x16); omega)
                · intro h31
                  refine wp_al1 jF_104_71 rfl rfl (pc2 := 72) ?_
                  refine wp_gr (b := 80) jF_104_72 kd9 (by decide) (c := 180) rfl rfl rfl (pc2 := 75) ?_
                  refine wp_glA jF_104_75 kd80 (by decide) rfl rfl (pc2 := 78) ?_
                  intro y32
                  refine wp_il1 jF_104_78 rfl rfl (pc2 := 79) ?_
                  refine wp_cS (as := [.long y32, iV nb]) (rest := []) (mx := 3) jF_104_79 rfl rfl rfl rfl (by omega) (by omega) rfl (pc2 := 82) ?_
                  show WP 101 0 [(0, .long y32), (2, iV nb)] [] _ _ _ _
                  refine wp_ll1 jF_101_0 rfl rfl (pc2 := 1) ?_
                  refine wp_il1 jF_101_1 rfl rfl (pc2 := 2) ?_
                  refine wp_lng (pc2 := 3) jF_101_2 rfl rfl ?_
                  intro y33
                  refine wp_lc jF_101_3 rfl (pc2 := 4) ?_
                  refine wp_lng (pc2 := 5) jF_101_4 rfl rfl ?_
                  intro y34
                  refine wp_lc jF_101_5 rfl (pc2 := 6) ?_
                  refine wp_anyL (pc2 := 7) jF_101_6 rfl rfl ?_
                  intro z35 h36
                  refine wp_z_eq jF_101_7 (m_rgb h36 rfl) rfl (pc2 := 10) ?_ ?_
                  · intro h37
                    refine wp_ic jF_101_14 rfl (pc2 := 15) ?_
                    refine wp_ri jF_101_15 rfl ?_
                    show WP 104 82 [(0, .ref 9), (1, iV nb), (2, iV k), (3, iV x15), (4, iV x16)] [iV 0] _ _ _ _
                    refine wp_z_ne jF_104_82 (m_rgl rfl) rfl (pc2 := 85) ?_ ?_
                    · intro h38; exfalso; omega
                    · intro h38
                      refine wp_il1 jF_104_85 rfl rfl (pc2 := 86) ?_
                      refine wp_il1 jF_104_86 rfl rfl (pc2 := 87) ?_
                      refine wp_i_ne jF_104_87 (m_rgb h17 rfl) ⟨by omega, by omega⟩ rfl (pc2 := 90) ?_ ?_
                      · intro h39
                        refine wp_inc (lv2 := [(0, .ref 9), (1, iV nb), (2, iV k), (3, iV (x15 + 1)), (4, iV x16)]) jF_104_93 rfl rfl rfl rfl (pc2 := 96) ?_
                        refine wp_inc (lv2 := [(0, .ref 9), (1, iV nb), (2, iV k), (3, iV (x15 + 1)), (4, iV (x16 + 1))]) jF_104_96 rfl rfl rfl rfl (pc2 := 99) ?_
                        refine wp_go jF_104_99 ?_
                        exact ih23 ((x15 + 1), (x16 + 1)) τ26 ⟨⟨by (try dsimp only); omega, by (try dsimp only); omega⟩, ⟨by (try dsimp only); omega, by (try dsimp only); omega⟩, g27, (FR.up f21 f28 sb_WW80_WXg), (by (try dsimp only); omega)⟩ (by show Int.toNat (60 - (x16 + 1)) < Int.toNat (60 - x16); omega)
                      · intro h39
                        refine wp_il2 jF_104_90 rfl rfl (pc2 := 92) ?_
                        refine wp_ri jF_104_92 rfl ?_
                        exact ⟨x16, rfl, ⟨by omega, by omega⟩, g27, (FR.up f21 f28 sb_WW80_WXg)⟩
                  · intro h37
                    refine wp_ic jF_101_10 rfl (pc2 := 11) ?_
                    refine wp_go jF_101_11 ?_
                    refine wp_ri jF_101_15 rfl ?_
                    show WP 104 82 [(0, .ref 9), (1, iV nb), (2, iV k), (3, iV x15), (4, iV x16)] [iV 1] _ _ _ _
                    refine wp_z_ne jF_104_82 (m_rgl rfl) rfl (pc2 := 85) ?_ ?_
                    · intro h40
                      refine wp_inc (lv2 := [(0, .ref 9), (1, iV nb), (2, iV k), (3, iV x15), (4, iV (x16 + 1))]) jF_104_96 rfl rfl rfl rfl (pc2 := 99) ?_
                      refine wp_go jF_104_99 ?_
                      exact ih23 (x15, (x16 + 1)) τ26 ⟨⟨by (try dsimp only); omega, by (try dsimp only); omega⟩, ⟨by (try dsimp only); omega, by (try dsimp only); omega⟩, g27, (FR.up f21 f28 sb_WW80_WXg), (by (try dsimp only); omega)⟩ (by show Int.toNat (60 - (x16 + 1)) < Int.toNat (60 - x16); omega)
                    · intro h40; exfalso; omega
          · intro h14
            refine wp_ic jF_104_29 rfl (pc2 := 30) ?_
            refine wp_ri jF_104_30 rfl ?_
            exact ⟨(-1), rfl, ⟨by omega, by omega⟩, hg, FR.rf⟩
  · skip
    show WP 104 0 [(0, .ref 9), (1, iV nb), (2, iV k)] [] _ _ _ _
    refine wp_al1 jF_104_0 rfl rfl (pc2 := 1) ?_
    refine wp_gr jF_104_1 kd9 (by decide) (c := 2) rfl (m_fv2 hs1 rfl) rfl (pc2 := 4) ?_
    refine wp_il1 jF_104_4 rfl rfl (pc2 := 5) ?_
    refine wp_cV (as := [iV nb]) (rest := []) (a := 45) (mx := 2) (ci := 8) jF_104_5 kd45 (by decide) rfl rfl rfl rfl rfl (by omega) (by omega) rfl (pc2 := 8) ?_
    refine wp_use (m_100_r45 σ hg nb (by omega) (by omega)  _ _ (by omega) (by omega)) ?_
    rintro _ _ ⟨z43, rfl, h44, rfl⟩
    show WP 104 8 [(0, .ref 9), (1, iV nb), (2, iV k)] [iV z43] _ _ _ _
    refine wp_z_eq jF_104_8 (m_rgb h44 rfl) rfl (pc2 := 11) ?_ ?_
    · intro h45
      refine wp_ic jF_104_29 rfl (pc2 := 30) ?_
      refine wp_ri jF_104_30 rfl ?_
      exact ⟨(-1), rfl, ⟨by omega, by omega⟩, hg, FR.rf⟩
    · intro h45
      refine wp_al1 jF_104_11 rfl rfl (pc2 := 12) ?_
      refine wp_gr (b := 70) jF_104_12 kd9 (by decide) (c := 170) rfl rfl rfl (pc2 := 15) ?_
      refine wp_glA jF_104_15 kd70 (by decide) rfl rfl (pc2 := 18) ?_
      intro y46
      refine wp_il1 jF_104_18 rfl rfl (pc2 := 19) ?_
      refine wp_cS (as := [.long y46, iV nb]) (rest := []) (mx := 3) jF_104_19 rfl rfl rfl rfl (by omega) (by omega) rfl (pc2 := 22) ?_
      show WP 101 0 [(0, .long y46), (2, iV nb)] [] _ _ _ _
      refine wp_ll1 jF_101_0 rfl rfl (pc2 := 1) ?_
      refine wp_il1 jF_101_1 rfl rfl (pc2 := 2) ?_
      refine wp_lng (pc2 := 3) jF_101_2 rfl rfl ?_
      intro y47
      refine wp_lc jF_101_3 rfl (pc2 := 4) ?_
      refine wp_lng (pc2 := 5) jF_101_4 rfl rfl ?_
      intro y48
      refine wp_lc jF_101_5 rfl (pc2 := 6) ?_
      refine wp_anyL (pc2 := 7) jF_101_6 rfl rfl ?_
      intro z49 h50
      refine wp_z_eq jF_101_7 (m_rgb h50 rfl) rfl (pc2 := 10) ?_ ?_
      · intro h51
        refine wp_ic jF_101_14 rfl (pc2 := 15) ?_
        refine wp_ri jF_101_15 rfl ?_
        show WP 104 22 [(0, .ref 9), (1, iV nb), (2, iV k)] [iV 0] _ _ _ _
        refine wp_z_eq jF_104_22 (m_rgl rfl) rfl (pc2 := 25) ?_ ?_
        · intro h52
          refine wp_ic jF_104_29 rfl (pc2 := 30) ?_
          refine wp_ri jF_104_30 rfl ?_
          exact ⟨(-1), rfl, ⟨by omega, by omega⟩, hg, FR.rf⟩
        · intro h52; exfalso; omega
      · intro h51
        refine wp_ic jF_101_10 rfl (pc2 := 11) ?_
        refine wp_go jF_101_11 ?_
        refine wp_ri jF_101_15 rfl ?_
        show WP 104 22 [(0, .ref 9), (1, iV nb), (2, iV k)] [iV 1] _ _ _ _
        refine wp_z_eq jF_104_22 (m_rgl rfl) rfl (pc2 := 25) ?_ ?_
        · intro h53; exfalso; omega
        · intro h53
          refine wp_il1 jF_104_25 rfl rfl (pc2 := 26) ?_
          refine wp_z_ge jF_104_26 ⟨by omega, by omega⟩ rfl (pc2 := 29) ?_ ?_
          · intro h54
            refine wp_ic jF_104_31 rfl (pc2 := 32) ?_
            refine wp_is1 (lv2 := [(0, .ref 9), (1, iV nb), (2, iV k), (3, iV 0)]) jF_104_32 rfl rfl rfl (pc2 := 33) ?_
            refine wp_ic jF_104_33 rfl (pc2 := 34) ?_
            refine wp_is2 (lv2 := [(0, .ref 9), (1, iV nb), (2, iV k), (3, iV 0), (4, iV 0)]) jF_104_34 rfl rfl rfl (pc2 := 36) ?_
            refine wp_loop (α := Int × Int) (fun a => [(0, .ref 9), (1, iV nb), (2, iV k), (3, iV (a.1)), (4, iV (a.2))]) (fun a τ => (0 ≤ a.1 ∧ a.1 ≤ 60) ∧ (0 ≤ a.2 ∧ a.2 ≤ 60) ∧ GI τ ∧ FR WXg σ τ ∧ ((a.1) ≤ (a.2))) (fun a τ => Int.toNat (60 - (a.2))) (0, 0) σ ?_ ?_
            · skip
              exact ⟨⟨by (try dsimp only); omega, by (try dsimp only); omega⟩, ⟨by (try dsimp only); omega, by (try dsimp only); omega⟩, hg, FR.rf, (by (try dsimp only); omega)⟩
            · rintro ⟨x55, x56⟩ τ59 ⟨h57, h58, g60, f61, p62⟩ ih63
              try dsimp only at h57 h58 g60 f61 p62
              show WP 104 36 [(0, .ref 9), (1, iV nb), (2, iV k), (3, iV x55), (4, iV x56)] [] _ _ _ _
              show WP 104 36 [(0, .ref 9), (1, iV nb), (2, iV k), (3, iV x55), (4, iV x56)] [] _ _ _ _
              refine wp_il2 jF_104_36 rfl rfl (pc2 := 38) ?_
              refine wp_al1 jF_104_38 rfl rfl (pc2 := 39) ?_
              refine wp_gr (b := 70) jF_104_39 kd9 (by decide) (c := 170) rfl rfl rfl (pc2 := 42) ?_
              have b64 := GI.b g60 70 1 kd70 (lo := 0) (hi := 60) rfl
              refine wp_gi jF_104_42 kd70 (by decide) rfl rfl rfl (pc2 := 45) ?_
              refine wp_i_ge jF_104_45 (m_rgb h58 rfl) (m_rgb b64 rfl) rfl (pc2 := 48) ?_ ?_
              · intro h65
                refine wp_ic jF_104_102 rfl (pc2 := 103) ?_
                refine wp_ri jF_104_103 rfl ?_
                exact ⟨(-1), rfl, ⟨by omega, by omega⟩, g60, f61⟩
              · intro h65
                refine wp_al1 jF_104_48 rfl rfl (pc2 := 49) ?_
                refine wp_gr (b := 80) jF_104_49 kd9 (by decide) (c := 180) rfl rfl rfl (pc2 := 52) ?_
                refine wp_al1 jF_104_52 rfl rfl (pc2 := 53) ?_
                refine wp_gr jF_104_53 kd9 (by decide) (c := 2) rfl (m_fv2 ((FR.ar f61 9 4 rfl).trans hs1) rfl) rfl (pc2 := 56) ?_
                refine wp_al1 jF_104_56 rfl rfl (pc2 := 57) ?_
                refine wp_gr (b := 70) jF_104_57 kd9 (by decide) (c := 170) rfl rfl rfl (pc2 := 60) ?_
                refine wp_il2 jF_104_60 rfl rfl (pc2 := 62) ?_
                refine wp_bi jF_104_62 (by decide) rfl (pc2 := 64) ?_
                refine wp_mul jF_104_64 rfl (pc2 := 65) ?_
                refine wp_cV (as := [.ref 45, .ref 70, iV (x56 * 47)]) (rest := []) (a := 80) (mx := 4) (ci := 4) jF_104_65 kd80 (by decide) rfl rfl rfl rfl rfl (by omega) (by omega) rfl (pc2 := 68) ?_
                refine wp_use (m_105_r80_45_70 τ59 g60 (x56 * 47) (by omega) (by omega)  _ _ (by omega) (by omega)) ?_
                rintro _ τ66 ⟨z69, rfl, h70, g67, f68⟩
                show WP 104 68 [(0, .ref 9), (1, iV nb), (2, iV k), (3, iV x55), (4, iV x56)] [iV z69] _ _ _ _
                refine wp_z_eq jF_104_68 (m_rgb h70 rfl) rfl (pc2 := 71) ?_ ?_
                · intro h71
                  refine wp_inc (lv2 := [(0, .ref 9), (1, iV nb), (2, iV k), (3, iV x55), (4, iV (x56 + 1))]) jF_104_96 rfl rfl rfl rfl (pc2 := 99) ?_
                  refine wp_go jF_104_99 ?_
                  exact ih63 (x55, (x56 + 1)) τ66 ⟨⟨by (try dsimp only); omega, by (try dsimp only); omega⟩, ⟨by (try dsimp only); omega, by (try dsimp only); omega⟩, g67, (FR.up f61 f68 sb_WW80_WXg), (by (try dsimp only); omega)⟩ (by show Int.toNat (60 - (x56 + 1)) < Int.toNat (60 - x56); omega)
                · intro h71
                  refine wp_al1 jF_104_71 rfl rfl (pc2 := 72) ?_
                  refine wp_gr (b := 80) jF_104_72 kd9 (by decide) (c := 180) rfl rfl rfl (pc2 := 75) ?_
                  refine wp_glA jF_104_75 kd80 (by decide) rfl rfl (pc2 := 78) ?_
                  intro y72
                  refine wp_il1 jF_104_78 rfl rfl (pc2 := 79) ?_
                  refine wp_cS (as := [.long y72, iV nb]) (rest := []) (mx := 3) jF_104_79 rfl rfl rfl rfl (by omega) (by omega) rfl (pc2 := 82) ?_
                  show WP 101 0 [(0, .long y72), (2, iV nb)] [] _ _ _ _
                  refine wp_ll1 jF_101_0 rfl rfl (pc2 := 1) ?_
                  refine wp_il1 jF_101_1 rfl rfl (pc2 := 2) ?_
                  refine wp_lng (pc2 := 3) jF_101_2 rfl rfl ?_
                  intro y73
                  refine wp_lc jF_101_3 rfl (pc2 := 4) ?_
                  refine wp_lng (pc2 := 5) jF_101_4 rfl rfl ?_
                  intro y74
                  refine wp_lc jF_101_5 rfl (pc2 := 6) ?_
                  refine wp_anyL (pc2 := 7) jF_101_6 rfl rfl ?_
                  intro z75 h76
                  refine wp_z_eq jF_101_7 (m_rgb h76 rfl) rfl (pc2 := 10) ?_ ?_
                  · intro h77
                    refine wp_ic jF_101_14 rfl (pc2 := 15) ?_
                    refine wp_ri jF_101_15 rfl ?_
                    show WP 104 82 [(0, .ref 9), (1, iV nb), (2, iV k), (3, iV x55), (4, iV x56)] [iV 0] _ _ _ _
                    refine wp_z_ne jF_104_82 (m_rgl rfl) rfl (pc2 := 85) ?_ ?_
                    · intro h78; exfalso; omega
                    · intro h78
                      refine wp_il1 jF_104_85 rfl rfl (pc2 := 86) ?_
                      refine wp_il1 jF_104_86 rfl rfl (pc2 := 87) ?_
                      refine wp_i_ne jF_104_87 (m_rgb h57 rfl) ⟨by omega, by omega⟩ rfl (pc2 := 90) ?_ ?_
                      · intro h79
                        refine wp_inc (lv2 := [(0, .ref 9), (1, iV nb), (2, iV k), (3, iV (x55 + 1)), (4, iV x56)]) jF_104_93 rfl rfl rfl rfl (pc2 := 96) ?_
                        refine wp_inc (lv2 := [(0, .ref 9), (1, iV nb), (2, iV k), (3, iV (x55 + 1)), (4, iV (x56 + 1))]) jF_104_96 rfl rfl rfl rfl (pc2 := 99) ?_
                        refine wp_go jF_104_99 ?_
                        exact ih63 ((x55 + 1), (x56 + 1)) τ66 ⟨⟨by (try dsimp only); omega, by (try dsimp only); omega⟩, ⟨by (try dsimp only); omega, by (try dsimp only); omega⟩, g67, (FR.up f61 f68 sb_WW80_WXg), (by (try dsimp only); omega)⟩ (by show Int.toNat (60 - (x56 + 1)) < Int.toNat (60 - x56); omega)
                      · intro h79
                        refine wp_il2 jF_104_90 rfl rfl (pc2 := 92) ?_
                        refine wp_ri jF_104_92 rfl ?_
                        exact ⟨x56, rfl, ⟨by omega, by omega⟩, g67, (FR.up f61 f68 sb_WW80_WXg)⟩
                  · intro h77
                    refine wp_ic jF_101_10 rfl (pc2 := 11) ?_
                    refine wp_go jF_101_11 ?_
                    refine wp_ri jF_101_15 rfl ?_
                    show WP 104 82 [(0, .ref 9), (1, iV nb), (2, iV k), (3, iV x55), (4, iV x56)] [iV 1] _ _ _ _
                    refine wp_z_ne jF_104_82 (m_rgl rfl) rfl (pc2 := 85) ?_ ?_
                    · intro h80
                      refine wp_inc (lv2 := [(0, .ref 9), (1, iV nb), (2, iV k), (3, iV x55), (4, iV (x56 + 1))]) jF_104_96 rfl rfl rfl rfl (pc2 := 99) ?_
                      refine wp_go jF_104_99 ?_
                      exact ih63 (x55, (x56 + 1)) τ66 ⟨⟨by (try dsimp only); omega, by (try dsimp only); omega⟩, ⟨by (try dsimp only); omega, by (try dsimp only); omega⟩, g67, (FR.up f61 f68 sb_WW80_WXg), (by (try dsimp only); omega)⟩ (by show Int.toNat (60 - (x56 + 1)) < Int.toNat (60 - x56); omega)
                    · intro h80; exfalso; omega
          · intro h54
            refine wp_ic jF_104_29 rfl (pc2 := 30) ?_
            refine wp_ri jF_104_30 rfl ?_
            exact ⟨(-1), rfl, ⟨by omega, by omega⟩, hg, FR.rf⟩
set_option maxHeartbeats 4000000 in
set_option maxRecDepth 20000 in
/-- X.price -/
theorem m_113_r9 (σ : jM) (hg : GI σ) (pl : Int) (hl_pl : (-2147483648) ≤ pl) (hu_pl : pl ≤ 2147483647) (hsp : SPK σ)  (fr lo : Nat) (hfr : 4 ≤ fr) (hlo : 130 ≤ lo) : WP 113 0 (lv_args 0 [.ref 9, iV pl]) [] fr lo σ (fun v τ => ∃ z : Int, v = some (iV z) ∧ ((-2147483648) ≤ z ∧ z ≤ 2147483647) ∧ GI τ ∧ FR WXg σ τ) := by
  rcases hsp with ⟨hs1, hs2⟩ | ⟨hs1, hs2⟩
  · skip
    show WP 113 0 [(0, .ref 9), (1, iV pl)] [] _ _ _ _
    refine wp_il1 jF_113_0 rfl rfl (pc2 := 1) ?_
    refine wp_z_lt jF_113_1 ⟨by omega, by omega⟩ rfl (pc2 := 4) ?_ ?_
    · intro h1
      refine wp_ic jF_113_37 rfl (pc2 := 38) ?_
      refine wp_ri jF_113_38 rfl ?_
      exact ⟨(-1), rfl, ⟨by omega, by omega⟩, hg, FR.rf⟩
    · intro h1
      refine wp_il1 jF_113_4 rfl rfl (pc2 := 5) ?_
      refine wp_al1 jF_113_5 rfl rfl (pc2 := 6) ?_
      refine wp_gr (b := 70) jF_113_6 kd9 (by decide) (c := 170) rfl rfl rfl (pc2 := 9) ?_
      have b2 := GI.b hg 70 1 kd70 (lo := 0) (hi := 60) rfl
      refine wp_gi jF_113_9 kd70 (by decide) rfl rfl rfl (pc2 := 12) ?_
      refine wp_i_ge jF_113_12 ⟨by omega, by omega⟩ (m_rgb b2 rfl) rfl (pc2 := 15) ?_ ?_
      · intro h3
        refine wp_ic jF_113_37 rfl (pc2 := 38) ?_
        refine wp_ri jF_113_38 rfl ?_
        exact ⟨(-1), rfl, ⟨by omega, by omega⟩, hg, FR.rf⟩
      · intro h3
        refine wp_al1 jF_113_15 rfl rfl (pc2 := 16) ?_
        refine wp_gr (b := 80) jF_113_16 kd9 (by decide) (c := 180) rfl rfl rfl (pc2 := 19) ?_
        refine wp_al1 jF_113_19 rfl rfl (pc2 := 20) ?_
        refine wp_gr jF_113_20 kd9 (by decide) (c := 2) rfl (m_fv2 hs1 rfl) rfl (pc2 := 23) ?_
        refine wp_al1 jF_113_23 rfl rfl (pc2 := 24) ?_
        refine wp_gr (b := 70) jF_113_24 kd9 (by decide) (c := 170) rfl rfl rfl (pc2 := 27) ?_
        refine wp_il1 jF_113_27 rfl rfl (pc2 := 28) ?_
        refine wp_bi jF_113_28 (by decide) rfl (pc2 := 30) ?_
        refine wp_mul jF_113_30 rfl (pc2 := 31) ?_
        refine wp_cV (as := [.ref 20, .ref 70, iV (pl * 47)]) (rest := []) (a := 80) (mx := 4) (ci := 4) jF_113_31 kd80 (by decide) rfl rfl rfl rfl rfl (by omega) (by omega) rfl (pc2 := 34) ?_
        refine wp_use (m_105_r80_20_70 σ hg (pl * 47) (by omega) (by omega)  _ _ (by omega) (by omega)) ?_
        rintro _ τ4 ⟨z7, rfl, h8, g5, f6⟩
        show WP 113 34 [(0, .ref 9), (1, iV pl)] [iV z7] _ _ _ _
        refine wp_z_ne jF_113_34 (m_rgb h8 rfl) rfl (pc2 := 37) ?_ ?_
        · intro h9
          refine wp_al1 jF_113_39 rfl rfl (pc2 := 40) ?_
          refine wp_gr (b := 80) jF_113_40 kd9 (by decide) (c := 180) rfl rfl rfl (pc2 := 43) ?_
          refine wp_glA jF_113_43 kd80 (by decide) rfl rfl (pc2 := 46) ?_
          intro y10
          refine wp_al1 jF_113_46 rfl rfl (pc2 := 47) ?_
          refine wp_gr (b := 70) jF_113_47 kd9 (by decide) (c := 170) rfl rfl rfl (pc2 := 50) ?_
          refine wp_glA jF_113_50 kd70 (by decide) rfl rfl (pc2 := 53) ?_
          intro y11
          refine wp_lng (pc2 := 54) jF_113_53 rfl rfl ?_
          intro y12
          refine wp_cS (as := [.long y12]) (rest := []) (mx := 2) jF_113_54 rfl rfl rfl rfl (by omega) (by omega) rfl (pc2 := 57) ?_
          refine wp_use (m_96_r τ4 g5 y12  _ _ (by omega) (by omega)) ?_
          rintro _ _ ⟨z15, rfl, h16, rfl⟩
          show WP 113 57 [(0, .ref 9), (1, iV pl)] [iV z15] _ _ _ _
          refine wp_ri jF_113_57 rfl ?_
          exact ⟨z15, rfl, ⟨by omega, by omega⟩, g5, (FR.up FR.rf f6 sb_WW80_WXg)⟩
        · intro h9
          refine wp_ic jF_113_37 rfl (pc2 := 38) ?_
          refine wp_ri jF_113_38 rfl ?_
          exact ⟨(-1), rfl, ⟨by omega, by omega⟩, g5, (FR.up FR.rf f6 sb_WW80_WXg)⟩
  · skip
    show WP 113 0 [(0, .ref 9), (1, iV pl)] [] _ _ _ _
    refine wp_il1 jF_113_0 rfl rfl (pc2 := 1) ?_
    refine wp_z_lt jF_113_1 ⟨by omega, by omega⟩ rfl (pc2 := 4) ?_ ?_
    · intro h17
      refine wp_ic jF_113_37 rfl (pc2 := 38) ?_
      refine wp_ri jF_113_38 rfl ?_
      exact ⟨(-1), rfl, ⟨by omega, by omega⟩, hg, FR.rf⟩
    · intro h17
      refine wp_il1 jF_113_4 rfl rfl (pc2 := 5) ?_
      refine wp_al1 jF_113_5 rfl rfl (pc2 := 6) ?_
      refine wp_gr (b := 70) jF_113_6 kd9 (by decide) (c := 170) rfl rfl rfl (pc2 := 9) ?_
      have b18 := GI.b hg 70 1 kd70 (lo := 0) (hi := 60) rfl
      refine wp_gi jF_113_9 kd70 (by decide) rfl rfl rfl (pc2 := 12) ?_
      refine wp_i_ge jF_113_12 ⟨by omega, by omega⟩ (m_rgb b18 rfl) rfl (pc2 := 15) ?_ ?_
      · intro h19
        refine wp_ic jF_113_37 rfl (pc2 := 38) ?_
        refine wp_ri jF_113_38 rfl ?_
        exact ⟨(-1), rfl, ⟨by omega, by omega⟩, hg, FR.rf⟩
      · intro h19
        refine wp_al1 jF_113_15 rfl rfl (pc2 := 16) ?_
        refine wp_gr (b := 80) jF_113_16 kd9 (by decide) (c := 180) rfl rfl rfl (pc2 := 19) ?_
        refine wp_al1 jF_113_19 rfl rfl (pc2 := 20) ?_
        refine wp_gr jF_113_20 kd9 (by decide) (c := 2) rfl (m_fv2 hs1 rfl) rfl (pc2 := 23) ?_
        refine wp_al1 jF_113_23 rfl rfl (pc2 := 24) ?_
        refine wp_gr (b := 70) jF_113_24 kd9 (by decide) (c := 170) rfl rfl rfl (pc2 := 27) ?_
        refine wp_il1 jF_113_27 rfl rfl (pc2 := 28) ?_
        refine wp_bi jF_113_28 (by decide) rfl (pc2 := 30) ?_
        refine wp_mul jF_113_30 rfl (pc2 := 31) ?_
        refine wp_cV (as := [.ref 45, .ref 70, iV (pl * 47)]) (rest := []) (a := 80) (mx := 4) (ci := 4) jF_113_31 kd80 (by decide) rfl rfl rfl rfl rfl (by omega) (by omega) rfl (pc2 := 34) ?_
        refine wp_use (m_105_r80_45_70 σ hg (pl * 47) (by omega) (by omega)  _ _ (by omega) (by omega)) ?_
        rintro _ τ20 ⟨z23, rfl, h24, g21, f22⟩
        show WP 113 34 [(0, .ref 9), (1, iV pl)] [iV z23] _ _ _ _
        refine wp_z_ne jF_113_34 (m_rgb h24 rfl) rfl (pc2 := 37) ?_ ?_
        · intro h25
          refine wp_al1 jF_113_39 rfl rfl (pc2 := 40) ?_
          refine wp_gr (b := 80) jF_113_40 kd9 (by decide) (c := 180) rfl rfl rfl (pc2 := 43) ?_
          refine wp_glA jF_113_43 kd80 (by decide) rfl rfl (pc2 := 46) ?_
          intro y26
          refine wp_al1 jF_113_46 rfl rfl (pc2 := 47) ?_
          refine wp_gr (b := 70) jF_113_47 kd9 (by decide) (c := 170) rfl rfl rfl (pc2 := 50) ?_
          refine wp_glA jF_113_50 kd70 (by decide) rfl rfl (pc2 := 53) ?_
          intro y27
          refine wp_lng (pc2 := 54) jF_113_53 rfl rfl ?_
          intro y28
          refine wp_cS (as := [.long y28]) (rest := []) (mx := 2) jF_113_54 rfl rfl rfl rfl (by omega) (by omega) rfl (pc2 := 57) ?_
          refine wp_use (m_96_r τ20 g21 y28  _ _ (by omega) (by omega)) ?_
          rintro _ _ ⟨z31, rfl, h32, rfl⟩
          show WP 113 57 [(0, .ref 9), (1, iV pl)] [iV z31] _ _ _ _
          refine wp_ri jF_113_57 rfl ?_
          exact ⟨z31, rfl, ⟨by omega, by omega⟩, g21, (FR.up FR.rf f22 sb_WW80_WXg)⟩
        · intro h25
          refine wp_ic jF_113_37 rfl (pc2 := 38) ?_
          refine wp_ri jF_113_38 rfl ?_
          exact ⟨(-1), rfl, ⟨by omega, by omega⟩, g21, (FR.up FR.rf f22 sb_WW80_WXg)⟩
set_option maxHeartbeats 4000000 in
set_option maxRecDepth 20000 in
/-- X.isChange -/
theorem m_117_r9 (σ : jM) (hg : GI σ) (num : Int) (hl_num : 0 ≤ num) (hu_num : num ≤ 2900) (hsp : SPK σ)  (fr lo : Nat) (hfr : 4 ≤ fr) (hlo : 130 ≤ lo) : WP 117 0 (lv_args 0 [.ref 9, iV num]) [] fr lo σ (fun v τ => ∃ z : Int, v = some (iV z) ∧ (0 ≤ z ∧ z ≤ 1) ∧ GI τ ∧ FR WXg σ τ) := by
  rcases hsp with ⟨hs1, hs2⟩ | ⟨hs1, hs2⟩
  · skip
    show WP 117 0 [(0, .ref 9), (1, iV num)] [] _ _ _ _
    refine wp_al1 jF_117_0 rfl rfl (pc2 := 1) ?_
    refine wp_gr (b := 80) jF_117_1 kd9 (by decide) (c := 180) rfl rfl rfl (pc2 := 4) ?_
    refine wp_al1 jF_117_4 rfl rfl (pc2 := 5) ?_
    refine wp_gr jF_117_5 kd9 (by decide) (c := 2) rfl (m_fv2 hs1 rfl) rfl (pc2 := 8) ?_
    refine wp_al1 jF_117_8 rfl rfl (pc2 := 9) ?_
    refine wp_gr (b := 70) jF_117_9 kd9 (by decide) (c := 170) rfl rfl rfl (pc2 := 12) ?_
    refine wp_il1 jF_117_12 rfl rfl (pc2 := 13) ?_
    refine wp_cV (as := [.ref 20, .ref 70, iV num]) (rest := []) (a := 80) (mx := 4) (ci := 4) jF_117_13 kd80 (by decide) rfl rfl rfl rfl rfl (by omega) (by omega) rfl (pc2 := 16) ?_
    refine wp_use (m_105_r80_20_70 σ hg num (by omega) (by omega)  _ _ (by omega) (by omega)) ?_
    rintro _ τ1 ⟨z4, rfl, h5, g2, f3⟩
    show WP 117 16 [(0, .ref 9), (1, iV num)] [iV z4] _ _ _ _
    refine wp_z_eq jF_117_16 (m_rgb h5 rfl) rfl (pc2 := 19) ?_ ?_
    · intro h6
      refine wp_ic jF_117_40 rfl (pc2 := 41) ?_
      refine wp_ri jF_117_41 rfl ?_
      exact ⟨0, rfl, ⟨by omega, by omega⟩, g2, (FR.up FR.rf f3 sb_WW80_WXg)⟩
    · intro h6
      refine wp_al1 jF_117_19 rfl rfl (pc2 := 20) ?_
      refine wp_gr jF_117_20 kd9 (by decide) (c := 2) rfl (m_fv2 ((FR.ar f3 9 4 rfl).trans hs1) rfl) rfl (pc2 := 23) ?_
      refine wp_al1 jF_117_23 rfl rfl (pc2 := 24) ?_
      refine wp_gr (b := 80) jF_117_24 kd9 (by decide) (c := 180) rfl rfl rfl (pc2 := 27) ?_
      refine wp_glA jF_117_27 kd80 (by decide) rfl rfl (pc2 := 30) ?_
      intro y7
      refine wp_cV (as := [.long y7]) (rest := []) (a := 20) (mx := 3) (ci := 8) jF_117_30 kd20 (by decide) rfl rfl rfl rfl rfl (by omega) (by omega) rfl (pc2 := 33) ?_
      refine wp_use (m_85_r20 τ1 g2 y7  _ _ (by omega) (by omega)) ?_
      rintro _ _ ⟨z10, rfl, h11, rfl⟩
      show WP 117 33 [(0, .ref 9), (1, iV num)] [iV z10] _ _ _ _
      refine wp_z_eq jF_117_33 (m_rgb h11 rfl) rfl (pc2 := 36) ?_ ?_
      · intro h12
        refine wp_ic jF_117_40 rfl (pc2 := 41) ?_
        refine wp_ri jF_117_41 rfl ?_
        exact ⟨0, rfl, ⟨by omega, by omega⟩, g2, (FR.up FR.rf f3 sb_WW80_WXg)⟩
      · intro h12
        refine wp_ic jF_117_36 rfl (pc2 := 37) ?_
        refine wp_go jF_117_37 ?_
        refine wp_ri jF_117_41 rfl ?_
        exact ⟨1, rfl, ⟨by omega, by omega⟩, g2, (FR.up FR.rf f3 sb_WW80_WXg)⟩
  · skip
    show WP 117 0 [(0, .ref 9), (1, iV num)] [] _ _ _ _
    refine wp_al1 jF_117_0 rfl rfl (pc2 := 1) ?_
    refine wp_gr (b := 80) jF_117_1 kd9 (by decide) (c := 180) rfl rfl rfl (pc2 := 4) ?_
    refine wp_al1 jF_117_4 rfl rfl (pc2 := 5) ?_
    refine wp_gr jF_117_5 kd9 (by decide) (c := 2) rfl (m_fv2 hs1 rfl) rfl (pc2 := 8) ?_
    refine wp_al1 jF_117_8 rfl rfl (pc2 := 9) ?_
    refine wp_gr (b := 70) jF_117_9 kd9 (by decide) (c := 170) rfl rfl rfl (pc2 := 12) ?_
    refine wp_il1 jF_117_12 rfl rfl (pc2 := 13) ?_
    refine wp_cV (as := [.ref 45, .ref 70, iV num]) (rest := []) (a := 80) (mx := 4) (ci := 4) jF_117_13 kd80 (by decide) rfl rfl rfl rfl rfl (by omega) (by omega) rfl (pc2 := 16) ?_
    refine wp_use (m_105_r80_45_70 σ hg num (by omega) (by omega)  _ _ (by omega) (by omega)) ?_
    rintro _ τ13 ⟨z16, rfl, h17, g14, f15⟩
    show WP 117 16 [(0, .ref 9), (1, iV num)] [iV z16] _ _ _ _
    refine wp_z_eq jF_117_16 (m_rgb h17 rfl) rfl (pc2 := 19) ?_ ?_
    · intro h18
      refine wp_ic jF_117_40 rfl (pc2 := 41) ?_
      refine wp_ri jF_117_41 rfl ?_
      exact ⟨0, rfl, ⟨by omega, by omega⟩, g14, (FR.up FR.rf f15 sb_WW80_WXg)⟩
    · intro h18
      refine wp_al1 jF_117_19 rfl rfl (pc2 := 20) ?_
      refine wp_gr jF_117_20 kd9 (by decide) (c := 2) rfl (m_fv2 ((FR.ar f15 9 4 rfl).trans hs1) rfl) rfl (pc2 := 23) ?_
      refine wp_al1 jF_117_23 rfl rfl (pc2 := 24) ?_
      refine wp_gr (b := 80) jF_117_24 kd9 (by decide) (c := 180) rfl rfl rfl (pc2 := 27) ?_
      refine wp_glA jF_117_27 kd80 (by decide) rfl rfl (pc2 := 30) ?_
      intro y19
      refine wp_cV (as := [.long y19]) (rest := []) (a := 45) (mx := 3) (ci := 8) jF_117_30 kd45 (by decide) rfl rfl rfl rfl rfl (by omega) (by omega) rfl (pc2 := 33) ?_
      refine wp_use (m_85_r45 τ13 g14 y19  _ _ (by omega) (by omega)) ?_
      rintro _ _ ⟨z22, rfl, h23, rfl⟩
      show WP 117 33 [(0, .ref 9), (1, iV num)] [iV z22] _ _ _ _
      refine wp_z_eq jF_117_33 (m_rgb h23 rfl) rfl (pc2 := 36) ?_ ?_
      · intro h24
        refine wp_ic jF_117_40 rfl (pc2 := 41) ?_
        refine wp_ri jF_117_41 rfl ?_
        exact ⟨0, rfl, ⟨by omega, by omega⟩, g14, (FR.up FR.rf f15 sb_WW80_WXg)⟩
      · intro h24
        refine wp_ic jF_117_36 rfl (pc2 := 37) ?_
        refine wp_go jF_117_37 ?_
        refine wp_ri jF_117_41 rfl ?_
        exact ⟨1, rfl, ⟨by omega, by omega⟩, g14, (FR.up FR.rf f15 sb_WW80_WXg)⟩
set_option maxHeartbeats 4000000 in
set_option maxRecDepth 20000 in
/-- X.change -/
theorem m_116_r9 (σ : jM) (hg : GI σ) (num : Int) (hl_num : 0 ≤ num) (hu_num : num ≤ 2900) (hsp : SPK σ)  (fr lo : Nat) (hfr : 5 ≤ fr) (hlo : 151 ≤ lo) : WP 116 0 (lv_args 0 [.ref 9, iV num]) [] fr lo σ (fun v τ => ∃ z : Int, v = some (iV z) ∧ ((-2147483648) ≤ z ∧ z ≤ 2147483647) ∧ GI τ ∧ FR WXg σ τ) := by
  rcases hsp with ⟨hs1, hs2⟩ | ⟨hs1, hs2⟩
  · skip
    show WP 116 0 [(0, .ref 9), (1, iV num)] [] _ _ _ _
    refine wp_al1 jF_116_0 rfl rfl (pc2 := 1) ?_
    refine wp_il1 jF_116_1 rfl rfl (pc2 := 2) ?_
    refine wp_cV (as := [iV num]) (rest := []) (a := 9) (mx := 2) (ci := 11) jF_116_2 kd9 (by decide) rfl rfl rfl rfl rfl (by omega) (by omega) rfl (pc2 := 5) ?_
    refine wp_use (m_117_r9 σ hg num (by omega) (by omega) (Or.inl ⟨hs1, hs2⟩)  _ _ (by omega) (by omega)) ?_
    rintro _ τ1 ⟨z4, rfl, h5, g2, f3⟩
    show WP 116 5 [(0, .ref 9), (1, iV num)] [iV z4] _ _ _ _
    refine wp_z_eq jF_116_5 (m_rgb h5 rfl) rfl (pc2 := 8) ?_ ?_
    · intro h6
      refine wp_al1 jF_116_15 rfl rfl (pc2 := 16) ?_
      refine wp_ic jF_116_16 rfl (pc2 := 17) ?_
      refine wp_cV (as := [iV 2]) (rest := []) (a := 9) (mx := 2) (ci := 11) jF_116_17 kd9 (by decide) rfl rfl rfl rfl rfl (by omega) (by omega) rfl (pc2 := 20) ?_
      refine wp_use (m_25_r9 τ1 g2 2 (by omega) (by omega)  _ _ (by omega) (by omega)) ?_
      rintro _ τ7 ⟨z10, rfl, h11, g8, f9⟩
      show WP 116 20 [(0, .ref 9), (1, iV num)] [iV z10] _ _ _ _
      refine wp_ri jF_116_20 rfl ?_
      exact ⟨z10, rfl, ⟨by omega, by omega⟩, g8, (FR.up f3 f9 sb_WXr_WXg)⟩
    · intro h6
      refine wp_al1 jF_116_8 rfl rfl (pc2 := 9) ?_
      refine wp_cV (as := []) (rest := []) (a := 9) (mx := 1) (ci := 11) jF_116_9 kd9 (by decide) rfl rfl rfl rfl rfl (by omega) (by omega) rfl (pc2 := 12) ?_
      refine wp_use (m_87_r9 τ1 g2  (Or.inl ⟨((FR.ar f3 9 4 rfl).trans hs1), ((FR.ar f3 9 5 rfl).trans hs2)⟩)  _ _ (by omega) (by omega)) ?_
      rintro _ τ12 ⟨z15, rfl, h16, g13, f14⟩
      show WP 116 12 [(0, .ref 9), (1, iV num)] [iV z15] _ _ _ _
      refine wp_go jF_116_12 ?_
      refine wp_ri jF_116_20 rfl ?_
      exact ⟨z15, rfl, ⟨by omega, by omega⟩, g13, (FR.up f3 f14 sb_WXg_WXg)⟩
  · skip
    show WP 116 0 [(0, .ref 9), (1, iV num)] [] _ _ _ _
    refine wp_al1 jF_116_0 rfl rfl (pc2 := 1) ?_
    refine wp_il1 jF_116_1 rfl rfl (pc2 := 2) ?_
    refine wp_cV (as := [iV num]) (rest := []) (a := 9) (mx := 2) (ci := 11) jF_116_2 kd9 (by decide) rfl rfl rfl rfl rfl (by omega) (by omega) rfl (pc2 := 5) ?_
    refine wp_use (m_117_r9 σ hg num (by omega) (by omega) (Or.inr ⟨hs1, hs2⟩)  _ _ (by omega) (by omega)) ?_
    rintro _ τ17 ⟨z20, rfl, h21, g18, f19⟩
    show WP 116 5 [(0, .ref 9), (1, iV num)] [iV z20] _ _ _ _
    refine wp_z_eq jF_116_5 (m_rgb h21 rfl) rfl (pc2 := 8) ?_ ?_
    · intro h22
      refine wp_al1 jF_116_15 rfl rfl (pc2 := 16) ?_
      refine wp_ic jF_116_16 rfl (pc2 := 17) ?_
      refine wp_cV (as := [iV 2]) (rest := []) (a := 9) (mx := 2) (ci := 11) jF_116_17 kd9 (by decide) rfl rfl rfl rfl rfl (by omega) (by omega) rfl (pc2 := 20) ?_
      refine wp_use (m_25_r9 τ17 g18 2 (by omega) (by omega)  _ _ (by omega) (by omega)) ?_
      rintro _ τ23 ⟨z26, rfl, h27, g24, f25⟩
      show WP 116 20 [(0, .ref 9), (1, iV num)] [iV z26] _ _ _ _
      refine wp_ri jF_116_20 rfl ?_
      exact ⟨z26, rfl, ⟨by omega, by omega⟩, g24, (FR.up f19 f25 sb_WXr_WXg)⟩
    · intro h22
      refine wp_al1 jF_116_8 rfl rfl (pc2 := 9) ?_
      refine wp_cV (as := []) (rest := []) (a := 9) (mx := 1) (ci := 11) jF_116_9 kd9 (by decide) rfl rfl rfl rfl rfl (by omega) (by omega) rfl (pc2 := 12) ?_
      refine wp_use (m_87_r9 τ17 g18  (Or.inr ⟨((FR.ar f19 9 4 rfl).trans hs1), ((FR.ar f19 9 5 rfl).trans hs2)⟩)  _ _ (by omega) (by omega)) ?_
      rintro _ τ28 ⟨z31, rfl, h32, g29, f30⟩
      show WP 116 12 [(0, .ref 9), (1, iV num)] [iV z31] _ _ _ _
      refine wp_go jF_116_12 ?_
      refine wp_ri jF_116_20 rfl ?_
      exact ⟨z31, rfl, ⟨by omega, by omega⟩, g29, (FR.up f19 f30 sb_WXg_WXg)⟩
set_option maxHeartbeats 4000000 in
set_option maxRecDepth 20000 in
/-- X.put -/
theorem m_114_r9 (σ : jM) (hg : GI σ) (pl : Int) (hl_pl : (-2147483648) ≤ pl) (hu_pl : pl ≤ 2147483647) (sg : Int) (hl_sg : (-2147483648) ≤ sg) (hu_sg : sg ≤ 2147483647) (hsp : SPK σ)  (fr lo : Nat) (hfr : 6 ≤ fr) (hlo : 172 ≤ lo) : WP 114 0 (lv_args 0 [.ref 9, iV pl, iV sg]) [] fr lo σ (fun v τ => ∃ z : Int, v = some (iV z) ∧ ((-2147483648) ≤ z ∧ z ≤ 2147483647) ∧ GI τ ∧ FR WXg σ τ) := by
  rcases hsp with ⟨hs1, hs2⟩ | ⟨hs1, hs2⟩
  · skip
    show WP 114 0 [(0, .ref 9), (1, iV pl), (2, iV sg)] [] _ _ _ _
    refine wp_al1 jF_114_0 rfl rfl (pc2 := 1) ?_
    refine wp_il1 jF_114_1 rfl rfl (pc2 := 2) ?_
    refine wp_il1 jF_114_2 rfl rfl (pc2 := 3) ?_
    refine wp_cV (as := [iV pl, iV sg]) (rest := []) (a := 9) (mx := 3) (ci := 11) jF_114_3 kd9 (by decide) rfl rfl rfl rfl rfl (by omega) (by omega) rfl (pc2 := 6) ?_
    show WP 115 0 [(0, .ref 9), (1, iV pl), (2, iV sg)] [] _ _ _ _
    refine wp_il1 jF_115_0 rfl rfl (pc2 := 1) ?_
    refine wp_z_lt jF_115_1 ⟨by omega, by omega⟩ rfl (pc2 := 4) ?_ ?_
    · intro h1
      refine wp_ic jF_115_29 rfl (pc2 := 30) ?_
      refine wp_ri jF_115_30 rfl ?_
      show WP 114 6 [(0, .ref 9), (1, iV pl), (2, iV sg)] [iV 0] _ _ _ _
      refine wp_z_eq jF_114_6 (m_rgl rfl) rfl (pc2 := 9) ?_ ?_
      · intro h2
        refine wp_al1 jF_114_25 rfl rfl (pc2 := 26) ?_
        refine wp_ic jF_114_26 rfl (pc2 := 27) ?_
        refine wp_cV (as := [iV 2]) (rest := []) (a := 9) (mx := 2) (ci := 11) jF_114_27 kd9 (by decide) rfl rfl rfl rfl rfl (by omega) (by omega) rfl (pc2 := 30) ?_
        refine wp_use (m_25_r9 σ hg 2 (by omega) (by omega)  _ _ (by omega) (by omega)) ?_
        rintro _ τ3 ⟨z6, rfl, h7, g4, f5⟩
        show WP 114 30 [(0, .ref 9), (1, iV pl), (2, iV sg)] [iV z6] _ _ _ _
        refine wp_ri jF_114_30 rfl ?_
        exact ⟨z6, rfl, ⟨by omega, by omega⟩, g4, (FR.up FR.rf f5 sb_WXr_WXg)⟩
      · intro h2; exfalso; omega
    · intro h1
      refine wp_il1 jF_115_4 rfl rfl (pc2 := 5) ?_
      refine wp_al1 jF_115_5 rfl rfl (pc2 := 6) ?_
      refine wp_gr (b := 70) jF_115_6 kd9 (by decide) (c := 170) rfl rfl rfl (pc2 := 9) ?_
      have b8 := GI.b hg 70 1 kd70 (lo := 0) (hi := 60) rfl
      refine wp_gi jF_115_9 kd70 (by decide) rfl rfl rfl (pc2 := 12) ?_
      refine wp_i_gt jF_115_12 ⟨by omega, by omega⟩ (m_rgb b8 rfl) rfl (pc2 := 15) ?_ ?_
      · intro h9
        refine wp_ic jF_115_29 rfl (pc2 := 30) ?_
        refine wp_ri jF_115_30 rfl ?_
        show WP 114 6 [(0, .ref 9), (1, iV pl), (2, iV sg)] [iV 0] _ _ _ _
        refine wp_z_eq jF_114_6 (m_rgl rfl) rfl (pc2 := 9) ?_ ?_
        · intro h10
          refine wp_al1 jF_114_25 rfl rfl (pc2 := 26) ?_
          refine wp_ic jF_114_26 rfl (pc2 := 27) ?_
          refine wp_cV (as := [iV 2]) (rest := []) (a := 9) (mx := 2) (ci := 11) jF_114_27 kd9 (by decide) rfl rfl rfl rfl rfl (by omega) (by omega) rfl (pc2 := 30) ?_
          refine wp_use (m_25_r9 σ hg 2 (by omega) (by omega)  _ _ (by omega) (by omega)) ?_
          rintro _ τ11 ⟨z14, rfl, h15, g12, f13⟩
          show WP 114 30 [(0, .ref 9), (1, iV pl), (2, iV sg)] [iV z14] _ _ _ _
          refine wp_ri jF_114_30 rfl ?_
          exact ⟨z14, rfl, ⟨by omega, by omega⟩, g12, (FR.up FR.rf f13 sb_WXr_WXg)⟩
        · intro h10; exfalso; omega
      · intro h9
        refine wp_il1 jF_115_15 rfl rfl (pc2 := 16) ?_
        refine wp_z_lt jF_115_16 ⟨by omega, by omega⟩ rfl (pc2 := 19) ?_ ?_
        · intro h16
          refine wp_ic jF_115_29 rfl (pc2 := 30) ?_
          refine wp_ri jF_115_30 rfl ?_
          show WP 114 6 [(0, .ref 9), (1, iV pl), (2, iV sg)] [iV 0] _ _ _ _
          refine wp_z_eq jF_114_6 (m_rgl rfl) rfl (pc2 := 9) ?_ ?_
          · intro h17
            refine wp_al1 jF_114_25 rfl rfl (pc2 := 26) ?_
            refine wp_ic jF_114_26 rfl (pc2 := 27) ?_
            refine wp_cV (as := [iV 2]) (rest := []) (a := 9) (mx := 2) (ci := 11) jF_114_27 kd9 (by decide) rfl rfl rfl rfl rfl (by omega) (by omega) rfl (pc2 := 30) ?_
            refine wp_use (m_25_r9 σ hg 2 (by omega) (by omega)  _ _ (by omega) (by omega)) ?_
            rintro _ τ18 ⟨z21, rfl, h22, g19, f20⟩
            show WP 114 30 [(0, .ref 9), (1, iV pl), (2, iV sg)] [iV z21] _ _ _ _
            refine wp_ri jF_114_30 rfl ?_
            exact ⟨z21, rfl, ⟨by omega, by omega⟩, g19, (FR.up FR.rf f20 sb_WXr_WXg)⟩
          · intro h17; exfalso; omega
        · intro h16
          refine wp_il1 jF_115_19 rfl rfl (pc2 := 20) ?_
          refine wp_bi jF_115_20 (by decide) rfl (pc2 := 22) ?_
          refine wp_i_ge jF_115_22 ⟨by omega, by omega⟩ (m_rgl rfl) rfl (pc2 := 25) ?_ ?_
          · intro h23
            refine wp_ic jF_115_29 rfl (pc2 := 30) ?_
            refine wp_ri jF_115_30 rfl ?_
            show WP 114 6 [(0, .ref 9), (1, iV pl), (2, iV sg)] [iV 0] _ _ _ _
            refine wp_z_eq jF_114_6 (m_rgl rfl) rfl (pc2 := 9) ?_ ?_
            · intro h24
              refine wp_al1 jF_114_25 rfl rfl (pc2 := 26) ?_
              refine wp_ic jF_114_26 rfl (pc2 := 27) ?_
              refine wp_cV (as := [iV 2]) (rest := []) (a := 9) (mx := 2) (ci := 11) jF_114_27 kd9 (by decide) rfl rfl rfl rfl rfl (by omega) (by omega) rfl (pc2 := 30) ?_
              refine wp_use (m_25_r9 σ hg 2 (by omega) (by omega)  _ _ (by omega) (by omega)) ?_
              rintro _ τ25 ⟨z28, rfl, h29, g26, f27⟩
              show WP 114 30 [(0, .ref 9), (1, iV pl), (2, iV sg)] [iV z28] _ _ _ _
              refine wp_ri jF_114_30 rfl ?_
              exact ⟨z28, rfl, ⟨by omega, by omega⟩, g26, (FR.up FR.rf f27 sb_WXr_WXg)⟩
            · intro h24; exfalso; omega
          · intro h23
            refine wp_ic jF_115_25 rfl (pc2 := 26) ?_
            refine wp_go jF_115_26 ?_
            refine wp_ri jF_115_30 rfl ?_
            show WP 114 6 [(0, .ref 9), (1, iV pl), (2, iV sg)] [iV 1] _ _ _ _
            refine wp_z_eq jF_114_6 (m_rgl rfl) rfl (pc2 := 9) ?_ ?_
            · intro h30; exfalso; omega
            · intro h30
              refine wp_al1 jF_114_9 rfl rfl (pc2 := 10) ?_
              refine wp_il1 jF_114_10 rfl rfl (pc2 := 11) ?_
              refine wp_bi jF_114_11 (by decide) rfl (pc2 := 13) ?_
              refine wp_mul jF_114_13 rfl (pc2 := 14) ?_
              refine wp_bi jF_114_14 (by decide) rfl (pc2 := 16) ?_
              refine wp_add jF_114_16 rfl (pc2 := 17) ?_
              refine wp_il1 jF_114_17 rfl rfl (pc2 := 18) ?_
              refine wp_add jF_114_18 rfl (pc2 := 19) ?_
              refine wp_cV (as := [iV (((pl * 47) + 24) + sg)]) (rest := []) (a := 9) (mx := 2) (ci := 11) jF_114_19 kd9 (by decide) rfl rfl rfl rfl rfl (by omega) (by omega) rfl (pc2 := 22) ?_
              refine wp_use (m_116_r9 σ hg (((pl * 47) + 24) + sg) (by omega) (by omega) (Or.inl ⟨hs1, hs2⟩)  _ _ (by omega) (by omega)) ?_
              rintro _ τ31 ⟨z34, rfl, h35, g32, f33⟩
              show WP 114 22 [(0, .ref 9), (1, iV pl), (2, iV sg)] [iV z34] _ _ _ _
              refine wp_go jF_114_22 ?_
              refine wp_ri jF_114_30 rfl ?_
              exact ⟨z34, rfl, ⟨by omega, by omega⟩, g32, f33⟩
  · skip
    show WP 114 0 [(0, .ref 9), (1, iV pl), (2, iV sg)] [] _ _ _ _
    refine wp_al1 jF_114_0 rfl rfl (pc2 := 1) ?_
    refine wp_il1 jF_114_1 rfl rfl (pc2 := 2) ?_
    refine wp_il1 jF_114_2 rfl rfl (pc2 := 3) ?_
    refine wp_cV (as := [iV pl, iV sg]) (rest := []) (a := 9) (mx := 3) (ci := 11) jF_114_3 kd9 (by decide) rfl rfl rfl rfl rfl (by omega) (by omega) rfl (pc2 := 6) ?_
    show WP 115 0 [(0, .ref 9), (1, iV pl), (2, iV sg)] [] _ _ _ _
    refine wp_il1 jF_115_0 rfl rfl (pc2 := 1) ?_
    refine wp_z_lt jF_115_1 ⟨by omega, by omega⟩ rfl (pc2 := 4) ?_ ?_
    · intro h36
      refine wp_ic jF_115_29 rfl (pc2 := 30) ?_
      refine wp_ri jF_115_30 rfl ?_
      show WP 114 6 [(0, .ref 9), (1, iV pl), (2, iV sg)] [iV 0] _ _ _ _
      refine wp_z_eq jF_114_6 (m_rgl rfl) rfl (pc2 := 9) ?_ ?_
      · intro h37
        refine wp_al1 jF_114_25 rfl rfl (pc2 := 26) ?_
        refine wp_ic jF_114_26 rfl (pc2 := 27) ?_
        refine wp_cV (as := [iV 2]) (rest := []) (a := 9) (mx := 2) (ci := 11) jF_114_27 kd9 (by decide) rfl rfl rfl rfl rfl (by omega) (by omega) rfl (pc2 := 30) ?_
        refine wp_use (m_25_r9 σ hg 2 (by omega) (by omega)  _ _ (by omega) (by omega)) ?_
        rintro _ τ38 ⟨z41, rfl, h42, g39, f40⟩
        show WP 114 30 [(0, .ref 9), (1, iV pl), (2, iV sg)] [iV z41] _ _ _ _
        refine wp_ri jF_114_30 rfl ?_
        exact ⟨z41, rfl, ⟨by omega, by omega⟩, g39, (FR.up FR.rf f40 sb_WXr_WXg)⟩
      · intro h37; exfalso; omega
    · intro h36
      refine wp_il1 jF_115_4 rfl rfl (pc2 := 5) ?_
      refine wp_al1 jF_115_5 rfl rfl (pc2 := 6) ?_
      refine wp_gr (b := 70) jF_115_6 kd9 (by decide) (c := 170) rfl rfl rfl (pc2 := 9) ?_
      have b43 := GI.b hg 70 1 kd70 (lo := 0) (hi := 60) rfl
      refine wp_gi jF_115_9 kd70 (by decide) rfl rfl rfl (pc2 := 12) ?_
      refine wp_i_gt jF_115_12 ⟨by omega, by omega⟩ (m_rgb b43 rfl) rfl (pc2 := 15) ?_ ?_
      · intro h44
        refine wp_ic jF_115_29 rfl (pc2 := 30) ?_
        refine wp_ri jF_115_30 rfl ?_
        show WP 114 6 [(0, .ref 9), (1, iV pl), (2, iV sg)] [iV 0] _ _ _ _
        refine wp_z_eq jF_114_6 (m_rgl rfl) rfl (pc2 := 9) ?_ ?_
        · intro h45
          refine wp_al1 jF_114_25 rfl rfl (pc2 := 26) ?_
          refine wp_ic jF_114_26 rfl (pc2 := 27) ?_
          refine wp_cV (as := [iV 2]) (rest := []) (a := 9) (mx := 2) (ci := 11) jF_114_27 kd9 (by decide) rfl rfl rfl rfl rfl (by omega) (by omega) rfl (pc2 := 30) ?_
          refine wp_use (m_25_r9 σ hg 2 (by omega) (by omega)  _ _ (by omega) (by omega)) ?_
          rintro _ τ46 ⟨z49, rfl, h50, g47, f48⟩
          show WP 114 30 [(0, .ref 9), (1, iV pl), (2, iV sg)] [iV z49] _ _ _ _
          refine wp_ri jF_114_30 rfl ?_
          exact ⟨z49, rfl, ⟨by omega, by omega⟩, g47, (FR.up FR.rf f48 sb_WXr_WXg)⟩
        · intro h45; exfalso; omega
      · intro h44
        refine wp_il1 jF_115_15 rfl rfl (pc2 := 16) ?_
        refine wp_z_lt jF_115_16 ⟨by omega, by omega⟩ rfl (pc2 := 19) ?_ ?_
        · intro h51
          refine wp_ic jF_115_29 rfl (pc2 := 30) ?_
          refine wp_ri jF_115_30 rfl ?_
          show WP 114 6 [(0, .ref 9), (1, iV pl), (2, iV sg)] [iV 0] _ _ _ _
          refine wp_z_eq jF_114_6 (m_rgl rfl) rfl (pc2 := 9) ?_ ?_
          · intro h52
            refine wp_al1 jF_114_25 rfl rfl (pc2 := 26) ?_
            refine wp_ic jF_114_26 rfl (pc2 := 27) ?_
            refine wp_cV (as := [iV 2]) (rest := []) (a := 9) (mx := 2) (ci := 11) jF_114_27 kd9 (by decide) rfl rfl rfl rfl rfl (by omega) (by omega) rfl (pc2 := 30) ?_
            refine wp_use (m_25_r9 σ hg 2 (by omega) (by omega)  _ _ (by omega) (by omega)) ?_
            rintro _ τ53 ⟨z56, rfl, h57, g54, f55⟩
            show WP 114 30 [(0, .ref 9), (1, iV pl), (2, iV sg)] [iV z56] _ _ _ _
            refine wp_ri jF_114_30 rfl ?_
            exact ⟨z56, rfl, ⟨by omega, by omega⟩, g54, (FR.up FR.rf f55 sb_WXr_WXg)⟩
          · intro h52; exfalso; omega
        · intro h51
          refine wp_il1 jF_115_19 rfl rfl (pc2 := 20) ?_
          refine wp_bi jF_115_20 (by decide) rfl (pc2 := 22) ?_
          refine wp_i_ge jF_115_22 ⟨by omega, by omega⟩ (m_rgl rfl) rfl (pc2 := 25) ?_ ?_
          · intro h58
            refine wp_ic jF_115_29 rfl (pc2 := 30) ?_
            refine wp_ri jF_115_30 rfl ?_
            show WP 114 6 [(0, .ref 9), (1, iV pl), (2, iV sg)] [iV 0] _ _ _ _
            refine wp_z_eq jF_114_6 (m_rgl rfl) rfl (pc2 := 9) ?_ ?_
            · intro h59
              refine wp_al1 jF_114_25 rfl rfl (pc2 := 26) ?_
              refine wp_ic jF_114_26 rfl (pc2 := 27) ?_
              refine wp_cV (as := [iV 2]) (rest := []) (a := 9) (mx := 2) (ci := 11) jF_114_27 kd9 (by decide) rfl rfl rfl rfl rfl (by omega) (by omega) rfl (pc2 := 30) ?_
              refine wp_use (m_25_r9 σ hg 2 (by omega) (by omega)  _ _ (by omega) (by omega)) ?_
              rintro _ τ60 ⟨z63, rfl, h64, g61, f62⟩
              show WP 114 30 [(0, .ref 9), (1, iV pl), (2, iV sg)] [iV z63] _ _ _ _
              refine wp_ri jF_114_30 rfl ?_
              exact ⟨z63, rfl, ⟨by omega, by omega⟩, g61, (FR.up FR.rf f62 sb_WXr_WXg)⟩
            · intro h59; exfalso; omega
          · intro h58
            refine wp_ic jF_115_25 rfl (pc2 := 26) ?_
            refine wp_go jF_115_26 ?_
            refine wp_ri jF_115_30 rfl ?_
            show WP 114 6 [(0, .ref 9), (1, iV pl), (2, iV sg)] [iV 1] _ _ _ _
            refine wp_z_eq jF_114_6 (m_rgl rfl) rfl (pc2 := 9) ?_ ?_
            · intro h65; exfalso; omega
            · intro h65
              refine wp_al1 jF_114_9 rfl rfl (pc2 := 10) ?_
              refine wp_il1 jF_114_10 rfl rfl (pc2 := 11) ?_
              refine wp_bi jF_114_11 (by decide) rfl (pc2 := 13) ?_
              refine wp_mul jF_114_13 rfl (pc2 := 14) ?_
              refine wp_bi jF_114_14 (by decide) rfl (pc2 := 16) ?_
              refine wp_add jF_114_16 rfl (pc2 := 17) ?_
              refine wp_il1 jF_114_17 rfl rfl (pc2 := 18) ?_
              refine wp_add jF_114_18 rfl (pc2 := 19) ?_
              refine wp_cV (as := [iV (((pl * 47) + 24) + sg)]) (rest := []) (a := 9) (mx := 2) (ci := 11) jF_114_19 kd9 (by decide) rfl rfl rfl rfl rfl (by omega) (by omega) rfl (pc2 := 22) ?_
              refine wp_use (m_116_r9 σ hg (((pl * 47) + 24) + sg) (by omega) (by omega) (Or.inr ⟨hs1, hs2⟩)  _ _ (by omega) (by omega)) ?_
              rintro _ τ66 ⟨z69, rfl, h70, g67, f68⟩
              show WP 114 22 [(0, .ref 9), (1, iV pl), (2, iV sg)] [iV z69] _ _ _ _
              refine wp_go jF_114_22 ?_
              refine wp_ri jF_114_30 rfl ?_
              exact ⟨z69, rfl, ⟨by omega, by omega⟩, g67, f68⟩
