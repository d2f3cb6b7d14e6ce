set_option maxHeartbeats 4000000 in
set_option maxRecDepth 20000 in
/-- Question.valueIn -/
theorem m_189_r16_t45 (σ : jM) (hg : GI σ) (nb : Int) (hl_nb : 0 ≤ nb) (hu_nb : nb ≤ 2147483647) (hr0 : σ.2.2 16 8 = 45) (hr1 : σ.2.2 16 9 = 70) (hr2 : σ.2.2 16 10 = 75)  (fr lo : Nat) (hfr : 3 ≤ fr) (hlo : 68 ≤ lo) : WP 189 0 (lv_args 0 [.ref 16, iV nb]) [] fr lo σ (fun v τ => ∃ z : Int64, v = some (.long z) ∧ GI τ ∧ FR WQp σ τ) := by
  show WP 189 0 [(0, .ref 16), (1, iV nb)] [] _ _ _ _
  refine wp_al1 jF_189_0 rfl rfl (pc2 := 1) ?_
  refine wp_ic jF_189_1 rfl (pc2 := 2) ?_
  refine wp_pi jF_189_2 kd16 (by decide) rfl rfl rfl (pc2 := 5) hg (lo := 0) (hi := 64) rfl (by omega) (by omega) ?_
  intro τ1 g2 f3 e4
  refine wp_ic jF_189_5 rfl (pc2 := 6) ?_
  refine wp_is1 (lv2 := [(0, .ref 16), (1, iV nb), (2, iV 0)]) jF_189_6 rfl rfl rfl (pc2 := 7) ?_
  refine wp_loop (α := Int) (fun a => [(0, .ref 16), (1, iV nb), (2, iV (a))]) (fun a τ => (0 ≤ a ∧ a ≤ 1600) ∧ GI τ ∧ FR WQp τ1 τ) (fun a τ => Int.toNat (1600 - (a))) (0) τ1 ?_ ?_
  · skip
    exact ⟨⟨by omega, by omega⟩, g2, FR.rf⟩
  · rintro x5 τ7 ⟨h6, g8, f9⟩ ih10
    show WP 189 7 [(0, .ref 16), (1, iV nb), (2, iV x5)] [] _ _ _ _
    show WP 189 7 [(0, .ref 16), (1, iV nb), (2, iV x5)] [] _ _ _ _
    refine wp_il1 jF_189_7 rfl rfl (pc2 := 8) ?_
    refine wp_al1 jF_189_8 rfl rfl (pc2 := 9) ?_
    have b11 := GI.b hg 16 4 kd16 (lo := 0) (hi := 1600) rfl
    refine wp_gi jF_189_9 kd16 (by decide) rfl ((FR.at f9 16 4 rfl).trans (FRw.nj f3 (by decide))) rfl (pc2 := 12) ?_
    refine wp_i_ge jF_189_12 (m_rgb h6 rfl) (m_rgb b11 rfl) rfl (pc2 := 15) ?_ ?_
    · intro h12
      refine wp_al1 jF_189_134 rfl rfl (pc2 := 135) ?_
      refine wp_cV (as := []) (rest := []) (a := 16) (mx := 1) (ci := 3) jF_189_135 kd16 (by decide) rfl rfl rfl rfl rfl (by omega) (by omega) rfl (pc2 := 138) ?_
      refine wp_use (m_192_r16 τ7 g8   _ _ (by omega) (by omega)) ?_
      rintro _ τ13 ⟨y16, rfl, g14, f15⟩
      show WP 189 138 [(0, .ref 16), (1, iV nb), (2, iV x5)] [.long y16] _ _ _ _
      refine wp_rl jF_189_138 ?_
      exact ⟨y16, rfl, g14, (FR.up (FR.up (FR.w FR.rf f3 rfl) f9 sb_WQp_WQp) f15 sb_WQp_WQp)⟩
    · intro h12
      refine wp_al1 jF_189_15 rfl rfl (pc2 := 16) ?_
      refine wp_gr (b := 18) jF_189_16 kd16 (by decide) (c := 118) rfl rfl rfl (pc2 := 19) ?_
      refine wp_il1 jF_189_19 rfl rfl (pc2 := 20) ?_
      have b17 := GI.b hg 18 x5.toNat kd18 (lo := (-1000000)) (hi := 1000000) rfl
      refine wp_iald (n := 1600) (e := (σ.1 18 x5.toNat)) jF_189_20 kd18 (by decide) rfl rfl (by omega) (by omega) ((FR.at f9 18 x5.toNat rfl).trans (FRw.na f3 (by decide))) rfl (pc2 := 21) ?_
      refine wp_is1 (lv2 := [(0, .ref 16), (1, iV nb), (2, iV x5), (3, iV (σ.1 18 x5.toNat))]) jF_189_21 rfl rfl rfl (pc2 := 22) ?_
      refine wp_il1 jF_189_22 rfl rfl (pc2 := 23) ?_
      refine wp_si jF_189_23 (by decide) rfl (pc2 := 26) ?_
      refine wp_i_lt jF_189_26 (m_rgb b17 rfl) (m_rgl rfl) rfl (pc2 := 29) ?_ ?_
      · intro h18
        refine wp_il1 jF_189_42 rfl rfl (pc2 := 43) ?_
        refine wp_bi jF_189_43 (by decide) rfl (pc2 := 45) ?_
        refine wp_i_lt jF_189_45 ⟨by omega, by omega⟩ (m_rgl rfl) rfl (pc2 := 48) ?_ ?_
        · intro h19
          refine wp_il1 jF_189_67 rfl rfl (pc2 := 68) ?_
          refine wp_bi jF_189_68 (by decide) rfl (pc2 := 70) ?_
          refine wp_i_ne jF_189_70 ⟨by omega, by omega⟩ (m_rgl rfl) rfl (pc2 := 73) ?_ ?_
          · intro h20
            refine wp_il1 jF_189_86 rfl rfl (pc2 := 87) ?_
            refine wp_bi jF_189_87 (by decide) rfl (pc2 := 89) ?_
            refine wp_i_ne jF_189_89 ⟨by omega, by omega⟩ (m_rgl rfl) rfl (pc2 := 92) ?_ ?_
            · intro h21
              refine wp_al1 jF_189_108 rfl rfl (pc2 := 109) ?_
              refine wp_cV (as := []) (rest := []) (a := 16) (mx := 1) (ci := 3) jF_189_109 kd16 (by decide) rfl rfl rfl rfl rfl (by omega) (by omega) rfl (pc2 := 112) ?_
              refine wp_use (m_192_r16 τ7 g8   _ _ (by omega) (by omega)) ?_
              rintro _ τ22 ⟨y25, rfl, g23, f24⟩
              show WP 189 112 [(0, .ref 16), (1, iV nb), (2, iV x5), (3, iV (σ.1 18 x5.toNat))] [.long y25] _ _ _ _
              refine wp_ls2 (lv2 := [(0, .ref 16), (1, iV nb), (2, iV x5), (3, iV (σ.1 18 x5.toNat)), (4, .long y25)]) jF_189_112 rfl rfl rfl (pc2 := 114) ?_
              refine wp_al1 jF_189_114 rfl rfl (pc2 := 115) ?_
              refine wp_il1 jF_189_115 rfl rfl (pc2 := 116) ?_
              refine wp_al1 jF_189_116 rfl rfl (pc2 := 117) ?_
              refine wp_cV (as := []) (rest := [iV (σ.1 18 x5.toNat), .ref 16]) (a := 16) (mx := 1) (ci := 3) jF_189_117 kd16 (by decide) rfl rfl rfl rfl rfl (by omega) (by omega) rfl (pc2 := 120) ?_
              refine wp_use (m_192_r16 τ22 g23   _ _ (by omega) (by omega)) ?_
              rintro _ τ26 ⟨y29, rfl, g27, f28⟩
              show WP 189 120 [(0, .ref 16), (1, iV nb), (2, iV x5), (3, iV (σ.1 18 x5.toNat)), (4, .long y25)] [.long y29, iV (σ.1 18 x5.toNat), .ref 16] _ _ _ _
              refine wp_ll2 jF_189_120 rfl rfl (pc2 := 122) ?_
              refine wp_cS (as := [iV (σ.1 18 x5.toNat), .long y29, .long y25]) (rest := [.ref 16]) (mx := 5) jF_189_122 rfl rfl rfl rfl (by omega) (by omega) rfl (pc2 := 125) ?_
              refine wp_use (m_194_r τ26 g27 (σ.1 18 x5.toNat) (by omega) (by omega) y29 y25  _ _ (by omega) (by omega)) ?_
              rintro _ _ ⟨y32, rfl, rfl⟩
              show WP 189 125 [(0, .ref 16), (1, iV nb), (2, iV x5), (3, iV (σ.1 18 x5.toNat)), (4, .long y25)] [.long y32, .ref 16] _ _ _ _
              refine wp_cV (as := [.long y32]) (rest := []) (a := 16) (mx := 3) (ci := 3) jF_189_125 kd16 (by decide) rfl rfl rfl rfl rfl (by omega) (by omega) rfl (pc2 := 128) ?_
              refine wp_use (m_190_r16 τ26 g27 y32  _ _ (by omega) (by omega)) ?_
              rintro _ τ33 ⟨rfl, g34, f35⟩
              show WP 189 128 [(0, .ref 16), (1, iV nb), (2, iV x5), (3, iV (σ.1 18 x5.toNat)), (4, .long y25)] [] _ _ _ _
              refine wp_inc (lv2 := [(0, .ref 16), (1, iV nb), (2, iV (x5 + 1)), (3, iV (σ.1 18 x5.toNat)), (4, .long y25)]) jF_189_128 rfl rfl rfl rfl (pc2 := 131) ?_
              refine wp_go jF_189_131 ?_
              refine wp_less [0, 1, 2] (lv2 := [(0, .ref 16), (1, iV nb), (2, iV (x5 + 1))]) rfl rfl ?_
              exact ih10 ((x5 + 1)) τ33 ⟨⟨by omega, by omega⟩, g34, (FR.up (FR.up (FR.up f9 f24 sb_WQp_WQp) f28 sb_WQp_WQp) f35 sb_WQp_WQp)⟩ (by show Int.toNat (1600 - (x5 + 1)) < Int.toNat (1600 - x5); omega)
            · intro h21; exfalso; omega
          · intro h20; exfalso; omega
        · intro h19
          refine wp_il1 jF_189_48 rfl rfl (pc2 := 49) ?_
          refine wp_bi jF_189_49 (by decide) rfl (pc2 := 51) ?_
          refine wp_i_gt jF_189_51 ⟨by omega, by omega⟩ (m_rgl rfl) rfl (pc2 := 54) ?_ ?_
          · intro h36
            refine wp_il1 jF_189_67 rfl rfl (pc2 := 68) ?_
            refine wp_bi jF_189_68 (by decide) rfl (pc2 := 70) ?_
            refine wp_i_ne jF_189_70 ⟨by omega, by omega⟩ (m_rgl rfl) rfl (pc2 := 73) ?_ ?_
            · intro h37
              refine wp_il1 jF_189_86 rfl rfl (pc2 := 87) ?_
              refine wp_bi jF_189_87 (by decide) rfl (pc2 := 89) ?_
              refine wp_i_ne jF_189_89 ⟨by omega, by omega⟩ (m_rgl rfl) rfl (pc2 := 92) ?_ ?_
              · intro h38
                refine wp_al1 jF_189_108 rfl rfl (pc2 := 109) ?_
                refine wp_cV (as := []) (rest := []) (a := 16) (mx := 1) (ci := 3) jF_189_109 kd16 (by decide) rfl rfl rfl rfl rfl (by omega) (by omega) rfl (pc2 := 112) ?_
                refine wp_use (m_192_r16 τ7 g8   _ _ (by omega) (by omega)) ?_
                rintro _ τ39 ⟨y42, rfl, g40, f41⟩
                show WP 189 112 [(0, .ref 16), (1, iV nb), (2, iV x5), (3, iV (σ.1 18 x5.toNat))] [.long y42] _ _ _ _
                refine wp_ls2 (lv2 := [(0, .ref 16), (1, iV nb), (2, iV x5), (3, iV (σ.1 18 x5.toNat)), (4, .long y42)]) jF_189_112 rfl rfl rfl (pc2 := 114) ?_
                refine wp_al1 jF_189_114 rfl rfl (pc2 := 115) ?_
                refine wp_il1 jF_189_115 rfl rfl (pc2 := 116) ?_
                refine wp_al1 jF_189_116 rfl rfl (pc2 := 117) ?_
                refine wp_cV (as := []) (rest := [iV (σ.1 18 x5.toNat), .ref 16]) (a := 16) (mx := 1) (ci := 3) jF_189_117 kd16 (by decide) rfl rfl rfl rfl rfl (by omega) (by omega) rfl (pc2 := 120) ?_
                refine wp_use (m_192_r16 τ39 g40   _ _ (by omega) (by omega)) ?_
                rintro _ τ43 ⟨y46, rfl, g44, f45⟩
                show WP 189 120 [(0, .ref 16), (1, iV nb), (2, iV x5), (3, iV (σ.1 18 x5.toNat)), (4, .long y42)] [.long y46, iV (σ.1 18 x5.toNat), .ref 16] _ _ _ _
                refine wp_ll2 jF_189_120 rfl rfl (pc2 := 122) ?_
                refine wp_cS (as := [iV (σ.1 18 x5.toNat), .long y46, .long y42]) (rest := [.ref 16]) (mx := 5) jF_189_122 rfl rfl rfl rfl (by omega) (by omega) rfl (pc2 := 125) ?_
                refine wp_use (m_194_r τ43 g44 (σ.1 18 x5.toNat) (by omega) (by omega) y46 y42  _ _ (by omega) (by omega)) ?_
                rintro _ _ ⟨y49, rfl, rfl⟩
                show WP 189 125 [(0, .ref 16), (1, iV nb), (2, iV x5), (3, iV (σ.1 18 x5.toNat)), (4, .long y42)] [.long y49, .ref 16] _ _ _ _
                refine wp_cV (as := [.long y49]) (rest := []) (a := 16) (mx := 3) (ci := 3) jF_189_125 kd16 (by decide) rfl rfl rfl rfl rfl (by omega) (by omega) rfl (pc2 := 128) ?_
                refine wp_use (m_190_r16 τ43 g44 y49  _ _ (by omega) (by omega)) ?_
                rintro _ τ50 ⟨rfl, g51, f52⟩
                show WP 189 128 [(0, .ref 16), (1, iV nb), (2, iV x5), (3, iV (σ.1 18 x5.toNat)), (4, .long y42)] [] _ _ _ _
                refine wp_inc (lv2 := [(0, .ref 16), (1, iV nb), (2, iV (x5 + 1)), (3, iV (σ.1 18 x5.toNat)), (4, .long y42)]) jF_189_128 rfl rfl rfl rfl (pc2 := 131) ?_
                refine wp_go jF_189_131 ?_
                refine wp_less [0, 1, 2] (lv2 := [(0, .ref 16), (1, iV nb), (2, iV (x5 + 1))]) rfl rfl ?_
                exact ih10 ((x5 + 1)) τ50 ⟨⟨by omega, by omega⟩, g51, (FR.up (FR.up (FR.up f9 f41 sb_WQp_WQp) f45 sb_WQp_WQp) f52 sb_WQp_WQp)⟩ (by show Int.toNat (1600 - (x5 + 1)) < Int.toNat (1600 - x5); omega)
              · intro h38
                refine wp_al1 jF_189_92 rfl rfl (pc2 := 93) ?_
                refine wp_al1 jF_189_93 rfl rfl (pc2 := 94) ?_
                refine wp_al1 jF_189_94 rfl rfl (pc2 := 95) ?_
                refine wp_cV (as := []) (rest := [.ref 16, .ref 16]) (a := 16) (mx := 1) (ci := 3) jF_189_95 kd16 (by decide) rfl rfl rfl rfl rfl (by omega) (by omega) rfl (pc2 := 98) ?_
                refine wp_use (m_192_r16 τ7 g8   _ _ (by omega) (by omega)) ?_
                rintro _ τ53 ⟨y56, rfl, g54, f55⟩
                show WP 189 98 [(0, .ref 16), (1, iV nb), (2, iV x5), (3, iV (σ.1 18 x5.toNat))] [.long y56, .ref 16, .ref 16] _ _ _ _
                refine wp_il1 jF_189_98 rfl rfl (pc2 := 99) ?_
                refine wp_cV (as := [.long y56, iV nb]) (rest := [.ref 16]) (a := 16) (mx := 4) (ci := 3) jF_189_99 kd16 (by decide) rfl rfl rfl rfl rfl (by omega) (by omega) rfl (pc2 := 102) ?_
                refine wp_use (m_193_r16 τ53 g54 y56 nb (by omega) (by omega) (((FR.ar f55 16 9 rfl).trans ((FR.ar f9 16 9 rfl).trans ((FRw.njr f3 (by decide)).trans hr1))))  _ _ (by omega) (by omega)) ?_
                rintro _ _ ⟨y59, rfl, rfl⟩
                show WP 189 102 [(0, .ref 16), (1, iV nb), (2, iV x5), (3, iV (σ.1 18 x5.toNat))] [.long y59, .ref 16] _ _ _ _
                refine wp_cV (as := [.long y59]) (rest := []) (a := 16) (mx := 3) (ci := 3) jF_189_102 kd16 (by decide) rfl rfl rfl rfl rfl (by omega) (by omega) rfl (pc2 := 105) ?_
                refine wp_use (m_190_r16 τ53 g54 y59  _ _ (by omega) (by omega)) ?_
                rintro _ τ60 ⟨rfl, g61, f62⟩
                show WP 189 105 [(0, .ref 16), (1, iV nb), (2, iV x5), (3, iV (σ.1 18 x5.toNat))] [] _ _ _ _
                refine wp_go jF_189_105 ?_
                refine wp_inc (lv2 := [(0, .ref 16), (1, iV nb), (2, iV (x5 + 1)), (3, iV (σ.1 18 x5.toNat))]) jF_189_128 rfl rfl rfl rfl (pc2 := 131) ?_
                refine wp_go jF_189_131 ?_
                refine wp_less [0, 1, 2] (lv2 := [(0, .ref 16), (1, iV nb), (2, iV (x5 + 1))]) rfl rfl ?_
                exact ih10 ((x5 + 1)) τ60 ⟨⟨by omega, by omega⟩, g61, (FR.up (FR.up f9 f55 sb_WQp_WQp) f62 sb_WQp_WQp)⟩ (by show Int.toNat (1600 - (x5 + 1)) < Int.toNat (1600 - x5); omega)
            · intro h37
              refine wp_al1 jF_189_73 rfl rfl (pc2 := 74) ?_
              refine wp_lc jF_189_74 rfl (pc2 := 75) ?_
              refine wp_al1 jF_189_75 rfl rfl (pc2 := 76) ?_
              refine wp_cV (as := []) (rest := [.long (Int64.ofNat 1), .ref 16]) (a := 16) (mx := 1) (ci := 3) jF_189_76 kd16 (by decide) rfl rfl rfl rfl rfl (by omega) (by omega) rfl (pc2 := 79) ?_
              refine wp_use (m_192_r16 τ7 g8   _ _ (by omega) (by omega)) ?_
              rintro _ τ63 ⟨y66, rfl, g64, f65⟩
              show WP 189 79 [(0, .ref 16), (1, iV nb), (2, iV x5), (3, iV (σ.1 18 x5.toNat))] [.long y66, .long (Int64.ofNat 1), .ref 16] _ _ _ _
              refine wp_lng (pc2 := 80) jF_189_79 rfl rfl ?_
              intro y67
              refine wp_cV (as := [.long y67]) (rest := []) (a := 16) (mx := 3) (ci := 3) jF_189_80 kd16 (by decide) rfl rfl rfl rfl rfl (by omega) (by omega) rfl (pc2 := 83) ?_
              refine wp_use (m_190_r16 τ63 g64 y67  _ _ (by omega) (by omega)) ?_
              rintro _ τ68 ⟨rfl, g69, f70⟩
              show WP 189 83 [(0, .ref 16), (1, iV nb), (2, iV x5), (3, iV (σ.1 18 x5.toNat))] [] _ _ _ _
              refine wp_go jF_189_83 ?_
              refine wp_inc (lv2 := [(0, .ref 16), (1, iV nb), (2, iV (x5 + 1)), (3, iV (σ.1 18 x5.toNat))]) jF_189_128 rfl rfl rfl rfl (pc2 := 131) ?_
              refine wp_go jF_189_131 ?_
              refine wp_less [0, 1, 2] (lv2 := [(0, .ref 16), (1, iV nb), (2, iV (x5 + 1))]) rfl rfl ?_
              exact ih10 ((x5 + 1)) τ68 ⟨⟨by omega, by omega⟩, g69, (FR.up (FR.up f9 f65 sb_WQp_WQp) f70 sb_WQp_WQp)⟩ (by show Int.toNat (1600 - (x5 + 1)) < Int.toNat (1600 - x5); omega)
          · intro h36
            refine wp_al1 jF_189_54 rfl rfl (pc2 := 55) ?_
            refine wp_al1 jF_189_55 rfl rfl (pc2 := 56) ?_
            refine wp_il1 jF_189_56 rfl rfl (pc2 := 57) ?_
            refine wp_il1 jF_189_57 rfl rfl (pc2 := 58) ?_
            refine wp_cV (as := [iV (σ.1 18 x5.toNat), iV nb]) (rest := [.ref 16]) (a := 16) (mx := 5) (ci := 3) jF_189_58 kd16 (by decide) rfl rfl rfl rfl rfl (by omega) (by omega) rfl (pc2 := 61) ?_
            refine wp_use (m_191_r16_t45 τ7 g8 (σ.1 18 x5.toNat) (by omega) (by omega) nb (by omega) (by omega) (((FR.ar f9 16 8 rfl).trans ((FRw.njr f3 (by decide)).trans hr0))) (((FR.ar f9 16 9 rfl).trans ((FRw.njr f3 (by decide)).trans hr1))) (((FR.ar f9 16 10 rfl).trans ((FRw.njr f3 (by decide)).trans hr2)))  _ _ (by omega) (by omega)) ?_
            rintro _ _ ⟨y73, rfl, rfl⟩
            show WP 189 61 [(0, .ref 16), (1, iV nb), (2, iV x5), (3, iV (σ.1 18 x5.toNat))] [.long y73, .ref 16] _ _ _ _
            refine wp_cV (as := [.long y73]) (rest := []) (a := 16) (mx := 3) (ci := 3) jF_189_61 kd16 (by decide) rfl rfl rfl rfl rfl (by omega) (by omega) rfl (pc2 := 64) ?_
            refine wp_use (m_190_r16 τ7 g8 y73  _ _ (by omega) (by omega)) ?_
            rintro _ τ74 ⟨rfl, g75, f76⟩
            show WP 189 64 [(0, .ref 16), (1, iV nb), (2, iV x5), (3, iV (σ.1 18 x5.toNat))] [] _ _ _ _
            refine wp_go jF_189_64 ?_
            refine wp_inc (lv2 := [(0, .ref 16), (1, iV nb), (2, iV (x5 + 1)), (3, iV (σ.1 18 x5.toNat))]) jF_189_128 rfl rfl rfl rfl (pc2 := 131) ?_
            refine wp_go jF_189_131 ?_
            refine wp_less [0, 1, 2] (lv2 := [(0, .ref 16), (1, iV nb), (2, iV (x5 + 1))]) rfl rfl ?_
            exact ih10 ((x5 + 1)) τ74 ⟨⟨by omega, by omega⟩, g75, (FR.up f9 f76 sb_WQp_WQp)⟩ (by show Int.toNat (1600 - (x5 + 1)) < Int.toNat (1600 - x5); omega)
      · intro h18
        refine wp_al1 jF_189_29 rfl rfl (pc2 := 30) ?_
        refine wp_il1 jF_189_30 rfl rfl (pc2 := 31) ?_
        refine wp_si jF_189_31 (by decide) rfl (pc2 := 34) ?_
        refine wp_sub jF_189_34 rfl (pc2 := 35) ?_
        refine wp_i2l jF_189_35 rfl (pc2 := 36) ?_
        refine wp_cV (as := [.long (Int32.toInt64 (Int32.ofInt ((σ.1 18 x5.toNat) - 1000)))]) (rest := []) (a := 16) (mx := 3) (ci := 3) jF_189_36 kd16 (by decide) rfl rfl rfl rfl rfl (by omega) (by omega) rfl (pc2 := 39) ?_
        refine wp_use (m_190_r16 τ7 g8 (Int32.toInt64 (Int32.ofInt ((σ.1 18 x5.toNat) - 1000)))  _ _ (by omega) (by omega)) ?_
        rintro _ τ77 ⟨rfl, g78, f79⟩
        show WP 189 39 [(0, .ref 16), (1, iV nb), (2, iV x5), (3, iV (σ.1 18 x5.toNat))] [] _ _ _ _
        refine wp_go jF_189_39 ?_
        refine wp_inc (lv2 := [(0, .ref 16), (1, iV nb), (2, iV (x5 + 1)), (3, iV (σ.1 18 x5.toNat))]) jF_189_128 rfl rfl rfl rfl (pc2 := 131) ?_
        refine wp_go jF_189_131 ?_
        refine wp_less [0, 1, 2] (lv2 := [(0, .ref 16), (1, iV nb), (2, iV (x5 + 1))]) rfl rfl ?_
        exact ih10 ((x5 + 1)) τ77 ⟨⟨by omega, by omega⟩, g78, (FR.up f9 f79 sb_WQp_WQp)⟩ (by show Int.toNat (1600 - (x5 + 1)) < Int.toNat (1600 - x5); omega)
set_option maxHeartbeats 4000000 in
set_option maxRecDepth 20000 in
/-- Question.answer -/
theorem m_188_r16_45_70_75 (σ : jM) (hg : GI σ)   (fr lo : Nat) (hfr : 4 ≤ fr) (hlo : 93 ≤ lo) : WP 188 0 (lv_args 0 [.ref 16, .ref 45, .ref 70, .ref 75]) [] fr lo σ (fun v τ => ∃ z : Int64, v = some (.long z) ∧ GI τ ∧ FR WQa σ τ) := by
  show WP 188 0 [(0, .ref 16), (1, .ref 45), (2, .ref 70), (3, .ref 75)] [] _ _ _ _
  refine wp_al1 jF_188_0 rfl rfl (pc2 := 1) ?_
  refine wp_al1 jF_188_1 rfl rfl (pc2 := 2) ?_
  refine wp_pr jF_188_2 kd16 (by decide) rfl rfl rfl (pc2 := 5) hg ?_
  intro τ1 g2 f3 e4
  refine wp_al1 jF_188_5 rfl rfl (pc2 := 6) ?_
  refine wp_al1 jF_188_6 rfl rfl (pc2 := 7) ?_
  refine wp_pr jF_188_7 kd16 (by decide) rfl rfl rfl (pc2 := 10) g2 ?_
  intro τ5 g6 f7 e8
  refine wp_al1 jF_188_10 rfl rfl (pc2 := 11) ?_
  refine wp_al1 jF_188_11 rfl rfl (pc2 := 12) ?_
  refine wp_pr jF_188_12 kd16 (by decide) rfl rfl rfl (pc2 := 15) g6 ?_
  intro τ9 g10 f11 e12
  refine wp_al1 jF_188_15 rfl rfl (pc2 := 16) ?_
  have b13 := GI.b hg 16 6 kd16 (lo := (-2147483648)) (hi := 2147483647) rfl
  refine wp_gi jF_188_16 kd16 (by decide) rfl ((FRw.nj f11 (by decide)).trans ((FRw.nj f7 (by decide)).trans (FRw.nj f3 (by decide)))) rfl (pc2 := 19) ?_
  refine wp_z_eq jF_188_19 (m_rgb b13 rfl) rfl (pc2 := 22) ?_ ?_
  · intro h14
    refine wp_ld jF_188_30 rfl (pc2 := 33) ?_
    refine wp_go jF_188_33 ?_
    refine wp_ls2 (lv2 := [(0, .ref 16), (1, .ref 45), (2, .ref 70), (3, .ref 75), (4, .long (-1))]) jF_188_37 rfl rfl rfl (pc2 := 39) ?_
    refine wp_ic jF_188_39 rfl (pc2 := 40) ?_
    refine wp_is2 (lv2 := [(0, .ref 16), (1, .ref 45), (2, .ref 70), (3, .ref 75), (4, .long (-1)), (6, iV 0)]) jF_188_40 rfl rfl rfl (pc2 := 42) ?_
    have b15 := GI.b hg 45 12 kd45 (lo := (-2147483648)) (hi := 2147483647) rfl
    have q16 : (τ9.1 45 12) = (σ.1 45 12) := ((FRw.na f11 (by decide)).trans ((FRw.na f7 (by decide)).trans (FRw.na f3 (by decide))))
    refine wp_loop (α := Int64 × Int) (fun a => [(0, .ref 16), (1, .ref 45), (2, .ref 70), (3, .ref 75), (4, .long (a.1)), (6, iV (a.2))]) (fun a τ => (0 ≤ a.2 ∧ a.2 ≤ 2147483647) ∧ GI τ ∧ FR WQp τ9 τ) (fun a τ => Int.toNat ((τ9.1 45 12) - (a.2))) ((-1), 0) τ9 ?_ ?_
    · skip
      exact ⟨⟨by (try dsimp only); omega, by (try dsimp only); omega⟩, g10, FR.rf⟩
    · rintro ⟨y17, x18⟩ τ20 ⟨h19, g21, f22⟩ ih23
      try dsimp only at h19 g21 f22
      show WP 188 42 [(0, .ref 16), (1, .ref 45), (2, .ref 70), (3, .ref 75), (4, .long y17), (6, iV x18)] [] _ _ _ _
      show WP 188 42 [(0, .ref 16), (1, .ref 45), (2, .ref 70), (3, .ref 75), (4, .long y17), (6, iV x18)] [] _ _ _ _
      refine wp_il2 jF_188_42 rfl rfl (pc2 := 44) ?_
      refine wp_al1 jF_188_44 rfl rfl (pc2 := 45) ?_
      refine wp_gr jF_188_45 kd16 (by decide) (c := 2) rfl (m_fv2 ((FR.ar f22 16 8 rfl).trans ((FRw.njr f11 (by decide)).trans ((FRw.njr f7 (by decide)).trans e4))) rfl) rfl (pc2 := 48) ?_
      refine wp_gi jF_188_48 kd45 (by decide) rfl ((FR.at f22 45 12 rfl).trans ((FRw.na f11 (by decide)).trans ((FRw.na f7 (by decide)).trans (FRw.na f3 (by decide))))) rfl (pc2 := 51) ?_
      refine wp_i_ge jF_188_51 (m_rgb h19 rfl) (m_rgb b15 rfl) rfl (pc2 := 54) ?_ ?_
      · intro h24
        refine wp_ll2 jF_188_116 rfl rfl (pc2 := 118) ?_
        refine wp_rl jF_188_118 ?_
        exact ⟨y17, rfl, g21, (FR.up (FR.w (FR.w (FR.w FR.rf f3 rfl) f7 rfl) f11 rfl) f22 sb_WQp_WQa)⟩
      · intro h24
        refine wp_al1 jF_188_54 rfl rfl (pc2 := 55) ?_
        refine wp_il2 jF_188_55 rfl rfl (pc2 := 57) ?_
        refine wp_cV (as := [iV x18]) (rest := []) (a := 16) (mx := 6) (ci := 3) jF_188_57 kd16 (by decide) rfl rfl rfl rfl rfl (by omega) (by omega) rfl (pc2 := 60) ?_
        refine wp_use (m_189_r16_t45 τ20 g21 x18 (by omega) (by omega) (((FR.ar f22 16 8 rfl).trans ((FRw.njr f11 (by decide)).trans ((FRw.njr f7 (by decide)).trans e4)))) (((FR.ar f22 16 9 rfl).trans ((FRw.njr f11 (by decide)).trans e8))) (((FR.ar f22 16 10 rfl).trans e12))  _ _ (by omega) (by omega)) ?_
        rintro _ τ25 ⟨y28, rfl, g26, f27⟩
        show WP 188 60 [(0, .ref 16), (1, .ref 45), (2, .ref 70), (3, .ref 75), (4, .long y17), (6, iV x18)] [.long y28] _ _ _ _
        refine wp_ls2 (lv2 := [(0, .ref 16), (1, .ref 45), (2, .ref 70), (3, .ref 75), (4, .long y17), (6, iV x18), (7, .long y28)]) jF_188_60 rfl rfl rfl (pc2 := 62) ?_
        refine wp_al1 jF_188_62 rfl rfl (pc2 := 63) ?_
        refine wp_gi jF_188_63 kd16 (by decide) rfl ((FR.at f27 16 6 rfl).trans ((FR.at f22 16 6 rfl).trans ((FRw.nj f11 (by decide)).trans ((FRw.nj f7 (by decide)).trans (FRw.nj f3 (by decide)))))) rfl (pc2 := 66) ?_
        refine wp_z_ne jF_188_66 (m_rgb b13 rfl) rfl (pc2 := 69) ?_ ?_
        · intro h29
          refine wp_il2 jF_188_80 rfl rfl (pc2 := 82) ?_
          refine wp_z_ne jF_188_82 ⟨by omega, by omega⟩ rfl (pc2 := 85) ?_ ?_
          · intro h30
            refine wp_al1 jF_188_98 rfl rfl (pc2 := 99) ?_
            refine wp_ll2 jF_188_99 rfl rfl (pc2 := 101) ?_
            refine wp_ll2 jF_188_101 rfl rfl (pc2 := 103) ?_
            refine wp_il2 jF_188_103 rfl rfl (pc2 := 105) ?_
            refine wp_cV (as := [.long y17, .long y28, iV x18]) (rest := []) (a := 16) (mx := 6) (ci := 3) jF_188_105 kd16 (by decide) rfl rfl rfl rfl rfl (by omega) (by omega) rfl (pc2 := 108) ?_
            refine wp_use (m_199_r16 τ25 g26 y17 y28 x18 (by omega) (by omega)  _ _ (by omega) (by omega)) ?_
            rintro _ _ ⟨y33, rfl, rfl⟩
            show WP 188 108 [(0, .ref 16), (1, .ref 45), (2, .ref 70), (3, .ref 75), (4, .long y17), (6, iV x18), (7, .long y28)] [.long y33] _ _ _ _
            refine wp_ls2 (lv2 := [(0, .ref 16), (1, .ref 45), (2, .ref 70), (3, .ref 75), (4, .long y33), (6, iV x18), (7, .long y28)]) jF_188_108 rfl rfl rfl (pc2 := 110) ?_
            refine wp_inc (lv2 := [(0, .ref 16), (1, .ref 45), (2, .ref 70), (3, .ref 75), (4, .long y33), (6, iV (x18 + 1)), (7, .long y28)]) jF_188_110 rfl rfl rfl rfl (pc2 := 113) ?_
            refine wp_go jF_188_113 ?_
            refine wp_less [0, 1, 2, 3, 4, 6] (lv2 := [(0, .ref 16), (1, .ref 45), (2, .ref 70), (3, .ref 75), (4, .long y33), (6, iV (x18 + 1))]) rfl rfl ?_
            exact ih23 (y33, (x18 + 1)) τ25 ⟨⟨by (try dsimp only); omega, by (try dsimp only); omega⟩, g26, (FR.up f22 f27 sb_WQp_WQp)⟩ (by show Int.toNat ((τ9.1 45 12) - (x18 + 1)) < Int.toNat ((τ9.1 45 12) - x18); omega)
          · intro h30
            refine wp_al1 jF_188_85 rfl rfl (pc2 := 86) ?_
            refine wp_gi jF_188_86 kd16 (by decide) rfl ((FR.at f27 16 6 rfl).trans ((FR.at f22 16 6 rfl).trans ((FRw.nj f11 (by decide)).trans ((FRw.nj f7 (by decide)).trans (FRw.nj f3 (by decide)))))) rfl (pc2 := 89) ?_
            refine wp_ic jF_188_89 rfl (pc2 := 90) ?_
            refine wp_i_lt jF_188_90 (m_rgb b13 rfl) (m_rgl rfl) rfl (pc2 := 93) ?_ ?_
            · intro h34
              refine wp_al1 jF_188_98 rfl rfl (pc2 := 99) ?_
              refine wp_ll2 jF_188_99 rfl rfl (pc2 := 101) ?_
              refine wp_ll2 jF_188_101 rfl rfl (pc2 := 103) ?_
              refine wp_il2 jF_188_103 rfl rfl (pc2 := 105) ?_
              refine wp_cV (as := [.long y17, .long y28, iV x18]) (rest := []) (a := 16) (mx := 6) (ci := 3) jF_188_105 kd16 (by decide) rfl rfl rfl rfl rfl (by omega) (by omega) rfl (pc2 := 108) ?_
              refine wp_use (m_199_r16 τ25 g26 y17 y28 x18 (by omega) (by omega)  _ _ (by omega) (by omega)) ?_
              rintro _ _ ⟨y37, rfl, rfl⟩
              show WP 188 108 [(0, .ref 16), (1, .ref 45), (2, .ref 70), (3, .ref 75), (4, .long y17), (6, iV x18), (7, .long y28)] [.long y37] _ _ _ _
              refine wp_ls2 (lv2 := [(0, .ref 16), (1, .ref 45), (2, .ref 70), (3, .ref 75), (4, .long y37), (6, iV x18), (7, .long y28)]) jF_188_108 rfl rfl rfl (pc2 := 110) ?_
              refine wp_inc (lv2 := [(0, .ref 16), (1, .ref 45), (2, .ref 70), (3, .ref 75), (4, .long y37), (6, iV (x18 + 1)), (7, .long y28)]) jF_188_110 rfl rfl rfl rfl (pc2 := 113) ?_
              refine wp_go jF_188_113 ?_
              refine wp_less [0, 1, 2, 3, 4, 6] (lv2 := [(0, .ref 16), (1, .ref 45), (2, .ref 70), (3, .ref 75), (4, .long y37), (6, iV (x18 + 1))]) rfl rfl ?_
              exact ih23 (y37, (x18 + 1)) τ25 ⟨⟨by (try dsimp only); omega, by (try dsimp only); omega⟩, g26, (FR.up f22 f27 sb_WQp_WQp)⟩ (by show Int.toNat ((τ9.1 45 12) - (x18 + 1)) < Int.toNat ((τ9.1 45 12) - x18); omega)
            · intro h34
              refine wp_ll2 jF_188_93 rfl rfl (pc2 := 95) ?_
              refine wp_go jF_188_95 ?_
              refine wp_ls2 (lv2 := [(0, .ref 16), (1, .ref 45), (2, .ref 70), (3, .ref 75), (4, .long y28), (6, iV x18), (7, .long y28)]) jF_188_108 rfl rfl rfl (pc2 := 110) ?_
              refine wp_inc (lv2 := [(0, .ref 16), (1, .ref 45), (2, .ref 70), (3, .ref 75), (4, .long y28), (6, iV (x18 + 1)), (7, .long y28)]) jF_188_110 rfl rfl rfl rfl (pc2 := 113) ?_
              refine wp_go jF_188_113 ?_
              refine wp_less [0, 1, 2, 3, 4, 6] (lv2 := [(0, .ref 16), (1, .ref 45), (2, .ref 70), (3, .ref 75), (4, .long y28), (6, iV (x18 + 1))]) rfl rfl ?_
              exact ih23 (y28, (x18 + 1)) τ25 ⟨⟨by (try dsimp only); omega, by (try dsimp only); omega⟩, g26, (FR.up f22 f27 sb_WQp_WQp)⟩ (by show Int.toNat ((τ9.1 45 12) - (x18 + 1)) < Int.toNat ((τ9.1 45 12) - x18); omega)
        · intro h29
          refine wp_ll2 jF_188_69 rfl rfl (pc2 := 71) ?_
          refine wp_lc jF_188_71 rfl (pc2 := 72) ?_
          refine wp_anyL (pc2 := 73) jF_188_72 rfl rfl ?_
          intro z38 h39
          refine wp_z_eq jF_188_73 (m_rgb h39 rfl) rfl (pc2 := 76) ?_ ?_
          · intro h40
            refine wp_il2 jF_188_80 rfl rfl (pc2 := 82) ?_
            refine wp_z_ne jF_188_82 ⟨by omega, by omega⟩ rfl (pc2 := 85) ?_ ?_
            · intro h41
              refine wp_al1 jF_188_98 rfl rfl (pc2 := 99) ?_
              refine wp_ll2 jF_188_99 rfl rfl (pc2 := 101) ?_
              refine wp_ll2 jF_188_101 rfl rfl (pc2 := 103) ?_
              refine wp_il2 jF_188_103 rfl rfl (pc2 := 105) ?_
              refine wp_cV (as := [.long y17, .long y28, iV x18]) (rest := []) (a := 16) (mx := 6) (ci := 3) jF_188_105 kd16 (by decide) rfl rfl rfl rfl rfl (by omega) (by omega) rfl (pc2 := 108) ?_
              refine wp_use (m_199_r16 τ25 g26 y17 y28 x18 (by omega) (by omega)  _ _ (by omega) (by omega)) ?_
              rintro _ _ ⟨y44, rfl, rfl⟩
              show WP 188 108 [(0, .ref 16), (1, .ref 45), (2, .ref 70), (3, .ref 75), (4, .long y17), (6, iV x18), (7, .long y28)] [.long y44] _ _ _ _
              refine wp_ls2 (lv2 := [(0, .ref 16), (1, .ref 45), (2, .ref 70), (3, .ref 75), (4, .long y44), (6, iV x18), (7, .long y28)]) jF_188_108 rfl rfl rfl (pc2 := 110) ?_
              refine wp_inc (lv2 := [(0, .ref 16), (1, .ref 45), (2, .ref 70), (3, .ref 75), (4, .long y44), (6, iV (x18 + 1)), (7, .long y28)]) jF_188_110 rfl rfl rfl rfl (pc2 := 113) ?_
              refine wp_go jF_188_113 ?_
              refine wp_less [0, 1, 2, 3, 4, 6] (lv2 := [(0, .ref 16), (1, .ref 45), (2, .ref 70), (3, .ref 75), (4, .long y44), (6, iV (x18 + 1))]) rfl rfl ?_
              exact ih23 (y44, (x18 + 1)) τ25 ⟨⟨by (try dsimp only); omega, by (try dsimp only); omega⟩, g26, (FR.up f22 f27 sb_WQp_WQp)⟩ (by show Int.toNat ((τ9.1 45 12) - (x18 + 1)) < Int.toNat ((τ9.1 45 12) - x18); omega)
            · intro h41
              refine wp_al1 jF_188_85 rfl rfl (pc2 := 86) ?_
              refine wp_gi jF_188_86 kd16 (by decide) rfl ((FR.at f27 16 6 rfl).trans ((FR.at f22 16 6 rfl).trans ((FRw.nj f11 (by decide)).trans ((FRw.nj f7 (by decide)).trans (FRw.nj f3 (by decide)))))) rfl (pc2 := 89) ?_
              refine wp_ic jF_188_89 rfl (pc2 := 90) ?_
              refine wp_i_lt jF_188_90 (m_rgb b13 rfl) (m_rgl rfl) rfl (pc2 := 93) ?_ ?_
              · intro h45
                refine wp_al1 jF_188_98 rfl rfl (pc2 := 99) ?_
                refine wp_ll2 jF_188_99 rfl rfl (pc2 := 101) ?_
                refine wp_ll2 jF_188_101 rfl rfl (pc2 := 103) ?_
                refine wp_il2 jF_188_103 rfl rfl (pc2 := 105) ?_
                refine wp_cV (as := [.long y17, .long y28, iV x18]) (rest := []) (a := 16) (mx := 6) (ci := 3) jF_188_105 kd16 (by decide) rfl rfl rfl rfl rfl (by omega) (by omega) rfl (pc2 := 108) ?_
                refine wp_use (m_199_r16 τ25 g26 y17 y28 x18 (by omega) (by omega)  _ _ (by omega) (by omega)) ?_
                rintro _ _ ⟨y48, rfl, rfl⟩
                show WP 188 108 [(0, .ref 16), (1, .ref 45), (2, .ref 70), (3, .ref 75), (4, .long y17), (6, iV x18), (7, .long y28)] [.long y48] _ _ _ _
                refine wp_ls2 (lv2 := [(0, .ref 16), (1, .ref 45), (2, .ref 70), (3, .ref 75), (4, .long y48), (6, iV x18), (7, .long y28)]) jF_188_108 rfl rfl rfl (pc2 := 110) ?_
                refine wp_inc (lv2 := [(0, .ref 16), (1, .ref 45), (2, .ref 70), (3, .ref 75), (4, .long y48), (6, iV (x18 + 1)), (7, .long y28)]) jF_188_110 rfl rfl rfl rfl (pc2 := 113) ?_
                refine wp_go jF_188_113 ?_
                refine wp_less [0, 1, 2, 3, 4, 6] (lv2 := [(0, .ref 16), (1, .ref 45), (2, .ref 70), (3, .ref 75), (4, .long y48), (6, iV (x18 + 1))]) rfl rfl ?_
                exact ih23 (y48, (x18 + 1)) τ25 ⟨⟨by (try dsimp only); omega, by (try dsimp only); omega⟩, g26, (FR.up f22 f27 sb_WQp_WQp)⟩ (by show Int.toNat ((τ9.1 45 12) - (x18 + 1)) < Int.toNat ((τ9.1 45 12) - x18); omega)
              · intro h45
                refine wp_ll2 jF_188_93 rfl rfl (pc2 := 95) ?_
                refine wp_go jF_188_95 ?_
                refine wp_ls2 (lv2 := [(0, .ref 16), (1, .ref 45), (2, .ref 70), (3, .ref 75), (4, .long y28), (6, iV x18), (7, .long y28)]) jF_188_108 rfl rfl rfl (pc2 := 110) ?_
                refine wp_inc (lv2 := [(0, .ref 16), (1, .ref 45), (2, .ref 70), (3, .ref 75), (4, .long y28), (6, iV (x18 + 1)), (7, .long y28)]) jF_188_110 rfl rfl rfl rfl (pc2 := 113) ?_
                refine wp_go jF_188_113 ?_
                refine wp_less [0, 1, 2, 3, 4, 6] (lv2 := [(0, .ref 16), (1, .ref 45), (2, .ref 70), (3, .ref 75), (4, .long y28), (6, iV (x18 + 1))]) rfl rfl ?_
                exact ih23 (y28, (x18 + 1)) τ25 ⟨⟨by (try dsimp only); omega, by (try dsimp only); omega⟩, g26, (FR.up f22 f27 sb_WQp_WQp)⟩ (by show Int.toNat ((τ9.1 45 12) - (x18 + 1)) < Int.toNat ((τ9.1 45 12) - x18); omega)
          · intro h40
            refine wp_il2 jF_188_76 rfl rfl (pc2 := 78) ?_
            refine wp_i2l jF_188_78 rfl (pc2 := 79) ?_
            refine wp_rl jF_188_79 ?_
            exact ⟨(Int32.toInt64 (Int32.ofInt x18)), rfl, g26, (FR.up (FR.up (FR.w (FR.w (FR.w FR.rf f3 rfl) f7 rfl) f11 rfl) f22 sb_WQp_WQa) f27 sb_WQp_WQa)⟩
  · intro h14
    refine wp_al1 jF_188_22 rfl rfl (pc2 := 23) ?_
    refine wp_gi jF_188_23 kd16 (by decide) rfl ((FRw.nj f11 (by decide)).trans ((FRw.nj f7 (by decide)).trans (FRw.nj f3 (by decide)))) rfl (pc2 := 26) ?_
    refine wp_ic jF_188_26 rfl (pc2 := 27) ?_
    refine wp_i_ne jF_188_27 (m_rgb b13 rfl) (m_rgl rfl) rfl (pc2 := 30) ?_ ?_
    · intro h49
      refine wp_lc jF_188_36 rfl (pc2 := 37) ?_
      refine wp_ls2 (lv2 := [(0, .ref 16), (1, .ref 45), (2, .ref 70), (3, .ref 75), (4, .long (Int64.ofNat 0))]) jF_188_37 rfl rfl rfl (pc2 := 39) ?_
      refine wp_ic jF_188_39 rfl (pc2 := 40) ?_
      refine wp_is2 (lv2 := [(0, .ref 16), (1, .ref 45), (2, .ref 70), (3, .ref 75), (4, .long (Int64.ofNat 0)), (6, iV 0)]) jF_188_40 rfl rfl rfl (pc2 := 42) ?_
      have b50 := GI.b hg 45 12 kd45 (lo := (-2147483648)) (hi := 2147483647) rfl
      have q51 : (τ9.1 45 12) = (σ.1 45 12) := ((FRw.na f11 (by decide)).trans ((FRw.na f7 (by decide)).trans (FRw.na f3 (by decide))))
      refine wp_loop (α := Int64 × Int) (fun a => [(0, .ref 16), (1, .ref 45), (2, .ref 70), (3, .ref 75), (4, .long (a.1)), (6, iV (a.2))]) (fun a τ => (0 ≤ a.2 ∧ a.2 ≤ 2147483647) ∧ GI τ ∧ FR WQp τ9 τ) (fun a τ => Int.toNat ((τ9.1 45 12) - (a.2))) ((Int64.ofNat 0), 0) τ9 ?_ ?_
      · skip
        exact ⟨⟨by (try dsimp only); omega, by (try dsimp only); omega⟩, g10, FR.rf⟩
      · rintro ⟨y52, x53⟩ τ55 ⟨h54, g56, f57⟩ ih58
        try dsimp only at h54 g56 f57
        show WP 188 42 [(0, .ref 16), (1, .ref 45), (2, .ref 70), (3, .ref 75), (4, .long y52), (6, iV x53)] [] _ _ _ _
        show WP 188 42 [(0, .ref 16), (1, .ref 45), (2, .ref 70), (3, .ref 75), (4, .long y52), (6, iV x53)] [] _ _ _ _
        refine wp_il2 jF_188_42 rfl rfl (pc2 := 44) ?_
        refine wp_al1 jF_188_44 rfl rfl (pc2 := 45) ?_
        refine wp_gr jF_188_45 kd16 (by decide) (c := 2) rfl (m_fv2 ((FR.ar f57 16 8 rfl).trans ((FRw.njr f11 (by decide)).trans ((FRw.njr f7 (by decide)).trans e4))) rfl) rfl (pc2 := 48) ?_
        refine wp_gi jF_188_48 kd45 (by decide) rfl ((FR.at f57 45 12 rfl).trans ((FRw.na f11 (by decide)).trans ((FRw.na f7 (by decide)).trans (FRw.na f3 (by decide))))) rfl (pc2 := 51) ?_
        refine wp_i_ge jF_188_51 (m_rgb h54 rfl) (m_rgb b50 rfl) rfl (pc2 := 54) ?_ ?_
        · intro h59
          refine wp_ll2 jF_188_116 rfl rfl (pc2 := 118) ?_
          refine wp_rl jF_188_118 ?_
          exact ⟨y52, rfl, g56, (FR.up (FR.w (FR.w (FR.w FR.rf f3 rfl) f7 rfl) f11 rfl) f57 sb_WQp_WQa)⟩
        · intro h59
          refine wp_al1 jF_188_54 rfl rfl (pc2 := 55) ?_
          refine wp_il2 jF_188_55 rfl rfl (pc2 := 57) ?_
          refine wp_cV (as := [iV x53]) (rest := []) (a := 16) (mx := 6) (ci := 3) jF_188_57 kd16 (by decide) rfl rfl rfl rfl rfl (by omega) (by omega) rfl (pc2 := 60) ?_
          refine wp_use (m_189_r16_t45 τ55 g56 x53 (by omega) (by omega) (((FR.ar f57 16 8 rfl).trans ((FRw.njr f11 (by decide)).trans ((FRw.njr f7 (by decide)).trans e4)))) (((FR.ar f57 16 9 rfl).trans ((FRw.njr f11 (by decide)).trans e8))) (((FR.ar f57 16 10 rfl).trans e12))  _ _ (by omega) (by omega)) ?_
          rintro _ τ60 ⟨y63, rfl, g61, f62⟩
          show WP 188 60 [(0, .ref 16), (1, .ref 45), (2, .ref 70), (3, .ref 75), (4, .long y52), (6, iV x53)] [.long y63] _ _ _ _
          refine wp_ls2 (lv2 := [(0, .ref 16), (1, .ref 45), (2, .ref 70), (3, .ref 75), (4, .long y52), (6, iV x53), (7, .long y63)]) jF_188_60 rfl rfl rfl (pc2 := 62) ?_
          refine wp_al1 jF_188_62 rfl rfl (pc2 := 63) ?_
          refine wp_gi jF_188_63 kd16 (by decide) rfl ((FR.at f62 16 6 rfl).trans ((FR.at f57 16 6 rfl).trans ((FRw.nj f11 (by decide)).trans ((FRw.nj f7 (by decide)).trans (FRw.nj f3 (by decide)))))) rfl (pc2 := 66) ?_
          refine wp_z_ne jF_188_66 (m_rgb b13 rfl) rfl (pc2 := 69) ?_ ?_
          · intro h64
            refine wp_il2 jF_188_80 rfl rfl (pc2 := 82) ?_
            refine wp_z_ne jF_188_82 ⟨by omega, by omega⟩ rfl (pc2 := 85) ?_ ?_
            · intro h65
              refine wp_al1 jF_188_98 rfl rfl (pc2 := 99) ?_
              refine wp_ll2 jF_188_99 rfl rfl (pc2 := 101) ?_
              refine wp_ll2 jF_188_101 rfl rfl (pc2 := 103) ?_
              refine wp_il2 jF_188_103 rfl rfl (pc2 := 105) ?_
              refine wp_cV (as := [.long y52, .long y63, iV x53]) (rest := []) (a := 16) (mx := 6) (ci := 3) jF_188_105 kd16 (by decide) rfl rfl rfl rfl rfl (by omega) (by omega) rfl (pc2 := 108) ?_
              refine wp_use (m_199_r16 τ60 g61 y52 y63 x53 (by omega) (by omega)  _ _ (by omega) (by omega)) ?_
              rintro _ _ ⟨y68, rfl, rfl⟩
              show WP 188 108 [(0, .ref 16), (1, .ref 45), (2, .ref 70), (3, .ref 75), (4, .long y52), (6, iV x53), (7, .long y63)] [.long y68] _ _ _ _
              refine wp_ls2 (lv2 := [(0, .ref 16), (1, .ref 45), (2, .ref 70), (3, .ref 75), (4, .long y68), (6, iV x53), (7, .long y63)]) jF_188_108 rfl rfl rfl (pc2 := 110) ?_
              refine wp_inc (lv2 := [(0, .ref 16), (1, .ref 45), (2, .ref 70), (3, .ref 75), (4, .long y68), (6, iV (x53 + 1)), (7, .long y63)]) jF_188_110 rfl rfl rfl rfl (pc2 := 113) ?_
              refine wp_go jF_188_113 ?_
              refine wp_less [0, 1, 2, 3, 4, 6] (lv2 := [(0, .ref 16), (1, .ref 45), (2, .ref 70), (3, .ref 75), (4, .long y68), (6, iV (x53 + 1))]) rfl rfl ?_
              exact ih58 (y68, (x53 + 1)) τ60 ⟨⟨by (try dsimp only); omega, by (try dsimp only); omega⟩, g61, (FR.up f57 f62 sb_WQp_WQp)⟩ (by show Int.toNat ((τ9.1 45 12) - (x53 + 1)) < Int.toNat ((τ9.1 45 12) - x53); omega)
            · intro h65
              refine wp_al1 jF_188_85 rfl rfl (pc2 := 86) ?_
              refine wp_gi jF_188_86 kd16 (by decide) rfl ((FR.at f62 16 6 rfl).trans ((FR.at f57 16 6 rfl).trans ((FRw.nj f11 (by decide)).trans ((FRw.nj f7 (by decide)).trans (FRw.nj f3 (by decide)))))) rfl (pc2 := 89) ?_
              refine wp_ic jF_188_89 rfl (pc2 := 90) ?_
              refine wp_i_lt jF_188_90 (m_rgb b13 rfl) (m_rgl rfl) rfl (pc2 := 93) ?_ ?_
              · intro h69
                refine wp_al1 jF_188_98 rfl rfl (pc2 := 99) ?_
                refine wp_ll2 jF_188_99 rfl rfl (pc2 := 101) ?_
                refine wp_ll2 jF_188_101 rfl rfl (pc2 := 103) ?_
                refine wp_il2 jF_188_103 rfl rfl (pc2 := 105) ?_
                refine wp_cV (as := [.long y52, .long y63, iV x53]) (rest := []) (a := 16) (mx := 6) (ci := 3) jF_188_105 kd16 (by decide) rfl rfl rfl rfl rfl (by omega) (by omega) rfl (pc2 := 108) ?_
                refine wp_use (m_199_r16 τ60 g61 y52 y63 x53 (by omega) (by omega)  _ _ (by omega) (by omega)) ?_
                rintro _ _ ⟨y72, rfl, rfl⟩
                show WP 188 108 [(0, .ref 16), (1, .ref 45), (2, .ref 70), (3, .ref 75), (4, .long y52), (6, iV x53), (7, .long y63)] [.long y72] _ _ _ _
                refine wp_ls2 (lv2 := [(0, .ref 16), (1, .ref 45), (2, .ref 70), (3, .ref 75), (4, .long y72), (6, iV x53), (7, .long y63)]) jF_188_108 rfl rfl rfl (pc2 := 110) ?_
                refine wp_inc (lv2 := [(0, .ref 16), (1, .ref 45), (2, .ref 70), (3, .ref 75), (4, .long y72), (6, iV (x53 + 1)), (7, .long y63)]) jF_188_110 rfl rfl rfl rfl (pc2 := 113) ?_
                refine wp_go jF_188_113 ?_
                refine wp_less [0, 1, 2, 3, 4, 6] (lv2 := [(0, .ref 16), (1, .ref 45), (2, .ref 70), (3, .ref 75), (4, .long y72), (6, iV (x53 + 1))]) rfl rfl ?_
                exact ih58 (y72, (x53 + 1)) τ60 ⟨⟨by (try dsimp only); omega, by (try dsimp only); omega⟩, g61, (FR.up f57 f62 sb_WQp_WQp)⟩ (by show Int.toNat ((τ9.1 45 12) - (x53 + 1)) < Int.toNat ((τ9.1 45 12) - x53); omega)
              · intro h69
                refine wp_ll2 jF_188_93 rfl rfl (pc2 := 95) ?_
                refine wp_go jF_188_95 ?_
                refine wp_ls2 (lv2 := [(0, .ref 16), (1, .ref 45), (2, .ref 70), (3, .ref 75), (4, .long y63), (6, iV x53), (7, .long y63)]) jF_188_108 rfl rfl rfl (pc2 := 110) ?_
                refine wp_inc (lv2 := [(0, .ref 16), (1, .ref 45), (2, .ref 70), (3, .ref 75), (4, .long y63), (6, iV (x53 + 1)), (7, .long y63)]) jF_188_110 rfl rfl rfl rfl (pc2 := 113) ?_
                refine wp_go jF_188_113 ?_
                refine wp_less [0, 1, 2, 3, 4, 6] (lv2 := [(0, .ref 16), (1, .ref 45), (2, .ref 70), (3, .ref 75), (4, .long y63), (6, iV (x53 + 1))]) rfl rfl ?_
                exact ih58 (y63, (x53 + 1)) τ60 ⟨⟨by (try dsimp only); omega, by (try dsimp only); omega⟩, g61, (FR.up f57 f62 sb_WQp_WQp)⟩ (by show Int.toNat ((τ9.1 45 12) - (x53 + 1)) < Int.toNat ((τ9.1 45 12) - x53); omega)
          · intro h64
            refine wp_ll2 jF_188_69 rfl rfl (pc2 := 71) ?_
            refine wp_lc jF_188_71 rfl (pc2 := 72) ?_
            refine wp_anyL (pc2 := 73) jF_188_72 rfl rfl ?_
            intro z73 h74
            refine wp_z_eq jF_188_73 (m_rgb h74 rfl) rfl (pc2 := 76) ?_ ?_
            · intro h75
              refine wp_il2 jF_188_80 rfl rfl (pc2 := 82) ?_
              refine wp_z_ne jF_188_82 ⟨by omega, by omega⟩ rfl (pc2 := 85) ?_ ?_
              · intro h76
                refine wp_al1 jF_188_98 rfl rfl (pc2 := 99) ?_
                refine wp_ll2 jF_188_99 rfl rfl (pc2 := 101) ?_
                refine wp_ll2 jF_188_101 rfl rfl (pc2 := 103) ?_
                refine wp_il2 jF_188_103 rfl rfl (pc2 := 105) ?_
                refine wp_cV (as := [.long y52, .long y63, iV x53]) (rest := []) (a := 16) (mx := 6) (ci := 3) jF_188_105 kd16 (by decide) rfl rfl rfl rfl rfl (by omega) (by omega) rfl (pc2 := 108) ?_
                refine wp_use (m_199_r16 τ60 g61 y52 y63 x53 (by omega) (by omega)  _ _ (by omega) (by omega)) ?_
                rintro _ _ ⟨y79, rfl, rfl⟩
                show WP 188 108 [(0, .ref 16), (1, .ref 45), (2, .ref 70), (3, .ref 75), (4, .long y52), (6, iV x53), (7, .long y63)] [.long y79] _ _ _ _
                refine wp_ls2 (lv2 := [(0, .ref 16), (1, .ref 45), (2, .ref 70), (3, .ref 75), (4, .long y79), (6, iV x53), (7, .long y63)]) jF_188_108 rfl rfl rfl (pc2 := 110) ?_
                refine wp_inc (lv2 := [(0, .ref 16), (1, .ref 45), (2, .ref 70), (3, .ref 75), (4, .long y79), (6, iV (x53 + 1)), (7, .long y63)]) jF_188_110 rfl rfl rfl rfl (pc2 := 113) ?_
                refine wp_go jF_188_113 ?_
                refine wp_less [0, 1, 2, 3, 4, 6] (lv2 := [(0, .ref 16), (1, .ref 45), (2, .ref 70), (3, .ref 75), (4, .long y79), (6, iV (x53 + 1))]) rfl rfl ?_
                exact ih58 (y79, (x53 + 1)) τ60 ⟨⟨by (try dsimp only); omega, by (try dsimp only); omega⟩, g61, (FR.up f57 f62 sb_WQp_WQp)⟩ (by show Int.toNat ((τ9.1 45 12) - (x53 + 1)) < Int.toNat ((τ9.1 45 12) - x53); omega)
              · intro h76
                refine wp_al1 jF_188_85 rfl rfl (pc2 := 86) ?_
                refine wp_gi jF_188_86 kd16 (by decide) rfl ((FR.at f62 16 6 rfl).trans ((FR.at f57 16 6 rfl).trans ((FRw.nj f11 (by decide)).trans ((FRw.nj f7 (by decide)).trans (FRw.nj f3 (by decide)))))) rfl (pc2 := 89) ?_
                refine wp_ic jF_188_89 rfl (pc2 := 90) ?_
                refine wp_i_lt jF_188_90 (m_rgb b13 rfl) (m_rgl rfl) rfl (pc2 := 93) ?_ ?_
                · intro h80
                  refine wp_al1 jF_188_98 rfl rfl (pc2 := 99) ?_
                  refine wp_ll2 jF_188_99 rfl rfl (pc2 := 101) ?_
                  refine wp_ll2 jF_188_101 rfl rfl (pc2 := 103) ?_
                  refine wp_il2 jF_188_103 rfl rfl (pc2 := 105) ?_
                  refine wp_cV (as := [.long y52, .long y63, iV x53]) (rest := []) (a := 16) (mx := 6) (ci := 3) jF_188_105 kd16 (by decide) rfl rfl rfl rfl rfl (by omega) (by omega) rfl (pc2 := 108) ?_
                  refine wp_use (m_199_r16 τ60 g61 y52 y63 x53 (by omega) (by omega)  _ _ (by omega) (by omega)) ?_
                  rintro _ _ ⟨y83, rfl, rfl⟩
                  show WP 188 108 [(0, .ref 16), (1, .ref 45), (2, .ref 70), (3, .ref 75), (4, .long y52), (6, iV x53), (7, .long y63)] [.long y83] _ _ _ _
                  refine wp_ls2 (lv2 := [(0, .ref 16), (1, .ref 45), (2, .ref 70), (3, .ref 75), (4, .long y83), (6, iV x53), (7, .long y63)]) jF_188_108 rfl rfl rfl (pc2 := 110) ?_
                  refine wp_inc (lv2 := [(0, .ref 16), (1, .ref 45), (2, .ref 70), (3, .ref 75), (4, .long y83), (6, iV (x53 + 1)), (7, .long y63)]) jF_188_110 rfl rfl rfl rfl (pc2 := 113) ?_
                  refine wp_go jF_188_113 ?_
                  refine wp_less [0, 1, 2, 3, 4, 6] (lv2 := [(0, .ref 16), (1, .ref 45), (2, .ref 70), (3, .ref 75), (4, .long y83), (6, iV (x53 + 1))]) rfl rfl ?_
                  exact ih58 (y83, (x53 + 1)) τ60 ⟨⟨by (try dsimp only); omega, by (try dsimp only); omega⟩, g61, (FR.up f57 f62 sb_WQp_WQp)⟩ (by show Int.toNat ((τ9.1 45 12) - (x53 + 1)) < Int.toNat ((τ9.1 45 12) - x53); omega)
                · intro h80
                  refine wp_ll2 jF_188_93 rfl rfl (pc2 := 95) ?_
                  refine wp_go jF_188_95 ?_
                  refine wp_ls2 (lv2 := [(0, .ref 16), (1, .ref 45), (2, .ref 70), (3, .ref 75), (4, .long y63), (6, iV x53), (7, .long y63)]) jF_188_108 rfl rfl rfl (pc2 := 110) ?_
                  refine wp_inc (lv2 := [(0, .ref 16), (1, .ref 45), (2, .ref 70), (3, .ref 75), (4, .long y63), (6, iV (x53 + 1)), (7, .long y63)]) jF_188_110 rfl rfl rfl rfl (pc2 := 113) ?_
                  refine wp_go jF_188_113 ?_
                  refine wp_less [0, 1, 2, 3, 4, 6] (lv2 := [(0, .ref 16), (1, .ref 45), (2, .ref 70), (3, .ref 75), (4, .long y63), (6, iV (x53 + 1))]) rfl rfl ?_
                  exact ih58 (y63, (x53 + 1)) τ60 ⟨⟨by (try dsimp only); omega, by (try dsimp only); omega⟩, g61, (FR.up f57 f62 sb_WQp_WQp)⟩ (by show Int.toNat ((τ9.1 45 12) - (x53 + 1)) < Int.toNat ((τ9.1 45 12) - x53); omega)
            · intro h75
              refine wp_il2 jF_188_76 rfl rfl (pc2 := 78) ?_
              refine wp_i2l jF_188_78 rfl (pc2 := 79) ?_
              refine wp_rl jF_188_79 ?_
              exact ⟨(Int32.toInt64 (Int32.ofInt x53)), rfl, g61, (FR.up (FR.up (FR.w (FR.w (FR.w FR.rf f3 rfl) f7 rfl) f11 rfl) f57 sb_WQp_WQa) f62 sb_WQp_WQa)⟩
    · intro h49
      refine wp_ld jF_188_30 rfl (pc2 := 33) ?_
      refine wp_go jF_188_33 ?_
      refine wp_ls2 (lv2 := [(0, .ref 16), (1, .ref 45), (2, .ref 70), (3, .ref 75), (4, .long (-1))]) jF_188_37 rfl rfl rfl (pc2 := 39) ?_
      refine wp_ic jF_188_39 rfl (pc2 := 40) ?_
      refine wp_is2 (lv2 := [(0, .ref 16), (1, .ref 45), (2, .ref 70), (3, .ref 75), (4, .long (-1)), (6, iV 0)]) jF_188_40 rfl rfl rfl (pc2 := 42) ?_
      have b84 := GI.b hg 45 12 kd45 (lo := (-2147483648)) (hi := 2147483647) rfl
      have q85 : (τ9.1 45 12) = (σ.1 45 12) := ((FRw.na f11 (by decide)).trans ((FRw.na f7 (by decide)).trans (FRw.na f3 (by decide))))
      refine wp_loop (α := Int64 × Int) (fun a => [(0, .ref 16), (1, .ref 45), (2, .ref 70), (3, .ref 75), (4, .long (a.1)), (6, iV (a.2))]) (fun a τ => (0 ≤ a.2 ∧ a.2 ≤ 2147483647) ∧ GI τ ∧ FR WQp τ9 τ) (fun a τ => Int.toNat ((τ9.1 45 12) - (a.2))) ((-1), 0) τ9 ?_ ?_
      · skip
        exact ⟨⟨by (try dsimp only); omega, by (try dsimp only); omega⟩, g10, FR.rf⟩
      · rintro ⟨y86, x87⟩ τ89 ⟨h88, g90, f91⟩ ih92
        try dsimp only at h88 g90 f91
        show WP 188 42 [(0, .ref 16), (1, .ref 45), (2, .ref 70), (3, .ref 75), (4, .long y86), (6, iV x87)] [] _ _ _ _
        show WP 188 42 [(0, .ref 16), (1, .ref 45), (2, .ref 70), (3, .ref 75), (4, .long y86), (6, iV x87)] [] _ _ _ _
        refine wp_il2 jF_188_42 rfl rfl (pc2 := 44) ?_
        refine wp_al1 jF_188_44 rfl rfl (pc2 := 45) ?_
        refine wp_gr jF_188_45 kd16 (by decide) (c := 2) rfl (m_fv2 ((FR.ar f91 16 8 rfl).trans ((FRw.njr f11 (by decide)).trans ((FRw.njr f7 (by decide)).trans e4))) rfl) rfl (pc2 := 48) ?_
        refine wp_gi jF_188_48 kd45 (by decide) rfl ((FR.at f91 45 12 rfl).trans ((FRw.na f11 (by decide)).trans ((FRw.na f7 (by decide)).trans (FRw.na f3 (by decide))))) rfl (pc2 := 51) ?_
        refine wp_i_ge jF_188_51 (m_rgb h88 rfl) (m_rgb b84 rfl) rfl (pc2 := 54) ?_ ?_
        · intro h93
          refine wp_ll2 jF_188_116 rfl rfl (pc2 := 118) ?_
          refine wp_rl jF_188_118 ?_
          exact ⟨y86, rfl, g90, (FR.up (FR.w (FR.w (FR.w FR.rf f3 rfl) f7 rfl) f11 rfl) f91 sb_WQp_WQa)⟩
        · intro h93
          refine wp_al1 jF_188_54 rfl rfl (pc2 := 55) ?_
          refine wp_il2 jF_188_55 rfl rfl (pc2 := 57) ?_
          refine wp_cV (as := [iV x87]) (rest := []) (a := 16) (mx := 6) (ci := 3) jF_188_57 kd16 (by decide) rfl rfl rfl rfl rfl (by omega) (by omega) rfl (pc2 := 60) ?_
          refine wp_use (m_189_r16_t45 τ89 g90 x87 (by omega) (by omega) (((FR.ar f91 16 8 rfl).trans ((FRw.njr f11 (by decide)).trans ((FRw.njr f7 (by decide)).trans e4)))) (((FR.ar f91 16 9 rfl).trans ((FRw.njr f11 (by decide)).trans e8))) (((FR.ar f91 16 10 rfl).trans e12))  _ _ (by omega) (by omega)) ?_
          rintro _ τ94 ⟨y97, rfl, g95, f96⟩
          show WP 188 60 [(0, .ref 16), (1, .ref 45), (2, .ref 70), (3, .ref 75), (4, .long y86), (6, iV x87)] [.long y97] _ _ _ _
          refine wp_ls2 (lv2 := [(0, .ref 16), (1, .ref 45), (2, .ref 70), (3, .ref 75), (4, .long y86), (6, iV x87), (7, .long y97)]) jF_188_60 rfl rfl rfl (pc2 := 62) ?_
          refine wp_al1 jF_188_62 rfl rfl (pc2 := 63) ?_
          refine wp_gi jF_188_63 kd16 (by decide) rfl ((FR.at f96 16 6 rfl).trans ((FR.at f91 16 6 rfl).trans ((FRw.nj f11 (by decide)).trans ((FRw.nj f7 (by decide)).trans (FRw.nj f3 (by decide)))))) rfl (pc2 := 66) ?_
          refine wp_z_ne jF_188_66 (m_rgb b13 rfl) rfl (pc2 := 69) ?_ ?_
          · intro h98
            refine wp_il2 jF_188_80 rfl rfl (pc2 := 82) ?_
            refine wp_z_ne jF_188_82 ⟨by omega, by omega⟩ rfl (pc2 := 85) ?_ ?_
            · intro h99
              refine wp_al1 jF_188_98 rfl rfl (pc2 := 99) ?_
              refine wp_ll2 jF_188_99 rfl rfl (pc2 := 101) ?_
              refine wp_ll2 jF_188_101 rfl rfl (pc2 := 103) ?_
              refine wp_il2 jF_188_103 rfl rfl (pc2 := 105) ?_
              refine wp_cV (as := [.long y86, .long y97, iV x87]) (rest := []) (a := 16) (mx := 6) (ci := 3) jF_188_105 kd16 (by decide) rfl rfl rfl rfl rfl (by omega) (by omega) rfl (pc2 := 108) ?_
              refine wp_use (m_199_r16 τ94 g95 y86 y97 x87 (by omega) (by omega)  _ _ (by omega) (by omega)) ?_
              rintro _ _ ⟨y102, rfl, rfl⟩
              show WP 188 108 [(0, .ref 16), (1, .ref 45), (2, .ref 70), (3, .ref 75), (4, .long y86), (6, iV x87), (7, .long y97)] [.long y102] _ _ _ _
              refine wp_ls2 (lv2 := [(0, .ref 16), (1, .ref 45), (2, .ref 70), (3, .ref 75), (4, .long y102), (6, iV x87), (7, .long y97)]) jF_188_108 rfl rfl rfl (pc2 := 110) ?_
              refine wp_inc (lv2 := [(0, .ref 16), (1, .ref 45), (2, .ref 70), (3, .ref 75), (4, .long y102), (6, iV (x87 + 1)), (7, .long y97)]) jF_188_110 rfl rfl rfl rfl (pc2 := 113) ?_
              refine wp_go jF_188_113 ?_
              refine wp_less [0, 1, 2, 3, 4, 6] (lv2 := [(0, .ref 16), (1, .ref 45), (2, .ref 70), (3, .ref 75), (4, .long y102), (6, iV (x87 + 1))]) rfl rfl ?_
              exact ih92 (y102, (x87 + 1)) τ94 ⟨⟨by (try dsimp only); omega, by (try dsimp only); omega⟩, g95, (FR.up f91 f96 sb_WQp_WQp)⟩ (by show Int.toNat ((τ9.1 45 12) - (x87 + 1)) < Int.toNat ((τ9.1 45 12) - x87); omega)
            · intro h99
              refine wp_al1 jF_188_85 rfl rfl (pc2 := 86) ?_
              refine wp_gi jF_188_86 kd16 (by decide) rfl ((FR.at f96 16 6 rfl).trans ((FR.at f91 16 6 rfl).trans ((FRw.nj f11 (by decide)).trans ((FRw.nj f7 (by decide)).trans (FRw.nj f3 (by decide)))))) rfl (pc2 := 89) ?_
              refine wp_ic jF_188_89 rfl (pc2 := 90) ?_
              refine wp_i_lt jF_188_90 (m_rgb b13 rfl) (m_rgl rfl) rfl (pc2 := 93) ?_ ?_
              · intro h103
                refine wp_al1 jF_188_98 rfl rfl (pc2 := 99) ?_
                refine wp_ll2 jF_188_99 rfl rfl (pc2 := 101) ?_
                refine wp_ll2 jF_188_101 rfl rfl (pc2 := 103) ?_
                refine wp_il2 jF_188_103 rfl rfl (pc2 := 105) ?_
                refine wp_cV (as := [.long y86, .long y97, iV x87]) (rest := []) (a := 16) (mx := 6) (ci := 3) jF_188_105 kd16 (by decide) rfl rfl rfl rfl rfl (by omega) (by omega) rfl (pc2 := 108) ?_
                refine wp_use (m_199_r16 τ94 g95 y86 y97 x87 (by omega) (by omega)  _ _ (by omega) (by omega)) ?_
                rintro _ _ ⟨y106, rfl, rfl⟩
                show WP 188 108 [(0, .ref 16), (1, .ref 45), (2, .ref 70), (3, .ref 75), (4, .long y86), (6, iV x87), (7, .long y97)] [.long y106] _ _ _ _
                refine wp_ls2 (lv2 := [(0, .ref 16), (1, .ref 45), (2, .ref 70), (3, .ref 75), (4, .long y106), (6, iV x87), (7, .long y97)]) jF_188_108 rfl rfl rfl (pc2 := 110) ?_
                refine wp_inc (lv2 := [(0, .ref 16), (1, .ref 45), (2, .ref 70), (3, .ref 75), (4, .long y106), (6, iV (x87 + 1)), (7, .long y97)]) jF_188_110 rfl rfl rfl rfl (pc2 := 113) ?_
                refine wp_go jF_188_113 ?_
                refine wp_less [0, 1, 2, 3, 4, 6] (lv2 := [(0, .ref 16), (1, .ref 45), (2, .ref 70), (3, .ref 75), (4, .long y106), (6, iV (x87 + 1))]) rfl rfl ?_
                exact ih92 (y106, (x87 + 1)) τ94 ⟨⟨by (try dsimp only); omega, by (try dsimp only); omega⟩, g95, (FR.up f91 f96 sb_WQp_WQp)⟩ (by show Int.toNat ((τ9.1 45 12) - (x87 + 1)) < Int.toNat ((τ9.1 45 12) - x87); omega)
              · intro h103
                refine wp_ll2 jF_188_93 rfl rfl (pc2 := 95) ?_
                refine wp_go jF_188_95 ?_
                refine wp_ls2 (lv2 := [(0, .ref 16), (1, .ref 45), (2, .ref 70), (3, .ref 75), (4, .long y97), (6, iV x87), (7, .long y97)]) jF_188_108 rfl rfl rfl (pc2 := 110) ?_
                refine wp_inc (lv2 := [(0, .ref 16), (1, .ref 45), (2, .ref 70), (3, .ref 75), (4, .long y97), (6, iV (x87 + 1)), (7, .long y97)]) jF_188_110 rfl rfl rfl rfl (pc2 := 113) ?_
                refine wp_go jF_188_113 ?_
                refine wp_less [0, 1, 2, 3, 4, 6] (lv2 := [(0, .ref 16), (1, .ref 45), (2, .ref 70), (3, .ref 75), (4, .long y97), (6, iV (x87 + 1))]) rfl rfl ?_
                exact ih92 (y97, (x87 + 1)) τ94 ⟨⟨by (try dsimp only); omega, by (try dsimp only); omega⟩, g95, (FR.up f91 f96 sb_WQp_WQp)⟩ (by show Int.toNat ((τ9.1 45 12) - (x87 + 1)) < Int.toNat ((τ9.1 45 12) - x87); omega)
          · intro h98
            refine wp_ll2 jF_188_69 rfl rfl (pc2 := 71) ?_
            refine wp_lc jF_188_71 rfl (pc2 := 72) ?_
            refine wp_anyL (pc2 := 73) jF_188_72 rfl rfl ?_
            intro z107 h108
            refine wp_z_eq jF_188_73 (m_rgb h108 rfl) rfl (pc2 := 76) ?_ ?_
            · intro h109
              refine wp_il2 jF_188_80 rfl rfl (pc2 := 82) ?_
              refine wp_z_ne jF_188_82 ⟨by omega, by omega⟩ rfl (pc2 := 85) ?_ ?_
              · intro h110
                refine wp_al1 jF_188_98 rfl rfl (pc2 := 99) ?_
                refine wp_ll2 jF_188_99 rfl rfl (pc2 := 101) ?_
                refine wp_ll2 jF_188_101 rfl rfl (pc2 := 103) ?_
                refine wp_il2 jF_188_103 rfl rfl (pc2 := 105) ?_
                refine wp_cV (as := [.long y86, .long y97, iV x87]) (rest := []) (a := 16) (mx := 6) (ci := 3) jF_188_105 kd16 (by decide) rfl rfl rfl rfl rfl (by omega) (by omega) rfl (pc2 := 108) ?_
                refine wp_use (m_199_r16 τ94 g95 y86 y97 x87 (by omega) (by omega)  _ _ (by omega) (by omega)) ?_
                rintro _ _ ⟨y113, rfl, rfl⟩
                show WP 188 108 [(0, .ref 16), (1, .ref 45), (2, .ref 70), (3, .ref 75), (4, .long y86), (6, iV x87), (7, .long y97)] [.long y113] _ _ _ _
                refine wp_ls2 (lv2 := [(0, .ref 16), (1, .ref 45), (2, .ref 70), (3, .ref 75), (4, .long y113), (6, iV x87), (7, .long y97)]) jF_188_108 rfl rfl rfl (pc2 := 110) ?_
                refine wp_inc (lv2 := [(0, .ref 16), (1, .ref 45), (2, .ref 70), (3, .ref 75), (4, .long y113), (6, iV (x87 + 1)), (7, .long y97)]) jF_188_110 rfl rfl rfl rfl (pc2 := 113) ?_
                refine wp_go jF_188_113 ?_
                refine wp_less [0, 1, 2, 3, 4, 6] (lv2 := [(0, .ref 16), (1, .ref 45), (2, .ref 70), (3, .ref 75), (4, .long y113), (6, iV (x87 + 1))]) rfl rfl ?_
                exact ih92 (y113, (x87 + 1)) τ94 ⟨⟨by (try dsimp only); omega, by (try dsimp only); omega⟩, g95, (FR.up f91 f96 sb_WQp_WQp)⟩ (by show Int.toNat ((τ9.1 45 12) - (x87 + 1)) < Int.toNat ((τ9.1 45 12) - x87); omega)
              · intro h110
                refine wp_al1 jF_188_85 rfl rfl (pc2 := 86) ?_
                refine wp_gi jF_188_86 kd16 (by decide) rfl ((FR.at f96 16 6 rfl).trans ((FR.at f91 16 6 rfl).trans ((FRw.nj f11 (by decide)).trans ((FRw.nj f7 (by decide)).trans (FRw.nj f3 (by decide)))))) rfl (pc2 := 89) ?_
                refine wp_ic jF_188_89 rfl (pc2 := 90) ?_
                refine wp_i_lt jF_188_90 (m_rgb b13 rfl) (m_rgl rfl) rfl (pc2 := 93) ?_ ?_
                · intro h114
                  refine wp_al1 jF_188_98 rfl rfl (pc2 := 99) ?_
                  refine wp_ll2 jF_188_99 rfl rfl (pc2 := 101) ?_
                  refine wp_ll2 jF_188_101 rfl rfl (pc2 := 103) ?_
                  refine wp_il2 jF_188_103 rfl rfl (pc2 := 105) ?_
                  refine wp_cV (as := [.long y86, .long y97, iV x87]) (rest := []) (a := 16) (mx := 6) (ci := 3) jF_188_105 kd16 (by decide) rfl rfl rfl rfl rfl (by omega) (by omega) rfl (pc2 := 108) ?_
                  refine wp_use (m_199_r16 τ94 g95 y86 y97 x87 (by omega) (by omega)  _ _ (by omega) (by omega)) ?_
                  rintro _ _ ⟨y117, rfl, rfl⟩
                  show WP 188 108 [(0, .ref 16), (1, .ref 45), (2, .ref 70), (3, .ref 75), (4, .long y86), (6, iV x87), (7, .long y97)] [.long y117] _ _ _ _
                  refine wp_ls2 (lv2 := [(0, .ref 16), (1, .ref 45), (2, .ref 70), (3, .ref 75), (4, .long y117), (6, iV x87), (7, .long y97)]) jF_188_108 rfl rfl rfl (pc2 := 110) ?_
                  refine wp_inc (lv2 := [(0, .ref 16), (1, .ref 45), (2, .ref 70), (3, .ref 75), (4, .long y117), (6, iV (x87 + 1)), (7, .long y97)]) jF_188_110 rfl rfl rfl rfl (pc2 := 113) ?_
                  refine wp_go jF_188_113 ?_
                  refine wp_less [0, 1, 2, 3, 4, 6] (lv2 := [(0, .ref 16), (1, .ref 45), (2, .ref 70), (3, .ref 75), (4, .long y117), (6, iV (x87 + 1))]) rfl rfl ?_
                  exact ih92 (y117, (x87 + 1)) τ94 ⟨⟨by (try dsimp only); omega, by (try dsimp only); omega⟩, g95, (FR.up f91 f96 sb_WQp_WQp)⟩ (by show Int.toNat ((τ9.1 45 12) - (x87 + 1)) < Int.toNat ((τ9.1 45 12) - x87); omega)
                · intro h114
                  refine wp_ll2 jF_188_93 rfl rfl (pc2 := 95) ?_
                  refine wp_go jF_188_95 ?_
                  refine wp_ls2 (lv2 := [(0, .ref 16), (1, .ref 45), (2, .ref 70), (3, .ref 75), (4, .long y97), (6, iV x87), (7, .long y97)]) jF_188_108 rfl rfl rfl (pc2 := 110) ?_
                  refine wp_inc (lv2 := [(0, .ref 16), (1, .ref 45), (2, .ref 70), (3, .ref 75), (4, .long y97), (6, iV (x87 + 1)), (7, .long y97)]) jF_188_110 rfl rfl rfl rfl (pc2 := 113) ?_
                  refine wp_go jF_188_113 ?_
                  refine wp_less [0, 1, 2, 3, 4, 6] (lv2 := [(0, .ref 16), (1, .ref 45), (2, .ref 70), (3, .ref 75), (4, .long y97), (6, iV (x87 + 1))]) rfl rfl ?_
                  exact ih92 (y97, (x87 + 1)) τ94 ⟨⟨by (try dsimp only); omega, by (try dsimp only); omega⟩, g95, (FR.up f91 f96 sb_WQp_WQp)⟩ (by show Int.toNat ((τ9.1 45 12) - (x87 + 1)) < Int.toNat ((τ9.1 45 12) - x87); omega)
            · intro h109
              refine wp_il2 jF_188_76 rfl rfl (pc2 := 78) ?_
              refine wp_i2l jF_188_78 rfl (pc2 := 79) ?_
              refine wp_rl jF_188_79 ?_
              exact ⟨(Int32.toInt64 (Int32.ofInt x87)), rfl, g95, (FR.up (FR.up (FR.w (FR.w (FR.w FR.rf f3 rfl) f7 rfl) f11 rfl) f91 sb_WQp_WQa) f96 sb_WQp_WQa)⟩
