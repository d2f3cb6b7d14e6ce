set_option maxHeartbeats 4000000 in
set_option maxRecDepth 20000 in
/-- X.strike -/
theorem m_118_r9 (σ : jM) (hg : GI σ) (pl : Int) (hl_pl : (-2147483648) ≤ pl) (hu_pl : pl ≤ 2147483647) (hsp : SPK σ)  (fr lo : Nat) (hfr : 6 ≤ fr) (hlo : 172 ≤ lo) : WP 118 0 (lv_args 0 [.ref 9, iV pl]) [] fr lo σ (fun v τ => ∃ z : Int, v = some (iV z) ∧ ((-2147483648) ≤ z ∧ z ≤ 2147483647) ∧ GI τ ∧ FR WXg σ τ) := by
  rcases hsp with ⟨hs1, hs2⟩ | ⟨hs1, hs2⟩
  · skip
    show WP 118 0 [(0, .ref 9), (1, iV pl)] [] _ _ _ _
    refine wp_al1 jF_118_0 rfl rfl (pc2 := 1) ?_
    refine wp_il1 jF_118_1 rfl rfl (pc2 := 2) ?_
    refine wp_ic jF_118_2 rfl (pc2 := 3) ?_
    refine wp_cV (as := [iV pl, iV 0]) (rest := []) (a := 9) (mx := 3) (ci := 11) jF_118_3 kd9 (by decide) rfl rfl rfl rfl rfl (by omega) (by omega) rfl (pc2 := 6) ?_
    show WP 115 0 [(0, .ref 9), (1, iV pl), (2, iV 0)] [] _ _ _ _
    refine wp_il1 jF_115_0 rfl rfl (pc2 := 1) ?_
    refine wp_z_lt jF_115_1 ⟨by omega, by omega⟩ rfl (pc2 := 4) ?_ ?_
    · intro h1
      refine wp_ic jF_115_29 rfl (pc2 := 30) ?_
      refine wp_ri jF_115_30 rfl ?_
      show WP 118 6 [(0, .ref 9), (1, iV pl)] [iV 0] _ _ _ _
      refine wp_z_eq jF_118_6 (m_rgl rfl) rfl (pc2 := 9) ?_ ?_
      · intro h2
        refine wp_al1 jF_118_20 rfl rfl (pc2 := 21) ?_
        refine wp_ic jF_118_21 rfl (pc2 := 22) ?_
        refine wp_cV (as := [iV 2]) (rest := []) (a := 9) (mx := 2) (ci := 11) jF_118_22 kd9 (by decide) rfl rfl rfl rfl rfl (by omega) (by omega) rfl (pc2 := 25) ?_
        refine wp_use (m_25_r9 σ hg 2 (by omega) (by omega)  _ _ (by omega) (by omega)) ?_
        rintro _ τ3 ⟨z6, rfl, h7, g4, f5⟩
        show WP 118 25 [(0, .ref 9), (1, iV pl)] [iV z6] _ _ _ _
        refine wp_ri jF_118_25 rfl ?_
        exact ⟨z6, rfl, ⟨by omega, by omega⟩, g4, (FR.up FR.rf f5 sb_WXr_WXg)⟩
      · intro h2; exfalso; omega
    · intro h1
      refine wp_il1 jF_115_4 rfl rfl (pc2 := 5) ?_
      refine wp_al1 jF_115_5 rfl rfl (pc2 := 6) ?_
      refine wp_gr (b := 70) jF_115_6 kd9 (by decide) (c := 170) rfl rfl rfl (pc2 := 9) ?_
      have b8 := GI.b hg 70 1 kd70 (lo := 0) (hi := 60) rfl
      refine wp_gi jF_115_9 kd70 (by decide) rfl rfl rfl (pc2 := 12) ?_
      refine wp_i_gt jF_115_12 ⟨by omega, by omega⟩ (m_rgb b8 rfl) rfl (pc2 := 15) ?_ ?_
      · intro h9
        refine wp_ic jF_115_29 rfl (pc2 := 30) ?_
        refine wp_ri jF_115_30 rfl ?_
        show WP 118 6 [(0, .ref 9), (1, iV pl)] [iV 0] _ _ _ _
        refine wp_z_eq jF_118_6 (m_rgl rfl) rfl (pc2 := 9) ?_ ?_
        · intro h10
          refine wp_al1 jF_118_20 rfl rfl (pc2 := 21) ?_
          refine wp_ic jF_118_21 rfl (pc2 := 22) ?_
          refine wp_cV (as := [iV 2]) (rest := []) (a := 9) (mx := 2) (ci := 11) jF_118_22 kd9 (by decide) rfl rfl rfl rfl rfl (by omega) (by omega) rfl (pc2 := 25) ?_
          refine wp_use (m_25_r9 σ hg 2 (by omega) (by omega)  _ _ (by omega) (by omega)) ?_
          rintro _ τ11 ⟨z14, rfl, h15, g12, f13⟩
          show WP 118 25 [(0, .ref 9), (1, iV pl)] [iV z14] _ _ _ _
          refine wp_ri jF_118_25 rfl ?_
          exact ⟨z14, rfl, ⟨by omega, by omega⟩, g12, (FR.up FR.rf f13 sb_WXr_WXg)⟩
        · intro h10; exfalso; omega
      · intro h9
        refine wp_il1 jF_115_15 rfl rfl (pc2 := 16) ?_
        refine wp_z_lt jF_115_16 (m_rgl rfl) rfl (pc2 := 19) ?_ ?_
        · intro h16; exfalso; omega
        · intro h16
          refine wp_il1 jF_115_19 rfl rfl (pc2 := 20) ?_
          refine wp_bi jF_115_20 (by decide) rfl (pc2 := 22) ?_
          refine wp_i_ge jF_115_22 (m_rgl rfl) (m_rgl rfl) rfl (pc2 := 25) ?_ ?_
          · intro h17; exfalso; omega
          · intro h17
            refine wp_ic jF_115_25 rfl (pc2 := 26) ?_
            refine wp_go jF_115_26 ?_
            refine wp_ri jF_115_30 rfl ?_
            show WP 118 6 [(0, .ref 9), (1, iV pl)] [iV 1] _ _ _ _
            refine wp_z_eq jF_118_6 (m_rgl rfl) rfl (pc2 := 9) ?_ ?_
            · intro h18; exfalso; omega
            · intro h18
              refine wp_al1 jF_118_9 rfl rfl (pc2 := 10) ?_
              refine wp_il1 jF_118_10 rfl rfl (pc2 := 11) ?_
              refine wp_bi jF_118_11 (by decide) rfl (pc2 := 13) ?_
              refine wp_mul jF_118_13 rfl (pc2 := 14) ?_
              refine wp_cV (as := [iV (pl * 47)]) (rest := []) (a := 9) (mx := 2) (ci := 11) jF_118_14 kd9 (by decide) rfl rfl rfl rfl rfl (by omega) (by omega) rfl (pc2 := 17) ?_
              refine wp_use (m_116_r9 σ hg (pl * 47) (by omega) (by omega) (Or.inl ⟨hs1, hs2⟩)  _ _ (by omega) (by omega)) ?_
              rintro _ τ19 ⟨z22, rfl, h23, g20, f21⟩
              show WP 118 17 [(0, .ref 9), (1, iV pl)] [iV z22] _ _ _ _
              refine wp_go jF_118_17 ?_
              refine wp_ri jF_118_25 rfl ?_
              exact ⟨z22, rfl, ⟨by omega, by omega⟩, g20, f21⟩
  · skip
    show WP 118 0 [(0, .ref 9), (1, iV pl)] [] _ _ _ _
    refine wp_al1 jF_118_0 rfl rfl (pc2 := 1) ?_
    refine wp_il1 jF_118_1 rfl rfl (pc2 := 2) ?_
    refine wp_ic jF_118_2 rfl (pc2 := 3) ?_
    refine wp_cV (as := [iV pl, iV 0]) (rest := []) (a := 9) (mx := 3) (ci := 11) jF_118_3 kd9 (by decide) rfl rfl rfl rfl rfl (by omega) (by omega) rfl (pc2 := 6) ?_
    show WP 115 0 [(0, .ref 9), (1, iV pl), (2, iV 0)] [] _ _ _ _
    refine wp_il1 jF_115_0 rfl rfl (pc2 := 1) ?_
    refine wp_z_lt jF_115_1 ⟨by omega, by omega⟩ rfl (pc2 := 4) ?_ ?_
    · intro h24
      refine wp_ic jF_115_29 rfl (pc2 := 30) ?_
      refine wp_ri jF_115_30 rfl ?_
      show WP 118 6 [(0, .ref 9), (1, iV pl)] [iV 0] _ _ _ _
      refine wp_z_eq jF_118_6 (m_rgl rfl) rfl (pc2 := 9) ?_ ?_
      · intro h25
        refine wp_al1 jF_118_20 rfl rfl (pc2 := 21) ?_
        refine wp_ic jF_118_21 rfl (pc2 := 22) ?_
        refine wp_cV (as := [iV 2]) (rest := []) (a := 9) (mx := 2) (ci := 11) jF_118_22 kd9 (by decide) rfl rfl rfl rfl rfl (by omega) (by omega) rfl (pc2 := 25) ?_
        refine wp_use (m_25_r9 σ hg 2 (by omega) (by omega)  _ _ (by omega) (by omega)) ?_
        rintro _ τ26 ⟨z29, rfl, h30, g27, f28⟩
        show WP 118 25 [(0, .ref 9), (1, iV pl)] [iV z29] _ _ _ _
        refine wp_ri jF_118_25 rfl ?_
        exact ⟨z29, rfl, ⟨by omega, by omega⟩, g27, (FR.up FR.rf f28 sb_WXr_WXg)⟩
      · intro h25; exfalso; omega
    · intro h24
      refine wp_il1 jF_115_4 rfl rfl (pc2 := 5) ?_
      refine wp_al1 jF_115_5 rfl rfl (pc2 := 6) ?_
      refine wp_gr (b := 70) jF_115_6 kd9 (by decide) (c := 170) rfl rfl rfl (pc2 := 9) ?_
      have b31 := GI.b hg 70 1 kd70 (lo := 0) (hi := 60) rfl
      refine wp_gi jF_115_9 kd70 (by decide) rfl rfl rfl (pc2 := 12) ?_
      refine wp_i_gt jF_115_12 ⟨by omega, by omega⟩ (m_rgb b31 rfl) rfl (pc2 := 15) ?_ ?_
      · intro h32
        refine wp_ic jF_115_29 rfl (pc2 := 30) ?_
        refine wp_ri jF_115_30 rfl ?_
        show WP 118 6 [(0, .ref 9), (1, iV pl)] [iV 0] _ _ _ _
        refine wp_z_eq jF_118_6 (m_rgl rfl) rfl (pc2 := 9) ?_ ?_
        · intro h33
          refine wp_al1 jF_118_20 rfl rfl (pc2 := 21) ?_
          refine wp_ic jF_118_21 rfl (pc2 := 22) ?_
          refine wp_cV (as := [iV 2]) (rest := []) (a := 9) (mx := 2) (ci := 11) jF_118_22 kd9 (by decide) rfl rfl rfl rfl rfl (by omega) (by omega) rfl (pc2 := 25) ?_
          refine wp_use (m_25_r9 σ hg 2 (by omega) (by omega)  _ _ (by omega) (by omega)) ?_
          rintro _ τ34 ⟨z37, rfl, h38, g35, f36⟩
          show WP 118 25 [(0, .ref 9), (1, iV pl)] [iV z37] _ _ _ _
          refine wp_ri jF_118_25 rfl ?_
          exact ⟨z37, rfl, ⟨by omega, by omega⟩, g35, (FR.up FR.rf f36 sb_WXr_WXg)⟩
        · intro h33; exfalso; omega
      · intro h32
        refine wp_il1 jF_115_15 rfl rfl (pc2 := 16) ?_
        refine wp_z_lt jF_115_16 (m_rgl rfl) rfl (pc2 := 19) ?_ ?_
        · intro h39; exfalso; omega
        · intro h39
          refine wp_il1 jF_115_19 rfl rfl (pc2 := 20) ?_
          refine wp_bi jF_115_20 (by decide) rfl (pc2 := 22) ?_
          refine wp_i_ge jF_115_22 (m_rgl rfl) (m_rgl rfl) rfl (pc2 := 25) ?_ ?_
          · intro h40; exfalso; omega
          · intro h40
            refine wp_ic jF_115_25 rfl (pc2 := 26) ?_
            refine wp_go jF_115_26 ?_
            refine wp_ri jF_115_30 rfl ?_
            show WP 118 6 [(0, .ref 9), (1, iV pl)] [iV 1] _ _ _ _
            refine wp_z_eq jF_118_6 (m_rgl rfl) rfl (pc2 := 9) ?_ ?_
            · intro h41; exfalso; omega
            · intro h41
              refine wp_al1 jF_118_9 rfl rfl (pc2 := 10) ?_
              refine wp_il1 jF_118_10 rfl rfl (pc2 := 11) ?_
              refine wp_bi jF_118_11 (by decide) rfl (pc2 := 13) ?_
              refine wp_mul jF_118_13 rfl (pc2 := 14) ?_
              refine wp_cV (as := [iV (pl * 47)]) (rest := []) (a := 9) (mx := 2) (ci := 11) jF_118_14 kd9 (by decide) rfl rfl rfl rfl rfl (by omega) (by omega) rfl (pc2 := 17) ?_
              refine wp_use (m_116_r9 σ hg (pl * 47) (by omega) (by omega) (Or.inr ⟨hs1, hs2⟩)  _ _ (by omega) (by omega)) ?_
              rintro _ τ42 ⟨z45, rfl, h46, g43, f44⟩
              show WP 118 17 [(0, .ref 9), (1, iV pl)] [iV z45] _ _ _ _
              refine wp_go jF_118_17 ?_
              refine wp_ri jF_118_25 rfl ?_
              exact ⟨z45, rfl, ⟨by omega, by omega⟩, g43, f44⟩
set_option maxHeartbeats 4000000 in
set_option maxRecDepth 20000 in
/-- X.swap -/
theorem m_119_r9 (σ : jM) (hg : GI σ) (pl : Int) (hl_pl : (-2147483648) ≤ pl) (hu_pl : pl ≤ 2147483647) (sg : Int) (hl_sg : (-2147483648) ≤ sg) (hu_sg : sg ≤ 2147483647) (hsp : SPK σ)  (fr lo : Nat) (hfr : 6 ≤ fr) (hlo : 172 ≤ lo) : WP 119 0 (lv_args 0 [.ref 9, iV pl, iV sg]) [] fr lo σ (fun v τ => ∃ z : Int, v = some (iV z) ∧ ((-2147483648) ≤ z ∧ z ≤ 2147483647) ∧ GI τ ∧ FR WXg σ τ) := by
  rcases hsp with ⟨hs1, hs2⟩ | ⟨hs1, hs2⟩
  · skip
    show WP 119 0 [(0, .ref 9), (1, iV pl), (2, iV sg)] [] _ _ _ _
    refine wp_al1 jF_119_0 rfl rfl (pc2 := 1) ?_
    refine wp_il1 jF_119_1 rfl rfl (pc2 := 2) ?_
    refine wp_il1 jF_119_2 rfl rfl (pc2 := 3) ?_
    refine wp_cV (as := [iV pl, iV sg]) (rest := []) (a := 9) (mx := 3) (ci := 11) jF_119_3 kd9 (by decide) rfl rfl rfl rfl rfl (by omega) (by omega) rfl (pc2 := 6) ?_
    show WP 115 0 [(0, .ref 9), (1, iV pl), (2, iV sg)] [] _ _ _ _
    refine wp_il1 jF_115_0 rfl rfl (pc2 := 1) ?_
    refine wp_z_lt jF_115_1 ⟨by omega, by omega⟩ rfl (pc2 := 4) ?_ ?_
    · intro h1
      refine wp_ic jF_115_29 rfl (pc2 := 30) ?_
      refine wp_ri jF_115_30 rfl ?_
      show WP 119 6 [(0, .ref 9), (1, iV pl), (2, iV sg)] [iV 0] _ _ _ _
      refine wp_z_eq jF_119_6 (m_rgl rfl) rfl (pc2 := 9) ?_ ?_
      · intro h2
        refine wp_al1 jF_119_24 rfl rfl (pc2 := 25) ?_
        refine wp_ic jF_119_25 rfl (pc2 := 26) ?_
        refine wp_cV (as := [iV 2]) (rest := []) (a := 9) (mx := 2) (ci := 11) jF_119_26 kd9 (by decide) rfl rfl rfl rfl rfl (by omega) (by omega) rfl (pc2 := 29) ?_
        refine wp_use (m_25_r9 σ hg 2 (by omega) (by omega)  _ _ (by omega) (by omega)) ?_
        rintro _ τ3 ⟨z6, rfl, h7, g4, f5⟩
        show WP 119 29 [(0, .ref 9), (1, iV pl), (2, iV sg)] [iV z6] _ _ _ _
        refine wp_ri jF_119_29 rfl ?_
        exact ⟨z6, rfl, ⟨by omega, by omega⟩, g4, (FR.up FR.rf f5 sb_WXr_WXg)⟩
      · intro h2; exfalso; omega
    · intro h1
      refine wp_il1 jF_115_4 rfl rfl (pc2 := 5) ?_
      refine wp_al1 jF_115_5 rfl rfl (pc2 := 6) ?_
      refine wp_gr (b := 70) jF_115_6 kd9 (by decide) (c := 170) rfl rfl rfl (pc2 := 9) ?_
      have b8 := GI.b hg 70 1 kd70 (lo := 0) (hi := 60) rfl
      refine wp_gi jF_115_9 kd70 (by decide) rfl rfl rfl (pc2 := 12) ?_
      refine wp_i_gt jF_115_12 ⟨by omega, by omega⟩ (m_rgb b8 rfl) rfl (pc2 := 15) ?_ ?_
      · intro h9
        refine wp_ic jF_115_29 rfl (pc2 := 30) ?_
        refine wp_ri jF_115_30 rfl ?_
        show WP 119 6 [(0, .ref 9), (1, iV pl), (2, iV sg)] [iV 0] _ _ _ _
        refine wp_z_eq jF_119_6 (m_rgl rfl) rfl (pc2 := 9) ?_ ?_
        · intro h10
          refine wp_al1 jF_119_24 rfl rfl (pc2 := 25) ?_
          refine wp_ic jF_119_25 rfl (pc2 := 26) ?_
          refine wp_cV (as := [iV 2]) (rest := []) (a := 9) (mx := 2) (ci := 11) jF_119_26 kd9 (by decide) rfl rfl rfl rfl rfl (by omega) (by omega) rfl (pc2 := 29) ?_
          refine wp_use (m_25_r9 σ hg 2 (by omega) (by omega)  _ _ (by omega) (by omega)) ?_
          rintro _ τ11 ⟨z14, rfl, h15, g12, f13⟩
          show WP 119 29 [(0, .ref 9), (1, iV pl), (2, iV sg)] [iV z14] _ _ _ _
          refine wp_ri jF_119_29 rfl ?_
          exact ⟨z14, rfl, ⟨by omega, by omega⟩, g12, (FR.up FR.rf f13 sb_WXr_WXg)⟩
        · intro h10; exfalso; omega
      · intro h9
        refine wp_il1 jF_115_15 rfl rfl (pc2 := 16) ?_
        refine wp_z_lt jF_115_16 ⟨by omega, by omega⟩ rfl (pc2 := 19) ?_ ?_
        · intro h16
          refine wp_ic jF_115_29 rfl (pc2 := 30) ?_
          refine wp_ri jF_115_30 rfl ?_
          show WP 119 6 [(0, .ref 9), (1, iV pl), (2, iV sg)] [iV 0] _ _ _ _
          refine wp_z_eq jF_119_6 (m_rgl rfl) rfl (pc2 := 9) ?_ ?_
          · intro h17
            refine wp_al1 jF_119_24 rfl rfl (pc2 := 25) ?_
            refine wp_ic jF_119_25 rfl (pc2 := 26) ?_
            refine wp_cV (as := [iV 2]) (rest := []) (a := 9) (mx := 2) (ci := 11) jF_119_26 kd9 (by decide) rfl rfl rfl rfl rfl (by omega) (by omega) rfl (pc2 := 29) ?_
            refine wp_use (m_25_r9 σ hg 2 (by omega) (by omega)  _ _ (by omega) (by omega)) ?_
            rintro _ τ18 ⟨z21, rfl, h22, g19, f20⟩
            show WP 119 29 [(0, .ref 9), (1, iV pl), (2, iV sg)] [iV z21] _ _ _ _
            refine wp_ri jF_119_29 rfl ?_
            exact ⟨z21, rfl, ⟨by omega, by omega⟩, g19, (FR.up FR.rf f20 sb_WXr_WXg)⟩
          · intro h17; exfalso; omega
        · intro h16
          refine wp_il1 jF_115_19 rfl rfl (pc2 := 20) ?_
          refine wp_bi jF_115_20 (by decide) rfl (pc2 := 22) ?_
          refine wp_i_ge jF_115_22 ⟨by omega, by omega⟩ (m_rgl rfl) rfl (pc2 := 25) ?_ ?_
          · intro h23
            refine wp_ic jF_115_29 rfl (pc2 := 30) ?_
            refine wp_ri jF_115_30 rfl ?_
            show WP 119 6 [(0, .ref 9), (1, iV pl), (2, iV sg)] [iV 0] _ _ _ _
            refine wp_z_eq jF_119_6 (m_rgl rfl) rfl (pc2 := 9) ?_ ?_
            · intro h24
              refine wp_al1 jF_119_24 rfl rfl (pc2 := 25) ?_
              refine wp_ic jF_119_25 rfl (pc2 := 26) ?_
              refine wp_cV (as := [iV 2]) (rest := []) (a := 9) (mx := 2) (ci := 11) jF_119_26 kd9 (by decide) rfl rfl rfl rfl rfl (by omega) (by omega) rfl (pc2 := 29) ?_
              refine wp_use (m_25_r9 σ hg 2 (by omega) (by omega)  _ _ (by omega) (by omega)) ?_
              rintro _ τ25 ⟨z28, rfl, h29, g26, f27⟩
              show WP 119 29 [(0, .ref 9), (1, iV pl), (2, iV sg)] [iV z28] _ _ _ _
              refine wp_ri jF_119_29 rfl ?_
              exact ⟨z28, rfl, ⟨by omega, by omega⟩, g26, (FR.up FR.rf f27 sb_WXr_WXg)⟩
            · intro h24; exfalso; omega
          · intro h23
            refine wp_ic jF_115_25 rfl (pc2 := 26) ?_
            refine wp_go jF_115_26 ?_
            refine wp_ri jF_115_30 rfl ?_
            show WP 119 6 [(0, .ref 9), (1, iV pl), (2, iV sg)] [iV 1] _ _ _ _
            refine wp_z_eq jF_119_6 (m_rgl rfl) rfl (pc2 := 9) ?_ ?_
            · intro h30; exfalso; omega
            · intro h30
              refine wp_al1 jF_119_9 rfl rfl (pc2 := 10) ?_
              refine wp_il1 jF_119_10 rfl rfl (pc2 := 11) ?_
              refine wp_bi jF_119_11 (by decide) rfl (pc2 := 13) ?_
              refine wp_mul jF_119_13 rfl (pc2 := 14) ?_
              refine wp_ic jF_119_14 rfl (pc2 := 15) ?_
              refine wp_add jF_119_15 rfl (pc2 := 16) ?_
              refine wp_il1 jF_119_16 rfl rfl (pc2 := 17) ?_
              refine wp_add jF_119_17 rfl (pc2 := 18) ?_
              refine wp_cV (as := [iV (((pl * 47) + 1) + sg)]) (rest := []) (a := 9) (mx := 2) (ci := 11) jF_119_18 kd9 (by decide) rfl rfl rfl rfl rfl (by omega) (by omega) rfl (pc2 := 21) ?_
              refine wp_use (m_116_r9 σ hg (((pl * 47) + 1) + sg) (by omega) (by omega) (Or.inl ⟨hs1, hs2⟩)  _ _ (by omega) (by omega)) ?_
              rintro _ τ31 ⟨z34, rfl, h35, g32, f33⟩
              show WP 119 21 [(0, .ref 9), (1, iV pl), (2, iV sg)] [iV z34] _ _ _ _
              refine wp_go jF_119_21 ?_
              refine wp_ri jF_119_29 rfl ?_
              exact ⟨z34, rfl, ⟨by omega, by omega⟩, g32, f33⟩
  · skip
    show WP 119 0 [(0, .ref 9), (1, iV pl), (2, iV sg)] [] _ _ _ _
    refine wp_al1 jF_119_0 rfl rfl (pc2 := 1) ?_
    refine wp_il1 jF_119_1 rfl rfl (pc2 := 2) ?_
    refine wp_il1 jF_119_2 rfl rfl (pc2 := 3) ?_
    refine wp_cV (as := [iV pl, iV sg]) (rest := []) (a := 9) (mx := 3) (ci := 11) jF_119_3 kd9 (by decide) rfl rfl rfl rfl rfl (by omega) (by omega) rfl (pc2 := 6) ?_
    show WP 115 0 [(0, .ref 9), (1, iV pl), (2, iV sg)] [] _ _ _ _
    refine wp_il1 jF_115_0 rfl rfl (pc2 := 1) ?_
    refine wp_z_lt jF_115_1 ⟨by omega, by omega⟩ rfl (pc2 := 4) ?_ ?_
    · intro h36
      refine wp_ic jF_115_29 rfl (pc2 := 30) ?_
      refine wp_ri jF_115_30 rfl ?_
      show WP 119 6 [(0, .ref 9), (1, iV pl), (2, iV sg)] [iV 0] _ _ _ _
      refine wp_z_eq jF_119_6 (m_rgl rfl) rfl (pc2 := 9) ?_ ?_
      · intro h37
        refine wp_al1 jF_119_24 rfl rfl (pc2 := 25) ?_
        refine wp_ic jF_119_25 rfl (pc2 := 26) ?_
        refine wp_cV (as := [iV 2]) (rest := []) (a := 9) (mx := 2) (ci := 11) jF_119_26 kd9 (by decide) rfl rfl rfl rfl rfl (by omega) (by omega) rfl (pc2 := 29) ?_
        refine wp_use (m_25_r9 σ hg 2 (by omega) (by omega)  _ _ (by omega) (by omega)) ?_
        rintro _ τ38 ⟨z41, rfl, h42, g39, f40⟩
        show WP 119 29 [(0, .ref 9), (1, iV pl), (2, iV sg)] [iV z41] _ _ _ _
        refine wp_ri jF_119_29 rfl ?_
        exact ⟨z41, rfl, ⟨by omega, by omega⟩, g39, (FR.up FR.rf f40 sb_WXr_WXg)⟩
      · intro h37; exfalso; omega
    · intro h36
      refine wp_il1 jF_115_4 rfl rfl (pc2 := 5) ?_
      refine wp_al1 jF_115_5 rfl rfl (pc2 := 6) ?_
      refine wp_gr (b := 70) jF_115_6 kd9 (by decide) (c := 170) rfl rfl rfl (pc2 := 9) ?_
      have b43 := GI.b hg 70 1 kd70 (lo := 0) (hi := 60) rfl
      refine wp_gi jF_115_9 kd70 (by decide) rfl rfl rfl (pc2 := 12) ?_
      refine wp_i_gt jF_115_12 ⟨by omega, by omega⟩ (m_rgb b43 rfl) rfl (pc2 := 15) ?_ ?_
      · intro h44
        refine wp_ic jF_115_29 rfl (pc2 := 30) ?_
        refine wp_ri jF_115_30 rfl ?_
        show WP 119 6 [(0, .ref 9), (1, iV pl), (2, iV sg)] [iV 0] _ _ _ _
        refine wp_z_eq jF_119_6 (m_rgl rfl) rfl (pc2 := 9) ?_ ?_
        · intro h45
          refine wp_al1 jF_119_24 rfl rfl (pc2 := 25) ?_
          refine wp_ic jF_119_25 rfl (pc2 := 26) ?_
          refine wp_cV (as := [iV 2]) (rest := []) (a := 9) (mx := 2) (ci := 11) jF_119_26 kd9 (by decide) rfl rfl rfl rfl rfl (by omega) (by omega) rfl (pc2 := 29) ?_
          refine wp_use (m_25_r9 σ hg 2 (by omega) (by omega)  _ _ (by omega) (by omega)) ?_
          rintro _ τ46 ⟨z49, rfl, h50, g47, f48⟩
          show WP 119 29 [(0, .ref 9), (1, iV pl), (2, iV sg)] [iV z49] _ _ _ _
          refine wp_ri jF_119_29 rfl ?_
          exact ⟨z49, rfl, ⟨by omega, by omega⟩, g47, (FR.up FR.rf f48 sb_WXr_WXg)⟩
        · intro h45; exfalso; omega
      · intro h44
        refine wp_il1 jF_115_15 rfl rfl (pc2 := 16) ?_
        refine wp_z_lt jF_115_16 ⟨by omega, by omega⟩ rfl (pc2 := 19) ?_ ?_
        · intro h51
          refine wp_ic jF_115_29 rfl (pc2 := 30) ?_
          refine wp_ri jF_115_30 rfl ?_
          show WP 119 6 [(0, .ref 9), (1, iV pl), (2, iV sg)] [iV 0] _ _ _ _
          refine wp_z_eq jF_119_6 (m_rgl rfl) rfl (pc2 := 9) ?_ ?_
          · intro h52
            refine wp_al1 jF_119_24 rfl rfl (pc2 := 25) ?_
            refine wp_ic jF_119_25 rfl (pc2 := 26) ?_
            refine wp_cV (as := [iV 2]) (rest := []) (a := 9) (mx := 2) (ci := 11) jF_119_26 kd9 (by decide) rfl rfl rfl rfl rfl (by omega) (by omega) rfl (pc2 := 29) ?_
            refine wp_use (m_25_r9 σ hg 2 (by omega) (by omega)  _ _ (by omega) (by omega)) ?_
            rintro _ τ53 ⟨z56, rfl, h57, g54, f55⟩
            show WP 119 29 [(0, .ref 9), (1, iV pl), (2, iV sg)] [iV z56] _ _ _ _
            refine wp_ri jF_119_29 rfl ?_
            exact ⟨z56, rfl, ⟨by omega, by omega⟩, g54, (FR.up FR.rf f55 sb_WXr_WXg)⟩
          · intro h52; exfalso; omega
        · intro h51
          refine wp_il1 jF_115_19 rfl rfl (pc2 := 20) ?_
          refine wp_bi jF_115_20 (by decide) rfl (pc2 := 22) ?_
          refine wp_i_ge jF_115_22 ⟨by omega, by omega⟩ (m_rgl rfl) rfl (pc2 := 25) ?_ ?_
          · intro h58
            refine wp_ic jF_115_29 rfl (pc2 := 30) ?_
            refine wp_ri jF_115_30 rfl ?_
            show WP 119 6 [(0, .ref 9), (1, iV pl), (2, iV sg)] [iV 0] _ _ _ _
            refine wp_z_eq jF_119_6 (m_rgl rfl) rfl (pc2 := 9) ?_ ?_
            · intro h59
              refine wp_al1 jF_119_24 rfl rfl (pc2 := 25) ?_
              refine wp_ic jF_119_25 rfl (pc2 := 26) ?_
              refine wp_cV (as := [iV 2]) (rest := []) (a := 9) (mx := 2) (ci := 11) jF_119_26 kd9 (by decide) rfl rfl rfl rfl rfl (by omega) (by omega) rfl (pc2 := 29) ?_
              refine wp_use (m_25_r9 σ hg 2 (by omega) (by omega)  _ _ (by omega) (by omega)) ?_
              rintro _ τ60 ⟨z63, rfl, h64, g61, f62⟩
              show WP 119 29 [(0, .ref 9), (1, iV pl), (2, iV sg)] [iV z63] _ _ _ _
              refine wp_ri jF_119_29 rfl ?_
              exact ⟨z63, rfl, ⟨by omega, by omega⟩, g61, (FR.up FR.rf f62 sb_WXr_WXg)⟩
            · intro h59; exfalso; omega
          · intro h58
            refine wp_ic jF_115_25 rfl (pc2 := 26) ?_
            refine wp_go jF_115_26 ?_
            refine wp_ri jF_115_30 rfl ?_
            show WP 119 6 [(0, .ref 9), (1, iV pl), (2, iV sg)] [iV 1] _ _ _ _
            refine wp_z_eq jF_119_6 (m_rgl rfl) rfl (pc2 := 9) ?_ ?_
            · intro h65; exfalso; omega
            · intro h65
              refine wp_al1 jF_119_9 rfl rfl (pc2 := 10) ?_
              refine wp_il1 jF_119_10 rfl rfl (pc2 := 11) ?_
              refine wp_bi jF_119_11 (by decide) rfl (pc2 := 13) ?_
              refine wp_mul jF_119_13 rfl (pc2 := 14) ?_
              refine wp_ic jF_119_14 rfl (pc2 := 15) ?_
              refine wp_add jF_119_15 rfl (pc2 := 16) ?_
              refine wp_il1 jF_119_16 rfl rfl (pc2 := 17) ?_
              refine wp_add jF_119_17 rfl (pc2 := 18) ?_
              refine wp_cV (as := [iV (((pl * 47) + 1) + sg)]) (rest := []) (a := 9) (mx := 2) (ci := 11) jF_119_18 kd9 (by decide) rfl rfl rfl rfl rfl (by omega) (by omega) rfl (pc2 := 21) ?_
              refine wp_use (m_116_r9 σ hg (((pl * 47) + 1) + sg) (by omega) (by omega) (Or.inr ⟨hs1, hs2⟩)  _ _ (by omega) (by omega)) ?_
              rintro _ τ66 ⟨z69, rfl, h70, g67, f68⟩
              show WP 119 21 [(0, .ref 9), (1, iV pl), (2, iV sg)] [iV z69] _ _ _ _
              refine wp_go jF_119_21 ?_
              refine wp_ri jF_119_29 rfl ?_
              exact ⟨z69, rfl, ⟨by omega, by omega⟩, g67, f68⟩
set_option maxHeartbeats 4000000 in
set_option maxRecDepth 20000 in
/-- X.undo -/
theorem m_120_r9 (σ : jM) (hg : GI σ)  (hsp : SPK σ)  (fr lo : Nat) (hfr : 2 ≤ fr) (hlo : 101 ≤ lo) : WP 120 0 (lv_args 0 [.ref 9]) [] fr lo σ (fun v τ => ∃ z : Int, v = some (iV z) ∧ (0 ≤ z ∧ z ≤ 1) ∧ GI τ ∧ FR WXg σ τ) := by
  rcases hsp with ⟨hs1, hs2⟩ | ⟨hs1, hs2⟩
  · skip
    show WP 120 0 [(0, .ref 9)] [] _ _ _ _
    refine wp_al1 jF_120_0 rfl rfl (pc2 := 1) ?_
    refine wp_gr (b := 90) jF_120_1 kd9 (by decide) (c := 190) rfl rfl rfl (pc2 := 4) ?_
    have b1 := GI.b hg 90 3 kd90 (lo := 0) (hi := 20) rfl
    refine wp_gi jF_120_4 kd90 (by decide) rfl rfl rfl (pc2 := 7) ?_
    refine wp_z_ne jF_120_7 (m_rgb b1 rfl) rfl (pc2 := 10) ?_ ?_
    · intro h2
      refine wp_al1 jF_120_18 rfl rfl (pc2 := 19) ?_
      refine wp_gr (b := 90) jF_120_19 kd9 (by decide) (c := 190) rfl rfl rfl (pc2 := 22) ?_
      refine wp_al1 jF_120_22 rfl rfl (pc2 := 23) ?_
      refine wp_gr (b := 70) jF_120_23 kd9 (by decide) (c := 170) rfl rfl rfl (pc2 := 26) ?_
      refine wp_cV (as := [.ref 70]) (rest := []) (a := 90) (mx := 2) (ci := 0) jF_120_26 kd90 (by decide) rfl rfl rfl rfl rfl (by omega) (by omega) rfl (pc2 := 29) ?_
      refine wp_use (m_121_r90_70 σ hg   _ _ (by omega) (by omega)) ?_
      rintro _ τ3 ⟨rfl, g4, f5⟩
      show WP 120 29 [(0, .ref 9)] [] _ _ _ _
      refine wp_al1 jF_120_29 rfl rfl (pc2 := 30) ?_
      refine wp_gr (b := 70) jF_120_30 kd9 (by decide) (c := 170) rfl rfl rfl (pc2 := 33) ?_
      refine wp_al1 jF_120_33 rfl rfl (pc2 := 34) ?_
      refine wp_gr jF_120_34 kd9 (by decide) (c := 2) rfl (m_fv2 ((FR.ar f5 9 4 rfl).trans hs1) rfl) rfl (pc2 := 37) ?_
      refine wp_cV (as := [.ref 20]) (rest := []) (a := 70) (mx := 4) (ci := 4) jF_120_37 kd70 (by decide) rfl rfl rfl rfl rfl (by omega) (by omega) rfl (pc2 := 40) ?_
      refine wp_use (m_82_r70_20 τ3 g4   _ _ (by omega) (by omega)) ?_
      rintro _ τ6 ⟨rfl, g7, f8⟩
      show WP 120 40 [(0, .ref 9)] [] _ _ _ _
      refine wp_ic jF_120_40 rfl (pc2 := 41) ?_
      refine wp_ri jF_120_41 rfl ?_
      exact ⟨1, rfl, ⟨by omega, by omega⟩, g7, (FR.up (FR.up FR.rf f5 sb_Wtb_WXg) f8 sb_WW70_WXg)⟩
    · intro h2
      refine wp_al1 jF_120_10 rfl rfl (pc2 := 11) ?_
      refine wp_ic jF_120_11 rfl (pc2 := 12) ?_
      refine wp_cV (as := [iV 3]) (rest := []) (a := 9) (mx := 2) (ci := 11) jF_120_12 kd9 (by decide) rfl rfl rfl rfl rfl (by omega) (by omega) rfl (pc2 := 15) ?_
      refine wp_use (m_25_r9 σ hg 3 (by omega) (by omega)  _ _ (by omega) (by omega)) ?_
      rintro _ τ9 ⟨z12, rfl, h13, g10, f11⟩
      show WP 120 15 [(0, .ref 9)] [iV z12] _ _ _ _
      refine wp_pop jF_120_15 rfl rfl (pc2 := 16) ?_
      refine wp_ic jF_120_16 rfl (pc2 := 17) ?_
      refine wp_ri jF_120_17 rfl ?_
      exact ⟨0, rfl, ⟨by omega, by omega⟩, g10, (FR.up FR.rf f11 sb_WXr_WXg)⟩
  · skip
    show WP 120 0 [(0, .ref 9)] [] _ _ _ _
    refine wp_al1 jF_120_0 rfl rfl (pc2 := 1) ?_
    refine wp_gr (b := 90) jF_120_1 kd9 (by decide) (c := 190) rfl rfl rfl (pc2 := 4) ?_
    have b14 := GI.b hg 90 3 kd90 (lo := 0) (hi := 20) rfl
    refine wp_gi jF_120_4 kd90 (by decide) rfl rfl rfl (pc2 := 7) ?_
    refine wp_z_ne jF_120_7 (m_rgb b14 rfl) rfl (pc2 := 10) ?_ ?_
    · intro h15
      refine wp_al1 jF_120_18 rfl rfl (pc2 := 19) ?_
      refine wp_gr (b := 90) jF_120_19 kd9 (by decide) (c := 190) rfl rfl rfl (pc2 := 22) ?_
      refine wp_al1 jF_120_22 rfl rfl (pc2 := 23) ?_
      refine wp_gr (b := 70) jF_120_23 kd9 (by decide) (c := 170) rfl rfl rfl (pc2 := 26) ?_
      refine wp_cV (as := [.ref 70]) (rest := []) (a := 90) (mx := 2) (ci := 0) jF_120_26 kd90 (by decide) rfl rfl rfl rfl rfl (by omega) (by omega) rfl (pc2 := 29) ?_
      refine wp_use (m_121_r90_70 σ hg   _ _ (by omega) (by omega)) ?_
      rintro _ τ16 ⟨rfl, g17, f18⟩
      show WP 120 29 [(0, .ref 9)] [] _ _ _ _
      refine wp_al1 jF_120_29 rfl rfl (pc2 := 30) ?_
      refine wp_gr (b := 70) jF_120_30 kd9 (by decide) (c := 170) rfl rfl rfl (pc2 := 33) ?_
      refine wp_al1 jF_120_33 rfl rfl (pc2 := 34) ?_
      refine wp_gr jF_120_34 kd9 (by decide) (c := 2) rfl (m_fv2 ((FR.ar f18 9 4 rfl).trans hs1) rfl) rfl (pc2 := 37) ?_
      refine wp_cV (as := [.ref 45]) (rest := []) (a := 70) (mx := 4) (ci := 4) jF_120_37 kd70 (by decide) rfl rfl rfl rfl rfl (by omega) (by omega) rfl (pc2 := 40) ?_
      refine wp_use (m_82_r70_45 τ16 g17   _ _ (by omega) (by omega)) ?_
      rintro _ τ19 ⟨rfl, g20, f21⟩
      show WP 120 40 [(0, .ref 9)] [] _ _ _ _
      refine wp_ic jF_120_40 rfl (pc2 := 41) ?_
      refine wp_ri jF_120_41 rfl ?_
      exact ⟨1, rfl, ⟨by omega, by omega⟩, g20, (FR.up (FR.up FR.rf f18 sb_Wtb_WXg) f21 sb_WW70_WXg)⟩
    · intro h15
      refine wp_al1 jF_120_10 rfl rfl (pc2 := 11) ?_
      refine wp_ic jF_120_11 rfl (pc2 := 12) ?_
      refine wp_cV (as := [iV 3]) (rest := []) (a := 9) (mx := 2) (ci := 11) jF_120_12 kd9 (by decide) rfl rfl rfl rfl rfl (by omega) (by omega) rfl (pc2 := 15) ?_
      refine wp_use (m_25_r9 σ hg 3 (by omega) (by omega)  _ _ (by omega) (by omega)) ?_
      rintro _ τ22 ⟨z25, rfl, h26, g23, f24⟩
      show WP 120 15 [(0, .ref 9)] [iV z25] _ _ _ _
      refine wp_pop jF_120_15 rfl rfl (pc2 := 16) ?_
      refine wp_ic jF_120_16 rfl (pc2 := 17) ?_
      refine wp_ri jF_120_17 rfl ?_
      exact ⟨0, rfl, ⟨by omega, by omega⟩, g23, (FR.up FR.rf f24 sb_WXr_WXg)⟩
set_option maxHeartbeats 4000000 in
set_option maxRecDepth 20000 in
/-- X.countChanges -/
theorem m_123_r9 (σ : jM) (hg : GI σ) (first : Int) (hl_first : 0 ≤ first) (hu_first : first ≤ 24) (behind : Int) (hl_behind : 0 ≤ behind) (hu_behind : behind ≤ 47) (hsp : SPK σ)  (fr lo : Nat) (hfr : 5 ≤ fr) (hlo : 151 ≤ lo) : WP 123 0 (lv_args 0 [.ref 9, iV first, iV behind]) [] fr lo σ (fun v τ => ∃ z : Int, v = some (iV z) ∧ ((-2147483648) ≤ z ∧ z ≤ 2147483647) ∧ GI τ ∧ FR WXg σ τ) := by
  rcases hsp with ⟨hs1, hs2⟩ | ⟨hs1, hs2⟩
  · skip
    show WP 123 0 [(0, .ref 9), (1, iV first), (2, iV behind)] [] _ _ _ _
    refine wp_ic jF_123_0 rfl (pc2 := 1) ?_
    refine wp_is1 (lv2 := [(0, .ref 9), (1, iV first), (2, iV behind), (3, iV 0)]) jF_123_1 rfl rfl rfl (pc2 := 2) ?_
    refine wp_ic jF_123_2 rfl (pc2 := 3) ?_
    refine wp_is2 (lv2 := [(0, .ref 9), (1, iV first), (2, iV behind), (3, iV 0), (4, iV 0)]) jF_123_3 rfl rfl rfl (pc2 := 5) ?_
    refine wp_loop (α := Int × Int) (fun a => [(0, .ref 9), (1, iV first), (2, iV behind), (3, iV (a.1)), (4, iV (a.2))]) (fun a τ => (0 ≤ a.1 ∧ a.1 ≤ 3000) ∧ (0 ≤ a.2 ∧ a.2 ≤ 61) ∧ GI τ ∧ FR WXg σ τ ∧ ((a.1) ≤ 47 * (a.2))) (fun a τ => Int.toNat (61 - (a.2))) (0, 0) σ ?_ ?_
    · skip
      exact ⟨⟨by (try dsimp only); omega, by (try dsimp only); omega⟩, ⟨by (try dsimp only); omega, by (try dsimp only); omega⟩, hg, FR.rf, (by (try dsimp only); omega)⟩
    · rintro ⟨x1, x2⟩ τ5 ⟨h3, h4, g6, f7, p8⟩ ih9
      try dsimp only at h3 h4 g6 f7 p8
      show WP 123 5 [(0, .ref 9), (1, iV first), (2, iV behind), (3, iV x1), (4, iV x2)] [] _ _ _ _
      show WP 123 5 [(0, .ref 9), (1, iV first), (2, iV behind), (3, iV x1), (4, iV x2)] [] _ _ _ _
      refine wp_il2 jF_123_5 rfl rfl (pc2 := 7) ?_
      refine wp_al1 jF_123_7 rfl rfl (pc2 := 8) ?_
      refine wp_gr (b := 70) jF_123_8 kd9 (by decide) (c := 170) rfl rfl rfl (pc2 := 11) ?_
      have b10 := GI.b g6 70 1 kd70 (lo := 0) (hi := 60) rfl
      refine wp_gi jF_123_11 kd70 (by decide) rfl rfl rfl (pc2 := 14) ?_
      refine wp_i_gt jF_123_14 (m_rgb h4 rfl) (m_rgb b10 rfl) rfl (pc2 := 17) ?_ ?_
      · intro h11
        refine wp_il1 jF_123_56 rfl rfl (pc2 := 57) ?_
        refine wp_ri jF_123_57 rfl ?_
        exact ⟨x1, rfl, ⟨by omega, by omega⟩, g6, f7⟩
      · intro h11
        refine wp_il1 jF_123_17 rfl rfl (pc2 := 18) ?_
        refine wp_is2 (lv2 := [(0, .ref 9), (1, iV first), (2, iV behind), (3, iV x1), (4, iV x2), (5, iV first)]) jF_123_18 rfl rfl rfl (pc2 := 20) ?_
        refine wp_loop (α := Int × Int) (fun a => [(0, .ref 9), (1, iV first), (2, iV behind), (3, iV (a.1)), (4, iV x2), (5, iV (a.2))]) (fun a τ => (0 ≤ a.1 ∧ a.1 ≤ 3000) ∧ (0 ≤ a.2 ∧ a.2 ≤ 47) ∧ GI τ ∧ FR WXg τ5 τ ∧ ((a.1) ≤ 47 * x2 + (a.2))) (fun a τ => Int.toNat (47 - (a.2))) (x1, first) τ5 ?_ ?_
        · skip
          exact ⟨⟨by (try dsimp only); omega, by (try dsimp only); omega⟩, ⟨by (try dsimp only); omega, by (try dsimp only); omega⟩, g6, FR.rf, (by (try dsimp only); omega)⟩
        · rintro ⟨x12, x13⟩ τ16 ⟨h14, h15, g17, f18, p19⟩ ih20
          try dsimp only at h14 h15 g17 f18 p19
          show WP 123 20 [(0, .ref 9), (1, iV first), (2, iV behind), (3, iV x12), (4, iV x2), (5, iV x13)] [] _ _ _ _
          show WP 123 20 [(0, .ref 9), (1, iV first), (2, iV behind), (3, iV x12), (4, iV x2), (5, iV x13)] [] _ _ _ _
          refine wp_il2 jF_123_20 rfl rfl (pc2 := 22) ?_
          refine wp_il1 jF_123_22 rfl rfl (pc2 := 23) ?_
          refine wp_i_ge jF_123_23 (m_rgb h15 rfl) ⟨by omega, by omega⟩ rfl (pc2 := 26) ?_ ?_
          · intro h21
            refine wp_inc (lv2 := [(0, .ref 9), (1, iV first), (2, iV behind), (3, iV x12), (4, iV (x2 + 1)), (5, iV x13)]) jF_123_50 rfl rfl rfl rfl (pc2 := 53) ?_
            refine wp_go jF_123_53 ?_
            refine wp_less [0, 1, 2, 3, 4] (lv2 := [(0, .ref 9), (1, iV first), (2, iV behind), (3, iV x12), (4, iV (x2 + 1))]) rfl rfl ?_
            exact ih9 (x12, (x2 + 1)) τ16 ⟨⟨by (try dsimp only); omega, by (try dsimp only); omega⟩, ⟨by (try dsimp only); omega, by (try dsimp only); omega⟩, g17, (FR.up f7 f18 sb_WXg_WXg), (by (try dsimp only); omega)⟩ (by show Int.toNat (61 - (x2 + 1)) < Int.toNat (61 - x2); omega)
          · intro h21
            refine wp_al1 jF_123_26 rfl rfl (pc2 := 27) ?_
            refine wp_il2 jF_123_27 rfl rfl (pc2 := 29) ?_
            refine wp_bi jF_123_29 (by decide) rfl (pc2 := 31) ?_
            refine wp_mul jF_123_31 rfl (pc2 := 32) ?_
            refine wp_il2 jF_123_32 rfl rfl (pc2 := 34) ?_
            refine wp_add jF_123_34 rfl (pc2 := 35) ?_
            refine wp_cV (as := [iV ((x2 * 47) + x13)]) (rest := []) (a := 9) (mx := 2) (ci := 11) jF_123_35 kd9 (by decide) rfl rfl rfl rfl rfl (by omega) (by omega) rfl (pc2 := 38) ?_
            refine wp_use (m_117_r9 τ16 g17 ((x2 * 47) + x13) (by omega) (by omega) (Or.inl ⟨((FR.ar f18 9 4 rfl).trans ((FR.ar f7 9 4 rfl).trans hs1)), ((FR.ar f18 9 5 rfl).trans ((FR.ar f7 9 5 rfl).trans hs2))⟩)  _ _ (by omega) (by omega)) ?_
            rintro _ τ22 ⟨z25, rfl, h26, g23, f24⟩
            show WP 123 38 [(0, .ref 9), (1, iV first), (2, iV behind), (3, iV x12), (4, iV x2), (5, iV x13)] [iV z25] _ _ _ _
            refine wp_z_eq jF_123_38 (m_rgb h26 rfl) rfl (pc2 := 41) ?_ ?_
            · intro h27
              refine wp_inc (lv2 := [(0, .ref 9), (1, iV first), (2, iV behind), (3, iV x12), (4, iV x2), (5, iV (x13 + 1))]) jF_123_44 rfl rfl rfl rfl (pc2 := 47) ?_
              refine wp_go jF_123_47 ?_
              exact ih20 (x12, (x13 + 1)) τ22 ⟨⟨by (try dsimp only); omega, by (try dsimp only); omega⟩, ⟨by (try dsimp only); omega, by (try dsimp only); omega⟩, g23, (FR.up f18 f24 sb_WXg_WXg), (by (try dsimp only); omega)⟩ (by show Int.toNat (47 - (x13 + 1)) < Int.toNat (47 - x13); omega)
            · intro h27
              refine wp_inc (lv2 := [(0, .ref 9), (1, iV first), (2, iV behind), (3, iV (x12 + 1)), (4, iV x2), (5, iV x13)]) jF_123_41 rfl rfl rfl rfl (pc2 := 44) ?_
              refine wp_inc (lv2 := [(0, .ref 9), (1, iV first), (2, iV behind), (3, iV (x12 + 1)), (4, iV x2), (5, iV (x13 + 1))]) jF_123_44 rfl rfl rfl rfl (pc2 := 47) ?_
              refine wp_go jF_123_47 ?_
              exact ih20 ((x12 + 1), (x13 + 1)) τ22 ⟨⟨by (try dsimp only); omega, by (try dsimp only); omega⟩, ⟨by (try dsimp only); omega, by (try dsimp only); omega⟩, g23, (FR.up f18 f24 sb_WXg_WXg), (by (try dsimp only); omega)⟩ (by show Int.toNat (47 - (x13 + 1)) < Int.toNat (47 - x13); omega)
  · skip
    show WP 123 0 [(0, .ref 9), (1, iV first), (2, iV behind)] [] _ _ _ _
    refine wp_ic jF_123_0 rfl (pc2 := 1) ?_
    refine wp_is1 (lv2 := [(0, .ref 9), (1, iV first), (2, iV behind), (3, iV 0)]) jF_123_1 rfl rfl rfl (pc2 := 2) ?_
    refine wp_ic jF_123_2 rfl (pc2 := 3) ?_
    refine wp_is2 (lv2 := [(0, .ref 9), (1, iV first), (2, iV behind), (3, iV 0), (4, iV 0)]) jF_123_3 rfl rfl rfl (pc2 := 5) ?_
    refine wp_loop (α := Int × Int) (fun a => [(0, .ref 9), (1, iV first), (2, iV behind), (3, iV (a.1)), (4, iV (a.2))]) (fun a τ => (0 ≤ a.1 ∧ a.1 ≤ 3000) ∧ (0 ≤ a.2 ∧ a.2 ≤ 61) ∧ GI τ ∧ FR WXg σ τ ∧ ((a.1) ≤ 47 * (a.2))) (fun a τ => Int.toNat (61 - (a.2))) (0, 0) σ ?_ ?_
    · skip
      exact ⟨⟨by (try dsimp only); omega, by (try dsimp only); omega⟩, ⟨by (try dsimp only); omega, by (try dsimp only); omega⟩, hg, FR.rf, (by (try dsimp only); omega)⟩
    · rintro ⟨x28, x29⟩ τ32 ⟨h30, h31, g33, f34, p35⟩ ih36
      try dsimp only at h30 h31 g33 f34 p35
      show WP 123 5 [(0, .ref 9), (1, iV first), (2, iV behind), (3, iV x28), (4, iV x29)] [] _ _ _ _
      show WP 123 5 [(0, .ref 9), (1, iV first), (2, iV behind), (3, iV x28), (4, iV x29)] [] _ _ _ _
      refine wp_il2 jF_123_5 rfl rfl (pc2 := 7) ?_
      refine wp_al1 jF_123_7 rfl rfl (pc2 := 8) ?_
      refine wp_gr (b := 70) jF_123_8 kd9 (by decide) (c := 170) rfl rfl rfl (pc2 := 11) ?_
      have b37 := GI.b g33 70 1 kd70 (lo := 0) (hi := 60) rfl
      refine wp_gi jF_123_11 kd70 (by decide) rfl rfl rfl (pc2 := 14) ?_
      refine wp_i_gt jF_123_14 (m_rgb h31 rfl) (m_rgb b37 rfl) rfl (pc2 := 17) ?_ ?_
      · intro h38
        refine wp_il1 jF_123_56 rfl rfl (pc2 := 57) ?_
        refine wp_ri jF_123_57 rfl ?_
        exact ⟨x28, rfl, ⟨by omega, by omega⟩, g33, f34⟩
      · intro h38
        refine wp_il1 jF_123_17 rfl rfl (pc2 := 18) ?_
        refine wp_is2 (lv2 := [(0, .ref 9), (1, iV first), (2, iV behind), (3, iV x28), (4, iV x29), (5, iV first)]) jF_123_18 rfl rfl rfl (pc2 := 20) ?_
        refine wp_loop (α := Int × Int) (fun a => [(0, .ref 9), (1, iV first), (2, iV behind), (3, iV (a.1)), (4, iV x29), (5, iV (a.2))]) (fun a τ => (0 ≤ a.1 ∧ a.1 ≤ 3000) ∧ (0 ≤ a.2 ∧ a.2 ≤ 47) ∧ GI τ ∧ FR WXg τ32 τ ∧ ((a.1) ≤ 47 * x29 + (a.2))) (fun a τ => Int.toNat (47 - (a.2))) (x28, first) τ32 ?_ ?_
        · skip
          exact ⟨⟨by (try dsimp only); omega, by (try dsimp only); omega⟩, ⟨by (try dsimp only); omega, by (try dsimp only); omega⟩, g33, FR.rf, (by (try dsimp only); omega)⟩
        · rintro ⟨x39, x40⟩ τ43 ⟨h41, h42, g44, f45, p46⟩ ih47
          try dsimp only at h41 h42 g44 f45 p46
          show WP 123 20 [(0, .ref 9), (1, iV first), (2, iV behind), (3, iV x39), (4, iV x29), (5, iV x40)] [] _ _ _ _
          show WP 123 20 [(0, .ref 9), (1, iV first), (2, iV behind), (3, iV x39), (4, iV x29), (5, iV x40)] [] _ _ _ _
          refine wp_il2 jF_123_20 rfl rfl (pc2 := 22) ?_
          refine wp_il1 jF_123_22 rfl rfl (pc2 := 23) ?_
          refine wp_i_ge jF_123_23 (m_rgb h42 rfl) ⟨by omega, by omega⟩ rfl (pc2 := 26) ?_ ?_
          · intro h48
            refine wp_inc (lv2 := [(0, .ref 9), (1, iV first), (2, iV behind), (3, iV x39), (4, iV (x29 + 1)), (5, iV x40)]) jF_123_50 rfl rfl rfl rfl (pc2 := 53) ?_
            refine wp_go jF_123_53 ?_
            refine wp_less [0, 1, 2, 3, 4] (lv2 := [(0, .ref 9), (1, iV first), (2, iV behind), (3, iV x39), (4, iV (x29 + 1))]) rfl rfl ?_
            exact ih36 (x39, (x29 + 1)) τ43 ⟨⟨by (try dsimp only); omega, by (try dsimp only); omega⟩, ⟨by (try dsimp only); omega, by (try dsimp only); omega⟩, g44, (FR.up f34 f45 sb_WXg_WXg), (by (try dsimp only); omega)⟩ (by show Int.toNat (61 - (x29 + 1)) < Int.toNat (61 - x29); omega)
          · intro h48
            refine wp_al1 jF_123_26 rfl rfl (pc2 := 27) ?_
            refine wp_il2 jF_123_27 rfl rfl (pc2 := 29) ?_
            refine wp_bi jF_123_29 (by decide) rfl (pc2 := 31) ?_
            refine wp_mul jF_123_31 rfl (pc2 := 32) ?_
            refine wp_il2 jF_123_32 rfl rfl (pc2 := 34) ?_
            refine wp_add jF_123_34 rfl (pc2 := 35) ?_
            refine wp_cV (as := [iV ((x29 * 47) + x40)]) (rest := []) (a := 9) (mx := 2) (ci := 11) jF_123_35 kd9 (by decide) rfl rfl rfl rfl rfl (by omega) (by omega) rfl (pc2 := 38) ?_
            refine wp_use (m_117_r9 τ43 g44 ((x29 * 47) + x40) (by omega) (by omega) (Or.inr ⟨((FR.ar f45 9 4 rfl).trans ((FR.ar f34 9 4 rfl).trans hs1)), ((FR.ar f45 9 5 rfl).trans ((FR.ar f34 9 5 rfl).trans hs2))⟩)  _ _ (by omega) (by omega)) ?_
            rintro _ τ49 ⟨z52, rfl, h53, g50, f51⟩
            show WP 123 38 [(0, .ref 9), (1, iV first), (2, iV behind), (3, iV x39), (4, iV x29), (5, iV x40)] [iV z52] _ _ _ _
            refine wp_z_eq jF_123_38 (m_rgb h53 rfl) rfl (pc2 := 41) ?_ ?_
            · intro h54
              refine wp_inc (lv2 := [(0, .ref 9), (1, iV first), (2, iV behind), (3, iV x39), (4, iV x29), (5, iV (x40 + 1))]) jF_123_44 rfl rfl rfl rfl (pc2 := 47) ?_
              refine wp_go jF_123_47 ?_
              exact ih47 (x39, (x40 + 1)) τ49 ⟨⟨by (try dsimp only); omega, by (try dsimp only); omega⟩, ⟨by (try dsimp only); omega, by (try dsimp only); omega⟩, g50, (FR.up f45 f51 sb_WXg_WXg), (by (try dsimp only); omega)⟩ (by show Int.toNat (47 - (x40 + 1)) < Int.toNat (47 - x40); omega)
            · intro h54
              refine wp_inc (lv2 := [(0, .ref 9), (1, iV first), (2, iV behind), (3, iV (x39 + 1)), (4, iV x29), (5, iV x40)]) jF_123_41 rfl rfl rfl rfl (pc2 := 44) ?_
              refine wp_inc (lv2 := [(0, .ref 9), (1, iV first), (2, iV behind), (3, iV (x39 + 1)), (4, iV x29), (5, iV (x40 + 1))]) jF_123_44 rfl rfl rfl rfl (pc2 := 47) ?_
              refine wp_go jF_123_47 ?_
              exact ih47 ((x39 + 1), (x40 + 1)) τ49 ⟨⟨by (try dsimp only); omega, by (try dsimp only); omega⟩, ⟨by (try dsimp only); omega, by (try dsimp only); omega⟩, g50, (FR.up f45 f51 sb_WXg_WXg), (by (try dsimp only); omega)⟩ (by show Int.toNat (47 - (x40 + 1)) < Int.toNat (47 - x40); omega)
set_option maxHeartbeats 4000000 in
set_option maxRecDepth 20000 in
/-- X.changes -/
theorem m_122_r9 (σ : jM) (hg : GI σ) (what : Int) (hl_what : (-2147483648) ≤ what) (hu_what : what ≤ 2147483647) (hsp : SPK σ)  (fr lo : Nat) (hfr : 6 ≤ fr) (hlo : 176 ≤ lo) : WP 122 0 (lv_args 0 [.ref 9, iV what]) [] fr lo σ (fun v τ => ∃ z : Int, v = some (iV z) ∧ ((-2147483648) ≤ z ∧ z ≤ 2147483647) ∧ GI τ ∧ FR WXg σ τ) := by
  rcases hsp with ⟨hs1, hs2⟩ | ⟨hs1, hs2⟩
  · skip
    show WP 122 0 [(0, .ref 9), (1, iV what)] [] _ _ _ _
    refine wp_il1 jF_122_0 rfl rfl (pc2 := 1) ?_
    rcases m_tsw what 0 2 with h1 | h1
    · refine wp_tswd (tgt := 52) jF_122_1 ⟨by omega, by omega⟩ h1 (by decide) ?_
      refine wp_ic jF_122_52 rfl (pc2 := 53) ?_
      refine wp_ri jF_122_53 rfl ?_
      exact ⟨(-1), rfl, ⟨by omega, by omega⟩, hg, FR.rf⟩
    · have h1c : what = 0 ∨ what = 1 ∨ what = 2 := by omega
      rcases h1c with hh | hh | hh
      · refine wp_tswx (x := 0) (tgt := 28) jF_122_1 hh (by decide) ?_
        subst hh
        refine wp_al1 jF_122_28 rfl rfl (pc2 := 29) ?_
        refine wp_bi jF_122_29 (by decide) rfl (pc2 := 31) ?_
        refine wp_bi jF_122_31 (by decide) rfl (pc2 := 33) ?_
        refine wp_cV (as := [iV 24, iV 47]) (rest := []) (a := 9) (mx := 6) (ci := 11) jF_122_33 kd9 (by decide) rfl rfl rfl rfl rfl (by omega) (by omega) rfl (pc2 := 36) ?_
        refine wp_use (m_123_r9 σ hg 24 (by omega) (by omega) 47 (by omega) (by omega) (Or.inl ⟨hs1, hs2⟩)  _ _ (by omega) (by omega)) ?_
        rintro _ τ2 ⟨z5, rfl, h6, g3, f4⟩
        show WP 122 36 [(0, .ref 9), (1, iV 0)] [iV z5] _ _ _ _
        refine wp_ri jF_122_36 rfl ?_
        exact ⟨z5, rfl, ⟨by omega, by omega⟩, g3, f4⟩
      · refine wp_tswx (x := 1) (tgt := 37) jF_122_1 hh (by decide) ?_
        subst hh
        refine wp_al1 jF_122_37 rfl rfl (pc2 := 38) ?_
        refine wp_ic jF_122_38 rfl (pc2 := 39) ?_
        refine wp_ic jF_122_39 rfl (pc2 := 40) ?_
        refine wp_cV (as := [iV 0, iV 1]) (rest := []) (a := 9) (mx := 6) (ci := 11) jF_122_40 kd9 (by decide) rfl rfl rfl rfl rfl (by omega) (by omega) rfl (pc2 := 43) ?_
        refine wp_use (m_123_r9 σ hg 0 (by omega) (by omega) 1 (by omega) (by omega) (Or.inl ⟨hs1, hs2⟩)  _ _ (by omega) (by omega)) ?_
        rintro _ τ7 ⟨z10, rfl, h11, g8, f9⟩
        show WP 122 43 [(0, .ref 9), (1, iV 1)] [iV z10] _ _ _ _
        refine wp_ri jF_122_43 rfl ?_
        exact ⟨z10, rfl, ⟨by omega, by omega⟩, g8, f9⟩
      · refine wp_tswx (x := 2) (tgt := 44) jF_122_1 hh (by decide) ?_
        subst hh
        refine wp_al1 jF_122_44 rfl rfl (pc2 := 45) ?_
        refine wp_ic jF_122_45 rfl (pc2 := 46) ?_
        refine wp_bi jF_122_46 (by decide) rfl (pc2 := 48) ?_
        refine wp_cV (as := [iV 1, iV 24]) (rest := []) (a := 9) (mx := 6) (ci := 11) jF_122_48 kd9 (by decide) rfl rfl rfl rfl rfl (by omega) (by omega) rfl (pc2 := 51) ?_
        refine wp_use (m_123_r9 σ hg 1 (by omega) (by omega) 24 (by omega) (by omega) (Or.inl ⟨hs1, hs2⟩)  _ _ (by omega) (by omega)) ?_
        rintro _ τ12 ⟨z15, rfl, h16, g13, f14⟩
        show WP 122 51 [(0, .ref 9), (1, iV 2)] [iV z15] _ _ _ _
        refine wp_ri jF_122_51 rfl ?_
        exact ⟨z15, rfl, ⟨by omega, by omega⟩, g13, f14⟩
  · skip
    show WP 122 0 [(0, .ref 9), (1, iV what)] [] _ _ _ _
    refine wp_il1 jF_122_0 rfl rfl (pc2 := 1) ?_
    rcases m_tsw what 0 2 with h17 | h17
    · refine wp_tswd (tgt := 52) jF_122_1 ⟨by omega, by omega⟩ h17 (by decide) ?_
      refine wp_ic jF_122_52 rfl (pc2 := 53) ?_
      refine wp_ri jF_122_53 rfl ?_
      exact ⟨(-1), rfl, ⟨by omega, by omega⟩, hg, FR.rf⟩
    · have h17c : what = 0 ∨ what = 1 ∨ what = 2 := by omega
      rcases h17c with hh | hh | hh
      · refine wp_tswx (x := 0) (tgt := 28) jF_122_1 hh (by decide) ?_
        subst hh
        refine wp_al1 jF_122_28 rfl rfl (pc2 := 29) ?_
        refine wp_bi jF_122_29 (by decide) rfl (pc2 := 31) ?_
        refine wp_bi jF_122_31 (by decide) rfl (pc2 := 33) ?_
        refine wp_cV (as := [iV 24, iV 47]) (rest := []) (a := 9) (mx := 6) (ci := 11) jF_122_33 kd9 (by decide) rfl rfl rfl rfl rfl (by omega) (by omega) rfl (pc2 := 36) ?_
        refine wp_use (m_123_r9 σ hg 24 (by omega) (by omega) 47 (by omega) (by omega) (Or.inr ⟨hs1, hs2⟩)  _ _ (by omega) (by omega)) ?_
        rintro _ τ18 ⟨z21, rfl, h22, g19, f20⟩
        show WP 122 36 [(0, .ref 9), (1, iV 0)] [iV z21] _ _ _ _
        refine wp_ri jF_122_36 rfl ?_
        exact ⟨z21, rfl, ⟨by omega, by omega⟩, g19, f20⟩
      · refine wp_tswx (x := 1) (tgt := 37) jF_122_1 hh (by decide) ?_
        subst hh
        refine wp_al1 jF_122_37 rfl rfl (pc2 := 38) ?_
        refine wp_ic jF_122_38 rfl (pc2 := 39) ?_
        refine wp_ic jF_122_39 rfl (pc2 := 40) ?_
        refine wp_cV (as := [iV 0, iV 1]) (rest := []) (a := 9) (mx := 6) (ci := 11) jF_122_40 kd9 (by decide) rfl rfl rfl rfl rfl (by omega) (by omega) rfl (pc2 := 43) ?_
        refine wp_use (m_123_r9 σ hg 0 (by omega) (by omega) 1 (by omega) (by omega) (Or.inr ⟨hs1, hs2⟩)  _ _ (by omega) (by omega)) ?_
        rintro _ τ23 ⟨z26, rfl, h27, g24, f25⟩
        show WP 122 43 [(0, .ref 9), (1, iV 1)] [iV z26] _ _ _ _
        refine wp_ri jF_122_43 rfl ?_
        exact ⟨z26, rfl, ⟨by omega, by omega⟩, g24, f25⟩
      · refine wp_tswx (x := 2) (tgt := 44) jF_122_1 hh (by decide) ?_
        subst hh
        refine wp_al1 jF_122_44 rfl rfl (pc2 := 45) ?_
        refine wp_ic jF_122_45 rfl (pc2 := 46) ?_
        refine wp_bi jF_122_46 (by decide) rfl (pc2 := 48) ?_
        refine wp_cV (as := [iV 1, iV 24]) (rest := []) (a := 9) (mx := 6) (ci := 11) jF_122_48 kd9 (by decide) rfl rfl rfl rfl rfl (by omega) (by omega) rfl (pc2 := 51) ?_
        refine wp_use (m_123_r9 σ hg 1 (by omega) (by omega) 24 (by omega) (by omega) (Or.inr ⟨hs1, hs2⟩)  _ _ (by omega) (by omega)) ?_
        rintro _ τ28 ⟨z31, rfl, h32, g29, f30⟩
        show WP 122 51 [(0, .ref 9), (1, iV 2)] [iV z31] _ _ _ _
        refine wp_ri jF_122_51 rfl ?_
        exact ⟨z31, rfl, ⟨by omega, by omega⟩, g29, f30⟩
set_option maxHeartbeats 4000000 in
set_option maxRecDepth 20000 in
/-- X.fewest -/
theorem m_124_r9 (σ : jM) (hg : GI σ) (other : Int) (hl_other : 0 ≤ other) (hu_other : other ≤ 1) (what : Int) (hl_what : (-2147483648) ≤ what) (hu_what : what ≤ 2147483647) (hsp : SPK σ)  (fr lo : Nat) (hfr : 5 ≤ fr) (hlo : 132 ≤ lo) : WP 124 0 (lv_args 0 [.ref 9, iV other, iV what]) [] fr lo σ (fun v τ => ∃ z : Int, v = some (iV z) ∧ ((-2147483648) ≤ z ∧ z ≤ 2147483647) ∧ GI τ ∧ FR WXg σ τ) := by
  rcases hsp with ⟨hs1, hs2⟩ | ⟨hs1, hs2⟩
  · skip
    show WP 124 0 [(0, .ref 9), (1, iV other), (2, iV what)] [] _ _ _ _
    refine wp_il1 jF_124_0 rfl rfl (pc2 := 1) ?_
    refine wp_z_eq jF_124_1 ⟨by omega, by omega⟩ rfl (pc2 := 4) ?_ ?_
    · intro h1
      refine wp_al1 jF_124_11 rfl rfl (pc2 := 12) ?_
      refine wp_gr (b := 70) jF_124_12 kd9 (by decide) (c := 170) rfl rfl rfl (pc2 := 15) ?_
      refine wp_as1 (lv2 := [(0, .ref 9), (1, iV other), (2, iV what), (3, .ref 70)]) jF_124_15 rfl rfl rfl (pc2 := 16) ?_
      refine wp_al1 jF_124_16 rfl rfl (pc2 := 17) ?_
      refine wp_gr (b := 93) jF_124_17 kd9 (by decide) (c := 193) rfl rfl rfl (pc2 := 20) ?_
      refine wp_al1 jF_124_20 rfl rfl (pc2 := 21) ?_
      refine wp_gr jF_124_21 kd9 (by decide) (c := 2) rfl (m_fv2 hs1 rfl) rfl (pc2 := 24) ?_
      refine wp_al1 jF_124_24 rfl rfl (pc2 := 25) ?_
      refine wp_glA jF_124_25 kd70 (by decide) rfl rfl (pc2 := 28) ?_
      intro y2
      refine wp_il1 jF_124_28 rfl rfl (pc2 := 29) ?_
      refine wp_cS (as := [iV other]) (rest := [.long y2, .ref 20, .ref 93]) (mx := 1) jF_124_29 rfl rfl rfl rfl (by omega) (by omega) rfl (pc2 := 32) ?_
      show WP 98 0 [(0, iV other)] [] _ _ _ _
      refine wp_il1 jF_98_0 rfl rfl (pc2 := 1) ?_
      refine wp_z_eq jF_98_1 ⟨by omega, by omega⟩ rfl (pc2 := 4) ?_ ?_
      · intro h3
        refine wp_ic jF_98_8 rfl (pc2 := 9) ?_
        refine wp_ri jF_98_9 rfl ?_
        show WP 124 32 [(0, .ref 9), (1, iV other), (2, iV what), (3, .ref 70)] [iV 0, .long y2, .ref 20, .ref 93] _ _ _ _
        refine wp_il1 jF_124_32 rfl rfl (pc2 := 33) ?_
        refine wp_cV (as := [.ref 20, .long y2, iV 0, iV what]) (rest := []) (a := 93) (mx := 7) (ci := 5) jF_124_33 kd93 (by decide) rfl rfl rfl rfl rfl (by omega) (by omega) rfl (pc2 := 36) ?_
        refine wp_use (m_125_r93_20 σ hg y2 0 (by omega) (by omega) what (by omega) (by omega)  _ _ (by omega) (by omega)) ?_
        rintro _ τ4 ⟨z7, rfl, h8, g5, f6⟩
        show WP 124 36 [(0, .ref 9), (1, iV other), (2, iV what), (3, .ref 70)] [iV z7] _ _ _ _
        refine wp_ri jF_124_36 rfl ?_
        exact ⟨z7, rfl, ⟨by omega, by omega⟩, g5, (FR.up FR.rf f6 sb_WS_WXg)⟩
      · intro h3; exfalso; omega
    · intro h1
      refine wp_al1 jF_124_4 rfl rfl (pc2 := 5) ?_
      refine wp_gr (b := 75) jF_124_5 kd9 (by decide) (c := 175) rfl rfl rfl (pc2 := 8) ?_
      refine wp_go jF_124_8 ?_
      refine wp_as1 (lv2 := [(0, .ref 9), (1, iV other), (2, iV what), (3, .ref 75)]) jF_124_15 rfl rfl rfl (pc2 := 16) ?_
      refine wp_al1 jF_124_16 rfl rfl (pc2 := 17) ?_
      refine wp_gr (b := 93) jF_124_17 kd9 (by decide) (c := 193) rfl rfl rfl (pc2 := 20) ?_
      refine wp_al1 jF_124_20 rfl rfl (pc2 := 21) ?_
      refine wp_gr jF_124_21 kd9 (by decide) (c := 2) rfl (m_fv2 hs1 rfl) rfl (pc2 := 24) ?_
      refine wp_al1 jF_124_24 rfl rfl (pc2 := 25) ?_
      refine wp_glA jF_124_25 kd75 (by decide) rfl rfl (pc2 := 28) ?_
      intro y9
      refine wp_il1 jF_124_28 rfl rfl (pc2 := 29) ?_
      refine wp_cS (as := [iV other]) (rest := [.long y9, .ref 20, .ref 93]) (mx := 1) jF_124_29 rfl rfl rfl rfl (by omega) (by omega) rfl (pc2 := 32) ?_
      show WP 98 0 [(0, iV other)] [] _ _ _ _
      refine wp_il1 jF_98_0 rfl rfl (pc2 := 1) ?_
      refine wp_z_eq jF_98_1 ⟨by omega, by omega⟩ rfl (pc2 := 4) ?_ ?_
      · intro h10; exfalso; omega
      · intro h10
        refine wp_ic jF_98_4 rfl (pc2 := 5) ?_
        refine wp_go jF_98_5 ?_
        refine wp_ri jF_98_9 rfl ?_
        show WP 124 32 [(0, .ref 9), (1, iV other), (2, iV what), (3, .ref 75)] [iV 1, .long y9, .ref 20, .ref 93] _ _ _ _
        refine wp_il1 jF_124_32 rfl rfl (pc2 := 33) ?_
        refine wp_cV (as := [.ref 20, .long y9, iV 1, iV what]) (rest := []) (a := 93) (mx := 7) (ci := 5) jF_124_33 kd93 (by decide) rfl rfl rfl rfl rfl (by omega) (by omega) rfl (pc2 := 36) ?_
        refine wp_use (m_125_r93_20 σ hg y9 1 (by omega) (by omega) what (by omega) (by omega)  _ _ (by omega) (by omega)) ?_
        rintro _ τ11 ⟨z14, rfl, h15, g12, f13⟩
        show WP 124 36 [(0, .ref 9), (1, iV other), (2, iV what), (3, .ref 75)] [iV z14] _ _ _ _
        refine wp_ri jF_124_36 rfl ?_
        exact ⟨z14, rfl, ⟨by omega, by omega⟩, g12, (FR.up FR.rf f13 sb_WS_WXg)⟩
  · skip
    show WP 124 0 [(0, .ref 9), (1, iV other), (2, iV what)] [] _ _ _ _
    refine wp_il1 jF_124_0 rfl rfl (pc2 := 1) ?_
    refine wp_z_eq jF_124_1 ⟨by omega, by omega⟩ rfl (pc2 := 4) ?_ ?_
    · intro h16
      refine wp_al1 jF_124_11 rfl rfl (pc2 := 12) ?_
      refine wp_gr (b := 70) jF_124_12 kd9 (by decide) (c := 170) rfl rfl rfl (pc2 := 15) ?_
      refine wp_as1 (lv2 := [(0, .ref 9), (1, iV other), (2, iV what), (3, .ref 70)]) jF_124_15 rfl rfl rfl (pc2 := 16) ?_
      refine wp_al1 jF_124_16 rfl rfl (pc2 := 17) ?_
      refine wp_gr (b := 93) jF_124_17 kd9 (by decide) (c := 193) rfl rfl rfl (pc2 := 20) ?_
      refine wp_al1 jF_124_20 rfl rfl (pc2 := 21) ?_
      refine wp_gr jF_124_21 kd9 (by decide) (c := 2) rfl (m_fv2 hs1 rfl) rfl (pc2 := 24) ?_
      refine wp_al1 jF_124_24 rfl rfl (pc2 := 25) ?_
      refine wp_glA jF_124_25 kd70 (by decide) rfl rfl (pc2 := 28) ?_
      intro y17
      refine wp_il1 jF_124_28 rfl rfl (pc2 := 29) ?_
      refine wp_cS (as := [iV other]) (rest := [.long y17, .ref 45, .ref 93]) (mx := 1) jF_124_29 rfl rfl rfl rfl (by omega) (by omega) rfl (pc2 := 32) ?_
      show WP 98 0 [(0, iV other)] [] _ _ _ _
      refine wp_il1 jF_98_0 rfl rfl (pc2 := 1) ?_
      refine wp_z_eq jF_98_1 ⟨by omega, by omega⟩ rfl (pc2 := 4) ?_ ?_
      · intro h18
        refine wp_ic jF_98_8 rfl (pc2 := 9) ?_
        refine wp_ri jF_98_9 rfl ?_
        show WP 124 32 [(0, .ref 9), (1, iV other), (2, iV what), (3, .ref 70)] [iV 0, .long y17, .ref 45, .ref 93] _ _ _ _
        refine wp_il1 jF_124_32 rfl rfl (pc2 := 33) ?_
        refine wp_cV (as := [.ref 45, .long y17, iV 0, iV what]) (rest := []) (a := 93) (mx := 7) (ci := 5) jF_124_33 kd93 (by decide) rfl rfl rfl rfl rfl (by omega) (by omega) rfl (pc2 := 36) ?_
        refine wp_use (m_125_r93_45 σ hg y17 0 (by omega) (by omega) what (by omega) (by omega)  _ _ (by omega) (by omega)) ?_
        rintro _ τ19 ⟨z22, rfl, h23, g20, f21⟩
        show WP 124 36 [(0, .ref 9), (1, iV other), (2, iV what), (3, .ref 70)] [iV z22] _ _ _ _
        refine wp_ri jF_124_36 rfl ?_
        exact ⟨z22, rfl, ⟨by omega, by omega⟩, g20, (FR.up FR.rf f21 sb_WS_WXg)⟩
      · intro h18; exfalso; omega
    · intro h16
      refine wp_al1 jF_124_4 rfl rfl (pc2 := 5) ?_
      refine wp_gr (b := 75) jF_124_5 kd9 (by decide) (c := 175) rfl rfl rfl (pc2 := 8) ?_
      refine wp_go jF_124_8 ?_
      refine wp_as1 (lv2 := [(0, .ref 9), (1, iV other), (2, iV what), (3, .ref 75)]) jF_124_15 rfl rfl rfl (pc2 := 16) ?_
      refine wp_al1 jF_124_16 rfl rfl (pc2 := 17) ?_
      refine wp_gr (b := 93) jF_124_17 kd9 (by decide) (c := 193) rfl rfl rfl (pc2 := 20) ?_
      refine wp_al1 jF_124_20 rfl rfl (pc2 := 21) ?_
      refine wp_gr jF_124_21 kd9 (by decide) (c := 2) rfl (m_fv2 hs1 rfl) rfl (pc2 := 24) ?_
      refine wp_al1 jF_124_24 rfl rfl (pc2 := 25) ?_
      refine wp_glA jF_124_25 kd75 (by decide) rfl rfl (pc2 := 28) ?_
      intro y24
      refine wp_il1 jF_124_28 rfl rfl (pc2 := 29) ?_
      refine wp_cS (as := [iV other]) (rest := [.long y24, .ref 45, .ref 93]) (mx := 1) jF_124_29 rfl rfl rfl rfl (by omega) (by omega) rfl (pc2 := 32) ?_
      show WP 98 0 [(0, iV other)] [] _ _ _ _
      refine wp_il1 jF_98_0 rfl rfl (pc2 := 1) ?_
      refine wp_z_eq jF_98_1 ⟨by omega, by omega⟩ rfl (pc2 := 4) ?_ ?_
      · intro h25; exfalso; omega
      · intro h25
        refine wp_ic jF_98_4 rfl (pc2 := 5) ?_
        refine wp_go jF_98_5 ?_
        refine wp_ri jF_98_9 rfl ?_
        show WP 124 32 [(0, .ref 9), (1, iV other), (2, iV what), (3, .ref 75)] [iV 1, .long y24, .ref 45, .ref 93] _ _ _ _
        refine wp_il1 jF_124_32 rfl rfl (pc2 := 33) ?_
        refine wp_cV (as := [.ref 45, .long y24, iV 1, iV what]) (rest := []) (a := 93) (mx := 7) (ci := 5) jF_124_33 kd93 (by decide) rfl rfl rfl rfl rfl (by omega) (by omega) rfl (pc2 := 36) ?_
        refine wp_use (m_125_r93_45 σ hg y24 1 (by omega) (by omega) what (by omega) (by omega)  _ _ (by omega) (by omega)) ?_
        rintro _ τ26 ⟨z29, rfl, h30, g27, f28⟩
        show WP 124 36 [(0, .ref 9), (1, iV other), (2, iV what), (3, .ref 75)] [iV z29] _ _ _ _
        refine wp_ri jF_124_36 rfl ?_
        exact ⟨z29, rfl, ⟨by omega, by omega⟩, g27, (FR.up FR.rf f28 sb_WS_WXg)⟩
set_option maxHeartbeats 4000000 in
set_option maxRecDepth 20000 in
/-- X.shorts -/
theorem m_140_r9 (σ : jM) (hg : GI σ)  (hsp : SPK σ)  (fr lo : Nat) (hfr : 4 ≤ fr) (hlo : 90 ≤ lo) : WP 140 0 (lv_args 0 [.ref 9]) [] fr lo σ (fun v τ => ∃ z : Int, v = some (iV z) ∧ ((-2147483648) ≤ z ∧ z ≤ 2147483647) ∧ GI τ ∧ FR WXg σ τ) := by
  rcases hsp with ⟨hs1, hs2⟩ | ⟨hs1, hs2⟩
  · skip
    show WP 140 0 [(0, .ref 9)] [] _ _ _ _
    refine wp_al1 jF_140_0 rfl rfl (pc2 := 1) ?_
    refine wp_gr (b := 93) jF_140_1 kd9 (by decide) (c := 193) rfl rfl rfl (pc2 := 4) ?_
    refine wp_al1 jF_140_4 rfl rfl (pc2 := 5) ?_
    refine wp_gr jF_140_5 kd9 (by decide) (c := 2) rfl (m_fv2 hs1 rfl) rfl (pc2 := 8) ?_
    refine wp_cV (as := [.ref 20]) (rest := []) (a := 93) (mx := 2) (ci := 5) jF_140_8 kd93 (by decide) rfl rfl rfl rfl rfl (by omega) (by omega) rfl (pc2 := 11) ?_
    refine wp_use (m_141_r93_20 σ hg   _ _ (by omega) (by omega)) ?_
    rintro _ τ1 ⟨z4, rfl, h5, g2, f3⟩
    show WP 140 11 [(0, .ref 9)] [iV z4] _ _ _ _
    refine wp_ri jF_140_11 rfl ?_
    exact ⟨z4, rfl, ⟨by omega, by omega⟩, g2, (FR.up FR.rf f3 sb_WS_WXg)⟩
  · skip
    show WP 140 0 [(0, .ref 9)] [] _ _ _ _
    refine wp_al1 jF_140_0 rfl rfl (pc2 := 1) ?_
    refine wp_gr (b := 93) jF_140_1 kd9 (by decide) (c := 193) rfl rfl rfl (pc2 := 4) ?_
    refine wp_al1 jF_140_4 rfl rfl (pc2 := 5) ?_
    refine wp_gr jF_140_5 kd9 (by decide) (c := 2) rfl (m_fv2 hs1 rfl) rfl (pc2 := 8) ?_
    refine wp_cV (as := [.ref 45]) (rest := []) (a := 93) (mx := 2) (ci := 5) jF_140_8 kd93 (by decide) rfl rfl rfl rfl rfl (by omega) (by omega) rfl (pc2 := 11) ?_
    refine wp_use (m_141_r93_45 σ hg   _ _ (by omega) (by omega)) ?_
    rintro _ τ6 ⟨z9, rfl, h10, g7, f8⟩
    show WP 140 11 [(0, .ref 9)] [iV z9] _ _ _ _
    refine wp_ri jF_140_11 rfl ?_
    exact ⟨z9, rfl, ⟨by omega, by omega⟩, g7, (FR.up FR.rf f8 sb_WS_WXg)⟩
