set_option maxHeartbeats 4000000 in
set_option maxRecDepth 20000 in
/-- X.brief -/
theorem m_142_r9 (σ : jM) (hg : GI σ) (sen : Int) (hl_sen : (-2147483648) ≤ sen) (hu_sen : sen ≤ 2147483647) (what : Int) (hl_what : (-2147483648) ≤ what) (hu_what : what ≤ 2147483647) (hsp : SPK σ)  (fr lo : Nat) (hfr : 4 ≤ fr) (hlo : 92 ≤ lo) : WP 142 0 (lv_args 0 [.ref 9, iV sen, iV what]) [] fr lo σ (fun v τ => ∃ z : Int, v = some (iV z) ∧ ((-2147483648) ≤ z ∧ z ≤ 2147483647) ∧ GI τ ∧ FR WXg σ τ) := by
  rcases hsp with ⟨hs1, hs2⟩ | ⟨hs1, hs2⟩
  · skip
    show WP 142 0 [(0, .ref 9), (1, iV sen), (2, iV what)] [] _ _ _ _
    refine wp_al1 jF_142_0 rfl rfl (pc2 := 1) ?_
    refine wp_gr (b := 93) jF_142_1 kd9 (by decide) (c := 193) rfl rfl rfl (pc2 := 4) ?_
    refine wp_al1 jF_142_4 rfl rfl (pc2 := 5) ?_
    refine wp_gr jF_142_5 kd9 (by decide) (c := 2) rfl (m_fv2 hs1 rfl) rfl (pc2 := 8) ?_
    refine wp_il1 jF_142_8 rfl rfl (pc2 := 9) ?_
    refine wp_il1 jF_142_9 rfl rfl (pc2 := 10) ?_
    refine wp_cV (as := [.ref 20, iV sen, iV what]) (rest := []) (a := 93) (mx := 4) (ci := 5) jF_142_10 kd93 (by decide) rfl rfl rfl rfl rfl (by omega) (by omega) rfl (pc2 := 13) ?_
    refine wp_use (m_143_r93_20 σ hg sen (by omega) (by omega) what (by omega) (by omega)  _ _ (by omega) (by omega)) ?_
    rintro _ τ1 ⟨z4, rfl, h5, g2, f3⟩
    show WP 142 13 [(0, .ref 9), (1, iV sen), (2, iV what)] [iV z4] _ _ _ _
    refine wp_ri jF_142_13 rfl ?_
    exact ⟨z4, rfl, ⟨by omega, by omega⟩, g2, (FR.up FR.rf f3 sb_WS_WXg)⟩
  · skip
    show WP 142 0 [(0, .ref 9), (1, iV sen), (2, iV what)] [] _ _ _ _
    refine wp_al1 jF_142_0 rfl rfl (pc2 := 1) ?_
    refine wp_gr (b := 93) jF_142_1 kd9 (by decide) (c := 193) rfl rfl rfl (pc2 := 4) ?_
    refine wp_al1 jF_142_4 rfl rfl (pc2 := 5) ?_
    refine wp_gr jF_142_5 kd9 (by decide) (c := 2) rfl (m_fv2 hs1 rfl) rfl (pc2 := 8) ?_
    refine wp_il1 jF_142_8 rfl rfl (pc2 := 9) ?_
    refine wp_il1 jF_142_9 rfl rfl (pc2 := 10) ?_
    refine wp_cV (as := [.ref 45, iV sen, iV what]) (rest := []) (a := 93) (mx := 4) (ci := 5) jF_142_10 kd93 (by decide) rfl rfl rfl rfl rfl (by omega) (by omega) rfl (pc2 := 13) ?_
    refine wp_use (m_143_r93_45 σ hg sen (by omega) (by omega) what (by omega) (by omega)  _ _ (by omega) (by omega)) ?_
    rintro _ τ6 ⟨z9, rfl, h10, g7, f8⟩
    show WP 142 13 [(0, .ref 9), (1, iV sen), (2, iV what)] [iV z9] _ _ _ _
    refine wp_ri jF_142_13 rfl ?_
    exact ⟨z9, rfl, ⟨by omega, by omega⟩, g7, (FR.up FR.rf f8 sb_WS_WXg)⟩
set_option maxHeartbeats 4000000 in
set_option maxRecDepth 20000 in
/-- X.way -/
theorem m_144_r9 (σ : jM) (hg : GI σ)  (hsp : SPK σ)  (fr lo : Nat) (hfr : 7 ≤ fr) (hlo : 210 ≤ lo) : WP 144 0 (lv_args 0 [.ref 9]) [] fr lo σ (fun v τ => ∃ z : Int, v = some (iV z) ∧ ((-2147483648) ≤ z ∧ z ≤ 2147483647) ∧ GI τ ∧ FR WXg σ τ) := by
  rcases hsp with ⟨hs1, hs2⟩ | ⟨hs1, hs2⟩
  · skip
    show WP 144 0 [(0, .ref 9)] [] _ _ _ _
    refine wp_al1 jF_144_0 rfl rfl (pc2 := 1) ?_
    refine wp_gr (b := 102) jF_144_1 kd9 (by decide) (c := 202) rfl rfl rfl (pc2 := 4) ?_
    refine wp_al1 jF_144_4 rfl rfl (pc2 := 5) ?_
    refine wp_gr jF_144_5 kd9 (by decide) (c := 2) rfl (m_fv2 hs1 rfl) rfl (pc2 := 8) ?_
    refine wp_al1 jF_144_8 rfl rfl (pc2 := 9) ?_
    refine wp_gr (b := 70) jF_144_9 kd9 (by decide) (c := 170) rfl rfl rfl (pc2 := 12) ?_
    refine wp_al1 jF_144_12 rfl rfl (pc2 := 13) ?_
    refine wp_gr (b := 75) jF_144_13 kd9 (by decide) (c := 175) rfl rfl rfl (pc2 := 16) ?_
    refine wp_cV (as := [.ref 20, .ref 70, .ref 75]) (rest := []) (a := 102) (mx := 5) (ci := 10) jF_144_16 kd102 (by decide) rfl rfl rfl rfl rfl (by omega) (by omega) rfl (pc2 := 19) ?_
    refine wp_use (m_145_r102_20_70_75 σ hg   _ _ (by omega) (by omega)) ?_
    rintro _ τ1 ⟨z4, rfl, h5, g2, f3⟩
    show WP 144 19 [(0, .ref 9)] [iV z4] _ _ _ _
    refine wp_ri jF_144_19 rfl ?_
    exact ⟨z4, rfl, ⟨by omega, by omega⟩, g2, (FR.up FR.rf f3 sb_WY_WXg)⟩
  · skip
    show WP 144 0 [(0, .ref 9)] [] _ _ _ _
    refine wp_al1 jF_144_0 rfl rfl (pc2 := 1) ?_
    refine wp_gr (b := 102) jF_144_1 kd9 (by decide) (c := 202) rfl rfl rfl (pc2 := 4) ?_
    refine wp_al1 jF_144_4 rfl rfl (pc2 := 5) ?_
    refine wp_gr jF_144_5 kd9 (by decide) (c := 2) rfl (m_fv2 hs1 rfl) rfl (pc2 := 8) ?_
    refine wp_al1 jF_144_8 rfl rfl (pc2 := 9) ?_
    refine wp_gr (b := 70) jF_144_9 kd9 (by decide) (c := 170) rfl rfl rfl (pc2 := 12) ?_
    refine wp_al1 jF_144_12 rfl rfl (pc2 := 13) ?_
    refine wp_gr (b := 75) jF_144_13 kd9 (by decide) (c := 175) rfl rfl rfl (pc2 := 16) ?_
    refine wp_cV (as := [.ref 45, .ref 70, .ref 75]) (rest := []) (a := 102) (mx := 5) (ci := 10) jF_144_16 kd102 (by decide) rfl rfl rfl rfl rfl (by omega) (by omega) rfl (pc2 := 19) ?_
    refine wp_use (m_145_r102_45_70_75 σ hg   _ _ (by omega) (by omega)) ?_
    rintro _ τ6 ⟨z9, rfl, h10, g7, f8⟩
    show WP 144 19 [(0, .ref 9)] [iV z9] _ _ _ _
    refine wp_ri jF_144_19 rfl ?_
    exact ⟨z9, rfl, ⟨by omega, by omega⟩, g7, (FR.up FR.rf f8 sb_WY_WXg)⟩
set_option maxHeartbeats 4000000 in
set_option maxRecDepth 20000 in
/-- X.nthCase -/
theorem m_152_r (σ : jM) (hg : GI σ) (cs : Int64) (k : Int) (hl_k : (-2147483648) ≤ k) (hu_k : k ≤ 2147483647)  (fr lo : Nat) (hfr : 1 ≤ fr) (hlo : 22 ≤ lo) : WP 152 0 (lv_args 0 [.long cs, iV k]) [] fr lo σ (fun v τ => ∃ z : Int, v = some (iV z) ∧ ((-1) ≤ z ∧ z ≤ 63) ∧ σ = τ) := by
  show WP 152 0 [(0, .long cs), (2, iV k)] [] _ _ _ _
  refine wp_ic jF_152_0 rfl (pc2 := 1) ?_
  refine wp_is1 (lv2 := [(0, .long cs), (2, iV k), (3, iV 0)]) jF_152_1 rfl rfl rfl (pc2 := 2) ?_
  refine wp_ic jF_152_2 rfl (pc2 := 3) ?_
  refine wp_is2 (lv2 := [(0, .long cs), (2, iV k), (3, iV 0), (4, iV 0)]) jF_152_3 rfl rfl rfl (pc2 := 5) ?_
  refine wp_loop (α := Int × Int) (fun a => [(0, .long cs), (2, iV k), (3, iV (a.1)), (4, iV (a.2))]) (fun a τ => (0 ≤ a.1 ∧ a.1 ≤ 64) ∧ (0 ≤ a.2 ∧ a.2 ≤ 64) ∧ σ = τ ∧ ((a.1) ≤ (a.2))) (fun a τ => Int.toNat (64 - (a.2))) (0, 0) σ ?_ ?_
  · skip
    exact ⟨⟨by (try dsimp only); omega, by (try dsimp only); omega⟩, ⟨by (try dsimp only); omega, by (try dsimp only); omega⟩, rfl, (by (try dsimp only); omega)⟩
  · rintro ⟨x1, x2⟩ _ ⟨h3, h4, rfl, p8⟩ ih9
    try dsimp only at h3 h4 p8
    show WP 152 5 [(0, .long cs), (2, iV k), (3, iV x1), (4, iV x2)] [] _ _ _ _
    show WP 152 5 [(0, .long cs), (2, iV k), (3, iV x1), (4, iV x2)] [] _ _ _ _
    refine wp_il2 jF_152_5 rfl rfl (pc2 := 7) ?_
    refine wp_bi jF_152_7 (by decide) rfl (pc2 := 9) ?_
    refine wp_i_ge jF_152_9 (m_rgb h4 rfl) (m_rgl rfl) rfl (pc2 := 12) ?_ ?_
    · intro h10
      refine wp_ic jF_152_38 rfl (pc2 := 39) ?_
      refine wp_ri jF_152_39 rfl ?_
      exact ⟨(-1), rfl, ⟨by omega, by omega⟩, rfl⟩
    · intro h10
      refine wp_ll1 jF_152_12 rfl rfl (pc2 := 13) ?_
      refine wp_il2 jF_152_13 rfl rfl (pc2 := 15) ?_
      refine wp_cS (as := [.long cs, iV x2]) (rest := []) (mx := 3) jF_152_15 rfl rfl rfl rfl (by omega) (by omega) rfl (pc2 := 18) ?_
      show WP 101 0 [(0, .long cs), (2, iV x2)] [] _ _ _ _
      refine wp_ll1 jF_101_0 rfl rfl (pc2 := 1) ?_
      refine wp_il1 jF_101_1 rfl rfl (pc2 := 2) ?_
      refine wp_lng (pc2 := 3) jF_101_2 rfl rfl ?_
      intro y11
      refine wp_lc jF_101_3 rfl (pc2 := 4) ?_
      refine wp_lng (pc2 := 5) jF_101_4 rfl rfl ?_
      intro y12
      refine wp_lc jF_101_5 rfl (pc2 := 6) ?_
      refine wp_anyL (pc2 := 7) jF_101_6 rfl rfl ?_
      intro z13 h14
      refine wp_z_eq jF_101_7 (m_rgb h14 rfl) rfl (pc2 := 10) ?_ ?_
      · intro h15
        refine wp_ic jF_101_14 rfl (pc2 := 15) ?_
        refine wp_ri jF_101_15 rfl ?_
        show WP 152 18 [(0, .long cs), (2, iV k), (3, iV x1), (4, iV x2)] [iV 0] _ _ _ _
        refine wp_z_eq jF_152_18 (m_rgl rfl) rfl (pc2 := 21) ?_ ?_
        · intro h16
          refine wp_inc (lv2 := [(0, .long cs), (2, iV k), (3, iV x1), (4, iV (x2 + 1))]) jF_152_32 rfl rfl rfl rfl (pc2 := 35) ?_
          refine wp_go jF_152_35 ?_
          exact ih9 (x1, (x2 + 1)) σ ⟨⟨by (try dsimp only); omega, by (try dsimp only); omega⟩, ⟨by (try dsimp only); omega, by (try dsimp only); omega⟩, rfl, (by (try dsimp only); omega)⟩ (by show Int.toNat (64 - (x2 + 1)) < Int.toNat (64 - x2); omega)
        · intro h16; exfalso; omega
      · intro h15
        refine wp_ic jF_101_10 rfl (pc2 := 11) ?_
        refine wp_go jF_101_11 ?_
        refine wp_ri jF_101_15 rfl ?_
        show WP 152 18 [(0, .long cs), (2, iV k), (3, iV x1), (4, iV x2)] [iV 1] _ _ _ _
        refine wp_z_eq jF_152_18 (m_rgl rfl) rfl (pc2 := 21) ?_ ?_
        · intro h17; exfalso; omega
        · intro h17
          refine wp_il1 jF_152_21 rfl rfl (pc2 := 22) ?_
          refine wp_il1 jF_152_22 rfl rfl (pc2 := 23) ?_
          refine wp_i_ne jF_152_23 (m_rgb h3 rfl) ⟨by omega, by omega⟩ rfl (pc2 := 26) ?_ ?_
          · intro h18
            refine wp_inc (lv2 := [(0, .long cs), (2, iV k), (3, iV (x1 + 1)), (4, iV x2)]) jF_152_29 rfl rfl rfl rfl (pc2 := 32) ?_
            refine wp_inc (lv2 := [(0, .long cs), (2, iV k), (3, iV (x1 + 1)), (4, iV (x2 + 1))]) jF_152_32 rfl rfl rfl rfl (pc2 := 35) ?_
            refine wp_go jF_152_35 ?_
            exact ih9 ((x1 + 1), (x2 + 1)) σ ⟨⟨by (try dsimp only); omega, by (try dsimp only); omega⟩, ⟨by (try dsimp only); omega, by (try dsimp only); omega⟩, rfl, (by (try dsimp only); omega)⟩ (by show Int.toNat (64 - (x2 + 1)) < Int.toNat (64 - x2); omega)
          · intro h18
            refine wp_il2 jF_152_26 rfl rfl (pc2 := 28) ?_
            refine wp_ri jF_152_28 rfl ?_
            exact ⟨x2, rfl, ⟨by omega, by omega⟩, rfl⟩
set_option maxHeartbeats 4000000 in
set_option maxRecDepth 20000 in
/-- X.hole -/
theorem m_151_r9 (σ : jM) (hg : GI σ) (fw : Int) (hl_fw : 0 ≤ fw) (hu_fw : fw ≤ 1) (k : Int) (hl_k : (-2147483648) ≤ k) (hu_k : k ≤ 2147483647)  (fr lo : Nat) (hfr : 2 ≤ fr) (hlo : 46 ≤ lo) : WP 151 0 (lv_args 0 [.ref 9, iV fw, iV k]) [] fr lo σ (fun v τ => ∃ z : Int, v = some (iV z) ∧ ((-2147483648) ≤ z ∧ z ≤ 2147483647) ∧ σ = τ) := by
  show WP 151 0 [(0, .ref 9), (1, iV fw), (2, iV k)] [] _ _ _ _
  refine wp_il1 jF_151_0 rfl rfl (pc2 := 1) ?_
  refine wp_z_eq jF_151_1 ⟨by omega, by omega⟩ rfl (pc2 := 4) ?_ ?_
  · intro h1
    refine wp_al1 jF_151_26 rfl rfl (pc2 := 27) ?_
    refine wp_gr (b := 70) jF_151_27 kd9 (by decide) (c := 170) rfl rfl rfl (pc2 := 30) ?_
    refine wp_glA jF_151_30 kd70 (by decide) rfl rfl (pc2 := 33) ?_
    intro y2
    refine wp_al1 jF_151_33 rfl rfl (pc2 := 34) ?_
    refine wp_gr (b := 75) jF_151_34 kd9 (by decide) (c := 175) rfl rfl rfl (pc2 := 37) ?_
    refine wp_glA jF_151_37 kd75 (by decide) rfl rfl (pc2 := 40) ?_
    intro y3
    refine wp_ld jF_151_40 rfl (pc2 := 43) ?_
    refine wp_lng (pc2 := 44) jF_151_43 rfl rfl ?_
    intro y4
    refine wp_lng (pc2 := 45) jF_151_44 rfl rfl ?_
    intro y5
    refine wp_ls1 (lv2 := [(0, .ref 9), (1, iV fw), (2, iV k), (3, .long y5)]) jF_151_45 rfl rfl rfl (pc2 := 46) ?_
    refine wp_ll1 jF_151_46 rfl rfl (pc2 := 47) ?_
    refine wp_il1 jF_151_47 rfl rfl (pc2 := 48) ?_
    refine wp_cS (as := [.long y5, iV k]) (rest := []) (mx := 5) jF_151_48 rfl rfl rfl rfl (by omega) (by omega) rfl (pc2 := 51) ?_
    refine wp_use (m_152_r σ hg y5 k (by omega) (by omega)  _ _ (by omega) (by omega)) ?_
    rintro _ _ ⟨z8, rfl, h9, rfl⟩
    show WP 151 51 [(0, .ref 9), (1, iV fw), (2, iV k), (3, .long y5)] [iV z8] _ _ _ _
    refine wp_ri jF_151_51 rfl ?_
    exact ⟨z8, rfl, ⟨by omega, by omega⟩, rfl⟩
  · intro h1
    refine wp_al1 jF_151_4 rfl rfl (pc2 := 5) ?_
    refine wp_gr (b := 75) jF_151_5 kd9 (by decide) (c := 175) rfl rfl rfl (pc2 := 8) ?_
    refine wp_glA jF_151_8 kd75 (by decide) rfl rfl (pc2 := 11) ?_
    intro y10
    refine wp_al1 jF_151_11 rfl rfl (pc2 := 12) ?_
    refine wp_gr (b := 70) jF_151_12 kd9 (by decide) (c := 170) rfl rfl rfl (pc2 := 15) ?_
    refine wp_glA jF_151_15 kd70 (by decide) rfl rfl (pc2 := 18) ?_
    intro y11
    refine wp_ld jF_151_18 rfl (pc2 := 21) ?_
    refine wp_lng (pc2 := 22) jF_151_21 rfl rfl ?_
    intro y12
    refine wp_lng (pc2 := 23) jF_151_22 rfl rfl ?_
    intro y13
    refine wp_go jF_151_23 ?_
    refine wp_ls1 (lv2 := [(0, .ref 9), (1, iV fw), (2, iV k), (3, .long y13)]) jF_151_45 rfl rfl rfl (pc2 := 46) ?_
    refine wp_ll1 jF_151_46 rfl rfl (pc2 := 47) ?_
    refine wp_il1 jF_151_47 rfl rfl (pc2 := 48) ?_
    refine wp_cS (as := [.long y13, iV k]) (rest := []) (mx := 5) jF_151_48 rfl rfl rfl rfl (by omega) (by omega) rfl (pc2 := 51) ?_
    refine wp_use (m_152_r σ hg y13 k (by omega) (by omega)  _ _ (by omega) (by omega)) ?_
    rintro _ _ ⟨z16, rfl, h17, rfl⟩
    show WP 151 51 [(0, .ref 9), (1, iV fw), (2, iV k), (3, .long y13)] [iV z16] _ _ _ _
    refine wp_ri jF_151_51 rfl ?_
    exact ⟨z16, rfl, ⟨by omega, by omega⟩, rfl⟩
set_option maxHeartbeats 4000000 in
set_option maxRecDepth 20000 in
/-- X.parts -/
theorem m_153_r9 (σ : jM) (hg : GI σ)   (fr lo : Nat) (hfr : 2 ≤ fr) (hlo : 46 ≤ lo) : WP 153 0 (lv_args 0 [.ref 9]) [] fr lo σ (fun v τ => ∃ z : Int, v = some (iV z) ∧ ((-2147483648) ≤ z ∧ z ≤ 2147483647) ∧ σ = τ) := by
  show WP 153 0 [(0, .ref 9)] [] _ _ _ _
  refine wp_al1 jF_153_0 rfl rfl (pc2 := 1) ?_
  refine wp_gr (b := 70) jF_153_1 kd9 (by decide) (c := 170) rfl rfl rfl (pc2 := 4) ?_
  refine wp_glA jF_153_4 kd70 (by decide) rfl rfl (pc2 := 7) ?_
  intro y1
  refine wp_al1 jF_153_7 rfl rfl (pc2 := 8) ?_
  refine wp_gr (b := 75) jF_153_8 kd9 (by decide) (c := 175) rfl rfl rfl (pc2 := 11) ?_
  refine wp_glA jF_153_11 kd75 (by decide) rfl rfl (pc2 := 14) ?_
  intro y2
  refine wp_lng (pc2 := 15) jF_153_14 rfl rfl ?_
  intro y3
  refine wp_ic jF_153_15 rfl (pc2 := 16) ?_
  refine wp_cS (as := [.long y3, iV 0]) (rest := []) (mx := 5) jF_153_16 rfl rfl rfl rfl (by omega) (by omega) rfl (pc2 := 19) ?_
  refine wp_use (m_152_r σ hg y3 0 (by omega) (by omega)  _ _ (by omega) (by omega)) ?_
  rintro _ _ ⟨z6, rfl, h7, rfl⟩
  show WP 153 19 [(0, .ref 9)] [iV z6] _ _ _ _
  refine wp_ri jF_153_19 rfl ?_
  exact ⟨z6, rfl, ⟨by omega, by omega⟩, rfl⟩
set_option maxHeartbeats 4000000 in
set_option maxRecDepth 20000 in
/-- X.worth -/
theorem m_154_r9 (σ : jM) (hg : GI σ) (other : Int) (hl_other : 0 ≤ other) (hu_other : other ≤ 1) (party : Int) (hl_party : (-2147483648) ≤ party) (hu_party : party ≤ 2147483647) (hsp : SPK σ)  (fr lo : Nat) (hfr : 3 ≤ fr) (hlo : 71 ≤ lo) : WP 154 0 (lv_args 0 [.ref 9, iV other, iV party]) [] fr lo σ (fun v τ => ∃ z : Int, v = some (iV z) ∧ ((-2147483648) ≤ z ∧ z ≤ 2147483647) ∧ σ = τ) := by
  rcases hsp with ⟨hs1, hs2⟩ | ⟨hs1, hs2⟩
  · skip
    show WP 154 0 [(0, .ref 9), (1, iV other), (2, iV party)] [] _ _ _ _
    refine wp_il1 jF_154_0 rfl rfl (pc2 := 1) ?_
    refine wp_z_eq jF_154_1 ⟨by omega, by omega⟩ rfl (pc2 := 4) ?_ ?_
    · intro h1
      refine wp_al1 jF_154_11 rfl rfl (pc2 := 12) ?_
      refine wp_gr (b := 70) jF_154_12 kd9 (by decide) (c := 170) rfl rfl rfl (pc2 := 15) ?_
      refine wp_as1 (lv2 := [(0, .ref 9), (1, iV other), (2, iV party), (3, .ref 70)]) jF_154_15 rfl rfl rfl (pc2 := 16) ?_
      refine wp_al1 jF_154_16 rfl rfl (pc2 := 17) ?_
      refine wp_gr jF_154_17 kd9 (by decide) (c := 2) rfl (m_fv2 hs1 rfl) rfl (pc2 := 20) ?_
      refine wp_il1 jF_154_20 rfl rfl (pc2 := 21) ?_
      refine wp_al1 jF_154_21 rfl rfl (pc2 := 22) ?_
      refine wp_glA jF_154_22 kd70 (by decide) rfl rfl (pc2 := 25) ?_
      intro y2
      refine wp_cV (as := [iV party, .long y2]) (rest := []) (a := 20) (mx := 6) (ci := 8) jF_154_25 kd20 (by decide) rfl rfl rfl rfl rfl (by omega) (by omega) rfl (pc2 := 28) ?_
      refine wp_use (m_155_r20 σ hg party (by omega) (by omega) y2  _ _ (by omega) (by omega)) ?_
      rintro _ _ ⟨z5, rfl, h6, rfl⟩
      show WP 154 28 [(0, .ref 9), (1, iV other), (2, iV party), (3, .ref 70)] [iV z5] _ _ _ _
      refine wp_ri jF_154_28 rfl ?_
      exact ⟨z5, rfl, ⟨by omega, by omega⟩, rfl⟩
    · intro h1
      refine wp_al1 jF_154_4 rfl rfl (pc2 := 5) ?_
      refine wp_gr (b := 75) jF_154_5 kd9 (by decide) (c := 175) rfl rfl rfl (pc2 := 8) ?_
      refine wp_go jF_154_8 ?_
      refine wp_as1 (lv2 := [(0, .ref 9), (1, iV other), (2, iV party), (3, .ref 75)]) jF_154_15 rfl rfl rfl (pc2 := 16) ?_
      refine wp_al1 jF_154_16 rfl rfl (pc2 := 17) ?_
      refine wp_gr jF_154_17 kd9 (by decide) (c := 2) rfl (m_fv2 hs1 rfl) rfl (pc2 := 20) ?_
      refine wp_il1 jF_154_20 rfl rfl (pc2 := 21) ?_
      refine wp_al1 jF_154_21 rfl rfl (pc2 := 22) ?_
      refine wp_glA jF_154_22 kd75 (by decide) rfl rfl (pc2 := 25) ?_
      intro y7
      refine wp_cV (as := [iV party, .long y7]) (rest := []) (a := 20) (mx := 6) (ci := 8) jF_154_25 kd20 (by decide) rfl rfl rfl rfl rfl (by omega) (by omega) rfl (pc2 := 28) ?_
      refine wp_use (m_155_r20 σ hg party (by omega) (by omega) y7  _ _ (by omega) (by omega)) ?_
      rintro _ _ ⟨z10, rfl, h11, rfl⟩
      show WP 154 28 [(0, .ref 9), (1, iV other), (2, iV party), (3, .ref 75)] [iV z10] _ _ _ _
      refine wp_ri jF_154_28 rfl ?_
      exact ⟨z10, rfl, ⟨by omega, by omega⟩, rfl⟩
  · skip
    show WP 154 0 [(0, .ref 9), (1, iV other), (2, iV party)] [] _ _ _ _
    refine wp_il1 jF_154_0 rfl rfl (pc2 := 1) ?_
    refine wp_z_eq jF_154_1 ⟨by omega, by omega⟩ rfl (pc2 := 4) ?_ ?_
    · intro h12
      refine wp_al1 jF_154_11 rfl rfl (pc2 := 12) ?_
      refine wp_gr (b := 70) jF_154_12 kd9 (by decide) (c := 170) rfl rfl rfl (pc2 := 15) ?_
      refine wp_as1 (lv2 := [(0, .ref 9), (1, iV other), (2, iV party), (3, .ref 70)]) jF_154_15 rfl rfl rfl (pc2 := 16) ?_
      refine wp_al1 jF_154_16 rfl rfl (pc2 := 17) ?_
      refine wp_gr jF_154_17 kd9 (by decide) (c := 2) rfl (m_fv2 hs1 rfl) rfl (pc2 := 20) ?_
      refine wp_il1 jF_154_20 rfl rfl (pc2 := 21) ?_
      refine wp_al1 jF_154_21 rfl rfl (pc2 := 22) ?_
      refine wp_glA jF_154_22 kd70 (by decide) rfl rfl (pc2 := 25) ?_
      intro y13
      refine wp_cV (as := [iV party, .long y13]) (rest := []) (a := 45) (mx := 6) (ci := 8) jF_154_25 kd45 (by decide) rfl rfl rfl rfl rfl (by omega) (by omega) rfl (pc2 := 28) ?_
      refine wp_use (m_155_r45 σ hg party (by omega) (by omega) y13  _ _ (by omega) (by omega)) ?_
      rintro _ _ ⟨z16, rfl, h17, rfl⟩
      show WP 154 28 [(0, .ref 9), (1, iV other), (2, iV party), (3, .ref 70)] [iV z16] _ _ _ _
      refine wp_ri jF_154_28 rfl ?_
      exact ⟨z16, rfl, ⟨by omega, by omega⟩, rfl⟩
    · intro h12
      refine wp_al1 jF_154_4 rfl rfl (pc2 := 5) ?_
      refine wp_gr (b := 75) jF_154_5 kd9 (by decide) (c := 175) rfl rfl rfl (pc2 := 8) ?_
      refine wp_go jF_154_8 ?_
      refine wp_as1 (lv2 := [(0, .ref 9), (1, iV other), (2, iV party), (3, .ref 75)]) jF_154_15 rfl rfl rfl (pc2 := 16) ?_
      refine wp_al1 jF_154_16 rfl rfl (pc2 := 17) ?_
      refine wp_gr jF_154_17 kd9 (by decide) (c := 2) rfl (m_fv2 hs1 rfl) rfl (pc2 := 20) ?_
      refine wp_il1 jF_154_20 rfl rfl (pc2 := 21) ?_
      refine wp_al1 jF_154_21 rfl rfl (pc2 := 22) ?_
      refine wp_glA jF_154_22 kd75 (by decide) rfl rfl (pc2 := 25) ?_
      intro y18
      refine wp_cV (as := [iV party, .long y18]) (rest := []) (a := 45) (mx := 6) (ci := 8) jF_154_25 kd45 (by decide) rfl rfl rfl rfl rfl (by omega) (by omega) rfl (pc2 := 28) ?_
      refine wp_use (m_155_r45 σ hg party (by omega) (by omega) y18  _ _ (by omega) (by omega)) ?_
      rintro _ _ ⟨z21, rfl, h22, rfl⟩
      show WP 154 28 [(0, .ref 9), (1, iV other), (2, iV party), (3, .ref 75)] [iV z21] _ _ _ _
      refine wp_ri jF_154_28 rfl ?_
      exact ⟨z21, rfl, ⟨by omega, by omega⟩, rfl⟩
set_option maxHeartbeats 4000000 in
set_option maxRecDepth 20000 in
/-- X.votes -/
theorem m_157_r9 (σ : jM) (hg : GI σ) (yes : Int) (hl_yes : 0 ≤ yes) (hu_yes : yes ≤ 1) (hsp : SPK σ)  (fr lo : Nat) (hfr : 4 ≤ fr) (hlo : 99 ≤ lo) : WP 157 0 (lv_args 0 [.ref 9, iV yes]) [] fr lo σ (fun v τ => ∃ z : Int, v = some (iV z) ∧ ((-2147483648) ≤ z ∧ z ≤ 2147483647) ∧ GI τ ∧ FR WXg σ τ) := by
  rcases hsp with ⟨hs1, hs2⟩ | ⟨hs1, hs2⟩
  · skip
    show WP 157 0 [(0, .ref 9), (1, iV yes)] [] _ _ _ _
    refine wp_al1 jF_157_0 rfl rfl (pc2 := 1) ?_
    refine wp_gr jF_157_1 kd9 (by decide) (c := 2) rfl (m_fv2 hs1 rfl) rfl (pc2 := 4) ?_
    refine wp_al1 jF_157_4 rfl rfl (pc2 := 5) ?_
    refine wp_gr (b := 70) jF_157_5 kd9 (by decide) (c := 170) rfl rfl rfl (pc2 := 8) ?_
    refine wp_glA jF_157_8 kd70 (by decide) rfl rfl (pc2 := 11) ?_
    intro y1
    refine wp_al1 jF_157_11 rfl rfl (pc2 := 12) ?_
    refine wp_gr (b := 75) jF_157_12 kd9 (by decide) (c := 175) rfl rfl rfl (pc2 := 15) ?_
    refine wp_glA jF_157_15 kd75 (by decide) rfl rfl (pc2 := 18) ?_
    intro y2
    refine wp_il1 jF_157_18 rfl rfl (pc2 := 19) ?_
    refine wp_cV (as := [.long y1, .long y2, iV yes]) (rest := []) (a := 20) (mx := 8) (ci := 8) jF_157_19 kd20 (by decide) rfl rfl rfl rfl rfl (by omega) (by omega) rfl (pc2 := 22) ?_
    refine wp_use (m_158_r20 σ hg y1 y2 yes (by omega) (by omega)  _ _ (by omega) (by omega)) ?_
    rintro _ τ3 ⟨z6, rfl, h7, g4, f5⟩
    show WP 157 22 [(0, .ref 9), (1, iV yes)] [iV z6] _ _ _ _
    refine wp_ri jF_157_22 rfl ?_
    exact ⟨z6, rfl, ⟨by omega, by omega⟩, g4, (FR.up FR.rf f5 sb_Wc25_WXg)⟩
  · skip
    show WP 157 0 [(0, .ref 9), (1, iV yes)] [] _ _ _ _
    refine wp_al1 jF_157_0 rfl rfl (pc2 := 1) ?_
    refine wp_gr jF_157_1 kd9 (by decide) (c := 2) rfl (m_fv2 hs1 rfl) rfl (pc2 := 4) ?_
    refine wp_al1 jF_157_4 rfl rfl (pc2 := 5) ?_
    refine wp_gr (b := 70) jF_157_5 kd9 (by decide) (c := 170) rfl rfl rfl (pc2 := 8) ?_
    refine wp_glA jF_157_8 kd70 (by decide) rfl rfl (pc2 := 11) ?_
    intro y8
    refine wp_al1 jF_157_11 rfl rfl (pc2 := 12) ?_
    refine wp_gr (b := 75) jF_157_12 kd9 (by decide) (c := 175) rfl rfl rfl (pc2 := 15) ?_
    refine wp_glA jF_157_15 kd75 (by decide) rfl rfl (pc2 := 18) ?_
    intro y9
    refine wp_il1 jF_157_18 rfl rfl (pc2 := 19) ?_
    refine wp_cV (as := [.long y8, .long y9, iV yes]) (rest := []) (a := 45) (mx := 8) (ci := 8) jF_157_19 kd45 (by decide) rfl rfl rfl rfl rfl (by omega) (by omega) rfl (pc2 := 22) ?_
    refine wp_use (m_158_r45 σ hg y8 y9 yes (by omega) (by omega)  _ _ (by omega) (by omega)) ?_
    rintro _ τ10 ⟨z13, rfl, h14, g11, f12⟩
    show WP 157 22 [(0, .ref 9), (1, iV yes)] [iV z13] _ _ _ _
    refine wp_ri jF_157_22 rfl ?_
    exact ⟨z13, rfl, ⟨by omega, by omega⟩, g11, (FR.up FR.rf f12 sb_Wc50_WXg)⟩
set_option maxHeartbeats 4000000 in
set_option maxRecDepth 20000 in
/-- X.findsVoted -/
theorem m_161_r9 (σ : jM) (hg : GI σ)  (hsp : SPK σ)  (fr lo : Nat) (hfr : 5 ≤ fr) (hlo : 151 ≤ lo) : WP 161 0 (lv_args 0 [.ref 9]) [] fr lo σ (fun v τ => ∃ z : Int, v = some (iV z) ∧ (0 ≤ z ∧ z ≤ 1) ∧ GI τ ∧ FR WXg σ τ) := by
  rcases hsp with ⟨hs1, hs2⟩ | ⟨hs1, hs2⟩
  · skip
    show WP 161 0 [(0, .ref 9)] [] _ _ _ _
    refine wp_al1 jF_161_0 rfl rfl (pc2 := 1) ?_
    refine wp_gr (b := 70) jF_161_1 kd9 (by decide) (c := 170) rfl rfl rfl (pc2 := 4) ?_
    have b1 := GI.b hg 70 1 kd70 (lo := 0) (hi := 60) rfl
    refine wp_gi jF_161_4 kd70 (by decide) rfl rfl rfl (pc2 := 7) ?_
    refine wp_ic jF_161_7 rfl (pc2 := 8) ?_
    refine wp_add jF_161_8 rfl (pc2 := 9) ?_
    refine wp_bi jF_161_9 (by decide) rfl (pc2 := 11) ?_
    refine wp_mul jF_161_11 rfl (pc2 := 12) ?_
    refine wp_is1 (lv2 := [(0, .ref 9), (1, iV (((σ.1 70 1) + 1) * 47))]) jF_161_12 rfl rfl rfl (pc2 := 13) ?_
    refine wp_ic jF_161_13 rfl (pc2 := 14) ?_
    refine wp_is1 (lv2 := [(0, .ref 9), (1, iV (((σ.1 70 1) + 1) * 47)), (2, iV 0)]) jF_161_14 rfl rfl rfl (pc2 := 15) ?_
    refine wp_loop (α := Int) (fun a => [(0, .ref 9), (1, iV (((σ.1 70 1) + 1) * 47)), (2, iV (a))]) (fun a τ => (0 ≤ a ∧ a ≤ 2867) ∧ GI τ ∧ FR WXg σ τ) (fun a τ => Int.toNat (2867 - (a))) (0) σ ?_ ?_
    · skip
      exact ⟨⟨by omega, by omega⟩, hg, FR.rf⟩
    · rintro x2 τ4 ⟨h3, g5, f6⟩ ih7
      show WP 161 15 [(0, .ref 9), (1, iV (((σ.1 70 1) + 1) * 47)), (2, iV x2)] [] _ _ _ _
      show WP 161 15 [(0, .ref 9), (1, iV (((σ.1 70 1) + 1) * 47)), (2, iV x2)] [] _ _ _ _
      refine wp_il1 jF_161_15 rfl rfl (pc2 := 16) ?_
      refine wp_il1 jF_161_16 rfl rfl (pc2 := 17) ?_
      refine wp_i_ge jF_161_17 (m_rgb h3 rfl) ⟨by omega, by omega⟩ rfl (pc2 := 20) ?_ ?_
      · intro h8
        refine wp_ic jF_161_60 rfl (pc2 := 61) ?_
        refine wp_ri jF_161_61 rfl ?_
        exact ⟨0, rfl, ⟨by omega, by omega⟩, g5, f6⟩
      · intro h8
        refine wp_al1 jF_161_20 rfl rfl (pc2 := 21) ?_
        refine wp_il1 jF_161_21 rfl rfl (pc2 := 22) ?_
        refine wp_cV (as := [iV x2]) (rest := []) (a := 9) (mx := 2) (ci := 11) jF_161_22 kd9 (by decide) rfl rfl rfl rfl rfl (by omega) (by omega) rfl (pc2 := 25) ?_
        refine wp_use (m_117_r9 τ4 g5 x2 (by omega) (by omega) (Or.inl ⟨((FR.ar f6 9 4 rfl).trans hs1), ((FR.ar f6 9 5 rfl).trans hs2)⟩)  _ _ (by omega) (by omega)) ?_
        rintro _ τ9 ⟨z12, rfl, h13, g10, f11⟩
        show WP 161 25 [(0, .ref 9), (1, iV (((σ.1 70 1) + 1) * 47)), (2, iV x2)] [iV z12] _ _ _ _
        refine wp_z_eq jF_161_25 (m_rgb h13 rfl) rfl (pc2 := 28) ?_ ?_
        · intro h14
          refine wp_inc (lv2 := [(0, .ref 9), (1, iV (((σ.1 70 1) + 1) * 47)), (2, iV (x2 + 1))]) jF_161_54 rfl rfl rfl rfl (pc2 := 57) ?_
          refine wp_go jF_161_57 ?_
          exact ih7 ((x2 + 1)) τ9 ⟨⟨by omega, by omega⟩, g10, (FR.up f6 f11 sb_WXg_WXg)⟩ (by show Int.toNat (2867 - (x2 + 1)) < Int.toNat (2867 - x2); omega)
        · intro h14
          refine wp_al1 jF_161_28 rfl rfl (pc2 := 29) ?_
          refine wp_gr jF_161_29 kd9 (by decide) (c := 2) rfl (m_fv2 ((FR.ar f11 9 4 rfl).trans ((FR.ar f6 9 4 rfl).trans hs1)) rfl) rfl (pc2 := 32) ?_
          refine wp_al1 jF_161_32 rfl rfl (pc2 := 33) ?_
          refine wp_gr (b := 70) jF_161_33 kd9 (by decide) (c := 170) rfl rfl rfl (pc2 := 36) ?_
          refine wp_glA jF_161_36 kd70 (by decide) rfl rfl (pc2 := 39) ?_
          intro y15
          refine wp_al1 jF_161_39 rfl rfl (pc2 := 40) ?_
          refine wp_gr (b := 80) jF_161_40 kd9 (by decide) (c := 180) rfl rfl rfl (pc2 := 43) ?_
          refine wp_glA jF_161_43 kd80 (by decide) rfl rfl (pc2 := 46) ?_
          intro y16
          refine wp_cV (as := [.long y15, .long y16]) (rest := []) (a := 20) (mx := 7) (ci := 8) jF_161_46 kd20 (by decide) rfl rfl rfl rfl rfl (by omega) (by omega) rfl (pc2 := 49) ?_
          refine wp_use (m_162_r20 τ9 g10 y15 y16  _ _ (by omega) (by omega)) ?_
          rintro _ τ17 ⟨z20, rfl, h21, g18, f19⟩
          show WP 161 49 [(0, .ref 9), (1, iV (((σ.1 70 1) + 1) * 47)), (2, iV x2)] [iV z20] _ _ _ _
          refine wp_z_eq jF_161_49 (m_rgb h21 rfl) rfl (pc2 := 52) ?_ ?_
          · intro h22
            refine wp_inc (lv2 := [(0, .ref 9), (1, iV (((σ.1 70 1) + 1) * 47)), (2, iV (x2 + 1))]) jF_161_54 rfl rfl rfl rfl (pc2 := 57) ?_
            refine wp_go jF_161_57 ?_
            exact ih7 ((x2 + 1)) τ17 ⟨⟨by omega, by omega⟩, g18, (FR.up (FR.up f6 f11 sb_WXg_WXg) f19 sb_Wc25_WXg)⟩ (by show Int.toNat (2867 - (x2 + 1)) < Int.toNat (2867 - x2); omega)
          · intro h22
            refine wp_ic jF_161_52 rfl (pc2 := 53) ?_
            refine wp_ri jF_161_53 rfl ?_
            exact ⟨1, rfl, ⟨by omega, by omega⟩, g18, (FR.up (FR.up f6 f11 sb_WXg_WXg) f19 sb_Wc25_WXg)⟩
  · skip
    show WP 161 0 [(0, .ref 9)] [] _ _ _ _
    refine wp_al1 jF_161_0 rfl rfl (pc2 := 1) ?_
    refine wp_gr (b := 70) jF_161_1 kd9 (by decide) (c := 170) rfl rfl rfl (pc2 := 4) ?_
    have b23 := GI.b hg 70 1 kd70 (lo := 0) (hi := 60) rfl
    refine wp_gi jF_161_4 kd70 (by decide) rfl rfl rfl (pc2 := 7) ?_
    refine wp_ic jF_161_7 rfl (pc2 := 8) ?_
    refine wp_add jF_161_8 rfl (pc2 := 9) ?_
    refine wp_bi jF_161_9 (by decide) rfl (pc2 := 11) ?_
    refine wp_mul jF_161_11 rfl (pc2 := 12) ?_
    refine wp_is1 (lv2 := [(0, .ref 9), (1, iV (((σ.1 70 1) + 1) * 47))]) jF_161_12 rfl rfl rfl (pc2 := 13) ?_
    refine wp_ic jF_161_13 rfl (pc2 := 14) ?_
    refine wp_is1 (lv2 := [(0, .ref 9), (1, iV (((σ.1 70 1) + 1) * 47)), (2, iV 0)]) jF_161_14 rfl rfl rfl (pc2 := 15) ?_
    refine wp_loop (α := Int) (fun a => [(0, .ref 9), (1, iV (((σ.1 70 1) + 1) * 47)), (2, iV (a))]) (fun a τ => (0 ≤ a ∧ a ≤ 2867) ∧ GI τ ∧ FR WXg σ τ) (fun a τ => Int.toNat (2867 - (a))) (0) σ ?_ ?_
    · skip
      exact ⟨⟨by omega, by omega⟩, hg, FR.rf⟩
    · rintro x24 τ26 ⟨h25, g27, f28⟩ ih29
      show WP 161 15 [(0, .ref 9), (1, iV (((σ.1 70 1) + 1) * 47)), (2, iV x24)] [] _ _ _ _
      show WP 161 15 [(0, .ref 9), (1, iV (((σ.1 70 1) + 1) * 47)), (2, iV x24)] [] _ _ _ _
      refine wp_il1 jF_161_15 rfl rfl (pc2 := 16) ?_
      refine wp_il1 jF_161_16 rfl rfl (pc2 := 17) ?_
      refine wp_i_ge jF_161_17 (m_rgb h25 rfl) ⟨by omega, by omega⟩ rfl (pc2 := 20) ?_ ?_
      · intro h30
        refine wp_ic jF_161_60 rfl (pc2 := 61) ?_
        refine wp_ri jF_161_61 rfl ?_
        exact ⟨0, rfl, ⟨by omega, by omega⟩, g27, f28⟩
      · intro h30
        refine wp_al1 jF_161_20 rfl rfl (pc2 := 21) ?_
        refine wp_il1 jF_161_21 rfl rfl (pc2 := 22) ?_
        refine wp_cV (as := [iV x24]) (rest := []) (a := 9) (mx := 2) (ci := 11) jF_161_22 kd9 (by decide) rfl rfl rfl rfl rfl (by omega) (by omega) rfl (pc2 := 25) ?_
        refine wp_use (m_117_r9 τ26 g27 x24 (by omega) (by omega) (Or.inr ⟨((FR.ar f28 9 4 rfl).trans hs1), ((FR.ar f28 9 5 rfl).trans hs2)⟩)  _ _ (by omega) (by omega)) ?_
        rintro _ τ31 ⟨z34, rfl, h35, g32, f33⟩
        show WP 161 25 [(0, .ref 9), (1, iV (((σ.1 70 1) + 1) * 47)), (2, iV x24)] [iV z34] _ _ _ _
        refine wp_z_eq jF_161_25 (m_rgb h35 rfl) rfl (pc2 := 28) ?_ ?_
        · intro h36
          refine wp_inc (lv2 := [(0, .ref 9), (1, iV (((σ.1 70 1) + 1) * 47)), (2, iV (x24 + 1))]) jF_161_54 rfl rfl rfl rfl (pc2 := 57) ?_
          refine wp_go jF_161_57 ?_
          exact ih29 ((x24 + 1)) τ31 ⟨⟨by omega, by omega⟩, g32, (FR.up f28 f33 sb_WXg_WXg)⟩ (by show Int.toNat (2867 - (x24 + 1)) < Int.toNat (2867 - x24); omega)
        · intro h36
          refine wp_al1 jF_161_28 rfl rfl (pc2 := 29) ?_
          refine wp_gr jF_161_29 kd9 (by decide) (c := 2) rfl (m_fv2 ((FR.ar f33 9 4 rfl).trans ((FR.ar f28 9 4 rfl).trans hs1)) rfl) rfl (pc2 := 32) ?_
          refine wp_al1 jF_161_32 rfl rfl (pc2 := 33) ?_
          refine wp_gr (b := 70) jF_161_33 kd9 (by decide) (c := 170) rfl rfl rfl (pc2 := 36) ?_
          refine wp_glA jF_161_36 kd70 (by decide) rfl rfl (pc2 := 39) ?_
          intro y37
          refine wp_al1 jF_161_39 rfl rfl (pc2 := 40) ?_
          refine wp_gr (b := 80) jF_161_40 kd9 (by decide) (c := 180) rfl rfl rfl (pc2 := 43) ?_
          refine wp_glA jF_161_43 kd80 (by decide) rfl rfl (pc2 := 46) ?_
          intro y38
          refine wp_cV (as := [.long y37, .long y38]) (rest := []) (a := 45) (mx := 7) (ci := 8) jF_161_46 kd45 (by decide) rfl rfl rfl rfl rfl (by omega) (by omega) rfl (pc2 := 49) ?_
          refine wp_use (m_162_r45 τ31 g32 y37 y38  _ _ (by omega) (by omega)) ?_
          rintro _ τ39 ⟨z42, rfl, h43, g40, f41⟩
          show WP 161 49 [(0, .ref 9), (1, iV (((σ.1 70 1) + 1) * 47)), (2, iV x24)] [iV z42] _ _ _ _
          refine wp_z_eq jF_161_49 (m_rgb h43 rfl) rfl (pc2 := 52) ?_ ?_
          · intro h44
            refine wp_inc (lv2 := [(0, .ref 9), (1, iV (((σ.1 70 1) + 1) * 47)), (2, iV (x24 + 1))]) jF_161_54 rfl rfl rfl rfl (pc2 := 57) ?_
            refine wp_go jF_161_57 ?_
            exact ih29 ((x24 + 1)) τ39 ⟨⟨by omega, by omega⟩, g40, (FR.up (FR.up f28 f33 sb_WXg_WXg) f41 sb_Wc50_WXg)⟩ (by show Int.toNat (2867 - (x24 + 1)) < Int.toNat (2867 - x24); omega)
          · intro h44
            refine wp_ic jF_161_52 rfl (pc2 := 53) ?_
            refine wp_ri jF_161_53 rfl ?_
            exact ⟨1, rfl, ⟨by omega, by omega⟩, g40, (FR.up (FR.up f28 f33 sb_WXg_WXg) f41 sb_Wc50_WXg)⟩
set_option maxHeartbeats 4000000 in
set_option maxRecDepth 20000 in
/-- X.rest -/
theorem m_160_r9 (σ : jM) (hg : GI σ)  (hsp : SPK σ)  (fr lo : Nat) (hfr : 6 ≤ fr) (hlo : 173 ≤ lo) : WP 160 0 (lv_args 0 [.ref 9]) [] fr lo σ (fun v τ => ∃ z : Int, v = some (iV z) ∧ ((-2147483648) ≤ z ∧ z ≤ 2147483647) ∧ GI τ ∧ FR WXg σ τ) := by
  rcases hsp with ⟨hs1, hs2⟩ | ⟨hs1, hs2⟩
  · skip
    show WP 160 0 [(0, .ref 9)] [] _ _ _ _
    refine wp_al1 jF_160_0 rfl rfl (pc2 := 1) ?_
    refine wp_cV (as := []) (rest := []) (a := 9) (mx := 3) (ci := 11) jF_160_1 kd9 (by decide) rfl rfl rfl rfl rfl (by omega) (by omega) rfl (pc2 := 4) ?_
    refine wp_use (m_161_r9 σ hg  (Or.inl ⟨hs1, hs2⟩)  _ _ (by omega) (by omega)) ?_
    rintro _ τ1 ⟨z4, rfl, h5, g2, f3⟩
    show WP 160 4 [(0, .ref 9)] [iV z4] _ _ _ _
    refine wp_z_ne jF_160_4 (m_rgb h5 rfl) rfl (pc2 := 7) ?_ ?_
    · intro h6
      refine wp_ic jF_160_11 rfl (pc2 := 12) ?_
      refine wp_cS (as := [iV 0]) (rest := []) (mx := 1) jF_160_12 rfl rfl rfl rfl (by omega) (by omega) rfl (pc2 := 15) ?_
      show WP 98 0 [(0, iV 0)] [] _ _ _ _
      refine wp_il1 jF_98_0 rfl rfl (pc2 := 1) ?_
      refine wp_z_eq jF_98_1 (m_rgl rfl) rfl (pc2 := 4) ?_ ?_
      · intro h7
        refine wp_ic jF_98_8 rfl (pc2 := 9) ?_
        refine wp_ri jF_98_9 rfl ?_
        show WP 160 15 [(0, .ref 9)] [iV 0] _ _ _ _
        refine wp_ri jF_160_15 rfl ?_
        exact ⟨0, rfl, ⟨by omega, by omega⟩, g2, f3⟩
      · intro h7; exfalso; omega
    · intro h6
      refine wp_ic jF_160_7 rfl (pc2 := 8) ?_
      refine wp_go jF_160_8 ?_
      refine wp_cS (as := [iV 1]) (rest := []) (mx := 1) jF_160_12 rfl rfl rfl rfl (by omega) (by omega) rfl (pc2 := 15) ?_
      show WP 98 0 [(0, iV 1)] [] _ _ _ _
      refine wp_il1 jF_98_0 rfl rfl (pc2 := 1) ?_
      refine wp_z_eq jF_98_1 (m_rgl rfl) rfl (pc2 := 4) ?_ ?_
      · intro h8; exfalso; omega
      · intro h8
        refine wp_ic jF_98_4 rfl (pc2 := 5) ?_
        refine wp_go jF_98_5 ?_
        refine wp_ri jF_98_9 rfl ?_
        show WP 160 15 [(0, .ref 9)] [iV 1] _ _ _ _
        refine wp_ri jF_160_15 rfl ?_
        exact ⟨1, rfl, ⟨by omega, by omega⟩, g2, f3⟩
  · skip
    show WP 160 0 [(0, .ref 9)] [] _ _ _ _
    refine wp_al1 jF_160_0 rfl rfl (pc2 := 1) ?_
    refine wp_cV (as := []) (rest := []) (a := 9) (mx := 3) (ci := 11) jF_160_1 kd9 (by decide) rfl rfl rfl rfl rfl (by omega) (by omega) rfl (pc2 := 4) ?_
    refine wp_use (m_161_r9 σ hg  (Or.inr ⟨hs1, hs2⟩)  _ _ (by omega) (by omega)) ?_
    rintro _ τ9 ⟨z12, rfl, h13, g10, f11⟩
    show WP 160 4 [(0, .ref 9)] [iV z12] _ _ _ _
    refine wp_z_ne jF_160_4 (m_rgb h13 rfl) rfl (pc2 := 7) ?_ ?_
    · intro h14
      refine wp_ic jF_160_11 rfl (pc2 := 12) ?_
      refine wp_cS (as := [iV 0]) (rest := []) (mx := 1) jF_160_12 rfl rfl rfl rfl (by omega) (by omega) rfl (pc2 := 15) ?_
      show WP 98 0 [(0, iV 0)] [] _ _ _ _
      refine wp_il1 jF_98_0 rfl rfl (pc2 := 1) ?_
      refine wp_z_eq jF_98_1 (m_rgl rfl) rfl (pc2 := 4) ?_ ?_
      · intro h15
        refine wp_ic jF_98_8 rfl (pc2 := 9) ?_
        refine wp_ri jF_98_9 rfl ?_
        show WP 160 15 [(0, .ref 9)] [iV 0] _ _ _ _
        refine wp_ri jF_160_15 rfl ?_
        exact ⟨0, rfl, ⟨by omega, by omega⟩, g10, f11⟩
      · intro h15; exfalso; omega
    · intro h14
      refine wp_ic jF_160_7 rfl (pc2 := 8) ?_
      refine wp_go jF_160_8 ?_
      refine wp_cS (as := [iV 1]) (rest := []) (mx := 1) jF_160_12 rfl rfl rfl rfl (by omega) (by omega) rfl (pc2 := 15) ?_
      show WP 98 0 [(0, iV 1)] [] _ _ _ _
      refine wp_il1 jF_98_0 rfl rfl (pc2 := 1) ?_
      refine wp_z_eq jF_98_1 (m_rgl rfl) rfl (pc2 := 4) ?_ ?_
      · intro h16; exfalso; omega
      · intro h16
        refine wp_ic jF_98_4 rfl (pc2 := 5) ?_
        refine wp_go jF_98_5 ?_
        refine wp_ri jF_98_9 rfl ?_
        show WP 160 15 [(0, .ref 9)] [iV 1] _ _ _ _
        refine wp_ri jF_160_15 rfl ?_
        exact ⟨1, rfl, ⟨by omega, by omega⟩, g10, f11⟩
set_option maxHeartbeats 4000000 in
set_option maxRecDepth 20000 in
/-- X.spring -/
theorem m_163_r9 (σ : jM) (hg : GI σ) (n : Int) (hl_n : (-2147483648) ≤ n) (hu_n : n ≤ 2147483647) (hsp : SPK σ)  (fr lo : Nat) (hfr : 6 ≤ fr) (hlo : 173 ≤ lo) : WP 163 0 (lv_args 0 [.ref 9, iV n]) [] fr lo σ (fun v τ => ∃ z : Int, v = some (iV z) ∧ ((-2147483648) ≤ z ∧ z ≤ 2147483647) ∧ GI τ ∧ FR WXg σ τ) := by
  rcases hsp with ⟨hs1, hs2⟩ | ⟨hs1, hs2⟩
  · skip
    show WP 163 0 [(0, .ref 9), (1, iV n)] [] _ _ _ _
    refine wp_il1 jF_163_0 rfl rfl (pc2 := 1) ?_
    refine wp_ic jF_163_1 rfl (pc2 := 2) ?_
    refine wp_i_lt jF_163_2 ⟨by omega, by omega⟩ (m_rgl rfl) rfl (pc2 := 5) ?_ ?_
    · intro h1
      refine wp_al1 jF_163_11 rfl rfl (pc2 := 12) ?_
      refine wp_ic jF_163_12 rfl (pc2 := 13) ?_
      refine wp_cV (as := [iV 2]) (rest := []) (a := 9) (mx := 2) (ci := 11) jF_163_13 kd9 (by decide) rfl rfl rfl rfl rfl (by omega) (by omega) rfl (pc2 := 16) ?_
      refine wp_use (m_25_r9 σ hg 2 (by omega) (by omega)  _ _ (by omega) (by omega)) ?_
      rintro _ τ2 ⟨z5, rfl, h6, g3, f4⟩
      show WP 163 16 [(0, .ref 9), (1, iV n)] [iV z5] _ _ _ _
      refine wp_ri jF_163_16 rfl ?_
      exact ⟨z5, rfl, ⟨by omega, by omega⟩, g3, (FR.up FR.rf f4 sb_WXr_WXg)⟩
    · intro h1
      refine wp_il1 jF_163_5 rfl rfl (pc2 := 6) ?_
      refine wp_bi jF_163_6 (by decide) rfl (pc2 := 8) ?_
      refine wp_i_le jF_163_8 ⟨by omega, by omega⟩ (m_rgl rfl) rfl (pc2 := 11) ?_ ?_
      · intro h7
        refine wp_ic jF_163_17 rfl (pc2 := 18) ?_
        refine wp_is1 (lv2 := [(0, .ref 9), (1, iV n), (2, iV 0)]) jF_163_18 rfl rfl rfl (pc2 := 19) ?_
        refine wp_loop (α := Int) (fun a => [(0, .ref 9), (1, iV n), (2, iV (a))]) (fun a τ => (0 ≤ a ∧ a ≤ 20) ∧ GI τ ∧ FR WXg σ τ) (fun a τ => Int.toNat (20 - (a))) (0) σ ?_ ?_
        · skip
          exact ⟨⟨by omega, by omega⟩, hg, FR.rf⟩
        · rintro x8 τ10 ⟨h9, g11, f12⟩ ih13
          show WP 163 19 [(0, .ref 9), (1, iV n), (2, iV x8)] [] _ _ _ _
          show WP 163 19 [(0, .ref 9), (1, iV n), (2, iV x8)] [] _ _ _ _
          refine wp_il1 jF_163_19 rfl rfl (pc2 := 20) ?_
          refine wp_il1 jF_163_20 rfl rfl (pc2 := 21) ?_
          refine wp_i_ge jF_163_21 (m_rgb h9 rfl) ⟨by omega, by omega⟩ rfl (pc2 := 24) ?_ ?_
          · intro h14
            refine wp_il1 jF_163_44 rfl rfl (pc2 := 45) ?_
            refine wp_ri jF_163_45 rfl ?_
            exact ⟨n, rfl, ⟨by omega, by omega⟩, g11, f12⟩
          · intro h14
            refine wp_al1 jF_163_24 rfl rfl (pc2 := 25) ?_
            refine wp_cV (as := []) (rest := []) (a := 9) (mx := 3) (ci := 11) jF_163_25 kd9 (by decide) rfl rfl rfl rfl rfl (by omega) (by omega) rfl (pc2 := 28) ?_
            refine wp_use (m_161_r9 τ10 g11  (Or.inl ⟨((FR.ar f12 9 4 rfl).trans hs1), ((FR.ar f12 9 5 rfl).trans hs2)⟩)  _ _ (by omega) (by omega)) ?_
            rintro _ τ15 ⟨z18, rfl, h19, g16, f17⟩
            show WP 163 28 [(0, .ref 9), (1, iV n), (2, iV x8)] [iV z18] _ _ _ _
            refine wp_z_ne jF_163_28 (m_rgb h19 rfl) rfl (pc2 := 31) ?_ ?_
            · intro h20
              refine wp_al1 jF_163_33 rfl rfl (pc2 := 34) ?_
              refine wp_cV (as := []) (rest := []) (a := 9) (mx := 1) (ci := 11) jF_163_34 kd9 (by decide) rfl rfl rfl rfl rfl (by omega) (by omega) rfl (pc2 := 37) ?_
              refine wp_use (m_87_r9 τ15 g16  (Or.inl ⟨((FR.ar f17 9 4 rfl).trans ((FR.ar f12 9 4 rfl).trans hs1)), ((FR.ar f17 9 5 rfl).trans ((FR.ar f12 9 5 rfl).trans hs2))⟩)  _ _ (by omega) (by omega)) ?_
              rintro _ τ21 ⟨z24, rfl, h25, g22, f23⟩
              show WP 163 37 [(0, .ref 9), (1, iV n), (2, iV x8)] [iV z24] _ _ _ _
              refine wp_pop jF_163_37 rfl rfl (pc2 := 38) ?_
              refine wp_inc (lv2 := [(0, .ref 9), (1, iV n), (2, iV (x8 + 1))]) jF_163_38 rfl rfl rfl rfl (pc2 := 41) ?_
              refine wp_go jF_163_41 ?_
              exact ih13 ((x8 + 1)) τ21 ⟨⟨by omega, by omega⟩, g22, (FR.up (FR.up f12 f17 sb_WXg_WXg) f23 sb_WXg_WXg)⟩ (by show Int.toNat (20 - (x8 + 1)) < Int.toNat (20 - x8); omega)
            · intro h20
              refine wp_il1 jF_163_31 rfl rfl (pc2 := 32) ?_
              refine wp_ri jF_163_32 rfl ?_
              exact ⟨x8, rfl, ⟨by omega, by omega⟩, g16, (FR.up f12 f17 sb_WXg_WXg)⟩
      · intro h7
        refine wp_al1 jF_163_11 rfl rfl (pc2 := 12) ?_
        refine wp_ic jF_163_12 rfl (pc2 := 13) ?_
        refine wp_cV (as := [iV 2]) (rest := []) (a := 9) (mx := 2) (ci := 11) jF_163_13 kd9 (by decide) rfl rfl rfl rfl rfl (by omega) (by omega) rfl (pc2 := 16) ?_
        refine wp_use (m_25_r9 σ hg 2 (by omega) (by omega)  _ _ (by omega) (by omega)) ?_
        rintro _ τ26 ⟨z29, rfl, h30, g27, f28⟩
        show WP 163 16 [(0, .ref 9), (1, iV n)] [iV z29] _ _ _ _
        refine wp_ri jF_163_16 rfl ?_
        exact ⟨z29, rfl, ⟨by omega, by omega⟩, g27, (FR.up FR.rf f28 sb_WXr_WXg)⟩
  · skip
    show WP 163 0 [(0, .ref 9), (1, iV n)] [] _ _ _ _
    refine wp_il1 jF_163_0 rfl rfl (pc2 := 1) ?_
    refine wp_ic jF_163_1 rfl (pc2 := 2) ?_
    refine wp_i_lt jF_163_2 ⟨by omega, by omega⟩ (m_rgl rfl) rfl (pc2 := 5) ?_ ?_
    · intro h31
      refine wp_al1 jF_163_11 rfl rfl (pc2 := 12) ?_
      refine wp_ic jF_163_12 rfl (pc2 := 13) ?_
      refine wp_cV (as := [iV 2]) (rest := []) (a := 9) (mx := 2) (ci := 11) jF_163_13 kd9 (by decide) rfl rfl rfl rfl rfl (by omega) (by omega) rfl (pc2 := 16) ?_
      refine wp_use (m_25_r9 σ hg 2 (by omega) (by omega)  _ _ (by omega) (by omega)) ?_
      rintro _ τ32 ⟨z35, rfl, h36, g33, f34⟩
      show WP 163 16 [(0, .ref 9), (1, iV n)] [iV z35] _ _ _ _
      refine wp_ri jF_163_16 rfl ?_
      exact ⟨z35, rfl, ⟨by omega, by omega⟩, g33, (FR.up FR.rf f34 sb_WXr_WXg)⟩
    · intro h31
      refine wp_il1 jF_163_5 rfl rfl (pc2 := 6) ?_
      refine wp_bi jF_163_6 (by decide) rfl (pc2 := 8) ?_
      refine wp_i_le jF_163_8 ⟨by omega, by omega⟩ (m_rgl rfl) rfl (pc2 := 11) ?_ ?_
      · intro h37
        refine wp_ic jF_163_17 rfl (pc2 := 18) ?_
        refine wp_is1 (lv2 := [(0, .ref 9), (1, iV n), (2, iV 0)]) jF_163_18 rfl rfl rfl (pc2 := 19) ?_
        refine wp_loop (α := Int) (fun a => [(0, .ref 9), (1, iV n), (2, iV (a))]) (fun a τ => (0 ≤ a ∧ a ≤ 20) ∧ GI τ ∧ FR WXg σ τ) (fun a τ => Int.toNat (20 - (a))) (0) σ ?_ ?_
        · skip
          exact ⟨⟨by omega, by omega⟩, hg, FR.rf⟩
        · rintro x38 τ40 ⟨h39, g41, f42⟩ ih43
          show WP 163 19 [(0, .ref 9), (1, iV n), (2, iV x38)] [] _ _ _ _
          show WP 163 19 [(0, .ref 9), (1, iV n), (2, iV x38)] [] _ _ _ _
          refine wp_il1 jF_163_19 rfl rfl (pc2 := 20) ?_
          refine wp_il1 jF_163_20 rfl rfl (pc2 := 21) ?_
          refine wp_i_ge jF_163_21 (m_rgb h39 rfl) ⟨by omega, by omega⟩ rfl (pc2 := 24) ?_ ?_
          · intro h44
            refine wp_il1 jF_163_44 rfl rfl (pc2 := 45) ?_
            refine wp_ri jF_163_45 rfl ?_
            exact ⟨n, rfl, ⟨by omega, by omega⟩, g41, f42⟩
          · intro h44
            refine wp_al1 jF_163_24 rfl rfl (pc2 := 25) ?_
            refine wp_cV (as := []) (rest := []) (a := 9) (mx := 3) (ci := 11) jF_163_25 kd9 (by decide) rfl rfl rfl rfl rfl (by omega) (by omega) rfl (pc2 := 28) ?_
            refine wp_use (m_161_r9 τ40 g41  (Or.inr ⟨((FR.ar f42 9 4 rfl).trans hs1), ((FR.ar f42 9 5 rfl).trans hs2)⟩)  _ _ (by omega) (by omega)) ?_
            rintro _ τ45 ⟨z48, rfl, h49, g46, f47⟩
            show WP 163 28 [(0, .ref 9), (1, iV n), (2, iV x38)] [iV z48] _ _ _ _
            refine wp_z_ne jF_163_28 (m_rgb h49 rfl) rfl (pc2 := 31) ?_ ?_
            · intro h50
              refine wp_al1 jF_163_33 rfl rfl (pc2 := 34) ?_
              refine wp_cV (as := []) (rest := []) (a := 9) (mx := 1) (ci := 11) jF_163_34 kd9 (by decide) rfl rfl rfl rfl rfl (by omega) (by omega) rfl (pc2 := 37) ?_
              refine wp_use (m_87_r9 τ45 g46  (Or.inr ⟨((FR.ar f47 9 4 rfl).trans ((FR.ar f42 9 4 rfl).trans hs1)), ((FR.ar f47 9 5 rfl).trans ((FR.ar f42 9 5 rfl).trans hs2))⟩)  _ _ (by omega) (by omega)) ?_
              rintro _ τ51 ⟨z54, rfl, h55, g52, f53⟩
              show WP 163 37 [(0, .ref 9), (1, iV n), (2, iV x38)] [iV z54] _ _ _ _
              refine wp_pop jF_163_37 rfl rfl (pc2 := 38) ?_
              refine wp_inc (lv2 := [(0, .ref 9), (1, iV n), (2, iV (x38 + 1))]) jF_163_38 rfl rfl rfl rfl (pc2 := 41) ?_
              refine wp_go jF_163_41 ?_
              exact ih43 ((x38 + 1)) τ51 ⟨⟨by omega, by omega⟩, g52, (FR.up (FR.up f42 f47 sb_WXg_WXg) f53 sb_WXg_WXg)⟩ (by show Int.toNat (20 - (x38 + 1)) < Int.toNat (20 - x38); omega)
            · intro h50
              refine wp_il1 jF_163_31 rfl rfl (pc2 := 32) ?_
              refine wp_ri jF_163_32 rfl ?_
              exact ⟨x38, rfl, ⟨by omega, by omega⟩, g46, (FR.up f42 f47 sb_WXg_WXg)⟩
      · intro h37
        refine wp_al1 jF_163_11 rfl rfl (pc2 := 12) ?_
        refine wp_ic jF_163_12 rfl (pc2 := 13) ?_
        refine wp_cV (as := [iV 2]) (rest := []) (a := 9) (mx := 2) (ci := 11) jF_163_13 kd9 (by decide) rfl rfl rfl rfl rfl (by omega) (by omega) rfl (pc2 := 16) ?_
        refine wp_use (m_25_r9 σ hg 2 (by omega) (by omega)  _ _ (by omega) (by omega)) ?_
        rintro _ τ56 ⟨z59, rfl, h60, g57, f58⟩
        show WP 163 16 [(0, .ref 9), (1, iV n)] [iV z59] _ _ _ _
        refine wp_ri jF_163_16 rfl ?_
        exact ⟨z59, rfl, ⟨by omega, by omega⟩, g57, (FR.up FR.rf f58 sb_WXr_WXg)⟩
set_option maxHeartbeats 4000000 in
set_option maxRecDepth 20000 in
/-- X.fitting -/
theorem m_164_r9 (σ : jM) (hg : GI σ) (what : Int) (hl_what : (-2147483648) ≤ what) (hu_what : what ≤ 2147483647) (hsp : SPK σ)  (fr lo : Nat) (hfr : 4 ≤ fr) (hlo : 91 ≤ lo) : WP 164 0 (lv_args 0 [.ref 9, iV what]) [] fr lo σ (fun v τ => ∃ z : Int, v = some (iV z) ∧ ((-2147483648) ≤ z ∧ z ≤ 2147483647) ∧ GI τ ∧ FR WXg σ τ) := by
  rcases hsp with ⟨hs1, hs2⟩ | ⟨hs1, hs2⟩
  · skip
    show WP 164 0 [(0, .ref 9), (1, iV what)] [] _ _ _ _
    refine wp_al1 jF_164_0 rfl rfl (pc2 := 1) ?_
    refine wp_gr (b := 93) jF_164_1 kd9 (by decide) (c := 193) rfl rfl rfl (pc2 := 4) ?_
    refine wp_al1 jF_164_4 rfl rfl (pc2 := 5) ?_
    refine wp_gr jF_164_5 kd9 (by decide) (c := 2) rfl (m_fv2 hs1 rfl) rfl (pc2 := 8) ?_
    refine wp_il1 jF_164_8 rfl rfl (pc2 := 9) ?_
    refine wp_cV (as := [.ref 20, iV what]) (rest := []) (a := 93) (mx := 3) (ci := 5) jF_164_9 kd93 (by decide) rfl rfl rfl rfl rfl (by omega) (by omega) rfl (pc2 := 12) ?_
    refine wp_use (m_165_r93_20 σ hg what (by omega) (by omega)  _ _ (by omega) (by omega)) ?_
    rintro _ τ1 ⟨z4, rfl, h5, g2, f3⟩
    show WP 164 12 [(0, .ref 9), (1, iV what)] [iV z4] _ _ _ _
    refine wp_ri jF_164_12 rfl ?_
    exact ⟨z4, rfl, ⟨by omega, by omega⟩, g2, (FR.up FR.rf f3 sb_WS_WXg)⟩
  · skip
    show WP 164 0 [(0, .ref 9), (1, iV what)] [] _ _ _ _
    refine wp_al1 jF_164_0 rfl rfl (pc2 := 1) ?_
    refine wp_gr (b := 93) jF_164_1 kd9 (by decide) (c := 193) rfl rfl rfl (pc2 := 4) ?_
    refine wp_al1 jF_164_4 rfl rfl (pc2 := 5) ?_
    refine wp_gr jF_164_5 kd9 (by decide) (c := 2) rfl (m_fv2 hs1 rfl) rfl (pc2 := 8) ?_
    refine wp_il1 jF_164_8 rfl rfl (pc2 := 9) ?_
    refine wp_cV (as := [.ref 45, iV what]) (rest := []) (a := 93) (mx := 3) (ci := 5) jF_164_9 kd93 (by decide) rfl rfl rfl rfl rfl (by omega) (by omega) rfl (pc2 := 12) ?_
    refine wp_use (m_165_r93_45 σ hg what (by omega) (by omega)  _ _ (by omega) (by omega)) ?_
    rintro _ τ6 ⟨z9, rfl, h10, g7, f8⟩
    show WP 164 12 [(0, .ref 9), (1, iV what)] [iV z9] _ _ _ _
    refine wp_ri jF_164_12 rfl ?_
    exact ⟨z9, rfl, ⟨by omega, by omega⟩, g7, (FR.up FR.rf f8 sb_WS_WXg)⟩
set_option maxHeartbeats 4000000 in
set_option maxRecDepth 20000 in
/-- X.judged -/
theorem m_166_r9 (σ : jM) (hg : GI σ)  (hsp : SPK σ) (pre0 : (σ.1 33 5) ≤ 8) (pre1 : (σ.1 39 5) ≤ 10) (pre2 : (σ.1 58 5) ≤ 8) (pre3 : (σ.1 64 5) ≤ 10) (fr lo : Nat) (hfr : 1 ≤ fr) (hlo : 25 ≤ lo) : WP 166 0 (lv_args 0 [.ref 9]) [] fr lo σ (fun v τ => ∃ z : Int, v = some (iV z) ∧ ((-2147483648) ≤ z ∧ z ≤ 2147483647) ∧ σ = τ) := by
  rcases hsp with ⟨hs1, hs2⟩ | ⟨hs1, hs2⟩
  · skip
    show WP 166 0 [(0, .ref 9)] [] _ _ _ _
    refine wp_al1 jF_166_0 rfl rfl (pc2 := 1) ?_
    refine wp_gr jF_166_1 kd9 (by decide) (c := 2) rfl (m_fv2 hs1 rfl) rfl (pc2 := 4) ?_
    refine wp_gr (b := 39) jF_166_4 kd20 (by decide) (c := 22) rfl rfl rfl (pc2 := 7) ?_
    refine wp_al1 jF_166_7 rfl rfl (pc2 := 8) ?_
    refine wp_gr (b := 70) jF_166_8 kd9 (by decide) (c := 170) rfl rfl rfl (pc2 := 11) ?_
    refine wp_glA jF_166_11 kd70 (by decide) rfl rfl (pc2 := 14) ?_
    intro y1
    refine wp_cV (as := [.long y1]) (rest := []) (a := 39) (mx := 6) (ci := 7) jF_166_14 kd39 (by decide) rfl rfl rfl rfl rfl (by omega) (by omega) rfl (pc2 := 17) ?_
    have b2 := GI.b hg 39 5 kd39 (lo := 0) (hi := 16) rfl
    refine wp_use (m_167_r39 σ hg y1 (by omega) _ _ (by omega) (by omega)) ?_
    rintro _ _ ⟨z5, rfl, h6, rfl⟩
    show WP 166 17 [(0, .ref 9)] [iV z5] _ _ _ _
    refine wp_ri jF_166_17 rfl ?_
    exact ⟨z5, rfl, ⟨by omega, by omega⟩, rfl⟩
  · skip
    show WP 166 0 [(0, .ref 9)] [] _ _ _ _
    refine wp_al1 jF_166_0 rfl rfl (pc2 := 1) ?_
    refine wp_gr jF_166_1 kd9 (by decide) (c := 2) rfl (m_fv2 hs1 rfl) rfl (pc2 := 4) ?_
    refine wp_gr (b := 64) jF_166_4 kd45 (by decide) (c := 22) rfl rfl rfl (pc2 := 7) ?_
    refine wp_al1 jF_166_7 rfl rfl (pc2 := 8) ?_
    refine wp_gr (b := 70) jF_166_8 kd9 (by decide) (c := 170) rfl rfl rfl (pc2 := 11) ?_
    refine wp_glA jF_166_11 kd70 (by decide) rfl rfl (pc2 := 14) ?_
    intro y7
    refine wp_cV (as := [.long y7]) (rest := []) (a := 64) (mx := 6) (ci := 7) jF_166_14 kd64 (by decide) rfl rfl rfl rfl rfl (by omega) (by omega) rfl (pc2 := 17) ?_
    have b8 := GI.b hg 64 5 kd64 (lo := 0) (hi := 16) rfl
    refine wp_use (m_167_r64 σ hg y7 (by omega) _ _ (by omega) (by omega)) ?_
    rintro _ _ ⟨z11, rfl, h12, rfl⟩
    show WP 166 17 [(0, .ref 9)] [iV z11] _ _ _ _
    refine wp_ri jF_166_17 rfl ?_
    exact ⟨z11, rfl, ⟨by omega, by omega⟩, rfl⟩
set_option maxHeartbeats 4000000 in
set_option maxRecDepth 20000 in
/-- X.seed -/
theorem m_168_r9 (σ : jM) (hg : GI σ) (n : Int) (hl_n : (-2147483648) ≤ n) (hu_n : n ≤ 2147483647)  (fr lo : Nat) (hfr : 1 ≤ fr) (hlo : 21 ≤ lo) : WP 168 0 (lv_args 0 [.ref 9, iV n]) [] fr lo σ (fun v τ => ∃ z : Int, v = some (iV z) ∧ (0 ≤ z ∧ z ≤ 1) ∧ GI τ ∧ FR WXg σ τ) := by
  show WP 168 0 [(0, .ref 9), (1, iV n)] [] _ _ _ _
  refine wp_il1 jF_168_0 rfl rfl (pc2 := 1) ?_
  refine wp_z_ge jF_168_1 ⟨by omega, by omega⟩ rfl (pc2 := 4) ?_ ?_
  · intro h1
    refine wp_al1 jF_168_12 rfl rfl (pc2 := 13) ?_
    refine wp_il1 jF_168_13 rfl rfl (pc2 := 14) ?_
    refine wp_i2l jF_168_14 rfl (pc2 := 15) ?_
    refine wp_pl jF_168_15 kd9 (by decide) rfl rfl (pc2 := 18) hg ?_
    intro τ2 g3 f4
    refine wp_ic jF_168_18 rfl (pc2 := 19) ?_
    refine wp_ri jF_168_19 rfl ?_
    exact ⟨1, rfl, ⟨by omega, by omega⟩, g3, (FR.w FR.rf f4 rfl)⟩
  · intro h1
    refine wp_al1 jF_168_4 rfl rfl (pc2 := 5) ?_
    refine wp_ic jF_168_5 rfl (pc2 := 6) ?_
    refine wp_cV (as := [iV 4]) (rest := []) (a := 9) (mx := 2) (ci := 11) jF_168_6 kd9 (by decide) rfl rfl rfl rfl rfl (by omega) (by omega) rfl (pc2 := 9) ?_
    refine wp_use (m_25_r9 σ hg 4 (by omega) (by omega)  _ _ (by omega) (by omega)) ?_
    rintro _ τ5 ⟨z8, rfl, h9, g6, f7⟩
    show WP 168 9 [(0, .ref 9), (1, iV n)] [iV z8] _ _ _ _
    refine wp_pop jF_168_9 rfl rfl (pc2 := 10) ?_
    refine wp_ic jF_168_10 rfl (pc2 := 11) ?_
    refine wp_ri jF_168_11 rfl ?_
    exact ⟨0, rfl, ⟨by omega, by omega⟩, g6, (FR.up FR.rf f7 sb_WXr_WXg)⟩
set_option maxHeartbeats 4000000 in
set_option maxRecDepth 20000 in
/-- X.draw -/
theorem m_170_r9 (σ : jM) (hg : GI σ) (m : Int) (hl_m : 1 ≤ m) (hu_m : m ≤ 60)  (fr lo : Nat) (hfr : 0 ≤ fr) (hlo : 0 ≤ lo) : WP 170 0 (lv_args 0 [.ref 9, iV m]) [] fr lo σ (fun v τ => ∃ z : Int, v = some (iV z) ∧ (0 ≤ z ∧ z ≤ 59) ∧ GI τ ∧ FR WXlot σ τ ∧ (z < m)) := by
  show WP 170 0 [(0, .ref 9), (1, iV m)] [] _ _ _ _
  refine wp_al1 jF_170_0 rfl rfl (pc2 := 1) ?_
  refine wp_ld jF_170_1 rfl (pc2 := 4) ?_
  refine wp_al1 jF_170_4 rfl rfl (pc2 := 5) ?_
  refine wp_glA jF_170_5 kd9 (by decide) rfl rfl (pc2 := 8) ?_
  intro y1
  refine wp_lgx ((1103515245) * y1) jF_170_8 rfl rfl (pc2 := 9) ?_
  refine wp_ld jF_170_9 rfl (pc2 := 12) ?_
  refine wp_lgx (((1103515245) * y1) + (12345)) jF_170_12 rfl rfl (pc2 := 13) ?_
  refine wp_ld jF_170_13 rfl (pc2 := 16) ?_
  refine wp_lgx ((((1103515245) * y1) + (12345)) &&& (2147483647)) jF_170_16 rfl rfl (pc2 := 17) ?_
  refine wp_plx jF_170_17 kd9 (by decide) rfl rfl (pc2 := 20) hg ?_
  intro τ2 g3 f4
  intro e5
  refine wp_il1 jF_170_20 rfl rfl (pc2 := 21) ?_
  refine wp_z_le jF_170_21 ⟨by omega, by omega⟩ rfl (pc2 := 24) ?_ ?_
  · intro h6; exfalso; omega
  · intro h6
    refine wp_al1 jF_170_24 rfl rfl (pc2 := 25) ?_
    refine wp_gl (e := ((((1103515245) * y1) + (12345)) &&& (2147483647))) jF_170_25 kd9 (by decide) rfl e5 rfl (pc2 := 28) ?_
    refine wp_ld jF_170_28 rfl (pc2 := 31) ?_
    refine wp_ldx jF_170_31 (by decide) rfl (pc2 := 32) ?_
    refine wp_il1 jF_170_32 rfl rfl (pc2 := 33) ?_
    refine wp_i2l jF_170_33 rfl (pc2 := 34) ?_
    refine wp_lrx jF_170_34 (m_i2lnz ⟨by omega, by omega⟩ (by omega)) rfl (pc2 := 35) ?_
    have n7 := drx (x := (((1103515245) * y1) + (12345))) (m := m) (by omega) (by omega)
    refine wp_l2ix jF_170_35 rfl (pc2 := 36) ?_
    refine wp_go jF_170_36 ?_
    refine wp_ri jF_170_40 rfl ?_
    exact ⟨(Int64.toInt ((((((1103515245) * y1) + (12345)) &&& (2147483647)) / (64)) - (((((1103515245) * y1) + (12345)) &&& (2147483647)) / (64)) / (Int32.toInt64 (Int32.ofInt m)) * (Int32.toInt64 (Int32.ofInt m)))), rfl, ⟨by omega, by omega⟩, g3, (FR.w FR.rf f4 rfl), (by omega)⟩
set_option maxHeartbeats 4000000 in
set_option maxRecDepth 20000 in
/-- X.stroke -/
theorem m_169_r9 (σ : jM) (hg : GI σ)  (hsp : SPK σ)  (fr lo : Nat) (hfr : 5 ≤ fr) (hlo : 151 ≤ lo) : WP 169 0 (lv_args 0 [.ref 9]) [] fr lo σ (fun v τ => ∃ z : Int, v = some (iV z) ∧ ((-2147483648) ≤ z ∧ z ≤ 2147483647) ∧ GI τ ∧ FR WXg σ τ) := by
  rcases hsp with ⟨hs1, hs2⟩ | ⟨hs1, hs2⟩
  · skip
    show WP 169 0 [(0, .ref 9)] [] _ _ _ _
    refine wp_al1 jF_169_0 rfl rfl (pc2 := 1) ?_
    refine wp_gr (b := 70) jF_169_1 kd9 (by decide) (c := 170) rfl rfl rfl (pc2 := 4) ?_
    have b1 := GI.b hg 70 1 kd70 (lo := 0) (hi := 60) rfl
    refine wp_gi jF_169_4 kd70 (by decide) rfl rfl rfl (pc2 := 7) ?_
    refine wp_z_ne jF_169_7 (m_rgb b1 rfl) rfl (pc2 := 10) ?_ ?_
    · intro h2
      refine wp_al1 jF_169_12 rfl rfl (pc2 := 13) ?_
      refine wp_al1 jF_169_13 rfl rfl (pc2 := 14) ?_
      refine wp_gr (b := 70) jF_169_14 kd9 (by decide) (c := 170) rfl rfl rfl (pc2 := 17) ?_
      refine wp_gi jF_169_17 kd70 (by decide) rfl rfl rfl (pc2 := 20) ?_
      refine wp_cV (as := [iV (σ.1 70 1)]) (rest := []) (a := 9) (mx := 2) (ci := 11) jF_169_20 kd9 (by decide) rfl rfl rfl rfl rfl (by omega) (by omega) rfl (pc2 := 23) ?_
      refine wp_use (m_170_r9 σ hg (σ.1 70 1) (by omega) (by omega)  _ _ (by omega) (by omega)) ?_
      rintro _ τ4 ⟨z7, rfl, h8, g5, f6, p3⟩
      show WP 169 23 [(0, .ref 9)] [iV z7] _ _ _ _
      refine wp_is1 (lv2 := [(0, .ref 9), (1, iV z7)]) jF_169_23 rfl rfl rfl (pc2 := 24) ?_
      refine wp_al1 jF_169_24 rfl rfl (pc2 := 25) ?_
      refine wp_il1 jF_169_25 rfl rfl (pc2 := 26) ?_
      refine wp_bi jF_169_26 (by decide) rfl (pc2 := 28) ?_
      refine wp_mul jF_169_28 rfl (pc2 := 29) ?_
      refine wp_cV (as := [iV (z7 * 47)]) (rest := []) (a := 9) (mx := 2) (ci := 11) jF_169_29 kd9 (by decide) rfl rfl rfl rfl rfl (by omega) (by omega) rfl (pc2 := 32) ?_
      refine wp_use (m_117_r9 τ4 g5 (z7 * 47) (by omega) (by omega) (Or.inl ⟨((FR.ar f6 9 4 rfl).trans hs1), ((FR.ar f6 9 5 rfl).trans hs2)⟩)  _ _ (by omega) (by omega)) ?_
      rintro _ τ9 ⟨z12, rfl, h13, g10, f11⟩
      show WP 169 32 [(0, .ref 9), (1, iV z7)] [iV z12] _ _ _ _
      refine wp_z_ne jF_169_32 (m_rgb h13 rfl) rfl (pc2 := 35) ?_ ?_
      · intro h14
        refine wp_al1 jF_169_37 rfl rfl (pc2 := 38) ?_
        refine wp_cV (as := []) (rest := []) (a := 9) (mx := 1) (ci := 11) jF_169_38 kd9 (by decide) rfl rfl rfl rfl rfl (by omega) (by omega) rfl (pc2 := 41) ?_
        refine wp_use (m_87_r9 τ9 g10  (Or.inl ⟨((FR.ar f11 9 4 rfl).trans ((FR.ar f6 9 4 rfl).trans hs1)), ((FR.ar f11 9 5 rfl).trans ((FR.ar f6 9 5 rfl).trans hs2))⟩)  _ _ (by omega) (by omega)) ?_
        rintro _ τ15 ⟨z18, rfl, h19, g16, f17⟩
        show WP 169 41 [(0, .ref 9), (1, iV z7)] [iV z18] _ _ _ _
        refine wp_pop jF_169_41 rfl rfl (pc2 := 42) ?_
        refine wp_il1 jF_169_42 rfl rfl (pc2 := 43) ?_
        refine wp_ri jF_169_43 rfl ?_
        exact ⟨z7, rfl, ⟨by omega, by omega⟩, g16, (FR.up (FR.up (FR.up FR.rf f6 sb_WXlot_WXg) f11 sb_WXg_WXg) f17 sb_WXg_WXg)⟩
      · intro h14
        refine wp_ic jF_169_35 rfl (pc2 := 36) ?_
        refine wp_ri jF_169_36 rfl ?_
        exact ⟨(-1), rfl, ⟨by omega, by omega⟩, g10, (FR.up (FR.up FR.rf f6 sb_WXlot_WXg) f11 sb_WXg_WXg)⟩
    · intro h2
      refine wp_ic jF_169_10 rfl (pc2 := 11) ?_
      refine wp_ri jF_169_11 rfl ?_
      exact ⟨(-1), rfl, ⟨by omega, by omega⟩, hg, FR.rf⟩
  · skip
    show WP 169 0 [(0, .ref 9)] [] _ _ _ _
    refine wp_al1 jF_169_0 rfl rfl (pc2 := 1) ?_
    refine wp_gr (b := 70) jF_169_1 kd9 (by decide) (c := 170) rfl rfl rfl (pc2 := 4) ?_
    have b20 := GI.b hg 70 1 kd70 (lo := 0) (hi := 60) rfl
    refine wp_gi jF_169_4 kd70 (by decide) rfl rfl rfl (pc2 := 7) ?_
    refine wp_z_ne jF_169_7 (m_rgb b20 rfl) rfl (pc2 := 10) ?_ ?_
    · intro h21
      refine wp_al1 jF_169_12 rfl rfl (pc2 := 13) ?_
      refine wp_al1 jF_169_13 rfl rfl (pc2 := 14) ?_
      refine wp_gr (b := 70) jF_169_14 kd9 (by decide) (c := 170) rfl rfl rfl (pc2 := 17) ?_
      refine wp_gi jF_169_17 kd70 (by decide) rfl rfl rfl (pc2 := 20) ?_
      refine wp_cV (as := [iV (σ.1 70 1)]) (rest := []) (a := 9) (mx := 2) (ci := 11) jF_169_20 kd9 (by decide) rfl rfl rfl rfl rfl (by omega) (by omega) rfl (pc2 := 23) ?_
      refine wp_use (m_170_r9 σ hg (σ.1 70 1) (by omega) (by omega)  _ _ (by omega) (by omega)) ?_
      rintro _ τ23 ⟨z26, rfl, h27, g24, f25, p22⟩
      show WP 169 23 [(0, .ref 9)] [iV z26] _ _ _ _
      refine wp_is1 (lv2 := [(0, .ref 9), (1, iV z26)]) jF_169_23 rfl rfl rfl (pc2 := 24) ?_
      refine wp_al1 jF_169_24 rfl rfl (pc2 := 25) ?_
      refine wp_il1 jF_169_25 rfl rfl (pc2 := 26) ?_
      refine wp_bi jF_169_26 (by decide) rfl (pc2 := 28) ?_
      refine wp_mul jF_169_28 rfl (pc2 := 29) ?_
      refine wp_cV (as := [iV (z26 * 47)]) (rest := []) (a := 9) (mx := 2) (ci := 11) jF_169_29 kd9 (by decide) rfl rfl rfl rfl rfl (by omega) (by omega) rfl (pc2 := 32) ?_
      refine wp_use (m_117_r9 τ23 g24 (z26 * 47) (by omega) (by omega) (Or.inr ⟨((FR.ar f25 9 4 rfl).trans hs1), ((FR.ar f25 9 5 rfl).trans hs2)⟩)  _ _ (by omega) (by omega)) ?_
      rintro _ τ28 ⟨z31, rfl, h32, g29, f30⟩
      show WP 169 32 [(0, .ref 9), (1, iV z26)] [iV z31] _ _ _ _
      refine wp_z_ne jF_169_32 (m_rgb h32 rfl) rfl (pc2 := 35) ?_ ?_
      · intro h33
        refine wp_al1 jF_169_37 rfl rfl (pc2 := 38) ?_
        refine wp_cV (as := []) (rest := []) (a := 9) (mx := 1) (ci := 11) jF_169_38 kd9 (by decide) rfl rfl rfl rfl rfl (by omega) (by omega) rfl (pc2 := 41) ?_
        refine wp_use (m_87_r9 τ28 g29  (Or.inr ⟨((FR.ar f30 9 4 rfl).trans ((FR.ar f25 9 4 rfl).trans hs1)), ((FR.ar f30 9 5 rfl).trans ((FR.ar f25 9 5 rfl).trans hs2))⟩)  _ _ (by omega) (by omega)) ?_
        rintro _ τ34 ⟨z37, rfl, h38, g35, f36⟩
        show WP 169 41 [(0, .ref 9), (1, iV z26)] [iV z37] _ _ _ _
        refine wp_pop jF_169_41 rfl rfl (pc2 := 42) ?_
        refine wp_il1 jF_169_42 rfl rfl (pc2 := 43) ?_
        refine wp_ri jF_169_43 rfl ?_
        exact ⟨z26, rfl, ⟨by omega, by omega⟩, g35, (FR.up (FR.up (FR.up FR.rf f25 sb_WXlot_WXg) f30 sb_WXg_WXg) f36 sb_WXg_WXg)⟩
      · intro h33
        refine wp_ic jF_169_35 rfl (pc2 := 36) ?_
        refine wp_ri jF_169_36 rfl ?_
        exact ⟨(-1), rfl, ⟨by omega, by omega⟩, g29, (FR.up (FR.up FR.rf f25 sb_WXlot_WXg) f30 sb_WXg_WXg)⟩
    · intro h21
      refine wp_ic jF_169_10 rfl (pc2 := 11) ?_
      refine wp_ri jF_169_11 rfl ?_
      exact ⟨(-1), rfl, ⟨by omega, by omega⟩, hg, FR.rf⟩
