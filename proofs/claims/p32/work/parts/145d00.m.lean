set_option maxHeartbeats 4000000 in
set_option maxRecDepth 20000 in
/-- M.needless -/
theorem m_274 (σ : jM) (hg : GI σ)  (pre0 : (tl σ) = 22) (fr lo : Nat) (hfr : 2 ≤ fr) (hlo : 55 ≤ lo) : WP 274 0 (lv_args 0 [.ref 117]) [] fr lo σ (fun v τ => ∃ z : Int, v = some (iV z) ∧ (0 ≤ z ∧ z ≤ 61) ∧ σ = τ) := by
  show WP 274 0 [(0, .ref 117)] [] _ _ _ _
  refine wp_al1 jF_274_0 rfl rfl (pc2 := 1) ?_
  refine wp_cV (as := []) (rest := []) (a := 117) (mx := 4) (ci := 12) jF_274_1 kd117 (by decide) rfl rfl rfl rfl rfl (by omega) (by omega) rfl (pc2 := 4) ?_
  refine wp_use (m_259 σ hg  (by omega) _ _ (by omega) (by omega)) ?_
  rintro _ _ ⟨y3, rfl, rfl⟩
  show WP 274 4 [(0, .ref 117)] [.long y3] _ _ _ _
  refine wp_ls1 (lv2 := [(0, .ref 117), (1, .long y3)]) jF_274_4 rfl rfl rfl (pc2 := 5) ?_
  refine wp_ic jF_274_5 rfl (pc2 := 6) ?_
  refine wp_is1 (lv2 := [(0, .ref 117), (1, .long y3), (3, iV 0)]) jF_274_6 rfl rfl rfl (pc2 := 7) ?_
  refine wp_ic jF_274_7 rfl (pc2 := 8) ?_
  refine wp_is2 (lv2 := [(0, .ref 117), (1, .long y3), (3, iV 0), (4, iV 0)]) jF_274_8 rfl rfl rfl (pc2 := 10) ?_
  have b4 := GI.b hg 117 49 kd117 (lo := 0) (hi := 61) rfl
  refine wp_loop (α := Int × Int) (fun a => [(0, .ref 117), (1, .long y3), (3, iV (a.1)), (4, iV (a.2))]) (fun a τ => (0 ≤ a.1 ∧ a.1 ≤ 61) ∧ (0 ≤ a.2 ∧ a.2 ≤ 61) ∧ σ = τ ∧ ((a.1) ≤ (a.2)) ∧ ((a.2) ≤ (σ.1 117 49))) (fun a τ => Int.toNat ((σ.1 117 49) - (a.2))) (0, 0) σ ?_ ?_
  · skip
    exact ⟨⟨by (try dsimp only); omega, by (try dsimp only); omega⟩, ⟨by (try dsimp only); omega, by (try dsimp only); omega⟩, rfl, (by (try dsimp only); omega), (by (try dsimp only); omega)⟩
  · rintro ⟨x5, x6⟩ _ ⟨h7, h8, rfl, p12, p13⟩ ih14
    try dsimp only at h7 h8 p12 p13
    show WP 274 10 [(0, .ref 117), (1, .long y3), (3, iV x5), (4, iV x6)] [] _ _ _ _
    show WP 274 10 [(0, .ref 117), (1, .long y3), (3, iV x5), (4, iV x6)] [] _ _ _ _
    refine wp_il2 jF_274_10 rfl rfl (pc2 := 12) ?_
    refine wp_al1 jF_274_12 rfl rfl (pc2 := 13) ?_
    refine wp_gi jF_274_13 kd117 (by decide) rfl rfl rfl (pc2 := 16) ?_
    refine wp_i_ge jF_274_16 (m_rgb h8 rfl) (m_rgb b4 rfl) rfl (pc2 := 19) ?_ ?_
    · intro h15
      refine wp_il1 jF_274_84 rfl rfl (pc2 := 85) ?_
      refine wp_ri jF_274_85 rfl ?_
      exact ⟨x5, rfl, ⟨by omega, by omega⟩, rfl⟩
    · intro h15
      refine wp_lc jF_274_19 rfl (pc2 := 20) ?_
      refine wp_ls2 (lv2 := [(0, .ref 117), (1, .long y3), (3, iV x5), (4, iV x6), (5, .long (Int64.ofNat 0))]) jF_274_20 rfl rfl rfl (pc2 := 22) ?_
      refine wp_ic jF_274_22 rfl (pc2 := 23) ?_
      refine wp_is2 (lv2 := [(0, .ref 117), (1, .long y3), (3, iV x5), (4, iV x6), (5, .long (Int64.ofNat 0)), (7, iV 0)]) jF_274_23 rfl rfl rfl (pc2 := 25) ?_
      refine wp_loop (α := Int64 × Int) (fun a => [(0, .ref 117), (1, .long y3), (3, iV x5), (4, iV x6), (5, .long (a.1)), (7, iV (a.2))]) (fun a τ => (0 ≤ a.2 ∧ a.2 ≤ 61) ∧ σ = τ ∧ ((a.2) ≤ (σ.1 117 49))) (fun a τ => Int.toNat ((σ.1 117 49) - (a.2))) ((Int64.ofNat 0), 0) σ ?_ ?_
      · skip
        exact ⟨⟨by (try dsimp only); omega, by (try dsimp only); omega⟩, rfl, (by (try dsimp only); omega)⟩
      · rintro ⟨y16, x17⟩ _ ⟨h18, rfl, p22⟩ ih23
        try dsimp only at h18 p22
        show WP 274 25 [(0, .ref 117), (1, .long y3), (3, iV x5), (4, iV x6), (5, .long y16), (7, iV x17)] [] _ _ _ _
        show WP 274 25 [(0, .ref 117), (1, .long y3), (3, iV x5), (4, iV x6), (5, .long y16), (7, iV x17)] [] _ _ _ _
        refine wp_il2 jF_274_25 rfl rfl (pc2 := 27) ?_
        refine wp_al1 jF_274_27 rfl rfl (pc2 := 28) ?_
        refine wp_gi jF_274_28 kd117 (by decide) rfl rfl rfl (pc2 := 31) ?_
        refine wp_i_ge jF_274_31 (m_rgb h18 rfl) (m_rgb b4 rfl) rfl (pc2 := 34) ?_ ?_
        · intro h24
          refine wp_ll2 jF_274_63 rfl rfl (pc2 := 65) ?_
          refine wp_ll1 jF_274_65 rfl rfl (pc2 := 66) ?_
          refine wp_anyL (pc2 := 67) jF_274_66 rfl rfl ?_
          intro z25 h26
          refine wp_z_ne jF_274_67 (m_rgb h26 rfl) rfl (pc2 := 70) ?_ ?_
          · intro h27
            refine wp_al1 jF_274_73 rfl rfl (pc2 := 74) ?_
            refine wp_il2 jF_274_74 rfl rfl (pc2 := 76) ?_
            refine wp_cV (as := [iV x6]) (rest := []) (a := 117) (mx := 3) (ci := 12) jF_274_76 kd117 (by decide) rfl rfl rfl rfl rfl (by omega) (by omega) rfl (pc2 := 79) ?_
            refine wp_use (m_261 σ hg x6 (by omega) (by omega) (by omega) (by omega) _ _ (by omega) (by omega)) ?_
            rintro _ _ ⟨z32, rfl, h33, rfl, p28, p29⟩
            show WP 274 79 [(0, .ref 117), (1, .long y3), (3, iV x5), (4, iV x6), (5, .long y16), (7, iV x17)] [iV z32] _ _ _ _
            refine wp_is2 (lv2 := [(0, .ref 117), (1, .long y3), (3, iV x5), (4, iV z32), (5, .long y16), (7, iV x17)]) jF_274_79 rfl rfl rfl (pc2 := 81) ?_
            refine wp_go jF_274_81 ?_
            refine wp_less [0, 1, 3, 4] (lv2 := [(0, .ref 117), (1, .long y3), (3, iV x5), (4, iV z32)]) rfl rfl ?_
            exact ih14 (x5, z32) σ ⟨⟨by (try dsimp only); omega, by (try dsimp only); omega⟩, ⟨by (try dsimp only); omega, by (try dsimp only); omega⟩, rfl, (by (try dsimp only); omega), (by (try dsimp only); omega)⟩ (by show Int.toNat ((σ.1 117 49) - z32) < Int.toNat ((σ.1 117 49) - x6); omega)
          · intro h27
            refine wp_inc (lv2 := [(0, .ref 117), (1, .long y3), (3, iV (x5 + 1)), (4, iV x6), (5, .long y16), (7, iV x17)]) jF_274_70 rfl rfl rfl rfl (pc2 := 73) ?_
            refine wp_al1 jF_274_73 rfl rfl (pc2 := 74) ?_
            refine wp_il2 jF_274_74 rfl rfl (pc2 := 76) ?_
            refine wp_cV (as := [iV x6]) (rest := []) (a := 117) (mx := 3) (ci := 12) jF_274_76 kd117 (by decide) rfl rfl rfl rfl rfl (by omega) (by omega) rfl (pc2 := 79) ?_
            refine wp_use (m_261 σ hg x6 (by omega) (by omega) (by omega) (by omega) _ _ (by omega) (by omega)) ?_
            rintro _ _ ⟨z38, rfl, h39, rfl, p34, p35⟩
            show WP 274 79 [(0, .ref 117), (1, .long y3), (3, iV (x5 + 1)), (4, iV x6), (5, .long y16), (7, iV x17)] [iV z38] _ _ _ _
            refine wp_is2 (lv2 := [(0, .ref 117), (1, .long y3), (3, iV (x5 + 1)), (4, iV z38), (5, .long y16), (7, iV x17)]) jF_274_79 rfl rfl rfl (pc2 := 81) ?_
            refine wp_go jF_274_81 ?_
            refine wp_less [0, 1, 3, 4] (lv2 := [(0, .ref 117), (1, .long y3), (3, iV (x5 + 1)), (4, iV z38)]) rfl rfl ?_
            exact ih14 ((x5 + 1), z38) σ ⟨⟨by (try dsimp only); omega, by (try dsimp only); omega⟩, ⟨by (try dsimp only); omega, by (try dsimp only); omega⟩, rfl, (by (try dsimp only); omega), (by (try dsimp only); omega)⟩ (by show Int.toNat ((σ.1 117 49) - z38) < Int.toNat ((σ.1 117 49) - x6); omega)
        · intro h24
          refine wp_il2 jF_274_34 rfl rfl (pc2 := 36) ?_
          refine wp_il2 jF_274_36 rfl rfl (pc2 := 38) ?_
          refine wp_i_eq jF_274_38 ⟨by omega, by omega⟩ ⟨by omega, by omega⟩ rfl (pc2 := 41) ?_ ?_
          · intro h40
            refine wp_al1 jF_274_52 rfl rfl (pc2 := 53) ?_
            refine wp_il2 jF_274_53 rfl rfl (pc2 := 55) ?_
            refine wp_cV (as := [iV x17]) (rest := []) (a := 117) (mx := 3) (ci := 12) jF_274_55 kd117 (by decide) rfl rfl rfl rfl rfl (by omega) (by omega) rfl (pc2 := 58) ?_
            refine wp_use (m_261 σ hg x17 (by omega) (by omega) (by omega) (by omega) _ _ (by omega) (by omega)) ?_
            rintro _ _ ⟨z45, rfl, h46, rfl, p41, p42⟩
            show WP 274 58 [(0, .ref 117), (1, .long y3), (3, iV x5), (4, iV x6), (5, .long y16), (7, iV x17)] [iV z45] _ _ _ _
            refine wp_is2 (lv2 := [(0, .ref 117), (1, .long y3), (3, iV x5), (4, iV x6), (5, .long y16), (7, iV z45)]) jF_274_58 rfl rfl rfl (pc2 := 60) ?_
            refine wp_go jF_274_60 ?_
            exact ih23 (y16, z45) σ ⟨⟨by (try dsimp only); omega, by (try dsimp only); omega⟩, rfl, (by (try dsimp only); omega)⟩ (by show Int.toNat ((σ.1 117 49) - z45) < Int.toNat ((σ.1 117 49) - x17); omega)
          · intro h40
            refine wp_ll2 jF_274_41 rfl rfl (pc2 := 43) ?_
            refine wp_al1 jF_274_43 rfl rfl (pc2 := 44) ?_
            refine wp_il2 jF_274_44 rfl rfl (pc2 := 46) ?_
            refine wp_cV (as := [iV x17]) (rest := [.long y16]) (a := 117) (mx := 13) (ci := 12) jF_274_46 kd117 (by decide) rfl rfl rfl rfl rfl (by omega) (by omega) rfl (pc2 := 49) ?_
            refine wp_use (m_260 σ hg x17 (by omega) (by omega) (by omega) (by omega) _ _ (by omega) (by omega)) ?_
            rintro _ _ ⟨y49, rfl, rfl⟩
            show WP 274 49 [(0, .ref 117), (1, .long y3), (3, iV x5), (4, iV x6), (5, .long y16), (7, iV x17)] [.long y49, .long y16] _ _ _ _
            refine wp_lng (pc2 := 50) jF_274_49 rfl rfl ?_
            intro y50
            refine wp_ls2 (lv2 := [(0, .ref 117), (1, .long y3), (3, iV x5), (4, iV x6), (5, .long y50), (7, iV x17)]) jF_274_50 rfl rfl rfl (pc2 := 52) ?_
            refine wp_al1 jF_274_52 rfl rfl (pc2 := 53) ?_
            refine wp_il2 jF_274_53 rfl rfl (pc2 := 55) ?_
            refine wp_cV (as := [iV x17]) (rest := []) (a := 117) (mx := 3) (ci := 12) jF_274_55 kd117 (by decide) rfl rfl rfl rfl rfl (by omega) (by omega) rfl (pc2 := 58) ?_
            refine wp_use (m_261 σ hg x17 (by omega) (by omega) (by omega) (by omega) _ _ (by omega) (by omega)) ?_
            rintro _ _ ⟨z55, rfl, h56, rfl, p51, p52⟩
            show WP 274 58 [(0, .ref 117), (1, .long y3), (3, iV x5), (4, iV x6), (5, .long y50), (7, iV x17)] [iV z55] _ _ _ _
            refine wp_is2 (lv2 := [(0, .ref 117), (1, .long y3), (3, iV x5), (4, iV x6), (5, .long y50), (7, iV z55)]) jF_274_58 rfl rfl rfl (pc2 := 60) ?_
            refine wp_go jF_274_60 ?_
            exact ih23 (y50, z55) σ ⟨⟨by (try dsimp only); omega, by (try dsimp only); omega⟩, rfl, (by (try dsimp only); omega)⟩ (by show Int.toNat ((σ.1 117 49) - z55) < Int.toNat ((σ.1 117 49) - x17); omega)
set_option maxHeartbeats 4000000 in
set_option maxRecDepth 20000 in
/-- M.judgedSet -/
theorem m_300 (σ : jM) (hg : GI σ) (fb : Int) (hl_fb : 0 ≤ fb) (hu_fb : fb ≤ 1) (pre0 : (σ.1 143 5) ≤ 10) (fr lo : Nat) (hfr : 0 ≤ fr) (hlo : 0 ≤ lo) : WP 300 0 (lv_args 0 [.ref 117, iV fb]) [] fr lo σ (fun v τ => ∃ z : Int64, v = some (.long z) ∧ σ = τ) := by
  show WP 300 0 [(0, .ref 117), (1, iV fb)] [] _ _ _ _
  refine wp_lc jF_300_0 rfl (pc2 := 1) ?_
  refine wp_ls1 (lv2 := [(0, .ref 117), (1, iV fb), (2, .long (Int64.ofNat 0))]) jF_300_1 rfl rfl rfl (pc2 := 2) ?_
  refine wp_ic jF_300_2 rfl (pc2 := 3) ?_
  refine wp_is2 (lv2 := [(0, .ref 117), (1, iV fb), (2, .long (Int64.ofNat 0)), (4, iV 0)]) jF_300_3 rfl rfl rfl (pc2 := 5) ?_
  refine wp_loop (α := Int64 × Int) (fun a => [(0, .ref 117), (1, iV fb), (2, .long (a.1)), (4, iV (a.2))]) (fun a τ => (0 ≤ a.2 ∧ a.2 ≤ 10) ∧ σ = τ) (fun a τ => Int.toNat (10 - (a.2))) ((Int64.ofNat 0), 0) σ ?_ ?_
  · skip
    exact ⟨⟨by (try dsimp only); omega, by (try dsimp only); omega⟩, rfl⟩
  · rintro ⟨y1, x2⟩ _ ⟨h3, rfl⟩ ih7
    try dsimp only at h3
    show WP 300 5 [(0, .ref 117), (1, iV fb), (2, .long y1), (4, iV x2)] [] _ _ _ _
    show WP 300 5 [(0, .ref 117), (1, iV fb), (2, .long y1), (4, iV x2)] [] _ _ _ _
    refine wp_il2 jF_300_5 rfl rfl (pc2 := 7) ?_
    refine wp_al1 jF_300_7 rfl rfl (pc2 := 8) ?_
    refine wp_gr (b := 143) jF_300_8 kd117 (by decide) (c := 243) rfl rfl rfl (pc2 := 11) ?_
    refine wp_ic jF_300_11 rfl (pc2 := 12) ?_
    have b8 := GI.b hg 143 5 kd143 (lo := 0) (hi := 16) rfl
    refine wp_iald (n := 6) (e := (σ.1 143 5)) jF_300_12 kd143 (by decide) rfl rfl (by omega) (by omega) rfl rfl (pc2 := 13) ?_
    refine wp_i_ge jF_300_13 (m_rgb h3 rfl) (m_rgb b8 rfl) rfl (pc2 := 16) ?_ ?_
    · intro h9
      refine wp_ll1 jF_300_55 rfl rfl (pc2 := 56) ?_
      refine wp_rl jF_300_56 ?_
      exact ⟨y1, rfl, rfl⟩
    · intro h9
      refine wp_al1 jF_300_16 rfl rfl (pc2 := 17) ?_
      refine wp_gr (b := 142) jF_300_17 kd117 (by decide) (c := 242) rfl rfl rfl (pc2 := 20) ?_
      refine wp_si jF_300_20 (by decide) rfl (pc2 := 23) ?_
      refine wp_bi jF_300_23 (by decide) rfl (pc2 := 25) ?_
      refine wp_il2 jF_300_25 rfl rfl (pc2 := 27) ?_
      refine wp_mul jF_300_27 rfl (pc2 := 28) ?_
      refine wp_add jF_300_28 rfl (pc2 := 29) ?_
      refine wp_ic jF_300_29 rfl (pc2 := 30) ?_
      refine wp_add jF_300_30 rfl (pc2 := 31) ?_
      have b10 := GI.b hg 142 ((348 + (6 * x2)) + 3).toNat kd142 (lo := (-2147483648)) (hi := 2147483647) rfl
      refine wp_iald (n := 408) (e := (σ.1 142 ((348 + (6 * x2)) + 3).toNat)) jF_300_31 kd142 (by decide) rfl rfl (by omega) (by omega) rfl rfl (pc2 := 32) ?_
      refine wp_il1 jF_300_32 rfl rfl (pc2 := 33) ?_
      refine wp_i_ne jF_300_33 (m_rgb b10 rfl) ⟨by omega, by omega⟩ rfl (pc2 := 36) ?_ ?_
      · intro h11
        refine wp_inc (lv2 := [(0, .ref 117), (1, iV fb), (2, .long y1), (4, iV (x2 + 1))]) jF_300_49 rfl rfl rfl rfl (pc2 := 52) ?_
        refine wp_go jF_300_52 ?_
        exact ih7 (y1, (x2 + 1)) σ ⟨⟨by (try dsimp only); omega, by (try dsimp only); omega⟩, rfl⟩ (by show Int.toNat (10 - (x2 + 1)) < Int.toNat (10 - x2); omega)
      · intro h11
        refine wp_ll1 jF_300_36 rfl rfl (pc2 := 37) ?_
        refine wp_al1 jF_300_37 rfl rfl (pc2 := 38) ?_
        refine wp_gr (b := 145) jF_300_38 kd117 (by decide) (c := 245) rfl rfl rfl (pc2 := 41) ?_
        refine wp_bi jF_300_41 (by decide) rfl (pc2 := 43) ?_
        refine wp_il2 jF_300_43 rfl rfl (pc2 := 45) ?_
        refine wp_add jF_300_45 rfl (pc2 := 46) ?_
        refine wp_lald (n := 34) jF_300_46 kd145 (by decide) rfl rfl (by omega) (by omega) rfl (pc2 := 47) ?_
        intro y12
        refine wp_lng (pc2 := 48) jF_300_47 rfl rfl ?_
        intro y13
        refine wp_ls1 (lv2 := [(0, .ref 117), (1, iV fb), (2, .long y13), (4, iV x2)]) jF_300_48 rfl rfl rfl (pc2 := 49) ?_
        refine wp_inc (lv2 := [(0, .ref 117), (1, iV fb), (2, .long y13), (4, iV (x2 + 1))]) jF_300_49 rfl rfl rfl rfl (pc2 := 52) ?_
        refine wp_go jF_300_52 ?_
        exact ih7 (y13, (x2 + 1)) σ ⟨⟨by (try dsimp only); omega, by (try dsimp only); omega⟩, rfl⟩ (by show Int.toNat (10 - (x2 + 1)) < Int.toNat (10 - x2); omega)
set_option maxHeartbeats 4000000 in
set_option maxRecDepth 20000 in
/-- M.isFitting -/
theorem m_299 (σ : jM) (hg : GI σ) (k : Int) (hl_k : 0 ≤ k) (hu_k : k ≤ 1751) (pre0 : (σ.1 143 5) ≤ 10) (fr lo : Nat) (hfr : 1 ≤ fr) (hlo : 24 ≤ lo) : WP 299 0 (lv_args 0 [.ref 117, iV k]) [] fr lo σ (fun v τ => ∃ z : Int, v = some (iV z) ∧ (0 ≤ z ∧ z ≤ 1) ∧ σ = τ) := by
  show WP 299 0 [(0, .ref 117), (1, iV k)] [] _ _ _ _
  refine wp_al1 jF_299_0 rfl rfl (pc2 := 1) ?_
  refine wp_ic jF_299_1 rfl (pc2 := 2) ?_
  refine wp_cV (as := [iV 1]) (rest := []) (a := 117) (mx := 5) (ci := 12) jF_299_2 kd117 (by decide) rfl rfl rfl rfl rfl (by omega) (by omega) rfl (pc2 := 5) ?_
  have b1 := GI.b hg 143 5 kd143 (lo := 0) (hi := 16) rfl
  refine wp_use (m_300 σ hg 1 (by omega) (by omega) (by omega) _ _ (by omega) (by omega)) ?_
  rintro _ _ ⟨y4, rfl, rfl⟩
  show WP 299 5 [(0, .ref 117), (1, iV k)] [.long y4] _ _ _ _
  refine wp_al1 jF_299_5 rfl rfl (pc2 := 6) ?_
  refine wp_gr (b := 152) jF_299_6 kd117 (by decide) (c := 252) rfl rfl rfl (pc2 := 9) ?_
  refine wp_il1 jF_299_9 rfl rfl (pc2 := 10) ?_
  refine wp_lald (n := 1760) jF_299_10 kd152 (by decide) rfl rfl (by omega) (by omega) rfl (pc2 := 11) ?_
  intro y5
  refine wp_ld jF_299_11 rfl (pc2 := 14) ?_
  refine wp_lng (pc2 := 15) jF_299_14 rfl rfl ?_
  intro y6
  refine wp_lng (pc2 := 16) jF_299_15 rfl rfl ?_
  intro y7
  refine wp_lc jF_299_16 rfl (pc2 := 17) ?_
  refine wp_anyL (pc2 := 18) jF_299_17 rfl rfl ?_
  intro z8 h9
  refine wp_z_ne jF_299_18 (m_rgb h9 rfl) rfl (pc2 := 21) ?_ ?_
  · intro h10
    refine wp_ic jF_299_42 rfl (pc2 := 43) ?_
    refine wp_ri jF_299_43 rfl ?_
    exact ⟨0, rfl, ⟨by omega, by omega⟩, rfl⟩
  · intro h10
    refine wp_al1 jF_299_21 rfl rfl (pc2 := 22) ?_
    refine wp_ic jF_299_22 rfl (pc2 := 23) ?_
    refine wp_cV (as := [iV 0]) (rest := []) (a := 117) (mx := 5) (ci := 12) jF_299_23 kd117 (by decide) rfl rfl rfl rfl rfl (by omega) (by omega) rfl (pc2 := 26) ?_
    refine wp_use (m_300 σ hg 0 (by omega) (by omega) (by omega) _ _ (by omega) (by omega)) ?_
    rintro _ _ ⟨y13, rfl, rfl⟩
    show WP 299 26 [(0, .ref 117), (1, iV k)] [.long y13] _ _ _ _
    refine wp_al1 jF_299_26 rfl rfl (pc2 := 27) ?_
    refine wp_gr (b := 152) jF_299_27 kd117 (by decide) (c := 252) rfl rfl rfl (pc2 := 30) ?_
    refine wp_il1 jF_299_30 rfl rfl (pc2 := 31) ?_
    refine wp_lald (n := 1760) jF_299_31 kd152 (by decide) rfl rfl (by omega) (by omega) rfl (pc2 := 32) ?_
    intro y14
    refine wp_lng (pc2 := 33) jF_299_32 rfl rfl ?_
    intro y15
    refine wp_lc jF_299_33 rfl (pc2 := 34) ?_
    refine wp_anyL (pc2 := 35) jF_299_34 rfl rfl ?_
    intro z16 h17
    refine wp_z_ne jF_299_35 (m_rgb h17 rfl) rfl (pc2 := 38) ?_ ?_
    · intro h18
      refine wp_ic jF_299_42 rfl (pc2 := 43) ?_
      refine wp_ri jF_299_43 rfl ?_
      exact ⟨0, rfl, ⟨by omega, by omega⟩, rfl⟩
    · intro h18
      refine wp_ic jF_299_38 rfl (pc2 := 39) ?_
      refine wp_go jF_299_39 ?_
      refine wp_ri jF_299_43 rfl ?_
      exact ⟨1, rfl, ⟨by omega, by omega⟩, rfl⟩
set_option maxHeartbeats 4000000 in
set_option maxRecDepth 20000 in
/-- M.isFewer -/
theorem m_296 (σ : jM) (hg : GI σ) (n : Int) (hl_n : (-2147483648) ≤ n) (hu_n : n ≤ 2147483647) (a : Int) (hl_a : (-2147483648) ≤ a) (hu_a : a ≤ 2147483647) (b : Int) (hl_b : (-2147483648) ≤ b) (hu_b : b ≤ 2147483647)  (fr lo : Nat) (hfr : 0 ≤ fr) (hlo : 0 ≤ lo) : WP 296 0 (lv_args 0 [.ref 117, iV n, iV a, iV b]) [] fr lo σ (fun v τ => v = none ∧ GI τ ∧ FR Wfw σ τ) := by
  show WP 296 0 [(0, .ref 117), (1, iV n), (2, iV a), (3, iV b)] [] _ _ _ _
  refine wp_al1 jF_296_0 rfl rfl (pc2 := 1) ?_
  have b1 := GI.b hg 117 59 kd117 (lo := (-2147483648)) (hi := 2147483647) rfl
  refine wp_gi jF_296_1 kd117 (by decide) rfl rfl rfl (pc2 := 4) ?_
  refine wp_ic jF_296_4 rfl (pc2 := 5) ?_
  refine wp_i_eq jF_296_5 (m_rgb b1 rfl) (m_rgl rfl) rfl (pc2 := 8) ?_ ?_
  · intro h2
    refine wp_al1 jF_296_17 rfl rfl (pc2 := 18) ?_
    refine wp_il1 jF_296_18 rfl rfl (pc2 := 19) ?_
    refine wp_pi jF_296_19 kd117 (by decide) rfl rfl rfl (pc2 := 22) hg (lo := (-2147483648)) (hi := 2147483647) rfl (by omega) (by omega) ?_
    intro τ3 g4 f5 e6
    refine wp_al1 jF_296_22 rfl rfl (pc2 := 23) ?_
    refine wp_il1 jF_296_23 rfl rfl (pc2 := 24) ?_
    refine wp_pi jF_296_24 kd117 (by decide) rfl rfl rfl (pc2 := 27) g4 (lo := (-2147483648)) (hi := 2147483647) rfl (by omega) (by omega) ?_
    intro τ7 g8 f9 e10
    refine wp_al1 jF_296_27 rfl rfl (pc2 := 28) ?_
    refine wp_il1 jF_296_28 rfl rfl (pc2 := 29) ?_
    refine wp_pi jF_296_29 kd117 (by decide) rfl rfl rfl (pc2 := 32) g8 (lo := (-2147483648)) (hi := 2147483647) rfl (by omega) (by omega) ?_
    intro τ11 g12 f13 e14
    refine wp_rv jF_296_32 ?_
    exact ⟨rfl, g12, (FR.w (FR.w (FR.w FR.rf f5 rfl) f9 rfl) f13 rfl)⟩
  · intro h2
    refine wp_il1 jF_296_8 rfl rfl (pc2 := 9) ?_
    refine wp_al1 jF_296_9 rfl rfl (pc2 := 10) ?_
    refine wp_gi jF_296_10 kd117 (by decide) rfl rfl rfl (pc2 := 13) ?_
    refine wp_i_lt jF_296_13 ⟨by omega, by omega⟩ (m_rgb b1 rfl) rfl (pc2 := 16) ?_ ?_
    · intro h15
      refine wp_al1 jF_296_17 rfl rfl (pc2 := 18) ?_
      refine wp_il1 jF_296_18 rfl rfl (pc2 := 19) ?_
      refine wp_pi jF_296_19 kd117 (by decide) rfl rfl rfl (pc2 := 22) hg (lo := (-2147483648)) (hi := 2147483647) rfl (by omega) (by omega) ?_
      intro τ16 g17 f18 e19
      refine wp_al1 jF_296_22 rfl rfl (pc2 := 23) ?_
      refine wp_il1 jF_296_23 rfl rfl (pc2 := 24) ?_
      refine wp_pi jF_296_24 kd117 (by decide) rfl rfl rfl (pc2 := 27) g17 (lo := (-2147483648)) (hi := 2147483647) rfl (by omega) (by omega) ?_
      intro τ20 g21 f22 e23
      refine wp_al1 jF_296_27 rfl rfl (pc2 := 28) ?_
      refine wp_il1 jF_296_28 rfl rfl (pc2 := 29) ?_
      refine wp_pi jF_296_29 kd117 (by decide) rfl rfl rfl (pc2 := 32) g21 (lo := (-2147483648)) (hi := 2147483647) rfl (by omega) (by omega) ?_
      intro τ24 g25 f26 e27
      refine wp_rv jF_296_32 ?_
      exact ⟨rfl, g25, (FR.w (FR.w (FR.w FR.rf f18 rfl) f22 rfl) f26 rfl)⟩
    · intro h15
      refine wp_rv jF_296_16 ?_
      exact ⟨rfl, hg, FR.rf⟩
set_option maxHeartbeats 4000000 in
set_option maxRecDepth 20000 in
/-- M.finds -/
theorem m_295 (σ : jM) (hg : GI σ) (set : Int64)  (fr lo : Nat) (hfr : 1 ≤ fr) (hlo : 23 ≤ lo) : WP 295 0 (lv_args 0 [.ref 117, .long set]) [] fr lo σ (fun v τ => v = none ∧ GI τ ∧ FR Wfw σ τ) := by
  show WP 295 0 [(0, .ref 117), (1, .long set)] [] _ _ _ _
  refine wp_al1 jF_295_0 rfl rfl (pc2 := 1) ?_
  refine wp_ic jF_295_1 rfl (pc2 := 2) ?_
  refine wp_pi jF_295_2 kd117 (by decide) rfl rfl rfl (pc2 := 5) hg (lo := (-2147483648)) (hi := 2147483647) rfl (by omega) (by omega) ?_
  intro τ1 g2 f3 e4
  refine wp_ll1 jF_295_5 rfl rfl (pc2 := 6) ?_
  refine wp_lc jF_295_6 rfl (pc2 := 7) ?_
  refine wp_anyL (pc2 := 8) jF_295_7 rfl rfl ?_
  intro z5 h6
  refine wp_z_ne jF_295_8 (m_rgb h6 rfl) rfl (pc2 := 11) ?_ ?_
  · intro h7
    refine wp_ic jF_295_27 rfl (pc2 := 28) ?_
    refine wp_is1 (lv2 := [(0, .ref 117), (1, .long set), (3, iV 0)]) jF_295_28 rfl rfl rfl (pc2 := 29) ?_
    refine wp_loop (α := Int) (fun a => [(0, .ref 117), (1, .long set), (3, iV (a))]) (fun a τ => (0 ≤ a ∧ a ≤ 1752) ∧ GI τ ∧ FR Wfw τ1 τ) (fun a τ => Int.toNat (1752 - (a))) (0) τ1 ?_ ?_
    · skip
      exact ⟨⟨by omega, by omega⟩, g2, FR.rf⟩
    · rintro x8 τ10 ⟨h9, g11, f12⟩ ih13
      show WP 295 29 [(0, .ref 117), (1, .long set), (3, iV x8)] [] _ _ _ _
      show WP 295 29 [(0, .ref 117), (1, .long set), (3, iV x8)] [] _ _ _ _
      refine wp_il1 jF_295_29 rfl rfl (pc2 := 30) ?_
      refine wp_al1 jF_295_30 rfl rfl (pc2 := 31) ?_
      have b14 := GI.b hg 117 56 kd117 (lo := 0) (hi := 1752) rfl
      refine wp_gi jF_295_31 kd117 (by decide) rfl ((FR.at f12 117 56 rfl).trans (FRw.nj f3 (by decide))) rfl (pc2 := 34) ?_
      refine wp_i_ge jF_295_34 (m_rgb h9 rfl) (m_rgb b14 rfl) rfl (pc2 := 37) ?_ ?_
      · intro h15
        refine wp_ic jF_295_66 rfl (pc2 := 67) ?_
        refine wp_is1 (lv2 := [(0, .ref 117), (1, .long set), (3, iV 0)]) jF_295_67 rfl rfl rfl (pc2 := 68) ?_
        refine wp_loop (α := Int) (fun a => [(0, .ref 117), (1, .long set), (3, iV (a))]) (fun a τ => (0 ≤ a ∧ a ≤ 1752) ∧ GI τ ∧ FR Wfw τ10 τ) (fun a τ => Int.toNat (1752 - (a))) (0) τ10 ?_ ?_
        · skip
          exact ⟨⟨by omega, by omega⟩, g11, FR.rf⟩
        · rintro x16 τ18 ⟨h17, g19, f20⟩ ih21
          show WP 295 68 [(0, .ref 117), (1, .long set), (3, iV x16)] [] _ _ _ _
          show WP 295 68 [(0, .ref 117), (1, .long set), (3, iV x16)] [] _ _ _ _
          refine wp_il1 jF_295_68 rfl rfl (pc2 := 69) ?_
          refine wp_al1 jF_295_69 rfl rfl (pc2 := 70) ?_
          refine wp_gi jF_295_70 kd117 (by decide) rfl ((FR.at f20 117 56 rfl).trans ((FR.at f12 117 56 rfl).trans (FRw.nj f3 (by decide)))) rfl (pc2 := 73) ?_
          refine wp_i_ge jF_295_73 (m_rgb h17 rfl) (m_rgb b14 rfl) rfl (pc2 := 76) ?_ ?_
          · intro h22
            refine wp_rv jF_295_160 ?_
            exact ⟨rfl, g19, (FR.up (FR.up (FR.w FR.rf f3 rfl) f12 sb_Wfw_Wfw) f20 sb_Wfw_Wfw)⟩
          · intro h22
            refine wp_al1 jF_295_76 rfl rfl (pc2 := 77) ?_
            refine wp_gr (b := 152) jF_295_77 kd117 (by decide) (c := 252) rfl rfl rfl (pc2 := 80) ?_
            refine wp_il1 jF_295_80 rfl rfl (pc2 := 81) ?_
            refine wp_lald (n := 1760) jF_295_81 kd152 (by decide) rfl rfl (by omega) (by omega) rfl (pc2 := 82) ?_
            intro y23
            refine wp_ll1 jF_295_82 rfl rfl (pc2 := 83) ?_
            refine wp_ld jF_295_83 rfl (pc2 := 86) ?_
            refine wp_lng (pc2 := 87) jF_295_86 rfl rfl ?_
            intro y24
            refine wp_lng (pc2 := 88) jF_295_87 rfl rfl ?_
            intro y25
            refine wp_lc jF_295_88 rfl (pc2 := 89) ?_
            refine wp_anyL (pc2 := 90) jF_295_89 rfl rfl ?_
            intro z26 h27
            refine wp_z_eq jF_295_90 (m_rgb h27 rfl) rfl (pc2 := 93) ?_ ?_
            · intro h28
              refine wp_il1 jF_295_96 rfl rfl (pc2 := 97) ?_
              refine wp_is2 (lv2 := [(0, .ref 117), (1, .long set), (3, iV x16), (4, iV x16)]) jF_295_97 rfl rfl rfl (pc2 := 99) ?_
              refine wp_loop (α := Int) (fun a => [(0, .ref 117), (1, .long set), (3, iV x16), (4, iV (a))]) (fun a τ => (0 ≤ a ∧ a ≤ 1752) ∧ GI τ ∧ FR Wfw τ18 τ) (fun a τ => Int.toNat (1752 - (a))) (x16) τ18 ?_ ?_
              · skip
                exact ⟨⟨by omega, by omega⟩, g19, FR.rf⟩
              · rintro x29 τ31 ⟨h30, g32, f33⟩ ih34
                show WP 295 99 [(0, .ref 117), (1, .long set), (3, iV x16), (4, iV x29)] [] _ _ _ _
                show WP 295 99 [(0, .ref 117), (1, .long set), (3, iV x16), (4, iV x29)] [] _ _ _ _
                refine wp_il2 jF_295_99 rfl rfl (pc2 := 101) ?_
                refine wp_al1 jF_295_101 rfl rfl (pc2 := 102) ?_
                refine wp_gi jF_295_102 kd117 (by decide) rfl ((FR.at f33 117 56 rfl).trans ((FR.at f20 117 56 rfl).trans ((FR.at f12 117 56 rfl).trans (FRw.nj f3 (by decide))))) rfl (pc2 := 105) ?_
                refine wp_i_ge jF_295_105 (m_rgb h30 rfl) (m_rgb b14 rfl) rfl (pc2 := 108) ?_ ?_
                · intro h35
                  refine wp_inc (lv2 := [(0, .ref 117), (1, .long set), (3, iV (x16 + 1)), (4, iV x29)]) jF_295_154 rfl rfl rfl rfl (pc2 := 157) ?_
                  refine wp_go jF_295_157 ?_
                  refine wp_less [0, 1, 3] (lv2 := [(0, .ref 117), (1, .long set), (3, iV (x16 + 1))]) rfl rfl ?_
                  exact ih21 ((x16 + 1)) τ31 ⟨⟨by omega, by omega⟩, g32, (FR.up f20 f33 sb_Wfw_Wfw)⟩ (by show Int.toNat (1752 - (x16 + 1)) < Int.toNat (1752 - x16); omega)
                · intro h35
                  refine wp_al1 jF_295_108 rfl rfl (pc2 := 109) ?_
                  refine wp_gr (b := 152) jF_295_109 kd117 (by decide) (c := 252) rfl rfl rfl (pc2 := 112) ?_
                  refine wp_il1 jF_295_112 rfl rfl (pc2 := 113) ?_
                  refine wp_lald (n := 1760) jF_295_113 kd152 (by decide) rfl rfl (by omega) (by omega) rfl (pc2 := 114) ?_
                  intro y36
                  refine wp_al1 jF_295_114 rfl rfl (pc2 := 115) ?_
                  refine wp_gr (b := 152) jF_295_115 kd117 (by decide) (c := 252) rfl rfl rfl (pc2 := 118) ?_
                  refine wp_il2 jF_295_118 rfl rfl (pc2 := 120) ?_
                  refine wp_lald (n := 1760) jF_295_120 kd152 (by decide) rfl rfl (by omega) (by omega) rfl (pc2 := 121) ?_
                  intro y37
                  refine wp_lng (pc2 := 122) jF_295_121 rfl rfl ?_
                  intro y38
                  refine wp_ll1 jF_295_122 rfl rfl (pc2 := 123) ?_
                  refine wp_anyL (pc2 := 124) jF_295_123 rfl rfl ?_
                  intro z39 h40
                  refine wp_z_ne jF_295_124 (m_rgb h40 rfl) rfl (pc2 := 127) ?_ ?_
                  · intro h41
                    refine wp_inc (lv2 := [(0, .ref 117), (1, .long set), (3, iV x16), (4, iV (x29 + 1))]) jF_295_148 rfl rfl rfl rfl (pc2 := 151) ?_
                    refine wp_go jF_295_151 ?_
                    exact ih34 ((x29 + 1)) τ31 ⟨⟨by omega, by omega⟩, g32, f33⟩ (by show Int.toNat (1752 - (x29 + 1)) < Int.toNat (1752 - x29); omega)
                  · intro h41
                    refine wp_al1 jF_295_127 rfl rfl (pc2 := 128) ?_
                    refine wp_al1 jF_295_128 rfl rfl (pc2 := 129) ?_
                    refine wp_gr (b := 153) jF_295_129 kd117 (by decide) (c := 253) rfl rfl rfl (pc2 := 132) ?_
                    refine wp_il1 jF_295_132 rfl rfl (pc2 := 133) ?_
                    have b42 := GI.b hg 153 x16.toNat kd153 (lo := (-2147483648)) (hi := 2147483647) rfl
                    refine wp_iald (n := 1760) (e := (σ.1 153 x16.toNat)) jF_295_133 kd153 (by decide) rfl rfl (by omega) (by omega) ((FR.at f33 153 x16.toNat rfl).trans ((FR.at f20 153 x16.toNat rfl).trans ((FR.at f12 153 x16.toNat rfl).trans (FRw.na f3 (by decide))))) rfl (pc2 := 134) ?_
                    refine wp_al1 jF_295_134 rfl rfl (pc2 := 135) ?_
                    refine wp_gr (b := 153) jF_295_135 kd117 (by decide) (c := 253) rfl rfl rfl (pc2 := 138) ?_
                    refine wp_il2 jF_295_138 rfl rfl (pc2 := 140) ?_
                    have b43 := GI.b hg 153 x29.toNat kd153 (lo := (-2147483648)) (hi := 2147483647) rfl
                    refine wp_iald (n := 1760) (e := (σ.1 153 x29.toNat)) jF_295_140 kd153 (by decide) rfl rfl (by omega) (by omega) ((FR.at f33 153 x29.toNat rfl).trans ((FR.at f20 153 x29.toNat rfl).trans ((FR.at f12 153 x29.toNat rfl).trans (FRw.na f3 (by decide))))) rfl (pc2 := 141) ?_
                    refine wp_any2 (pc2 := 142) jF_295_141 rfl rfl ?_
                    intro z44 h45
                    refine wp_il1 jF_295_142 rfl rfl (pc2 := 143) ?_
                    refine wp_il2 jF_295_143 rfl rfl (pc2 := 145) ?_
                    refine wp_cV (as := [iV z44, iV x16, iV x29]) (rest := []) (a := 117) (mx := 4) (ci := 12) jF_295_145 kd117 (by decide) rfl rfl rfl rfl rfl (by omega) (by omega) rfl (pc2 := 148) ?_
                    refine wp_use (m_296 τ31 g32 z44 (by omega) (by omega) x16 (by omega) (by omega) x29 (by omega) (by omega)  _ _ (by omega) (by omega)) ?_
                    rintro _ τ46 ⟨rfl, g47, f48⟩
                    show WP 295 148 [(0, .ref 117), (1, .long set), (3, iV x16), (4, iV x29)] [] _ _ _ _
                    refine wp_inc (lv2 := [(0, .ref 117), (1, .long set), (3, iV x16), (4, iV (x29 + 1))]) jF_295_148 rfl rfl rfl rfl (pc2 := 151) ?_
                    refine wp_go jF_295_151 ?_
                    exact ih34 ((x29 + 1)) τ46 ⟨⟨by omega, by omega⟩, g47, (FR.up f33 f48 sb_Wfw_Wfw)⟩ (by show Int.toNat (1752 - (x29 + 1)) < Int.toNat (1752 - x29); omega)
            · intro h28
              refine wp_go jF_295_93 ?_
              refine wp_inc (lv2 := [(0, .ref 117), (1, .long set), (3, iV (x16 + 1))]) jF_295_154 rfl rfl rfl rfl (pc2 := 157) ?_
              refine wp_go jF_295_157 ?_
              exact ih21 ((x16 + 1)) τ18 ⟨⟨by omega, by omega⟩, g19, f20⟩ (by show Int.toNat (1752 - (x16 + 1)) < Int.toNat (1752 - x16); omega)
      · intro h15
        refine wp_al1 jF_295_37 rfl rfl (pc2 := 38) ?_
        refine wp_gr (b := 152) jF_295_38 kd117 (by decide) (c := 252) rfl rfl rfl (pc2 := 41) ?_
        refine wp_il1 jF_295_41 rfl rfl (pc2 := 42) ?_
        refine wp_lald (n := 1760) jF_295_42 kd152 (by decide) rfl rfl (by omega) (by omega) rfl (pc2 := 43) ?_
        intro y49
        refine wp_ll1 jF_295_43 rfl rfl (pc2 := 44) ?_
        refine wp_anyL (pc2 := 45) jF_295_44 rfl rfl ?_
        intro z50 h51
        refine wp_z_ne jF_295_45 (m_rgb h51 rfl) rfl (pc2 := 48) ?_ ?_
        · intro h52
          refine wp_inc (lv2 := [(0, .ref 117), (1, .long set), (3, iV (x8 + 1))]) jF_295_60 rfl rfl rfl rfl (pc2 := 63) ?_
          refine wp_go jF_295_63 ?_
          exact ih13 ((x8 + 1)) τ10 ⟨⟨by omega, by omega⟩, g11, f12⟩ (by show Int.toNat (1752 - (x8 + 1)) < Int.toNat (1752 - x8); omega)
        · intro h52
          refine wp_al1 jF_295_48 rfl rfl (pc2 := 49) ?_
          refine wp_al1 jF_295_49 rfl rfl (pc2 := 50) ?_
          refine wp_gr (b := 153) jF_295_50 kd117 (by decide) (c := 253) rfl rfl rfl (pc2 := 53) ?_
          refine wp_il1 jF_295_53 rfl rfl (pc2 := 54) ?_
          have b53 := GI.b hg 153 x8.toNat kd153 (lo := (-2147483648)) (hi := 2147483647) rfl
          refine wp_iald (n := 1760) (e := (σ.1 153 x8.toNat)) jF_295_54 kd153 (by decide) rfl rfl (by omega) (by omega) ((FR.at f12 153 x8.toNat rfl).trans (FRw.na f3 (by decide))) rfl (pc2 := 55) ?_
          refine wp_il1 jF_295_55 rfl rfl (pc2 := 56) ?_
          refine wp_ic jF_295_56 rfl (pc2 := 57) ?_
          refine wp_cV (as := [iV (σ.1 153 x8.toNat), iV x8, iV (-1)]) (rest := []) (a := 117) (mx := 4) (ci := 12) jF_295_57 kd117 (by decide) rfl rfl rfl rfl rfl (by omega) (by omega) rfl (pc2 := 60) ?_
          refine wp_use (m_296 τ10 g11 (σ.1 153 x8.toNat) (by omega) (by omega) x8 (by omega) (by omega) (-1) (by omega) (by omega)  _ _ (by omega) (by omega)) ?_
          rintro _ τ54 ⟨rfl, g55, f56⟩
          show WP 295 60 [(0, .ref 117), (1, .long set), (3, iV x8)] [] _ _ _ _
          refine wp_inc (lv2 := [(0, .ref 117), (1, .long set), (3, iV (x8 + 1))]) jF_295_60 rfl rfl rfl rfl (pc2 := 63) ?_
          refine wp_go jF_295_63 ?_
          exact ih13 ((x8 + 1)) τ54 ⟨⟨by omega, by omega⟩, g55, (FR.up f12 f56 sb_Wfw_Wfw)⟩ (by show Int.toNat (1752 - (x8 + 1)) < Int.toNat (1752 - x8); omega)
  · intro h7
    refine wp_al1 jF_295_11 rfl rfl (pc2 := 12) ?_
    refine wp_ic jF_295_12 rfl (pc2 := 13) ?_
    refine wp_pi jF_295_13 kd117 (by decide) rfl rfl rfl (pc2 := 16) g2 (lo := (-2147483648)) (hi := 2147483647) rfl (by omega) (by omega) ?_
    intro τ57 g58 f59 e60
    refine wp_al1 jF_295_16 rfl rfl (pc2 := 17) ?_
    refine wp_ic jF_295_17 rfl (pc2 := 18) ?_
    refine wp_pi jF_295_18 kd117 (by decide) rfl rfl rfl (pc2 := 21) g58 (lo := (-2147483648)) (hi := 2147483647) rfl (by omega) (by omega) ?_
    intro τ61 g62 f63 e64
    refine wp_al1 jF_295_21 rfl rfl (pc2 := 22) ?_
    refine wp_ic jF_295_22 rfl (pc2 := 23) ?_
    refine wp_pi jF_295_23 kd117 (by decide) rfl rfl rfl (pc2 := 26) g62 (lo := (-2147483648)) (hi := 2147483647) rfl (by omega) (by omega) ?_
    intro τ65 g66 f67 e68
    refine wp_rv jF_295_26 ?_
    exact ⟨rfl, g66, (FR.w (FR.w (FR.w (FR.w FR.rf f3 rfl) f59 rfl) f63 rfl) f67 rfl)⟩
set_option maxHeartbeats 4000000 in
set_option maxRecDepth 20000 in
/-- M.putsAside -/
theorem m_302 (σ : jM) (hg : GI σ)   (fr lo : Nat) (hfr : 0 ≤ fr) (hlo : 0 ≤ lo) : WP 302 0 (lv_args 0 [.ref 117]) [] fr lo σ (fun v τ => v = none ∧ GI τ ∧ FR Was σ τ ∧ ((τ.1 117 65) = (σ.1 117 49))) := by
  show WP 302 0 [(0, .ref 117)] [] _ _ _ _
  refine wp_al1 jF_302_0 rfl rfl (pc2 := 1) ?_
  refine wp_al1 jF_302_1 rfl rfl (pc2 := 2) ?_
  have b1 := GI.b hg 117 49 kd117 (lo := 0) (hi := 61) rfl
  refine wp_gi jF_302_2 kd117 (by decide) rfl rfl rfl (pc2 := 5) ?_
  refine wp_pi jF_302_5 kd117 (by decide) rfl rfl rfl (pc2 := 8) hg (lo := 0) (hi := 61) rfl (by omega) (by omega) ?_
  intro τ2 g3 f4 e5
  refine wp_ic jF_302_8 rfl (pc2 := 9) ?_
  refine wp_is1 (lv2 := [(0, .ref 117), (1, iV 0)]) jF_302_9 rfl rfl rfl (pc2 := 10) ?_
  have q6 : (τ2.1 117 49) = (σ.1 117 49) := (FRw.nj f4 (by decide))
  refine wp_loop (α := Int) (fun a => [(0, .ref 117), (1, iV (a))]) (fun a τ => (0 ≤ a ∧ a ≤ 61) ∧ GI τ ∧ FR Was τ2 τ ∧ ((τ.1 117 65) = (τ2.1 117 49))) (fun a τ => Int.toNat ((τ2.1 117 49) - (a))) (0) τ2 ?_ ?_
  · skip
    have q7 : (τ2.1 117 65) = (σ.1 117 49) := e5
    exact ⟨⟨by omega, by omega⟩, g3, FR.rf, (by omega)⟩
  · rintro x8 τ10 ⟨h9, g11, f12, p13⟩ ih14
    have b15 := GI.b g11 117 65 kd117 (lo := 0) (hi := 61) rfl
    show WP 302 10 [(0, .ref 117), (1, iV x8)] [] _ _ _ _
    show WP 302 10 [(0, .ref 117), (1, iV x8)] [] _ _ _ _
    refine wp_il1 jF_302_10 rfl rfl (pc2 := 11) ?_
    refine wp_al1 jF_302_11 rfl rfl (pc2 := 12) ?_
    refine wp_gi jF_302_12 kd117 (by decide) rfl ((FR.at f12 117 49 rfl).trans (FRw.nj f4 (by decide))) rfl (pc2 := 15) ?_
    refine wp_i_ge jF_302_15 (m_rgb h9 rfl) (m_rgb b1 rfl) rfl (pc2 := 18) ?_ ?_
    · intro h16
      refine wp_rv jF_302_36 ?_
      exact ⟨rfl, g11, (FR.up (FR.w FR.rf f4 rfl) f12 sb_Was_Was), (by omega)⟩
    · intro h16
      refine wp_al1 jF_302_18 rfl rfl (pc2 := 19) ?_
      refine wp_gr (b := 156) jF_302_19 kd117 (by decide) (c := 256) rfl rfl rfl (pc2 := 22) ?_
      refine wp_il1 jF_302_22 rfl rfl (pc2 := 23) ?_
      refine wp_al1 jF_302_23 rfl rfl (pc2 := 24) ?_
      refine wp_gr (b := 149) jF_302_24 kd117 (by decide) (c := 249) rfl rfl rfl (pc2 := 27) ?_
      refine wp_il1 jF_302_27 rfl rfl (pc2 := 28) ?_
      have b17 := GI.b hg 149 x8.toNat kd149 (lo := 0) (hi := 255) rfl
      refine wp_iald (n := 64) (e := (σ.1 149 x8.toNat)) jF_302_28 kd149 (by decide) rfl rfl (by omega) (by omega) ((FR.at f12 149 x8.toNat rfl).trans (FRw.na f4 (by decide))) rfl (pc2 := 29) ?_
      refine wp_iast (n := 64) jF_302_29 kd156 (by decide) rfl rfl (by omega) (by omega) rfl (pc2 := 30) g11 (lo := 0) (hi := 255) rfl (by omega) (by omega) ?_
      intro τ18 g19 f20 e21
      refine wp_inc (lv2 := [(0, .ref 117), (1, iV (x8 + 1))]) jF_302_30 rfl rfl rfl rfl (pc2 := 33) ?_
      refine wp_go jF_302_33 ?_
      have q22 : (τ18.1 117 65) = (τ10.1 117 65) := (FRw.na f20 (by decide))
      exact ih14 ((x8 + 1)) τ18 ⟨⟨by omega, by omega⟩, g19, (FR.w f12 f20 rfl), (by omega)⟩ (by show Int.toNat ((τ2.1 117 49) - (x8 + 1)) < Int.toNat ((τ2.1 117 49) - x8); omega)
