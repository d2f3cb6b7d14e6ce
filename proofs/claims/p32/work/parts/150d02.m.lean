set_option maxHeartbeats 4000000 in
set_option maxRecDepth 20000 in
/-- M.spring -/
theorem m_319 (σ : jM) (hg : GI σ) (n : Int) (hl_n : (-2147483648) ≤ n) (hu_n : n ≤ 2147483647) (pre0 : (σ.1 143 3) ≤ 16) (pre1 : (σ.1 143 4) ≤ 8) (pre2 : (kp σ) = 1) (pre3 : (l0 σ) = 22) (fr lo : Nat) (hfr : 6 ≤ fr) (hlo : 148 ≤ lo) : WP 319 0 (lv_args 0 [.ref 117, iV n]) [] fr lo σ (fun v τ => ∃ z : Int, v = some (iV z) ∧ ((-2147483648) ≤ z ∧ z ≤ 2147483647) ∧ GI τ ∧ FR Wspr σ τ ∧ ((kp τ) = 1) ∧ ((l0 τ) = 22) ∧ ((l1 τ) = (l1 σ))) := by
  show WP 319 0 [(0, .ref 117), (1, iV n)] [] _ _ _ _
  refine wp_il1 jF_319_0 rfl rfl (pc2 := 1) ?_
  refine wp_i2l jF_319_1 rfl (pc2 := 2) ?_
  refine wp_lc jF_319_2 rfl (pc2 := 3) ?_
  refine wp_ld jF_319_3 rfl (pc2 := 6) ?_
  refine wp_cS (as := [.long (Int32.toInt64 (Int32.ofInt n)), .long (Int64.ofNat 1), .long (20)]) (rest := []) (mx := 6) jF_319_6 rfl rfl rfl rfl (by omega) (by omega) rfl (pc2 := 9) ?_
  show WP 232 0 [(0, .long (Int32.toInt64 (Int32.ofInt n))), (2, .long (Int64.ofNat 1)), (4, .long (20))] [] _ _ _ _
  refine wp_ll1 jF_232_0 rfl rfl (pc2 := 1) ?_
  refine wp_ll1 jF_232_1 rfl rfl (pc2 := 2) ?_
  refine wp_lcmp2 (a := n) (b := 1) jF_232_2 (m_i2lt ⟨by omega, by omega⟩) (by decide) rfl (pc2 := 3) ?_
  intro z1 h2
  refine wp_z_lt jF_232_3 ⟨by omega, by omega⟩ rfl (pc2 := 6) ?_ ?_
  · intro h3
    refine wp_ic jF_232_17 rfl (pc2 := 18) ?_
    refine wp_ri jF_232_18 rfl ?_
    show WP 319 9 [(0, .ref 117), (1, iV n)] [iV 0] _ _ _ _
    refine wp_z_ne jF_319_9 (m_rgl rfl) rfl (pc2 := 12) ?_ ?_
    · intro h4; exfalso; omega
    · intro h4
      refine wp_al1 jF_319_12 rfl rfl (pc2 := 13) ?_
      refine wp_gr (b := 119) jF_319_13 kd117 (by decide) (c := 219) rfl rfl rfl (pc2 := 16) ?_
      refine wp_ic jF_319_16 rfl (pc2 := 17) ?_
      refine wp_du2 jF_319_17 rfl rfl (pc2 := 18) ?_
      have b5 := GI.b hg 119 2 kd119 (lo := (-2147483648)) (hi := 2147483647) rfl
      refine wp_iald (n := 6) (e := (σ.1 119 2)) jF_319_18 kd119 (by decide) rfl rfl (by omega) (by omega) rfl rfl (pc2 := 19) ?_
      refine wp_ic jF_319_19 rfl (pc2 := 20) ?_
      refine wp_any2 (pc2 := 21) jF_319_20 rfl rfl ?_
      intro z6 h7
      refine wp_iast (n := 6) jF_319_21 kd119 (by decide) rfl rfl (by omega) (by omega) rfl (pc2 := 22) hg (lo := (-2147483648)) (hi := 2147483647) rfl (by omega) (by omega) ?_
      intro τ8 g9 f10 e11
      refine wp_ic jF_319_22 rfl (pc2 := 23) ?_
      refine wp_ri jF_319_23 rfl ?_
      have q12 : (l0 τ8) = (l0 σ) := (l0_wr f10 (by decide))
      have q13 : (l1 τ8) = (l1 σ) := (l1_wr f10 (by decide))
      have q14 : (kp τ8) = (kp σ) := (kp_wr f10 (by decide))
      exact ⟨(-1), rfl, ⟨by omega, by omega⟩, g9, (FR.w FR.rf f10 rfl), (by omega), (by omega), (by omega)⟩
  · intro h3
    refine wp_ll1 jF_232_6 rfl rfl (pc2 := 7) ?_
    refine wp_ll2 jF_232_7 rfl rfl (pc2 := 9) ?_
    refine wp_lcmp2 (a := n) (b := 20) jF_232_9 (m_i2lt ⟨by omega, by omega⟩) (by decide) rfl (pc2 := 10) ?_
    intro z15 h16
    refine wp_z_gt jF_232_10 ⟨by omega, by omega⟩ rfl (pc2 := 13) ?_ ?_
    · intro h17
      refine wp_ic jF_232_17 rfl (pc2 := 18) ?_
      refine wp_ri jF_232_18 rfl ?_
      show WP 319 9 [(0, .ref 117), (1, iV n)] [iV 0] _ _ _ _
      refine wp_z_ne jF_319_9 (m_rgl rfl) rfl (pc2 := 12) ?_ ?_
      · intro h18; exfalso; omega
      · intro h18
        refine wp_al1 jF_319_12 rfl rfl (pc2 := 13) ?_
        refine wp_gr (b := 119) jF_319_13 kd117 (by decide) (c := 219) rfl rfl rfl (pc2 := 16) ?_
        refine wp_ic jF_319_16 rfl (pc2 := 17) ?_
        refine wp_du2 jF_319_17 rfl rfl (pc2 := 18) ?_
        have b19 := GI.b hg 119 2 kd119 (lo := (-2147483648)) (hi := 2147483647) rfl
        refine wp_iald (n := 6) (e := (σ.1 119 2)) jF_319_18 kd119 (by decide) rfl rfl (by omega) (by omega) rfl rfl (pc2 := 19) ?_
        refine wp_ic jF_319_19 rfl (pc2 := 20) ?_
        refine wp_any2 (pc2 := 21) jF_319_20 rfl rfl ?_
        intro z20 h21
        refine wp_iast (n := 6) jF_319_21 kd119 (by decide) rfl rfl (by omega) (by omega) rfl (pc2 := 22) hg (lo := (-2147483648)) (hi := 2147483647) rfl (by omega) (by omega) ?_
        intro τ22 g23 f24 e25
        refine wp_ic jF_319_22 rfl (pc2 := 23) ?_
        refine wp_ri jF_319_23 rfl ?_
        have q26 : (l0 τ22) = (l0 σ) := (l0_wr f24 (by decide))
        have q27 : (l1 τ22) = (l1 σ) := (l1_wr f24 (by decide))
        have q28 : (kp τ22) = (kp σ) := (kp_wr f24 (by decide))
        exact ⟨(-1), rfl, ⟨by omega, by omega⟩, g23, (FR.w FR.rf f24 rfl), (by omega), (by omega), (by omega)⟩
    · intro h17
      refine wp_ic jF_232_13 rfl (pc2 := 14) ?_
      refine wp_go jF_232_14 ?_
      refine wp_ri jF_232_18 rfl ?_
      show WP 319 9 [(0, .ref 117), (1, iV n)] [iV 1] _ _ _ _
      refine wp_z_ne jF_319_9 (m_rgl rfl) rfl (pc2 := 12) ?_ ?_
      · intro h29
        refine wp_ic jF_319_24 rfl (pc2 := 25) ?_
        refine wp_is1 (lv2 := [(0, .ref 117), (1, iV n), (2, iV 0)]) jF_319_25 rfl rfl rfl (pc2 := 26) ?_
        refine wp_loop (α := Int) (fun a => [(0, .ref 117), (1, iV n), (2, iV (a))]) (fun a τ => (0 ≤ a ∧ a ≤ 20) ∧ GI τ ∧ FR Wspr σ τ ∧ ((kp τ) = 1) ∧ ((l0 τ) = 22) ∧ ((l1 τ) = (l1 σ))) (fun a τ => Int.toNat (20 - (a))) (0) σ ?_ ?_
        · skip
          exact ⟨⟨by omega, by omega⟩, hg, FR.rf, (by omega), (by omega), (by omega)⟩
        · rintro x30 τ32 ⟨h31, g33, f34, p35, p36, p37⟩ ih38
          show WP 319 26 [(0, .ref 117), (1, iV n), (2, iV x30)] [] _ _ _ _
          show WP 319 26 [(0, .ref 117), (1, iV n), (2, iV x30)] [] _ _ _ _
          refine wp_il1 jF_319_26 rfl rfl (pc2 := 27) ?_
          refine wp_il1 jF_319_27 rfl rfl (pc2 := 28) ?_
          refine wp_i_ge jF_319_28 (m_rgb h31 rfl) ⟨by omega, by omega⟩ rfl (pc2 := 31) ?_ ?_
          · intro h39
            refine wp_il1 jF_319_53 rfl rfl (pc2 := 54) ?_
            refine wp_ri jF_319_54 rfl ?_
            exact ⟨x30, rfl, ⟨by omega, by omega⟩, g33, f34, (by omega), (by omega), (by omega)⟩
          · intro h39
            refine wp_al1 jF_319_31 rfl rfl (pc2 := 32) ?_
            refine wp_cV (as := []) (rest := []) (a := 117) (mx := 5) (ci := 12) jF_319_32 kd117 (by decide) rfl rfl rfl rfl rfl (by omega) (by omega) rfl (pc2 := 35) ?_
            have b40 := GI.b hg 143 3 kd143 (lo := 0) (hi := 16) rfl
            have q41 : (τ32.1 143 3) = (σ.1 143 3) := (FR.at f34 143 3 rfl)
            have b42 := GI.b hg 143 4 kd143 (lo := 0) (hi := 16) rfl
            have q43 : (τ32.1 143 4) = (σ.1 143 4) := (FR.at f34 143 4 rfl)
            refine wp_use (m_317 τ32 g33  (by omega) (by omega) (by omega) _ _ (by omega) (by omega)) ?_
            rintro _ τ45 ⟨z48, rfl, h49, g46, f47, p44⟩
            show WP 319 35 [(0, .ref 117), (1, iV n), (2, iV x30)] [iV z48] _ _ _ _
            refine wp_z_eq jF_319_35 (m_rgb h49 rfl) rfl (pc2 := 38) ?_ ?_
            · intro h50
              clear p44
              refine wp_il1 jF_319_53 rfl rfl (pc2 := 54) ?_
              refine wp_ri jF_319_54 rfl ?_
              have q51 : (l0 τ45) = (l0 τ32) := (l0_fr f47 rfl (fun _ => rfl))
              have q52 : (l1 τ45) = (l1 τ32) := (l1_fr f47 rfl (fun _ => rfl))
              have q53 : (kp τ45) = (kp τ32) := (kp_fr f47 (fun _ => rfl) (fun _ => rfl))
              exact ⟨x30, rfl, ⟨by omega, by omega⟩, g46, (FR.up f34 f47 sb_Wtr_Wspr), (by omega), (by omega), (by omega)⟩
            · intro h50
              replace p44 := p44 (by omega)
              refine wp_al1 jF_319_38 rfl rfl (pc2 := 39) ?_
              refine wp_cV (as := []) (rest := []) (a := 117) (mx := 2) (ci := 12) jF_319_39 kd117 (by decide) rfl rfl rfl rfl rfl (by omega) (by omega) rfl (pc2 := 42) ?_
              have q54 : (l0 τ45) = (l0 τ32) := (l0_fr f47 rfl (fun _ => rfl))
              have q55 : (kp τ45) = (kp τ32) := (kp_fr f47 (fun _ => rfl) (fun _ => rfl))
              refine wp_use (m_262 τ45 g46  (by omega) (by omega) _ _ (by omega) (by omega)) ?_
              rintro _ τ57 ⟨rfl, g58, f59, p56⟩
              show WP 319 42 [(0, .ref 117), (1, iV n), (2, iV x30)] [] _ _ _ _
              refine wp_al1 jF_319_42 rfl rfl (pc2 := 43) ?_
              refine wp_ic jF_319_43 rfl (pc2 := 44) ?_
              refine wp_cV (as := [iV 0]) (rest := []) (a := 117) (mx := 3) (ci := 12) jF_319_44 kd117 (by decide) rfl rfl rfl rfl rfl (by omega) (by omega) rfl (pc2 := 47) ?_
              have q60 : (tl τ57) = (tl τ45) := (tl_fr f59 rfl (fun _ => rfl))
              have q61 : (l1 τ57) = (l1 τ32) := ((l1_fr f59 rfl (fun _ => rfl)).trans (l1_fr f47 rfl (fun _ => rfl)))
              have b62 := GI.b g46 117 49 kd117 (lo := 0) (hi := 61) rfl
              have q63 : (τ57.1 117 49) = (τ45.1 117 49) := (FR.at f59 117 49 rfl)
              have b64 := GI.b g33 148 1 kd148 (lo := 0) (hi := 60) rfl
              have q65 : (τ57.1 148 1) = (τ32.1 148 1) := ((FR.at f59 148 1 rfl).trans (FR.at f47 148 1 rfl))
              refine wp_use (m_263_0 τ57 g58  (by omega) _ _ (by omega) (by omega)) ?_
              rintro _ τ70 ⟨rfl, g71, f72, p66, p67, p68, p69⟩
              show WP 319 47 [(0, .ref 117), (1, iV n), (2, iV x30)] [] _ _ _ _
              refine wp_inc (lv2 := [(0, .ref 117), (1, iV n), (2, iV (x30 + 1))]) jF_319_47 rfl rfl rfl rfl (pc2 := 50) ?_
              refine wp_go jF_319_50 ?_
              have q73 : (kp τ70) = (kp τ57) := (kp_fr f72 (fun _ => rfl) (fun _ => rfl))
              exact ih38 ((x30 + 1)) τ70 ⟨⟨by omega, by omega⟩, g71, (FR.up (FR.up (FR.up f34 f47 sb_Wtr_Wspr) f59 sb_Wkeep_Wspr) f72 sb_Wla_Wspr), (by omega), (by omega), (by omega)⟩ (by show Int.toNat (20 - (x30 + 1)) < Int.toNat (20 - x30); omega)
      · intro h29; exfalso; omega
set_option maxHeartbeats 4000000 in
set_option maxRecDepth 20000 in
/-- M.fitting -/
theorem m_320 (σ : jM) (hg : GI σ) (k : Int) (hl_k : (-2147483648) ≤ k) (hu_k : k ≤ 2147483647) (pre0 : (σ.1 143 5) ≤ 10) (fr lo : Nat) (hfr : 2 ≤ fr) (hlo : 45 ≤ lo) : WP 320 0 (lv_args 0 [.ref 117, iV k]) [] fr lo σ (fun v τ => ∃ z : Int, v = some (iV z) ∧ ((-2147483648) ≤ z ∧ z ≤ 2147483647) ∧ σ = τ) := by
  show WP 320 0 [(0, .ref 117), (1, iV k)] [] _ _ _ _
  refine wp_il1 jF_320_0 rfl rfl (pc2 := 1) ?_
  refine wp_i2l jF_320_1 rfl (pc2 := 2) ?_
  refine wp_lc jF_320_2 rfl (pc2 := 3) ?_
  refine wp_ld jF_320_3 rfl (pc2 := 6) ?_
  refine wp_cS (as := [.long (Int32.toInt64 (Int32.ofInt k)), .long (Int64.ofNat 0), .long (2)]) (rest := []) (mx := 6) jF_320_6 rfl rfl rfl rfl (by omega) (by omega) rfl (pc2 := 9) ?_
  show WP 232 0 [(0, .long (Int32.toInt64 (Int32.ofInt k))), (2, .long (Int64.ofNat 0)), (4, .long (2))] [] _ _ _ _
  refine wp_ll1 jF_232_0 rfl rfl (pc2 := 1) ?_
  refine wp_ll1 jF_232_1 rfl rfl (pc2 := 2) ?_
  refine wp_lcmp2 (a := k) (b := 0) jF_232_2 (m_i2lt ⟨by omega, by omega⟩) (by decide) rfl (pc2 := 3) ?_
  intro z1 h2
  refine wp_z_lt jF_232_3 ⟨by omega, by omega⟩ rfl (pc2 := 6) ?_ ?_
  · intro h3
    refine wp_ic jF_232_17 rfl (pc2 := 18) ?_
    refine wp_ri jF_232_18 rfl ?_
    show WP 320 9 [(0, .ref 117), (1, iV k)] [iV 0] _ _ _ _
    refine wp_z_ne jF_320_9 (m_rgl rfl) rfl (pc2 := 12) ?_ ?_
    · intro h4; exfalso; omega
    · intro h4
      refine wp_ic jF_320_12 rfl (pc2 := 13) ?_
      refine wp_ri jF_320_13 rfl ?_
      exact ⟨(-1), rfl, ⟨by omega, by omega⟩, rfl⟩
  · intro h3
    refine wp_ll1 jF_232_6 rfl rfl (pc2 := 7) ?_
    refine wp_ll2 jF_232_7 rfl rfl (pc2 := 9) ?_
    refine wp_lcmp2 (a := k) (b := 2) jF_232_9 (m_i2lt ⟨by omega, by omega⟩) (by decide) rfl (pc2 := 10) ?_
    intro z5 h6
    refine wp_z_gt jF_232_10 ⟨by omega, by omega⟩ rfl (pc2 := 13) ?_ ?_
    · intro h7
      refine wp_ic jF_232_17 rfl (pc2 := 18) ?_
      refine wp_ri jF_232_18 rfl ?_
      show WP 320 9 [(0, .ref 117), (1, iV k)] [iV 0] _ _ _ _
      refine wp_z_ne jF_320_9 (m_rgl rfl) rfl (pc2 := 12) ?_ ?_
      · intro h8; exfalso; omega
      · intro h8
        refine wp_ic jF_320_12 rfl (pc2 := 13) ?_
        refine wp_ri jF_320_13 rfl ?_
        exact ⟨(-1), rfl, ⟨by omega, by omega⟩, rfl⟩
    · intro h7
      refine wp_ic jF_232_13 rfl (pc2 := 14) ?_
      refine wp_go jF_232_14 ?_
      refine wp_ri jF_232_18 rfl ?_
      show WP 320 9 [(0, .ref 117), (1, iV k)] [iV 1] _ _ _ _
      refine wp_z_ne jF_320_9 (m_rgl rfl) rfl (pc2 := 12) ?_ ?_
      · intro h9
        refine wp_ic jF_320_14 rfl (pc2 := 15) ?_
        refine wp_is1 (lv2 := [(0, .ref 117), (1, iV k), (2, iV 0)]) jF_320_15 rfl rfl rfl (pc2 := 16) ?_
        refine wp_al1 jF_320_16 rfl rfl (pc2 := 17) ?_
        refine wp_glA jF_320_17 kd117 (by decide) rfl rfl (pc2 := 20) ?_
        intro y10
        refine wp_ls1 (lv2 := [(0, .ref 117), (1, iV k), (2, iV 0), (3, .long y10)]) jF_320_20 rfl rfl rfl (pc2 := 21) ?_
        refine wp_lc jF_320_21 rfl (pc2 := 22) ?_
        refine wp_ls2 (lv2 := [(0, .ref 117), (1, iV k), (2, iV 0), (3, .long y10), (5, .long (Int64.ofNat 0))]) jF_320_22 rfl rfl rfl (pc2 := 24) ?_
        refine wp_ic jF_320_24 rfl (pc2 := 25) ?_
        refine wp_is2 (lv2 := [(0, .ref 117), (1, iV k), (2, iV 0), (3, .long y10), (5, .long (Int64.ofNat 0)), (7, iV 0)]) jF_320_25 rfl rfl rfl (pc2 := 27) ?_
        refine wp_loop (α := Int × Int64 × Int64 × Int) (fun a => [(0, .ref 117), (1, iV k), (2, iV (a.1)), (3, .long (a.2.1)), (5, .long (a.2.2.1)), (7, iV (a.2.2.2))]) (fun a τ => (0 ≤ a.1 ∧ a.1 ≤ 1752) ∧ (0 ≤ a.2.2.2 ∧ a.2.2.2 ≤ 1752) ∧ σ = τ ∧ ((a.1) ≤ (a.2.2.2))) (fun a τ => Int.toNat (1752 - (a.2.2.2))) (0, y10, (Int64.ofNat 0), 0) σ ?_ ?_
        · skip
          exact ⟨⟨by (try dsimp only); omega, by (try dsimp only); omega⟩, ⟨by (try dsimp only); omega, by (try dsimp only); omega⟩, rfl, (by (try dsimp only); omega)⟩
        · rintro ⟨x11, y12, y13, x14⟩ _ ⟨h15, h16, rfl, p20⟩ ih21
          try dsimp only at h15 h16 p20
          show WP 320 27 [(0, .ref 117), (1, iV k), (2, iV x11), (3, .long y12), (5, .long y13), (7, iV x14)] [] _ _ _ _
          show WP 320 27 [(0, .ref 117), (1, iV k), (2, iV x11), (3, .long y12), (5, .long y13), (7, iV x14)] [] _ _ _ _
          refine wp_il2 jF_320_27 rfl rfl (pc2 := 29) ?_
          refine wp_al1 jF_320_29 rfl rfl (pc2 := 30) ?_
          have b22 := GI.b hg 117 56 kd117 (lo := 0) (hi := 1752) rfl
          refine wp_gi jF_320_30 kd117 (by decide) rfl rfl rfl (pc2 := 33) ?_
          refine wp_i_ge jF_320_33 (m_rgb h16 rfl) (m_rgb b22 rfl) rfl (pc2 := 36) ?_ ?_
          · intro h23
            refine wp_il1 jF_320_79 rfl rfl (pc2 := 80) ?_
            refine wp_z_ne jF_320_80 ⟨by omega, by omega⟩ rfl (pc2 := 83) ?_ ?_
            · intro h24
              refine wp_il1 jF_320_87 rfl rfl (pc2 := 88) ?_
              refine wp_ic jF_320_88 rfl (pc2 := 89) ?_
              refine wp_i_ne jF_320_89 ⟨by omega, by omega⟩ (m_rgl rfl) rfl (pc2 := 92) ?_ ?_
              · intro h25
                refine wp_il1 jF_320_100 rfl rfl (pc2 := 101) ?_
                refine wp_z_ne jF_320_101 (m_rgb h15 rfl) rfl (pc2 := 104) ?_ ?_
                · intro h26
                  refine wp_ll1 jF_320_108 rfl rfl (pc2 := 109) ?_
                  refine wp_cS (as := [.long y12]) (rest := []) (mx := 5) jF_320_109 rfl rfl rfl rfl (by omega) (by omega) rfl (pc2 := 112) ?_
                  refine wp_use (m_273 σ hg y12  _ _ (by omega) (by omega)) ?_
                  rintro _ _ ⟨z29, rfl, h30, rfl⟩
                  show WP 320 112 [(0, .ref 117), (1, iV k), (2, iV x11), (3, .long y12), (5, .long y13), (7, iV x14)] [iV z29] _ _ _ _
                  refine wp_ri jF_320_112 rfl ?_
                  exact ⟨z29, rfl, ⟨by omega, by omega⟩, rfl⟩
                · intro h26
                  refine wp_ic jF_320_104 rfl (pc2 := 105) ?_
                  refine wp_go jF_320_105 ?_
                  refine wp_ri jF_320_112 rfl ?_
                  exact ⟨0, rfl, ⟨by omega, by omega⟩, rfl⟩
              · intro h25
                refine wp_ll2 jF_320_92 rfl rfl (pc2 := 94) ?_
                refine wp_cS (as := [.long y13]) (rest := []) (mx := 5) jF_320_94 rfl rfl rfl rfl (by omega) (by omega) rfl (pc2 := 97) ?_
                refine wp_use (m_273 σ hg y13  _ _ (by omega) (by omega)) ?_
                rintro _ _ ⟨z33, rfl, h34, rfl⟩
                show WP 320 97 [(0, .ref 117), (1, iV k), (2, iV x11), (3, .long y12), (5, .long y13), (7, iV x14)] [iV z33] _ _ _ _
                refine wp_go jF_320_97 ?_
                refine wp_ri jF_320_112 rfl ?_
                exact ⟨z33, rfl, ⟨by omega, by omega⟩, rfl⟩
            · intro h24
              refine wp_il1 jF_320_83 rfl rfl (pc2 := 84) ?_
              refine wp_go jF_320_84 ?_
              refine wp_ri jF_320_112 rfl ?_
              exact ⟨x11, rfl, ⟨by omega, by omega⟩, rfl⟩
          · intro h23
            refine wp_al1 jF_320_36 rfl rfl (pc2 := 37) ?_
            refine wp_il2 jF_320_37 rfl rfl (pc2 := 39) ?_
            refine wp_cV (as := [iV x14]) (rest := []) (a := 117) (mx := 2) (ci := 12) jF_320_39 kd117 (by decide) rfl rfl rfl rfl rfl (by omega) (by omega) rfl (pc2 := 42) ?_
            have b35 := GI.b hg 143 5 kd143 (lo := 0) (hi := 16) rfl
            refine wp_use (m_299 σ hg x14 (by omega) (by omega) (by omega) _ _ (by omega) (by omega)) ?_
            rintro _ _ ⟨z38, rfl, h39, rfl⟩
            show WP 320 42 [(0, .ref 117), (1, iV k), (2, iV x11), (3, .long y12), (5, .long y13), (7, iV x14)] [iV z38] _ _ _ _
            refine wp_z_ne jF_320_42 (m_rgb h39 rfl) rfl (pc2 := 45) ?_ ?_
            · intro h40
              refine wp_inc (lv2 := [(0, .ref 117), (1, iV k), (2, iV (x11 + 1)), (3, .long y12), (5, .long y13), (7, iV x14)]) jF_320_48 rfl rfl rfl rfl (pc2 := 51) ?_
              refine wp_ll1 jF_320_51 rfl rfl (pc2 := 52) ?_
              refine wp_al1 jF_320_52 rfl rfl (pc2 := 53) ?_
              refine wp_gr (b := 152) jF_320_53 kd117 (by decide) (c := 252) rfl rfl rfl (pc2 := 56) ?_
              refine wp_il2 jF_320_56 rfl rfl (pc2 := 58) ?_
              refine wp_lald (n := 1760) jF_320_58 kd152 (by decide) rfl rfl (by omega) (by omega) rfl (pc2 := 59) ?_
              intro y41
              refine wp_lng (pc2 := 60) jF_320_59 rfl rfl ?_
              intro y42
              refine wp_ls1 (lv2 := [(0, .ref 117), (1, iV k), (2, iV (x11 + 1)), (3, .long y42), (5, .long y13), (7, iV x14)]) jF_320_60 rfl rfl rfl (pc2 := 61) ?_
              refine wp_ll2 jF_320_61 rfl rfl (pc2 := 63) ?_
              refine wp_al1 jF_320_63 rfl rfl (pc2 := 64) ?_
              refine wp_gr (b := 152) jF_320_64 kd117 (by decide) (c := 252) rfl rfl rfl (pc2 := 67) ?_
              refine wp_il2 jF_320_67 rfl rfl (pc2 := 69) ?_
              refine wp_lald (n := 1760) jF_320_69 kd152 (by decide) rfl rfl (by omega) (by omega) rfl (pc2 := 70) ?_
              intro y43
              refine wp_lng (pc2 := 71) jF_320_70 rfl rfl ?_
              intro y44
              refine wp_ls2 (lv2 := [(0, .ref 117), (1, iV k), (2, iV (x11 + 1)), (3, .long y42), (5, .long y44), (7, iV x14)]) jF_320_71 rfl rfl rfl (pc2 := 73) ?_
              refine wp_inc (lv2 := [(0, .ref 117), (1, iV k), (2, iV (x11 + 1)), (3, .long y42), (5, .long y44), (7, iV (x14 + 1))]) jF_320_73 rfl rfl rfl rfl (pc2 := 76) ?_
              refine wp_go jF_320_76 ?_
              exact ih21 ((x11 + 1), y42, y44, (x14 + 1)) σ ⟨⟨by (try dsimp only); omega, by (try dsimp only); omega⟩, ⟨by (try dsimp only); omega, by (try dsimp only); omega⟩, rfl, (by (try dsimp only); omega)⟩ (by show Int.toNat (1752 - (x14 + 1)) < Int.toNat (1752 - x14); omega)
            · intro h40
              refine wp_go jF_320_45 ?_
              refine wp_inc (lv2 := [(0, .ref 117), (1, iV k), (2, iV x11), (3, .long y12), (5, .long y13), (7, iV (x14 + 1))]) jF_320_73 rfl rfl rfl rfl (pc2 := 76) ?_
              refine wp_go jF_320_76 ?_
              exact ih21 (x11, y12, y13, (x14 + 1)) σ ⟨⟨by (try dsimp only); omega, by (try dsimp only); omega⟩, ⟨by (try dsimp only); omega, by (try dsimp only); omega⟩, rfl, (by (try dsimp only); omega)⟩ (by show Int.toNat (1752 - (x14 + 1)) < Int.toNat (1752 - x14); omega)
      · intro h9; exfalso; omega
set_option maxHeartbeats 4000000 in
set_option maxRecDepth 20000 in
/-- M.judged -/
theorem m_321 (σ : jM) (hg : GI σ)  (pre0 : (σ.1 143 5) ≤ 10) (pre1 : (l0 σ) = 22) (fr lo : Nat) (hfr : 3 ≤ fr) (hlo : 76 ≤ lo) : WP 321 0 (lv_args 0 [.ref 117]) [] fr lo σ (fun v τ => ∃ z : Int, v = some (iV z) ∧ ((-2147483648) ≤ z ∧ z ≤ 2147483647) ∧ GI τ ∧ FR Wtr σ τ) := by
  show WP 321 0 [(0, .ref 117)] [] _ _ _ _
  refine wp_al1 jF_321_0 rfl rfl (pc2 := 1) ?_
  refine wp_ic jF_321_1 rfl (pc2 := 2) ?_
  refine wp_cV (as := [iV 0]) (rest := []) (a := 117) (mx := 2) (ci := 12) jF_321_2 kd117 (by decide) rfl rfl rfl rfl rfl (by omega) (by omega) rfl (pc2 := 5) ?_
  have b1 := GI.b hg 148 0 kd148 (lo := 0) (hi := 60) rfl
  refine wp_use (m_277_0 σ hg  (by omega) _ _ (by omega) (by omega)) ?_
  rintro _ τ4 ⟨y7, rfl, g5, f6, p2, p3⟩
  show WP 321 5 [(0, .ref 117)] [.long y7] _ _ _ _
  refine wp_ls1 (lv2 := [(0, .ref 117), (1, .long y7)]) jF_321_5 rfl rfl rfl (pc2 := 6) ?_
  refine wp_ic jF_321_6 rfl (pc2 := 7) ?_
  refine wp_is1 (lv2 := [(0, .ref 117), (1, .long y7), (3, iV 0)]) jF_321_7 rfl rfl rfl (pc2 := 8) ?_
  refine wp_loop (α := Int) (fun a => [(0, .ref 117), (1, .long y7), (3, iV (a))]) (fun a τ => (0 ≤ a ∧ a ≤ 10) ∧ τ4 = τ) (fun a τ => Int.toNat (10 - (a))) (0) τ4 ?_ ?_
  · skip
    exact ⟨⟨by omega, by omega⟩, rfl⟩
  · rintro x8 _ ⟨h9, rfl⟩ ih13
    show WP 321 8 [(0, .ref 117), (1, .long y7), (3, iV x8)] [] _ _ _ _
    show WP 321 8 [(0, .ref 117), (1, .long y7), (3, iV x8)] [] _ _ _ _
    refine wp_il1 jF_321_8 rfl rfl (pc2 := 9) ?_
    refine wp_al1 jF_321_9 rfl rfl (pc2 := 10) ?_
    refine wp_gr (b := 143) jF_321_10 kd117 (by decide) (c := 243) rfl rfl rfl (pc2 := 13) ?_
    refine wp_ic jF_321_13 rfl (pc2 := 14) ?_
    have b14 := GI.b hg 143 5 kd143 (lo := 0) (hi := 16) rfl
    refine wp_iald (n := 6) (e := (σ.1 143 5)) jF_321_14 kd143 (by decide) rfl rfl (by omega) (by omega) (FR.at f6 143 5 rfl) rfl (pc2 := 15) ?_
    refine wp_i_ge jF_321_15 (m_rgb h9 rfl) (m_rgb b14 rfl) rfl (pc2 := 18) ?_ ?_
    · intro h15
      refine wp_ic jF_321_79 rfl (pc2 := 80) ?_
      refine wp_ri jF_321_80 rfl ?_
      exact ⟨(-1), rfl, ⟨by omega, by omega⟩, g5, f6⟩
    · intro h15
      refine wp_al1 jF_321_18 rfl rfl (pc2 := 19) ?_
      refine wp_gr (b := 142) jF_321_19 kd117 (by decide) (c := 242) rfl rfl rfl (pc2 := 22) ?_
      refine wp_si jF_321_22 (by decide) rfl (pc2 := 25) ?_
      refine wp_bi jF_321_25 (by decide) rfl (pc2 := 27) ?_
      refine wp_il1 jF_321_27 rfl rfl (pc2 := 28) ?_
      refine wp_mul jF_321_28 rfl (pc2 := 29) ?_
      refine wp_add jF_321_29 rfl (pc2 := 30) ?_
      refine wp_ic jF_321_30 rfl (pc2 := 31) ?_
      refine wp_add jF_321_31 rfl (pc2 := 32) ?_
      have b16 := GI.b hg 142 ((348 + (6 * x8)) + 3).toNat kd142 (lo := (-2147483648)) (hi := 2147483647) rfl
      refine wp_iald (n := 408) (e := (σ.1 142 ((348 + (6 * x8)) + 3).toNat)) jF_321_32 kd142 (by decide) rfl rfl (by omega) (by omega) (FR.at f6 142 ((348 + (6 * x8)) + 3).toNat rfl) rfl (pc2 := 33) ?_
      refine wp_ic jF_321_33 rfl (pc2 := 34) ?_
      refine wp_i_ne jF_321_34 (m_rgb b16 rfl) (m_rgl rfl) rfl (pc2 := 37) ?_ ?_
      · intro h17
        refine wp_al1 jF_321_55 rfl rfl (pc2 := 56) ?_
        refine wp_gr (b := 145) jF_321_56 kd117 (by decide) (c := 245) rfl rfl rfl (pc2 := 59) ?_
        refine wp_bi jF_321_59 (by decide) rfl (pc2 := 61) ?_
        refine wp_il1 jF_321_61 rfl rfl (pc2 := 62) ?_
        refine wp_add jF_321_62 rfl (pc2 := 63) ?_
        refine wp_lald (n := 34) jF_321_63 kd145 (by decide) rfl rfl (by omega) (by omega) rfl (pc2 := 64) ?_
        intro y18
        refine wp_ll1 jF_321_64 rfl rfl (pc2 := 65) ?_
        refine wp_lng (pc2 := 66) jF_321_65 rfl rfl ?_
        intro y19
        refine wp_lc jF_321_66 rfl (pc2 := 67) ?_
        refine wp_anyL (pc2 := 68) jF_321_67 rfl rfl ?_
        intro z20 h21
        refine wp_z_eq jF_321_68 (m_rgb h21 rfl) rfl (pc2 := 71) ?_ ?_
        · intro h22
          refine wp_inc (lv2 := [(0, .ref 117), (1, .long y7), (3, iV (x8 + 1))]) jF_321_73 rfl rfl rfl rfl (pc2 := 76) ?_
          refine wp_go jF_321_76 ?_
          exact ih13 ((x8 + 1)) τ4 ⟨⟨by omega, by omega⟩, rfl⟩ (by show Int.toNat (10 - (x8 + 1)) < Int.toNat (10 - x8); omega)
        · intro h22
          refine wp_il1 jF_321_71 rfl rfl (pc2 := 72) ?_
          refine wp_ri jF_321_72 rfl ?_
          exact ⟨x8, rfl, ⟨by omega, by omega⟩, g5, f6⟩
      · intro h17
        refine wp_al1 jF_321_37 rfl rfl (pc2 := 38) ?_
        refine wp_gr (b := 145) jF_321_38 kd117 (by decide) (c := 245) rfl rfl rfl (pc2 := 41) ?_
        refine wp_bi jF_321_41 (by decide) rfl (pc2 := 43) ?_
        refine wp_il1 jF_321_43 rfl rfl (pc2 := 44) ?_
        refine wp_add jF_321_44 rfl (pc2 := 45) ?_
        refine wp_lald (n := 34) jF_321_45 kd145 (by decide) rfl rfl (by omega) (by omega) rfl (pc2 := 46) ?_
        intro y23
        refine wp_ll1 jF_321_46 rfl rfl (pc2 := 47) ?_
        refine wp_ld jF_321_47 rfl (pc2 := 50) ?_
        refine wp_lng (pc2 := 51) jF_321_50 rfl rfl ?_
        intro y24
        refine wp_lng (pc2 := 52) jF_321_51 rfl rfl ?_
        intro y25
        refine wp_go jF_321_52 ?_
        refine wp_lc jF_321_66 rfl (pc2 := 67) ?_
        refine wp_anyL (pc2 := 68) jF_321_67 rfl rfl ?_
        intro z26 h27
        refine wp_z_eq jF_321_68 (m_rgb h27 rfl) rfl (pc2 := 71) ?_ ?_
        · intro h28
          refine wp_inc (lv2 := [(0, .ref 117), (1, .long y7), (3, iV (x8 + 1))]) jF_321_73 rfl rfl rfl rfl (pc2 := 76) ?_
          refine wp_go jF_321_76 ?_
          exact ih13 ((x8 + 1)) τ4 ⟨⟨by omega, by omega⟩, rfl⟩ (by show Int.toNat (10 - (x8 + 1)) < Int.toNat (10 - x8); omega)
        · intro h28
          refine wp_il1 jF_321_71 rfl rfl (pc2 := 72) ?_
          refine wp_ri jF_321_72 rfl ?_
          exact ⟨x8, rfl, ⟨by omega, by omega⟩, g5, f6⟩
set_option maxHeartbeats 4000000 in
set_option maxRecDepth 20000 in
/-- M.brief -/
theorem m_298 (σ : jM) (hg : GI σ) (n : Int) (hl_n : (-2147483648) ≤ n) (hu_n : n ≤ 2147483647) (what : Int) (hl_what : (-2147483648) ≤ what) (hu_what : what ≤ 2147483647) (pre0 : (σ.1 143 5) ≤ 10) (fr lo : Nat) (hfr : 2 ≤ fr) (hlo : 45 ≤ lo) : WP 298 0 (lv_args 0 [.ref 117, iV n, iV what]) [] fr lo σ (fun v τ => ∃ z : Int, v = some (iV z) ∧ ((-2147483648) ≤ z ∧ z ≤ 2147483647) ∧ σ = τ) := by
  show WP 298 0 [(0, .ref 117), (1, iV n), (2, iV what)] [] _ _ _ _
  refine wp_il1 jF_298_0 rfl rfl (pc2 := 1) ?_
  refine wp_i2l jF_298_1 rfl (pc2 := 2) ?_
  refine wp_lc jF_298_2 rfl (pc2 := 3) ?_
  refine wp_al1 jF_298_3 rfl rfl (pc2 := 4) ?_
  have b1 := GI.b hg 117 56 kd117 (lo := 0) (hi := 1752) rfl
  refine wp_gi jF_298_4 kd117 (by decide) rfl rfl rfl (pc2 := 7) ?_
  refine wp_ic jF_298_7 rfl (pc2 := 8) ?_
  refine wp_sub jF_298_8 rfl (pc2 := 9) ?_
  refine wp_i2l jF_298_9 rfl (pc2 := 10) ?_
  refine wp_cS (as := [.long (Int32.toInt64 (Int32.ofInt n)), .long (Int64.ofNat 0), .long (Int32.toInt64 (Int32.ofInt ((σ.1 117 56) - 1)))]) (rest := []) (mx := 6) jF_298_10 rfl rfl rfl rfl (by omega) (by omega) rfl (pc2 := 13) ?_
  show WP 232 0 [(0, .long (Int32.toInt64 (Int32.ofInt n))), (2, .long (Int64.ofNat 0)), (4, .long (Int32.toInt64 (Int32.ofInt ((σ.1 117 56) - 1))))] [] _ _ _ _
  refine wp_ll1 jF_232_0 rfl rfl (pc2 := 1) ?_
  refine wp_ll1 jF_232_1 rfl rfl (pc2 := 2) ?_
  refine wp_lcmp2 (a := n) (b := 0) jF_232_2 (m_i2lt ⟨by omega, by omega⟩) (by decide) rfl (pc2 := 3) ?_
  intro z2 h3
  refine wp_z_lt jF_232_3 ⟨by omega, by omega⟩ rfl (pc2 := 6) ?_ ?_
  · intro h4
    refine wp_ic jF_232_17 rfl (pc2 := 18) ?_
    refine wp_ri jF_232_18 rfl ?_
    show WP 298 13 [(0, .ref 117), (1, iV n), (2, iV what)] [iV 0] _ _ _ _
    refine wp_z_ne jF_298_13 (m_rgl rfl) rfl (pc2 := 16) ?_ ?_
    · intro h5; exfalso; omega
    · intro h5
      refine wp_ic jF_298_16 rfl (pc2 := 17) ?_
      refine wp_ri jF_298_17 rfl ?_
      exact ⟨(-1), rfl, ⟨by omega, by omega⟩, rfl⟩
  · intro h4
    refine wp_ll1 jF_232_6 rfl rfl (pc2 := 7) ?_
    refine wp_ll2 jF_232_7 rfl rfl (pc2 := 9) ?_
    refine wp_lcmp2 (a := n) (b := ((σ.1 117 56) - 1)) jF_232_9 (m_i2lt ⟨by omega, by omega⟩) (m_i2lt ⟨by omega, by omega⟩) rfl (pc2 := 10) ?_
    intro z6 h7
    refine wp_z_gt jF_232_10 ⟨by omega, by omega⟩ rfl (pc2 := 13) ?_ ?_
    · intro h8
      refine wp_ic jF_232_17 rfl (pc2 := 18) ?_
      refine wp_ri jF_232_18 rfl ?_
      show WP 298 13 [(0, .ref 117), (1, iV n), (2, iV what)] [iV 0] _ _ _ _
      refine wp_z_ne jF_298_13 (m_rgl rfl) rfl (pc2 := 16) ?_ ?_
      · intro h9; exfalso; omega
      · intro h9
        refine wp_ic jF_298_16 rfl (pc2 := 17) ?_
        refine wp_ri jF_298_17 rfl ?_
        exact ⟨(-1), rfl, ⟨by omega, by omega⟩, rfl⟩
    · intro h8
      refine wp_ic jF_232_13 rfl (pc2 := 14) ?_
      refine wp_go jF_232_14 ?_
      refine wp_ri jF_232_18 rfl ?_
      show WP 298 13 [(0, .ref 117), (1, iV n), (2, iV what)] [iV 1] _ _ _ _
      refine wp_z_ne jF_298_13 (m_rgl rfl) rfl (pc2 := 16) ?_ ?_
      · intro h10
        refine wp_il1 jF_298_18 rfl rfl (pc2 := 19) ?_
        rcases m_tsw what 0 2 with h11 | h11
        · refine wp_tswd (tgt := 75) jF_298_19 ⟨by omega, by omega⟩ h11 (by decide) ?_
          refine wp_ic jF_298_75 rfl (pc2 := 76) ?_
          refine wp_ri jF_298_76 rfl ?_
          exact ⟨(-1), rfl, ⟨by omega, by omega⟩, rfl⟩
        · have h11c : what = 0 ∨ what = 1 ∨ what = 2 := by omega
          rcases h11c with hh | hh | hh
          · refine wp_tswx (x := 0) (tgt := 44) jF_298_19 hh (by decide) ?_
            refine wp_al1 jF_298_44 rfl rfl (pc2 := 45) ?_
            refine wp_gr (b := 153) jF_298_45 kd117 (by decide) (c := 253) rfl rfl rfl (pc2 := 48) ?_
            refine wp_il1 jF_298_48 rfl rfl (pc2 := 49) ?_
            have b12 := GI.b hg 153 n.toNat kd153 (lo := (-2147483648)) (hi := 2147483647) rfl
            refine wp_iald (n := 1760) (e := (σ.1 153 n.toNat)) jF_298_49 kd153 (by decide) rfl rfl (by omega) (by omega) rfl rfl (pc2 := 50) ?_
            refine wp_ri jF_298_50 rfl ?_
            exact ⟨(σ.1 153 n.toNat), rfl, ⟨by omega, by omega⟩, rfl⟩
          · refine wp_tswx (x := 1) (tgt := 51) jF_298_19 hh (by decide) ?_
            refine wp_al1 jF_298_51 rfl rfl (pc2 := 52) ?_
            refine wp_gr (b := 152) jF_298_52 kd117 (by decide) (c := 252) rfl rfl rfl (pc2 := 55) ?_
            refine wp_il1 jF_298_55 rfl rfl (pc2 := 56) ?_
            refine wp_lald (n := 1760) jF_298_56 kd152 (by decide) rfl rfl (by omega) (by omega) rfl (pc2 := 57) ?_
            intro y13
            refine wp_cS (as := [.long y13]) (rest := []) (mx := 5) jF_298_57 rfl rfl rfl rfl (by omega) (by omega) rfl (pc2 := 60) ?_
            refine wp_use (m_273 σ hg y13  _ _ (by omega) (by omega)) ?_
            rintro _ _ ⟨z16, rfl, h17, rfl⟩
            show WP 298 60 [(0, .ref 117), (1, iV n), (2, iV what)] [iV z16] _ _ _ _
            refine wp_ri jF_298_60 rfl ?_
            exact ⟨z16, rfl, ⟨by omega, by omega⟩, rfl⟩
          · refine wp_tswx (x := 2) (tgt := 61) jF_298_19 hh (by decide) ?_
            refine wp_al1 jF_298_61 rfl rfl (pc2 := 62) ?_
            refine wp_il1 jF_298_62 rfl rfl (pc2 := 63) ?_
            refine wp_cV (as := [iV n]) (rest := []) (a := 117) (mx := 2) (ci := 12) jF_298_63 kd117 (by decide) rfl rfl rfl rfl rfl (by omega) (by omega) rfl (pc2 := 66) ?_
            have b18 := GI.b hg 143 5 kd143 (lo := 0) (hi := 16) rfl
            refine wp_use (m_299 σ hg n (by omega) (by omega) (by omega) _ _ (by omega) (by omega)) ?_
            rintro _ _ ⟨z21, rfl, h22, rfl⟩
            show WP 298 66 [(0, .ref 117), (1, iV n), (2, iV what)] [iV z21] _ _ _ _
            refine wp_z_eq jF_298_66 (m_rgb h22 rfl) rfl (pc2 := 69) ?_ ?_
            · intro h23
              refine wp_ic jF_298_73 rfl (pc2 := 74) ?_
              refine wp_ri jF_298_74 rfl ?_
              exact ⟨0, rfl, ⟨by omega, by omega⟩, rfl⟩
            · intro h23
              refine wp_ic jF_298_69 rfl (pc2 := 70) ?_
              refine wp_go jF_298_70 ?_
              refine wp_ri jF_298_74 rfl ?_
              exact ⟨1, rfl, ⟨by omega, by omega⟩, rfl⟩
      · intro h10; exfalso; omega
set_option maxHeartbeats 4000000 in
set_option maxRecDepth 20000 in
/-- M.stroke -/
theorem m_323 (σ : jM) (hg : GI σ)  (pre0 : (σ.1 143 4) ≤ 8) (pre1 : (kp σ) = 1) (pre2 : (l0 σ) = 22) (fr lo : Nat) (hfr : 4 ≤ fr) (hlo : 100 ≤ lo) : WP 323 0 (lv_args 0 [.ref 117]) [] fr lo σ (fun v τ => ∃ z : Int, v = some (iV z) ∧ ((-2147483648) ≤ z ∧ z ≤ 2147483647) ∧ GI τ ∧ FR Wstk σ τ ∧ ((kp τ) = 1) ∧ ((l0 τ) = 22) ∧ ((l1 τ) = (l1 σ))) := by
  show WP 323 0 [(0, .ref 117)] [] _ _ _ _
  refine wp_al1 jF_323_0 rfl rfl (pc2 := 1) ?_
  refine wp_gr (b := 148) jF_323_1 kd117 (by decide) (c := 248) rfl rfl rfl (pc2 := 4) ?_
  refine wp_ic jF_323_4 rfl (pc2 := 5) ?_
  have b1 := GI.b hg 148 0 kd148 (lo := 0) (hi := 60) rfl
  refine wp_iald (n := 2) (e := (σ.1 148 0)) jF_323_5 kd148 (by decide) rfl rfl (by omega) (by omega) rfl rfl (pc2 := 6) ?_
  refine wp_z_ne jF_323_6 (m_rgb b1 rfl) rfl (pc2 := 9) ?_ ?_
  · intro h2
    refine wp_al1 jF_323_11 rfl rfl (pc2 := 12) ?_
    refine wp_ld jF_323_12 rfl (pc2 := 15) ?_
    refine wp_al1 jF_323_15 rfl rfl (pc2 := 16) ?_
    refine wp_glA jF_323_16 kd117 (by decide) rfl rfl (pc2 := 19) ?_
    intro y3
    refine wp_lng (pc2 := 20) jF_323_19 rfl rfl ?_
    intro y4
    refine wp_ld jF_323_20 rfl (pc2 := 23) ?_
    refine wp_lng (pc2 := 24) jF_323_23 rfl rfl ?_
    intro y5
    refine wp_ld jF_323_24 rfl (pc2 := 27) ?_
    refine wp_lrem jF_323_27 (by decide) rfl (pc2 := 28) ?_
    intro y6
    refine wp_pl jF_323_28 kd117 (by decide) rfl rfl (pc2 := 31) hg ?_
    intro τ7 g8 f9
    refine wp_al1 jF_323_31 rfl rfl (pc2 := 32) ?_
    refine wp_glA jF_323_32 kd117 (by decide) rfl rfl (pc2 := 35) ?_
    intro y10
    refine wp_ld jF_323_35 rfl (pc2 := 38) ?_
    refine wp_ldiv jF_323_38 (by decide) rfl (pc2 := 39) ?_
    intro y11
    refine wp_al1 jF_323_39 rfl rfl (pc2 := 40) ?_
    refine wp_gr (b := 148) jF_323_40 kd117 (by decide) (c := 248) rfl rfl rfl (pc2 := 43) ?_
    refine wp_ic jF_323_43 rfl (pc2 := 44) ?_
    refine wp_iald (n := 2) (e := (σ.1 148 0)) jF_323_44 kd148 (by decide) rfl rfl (by omega) (by omega) (FRw.na f9 (by decide)) rfl (pc2 := 45) ?_
    refine wp_i2l jF_323_45 rfl (pc2 := 46) ?_
    refine wp_lrem jF_323_46 (m_i2lnz (m_rgb b1 rfl) (by omega)) rfl (pc2 := 47) ?_
    intro y12
    refine wp_any1 (pc2 := 48) jF_323_47 rfl rfl ?_
    intro z13 h14
    refine wp_is1 (lv2 := [(0, .ref 117), (1, iV z13)]) jF_323_48 rfl rfl rfl (pc2 := 49) ?_
    refine wp_al1 jF_323_49 rfl rfl (pc2 := 50) ?_
    refine wp_ic jF_323_50 rfl (pc2 := 51) ?_
    refine wp_ic jF_323_51 rfl (pc2 := 52) ?_
    refine wp_il1 jF_323_52 rfl rfl (pc2 := 53) ?_
    refine wp_ic jF_323_53 rfl (pc2 := 54) ?_
    refine wp_cV (as := [iV 0, iV 1, iV z13, iV 0]) (rest := []) (a := 117) (mx := 5) (ci := 12) jF_323_54 kd117 (by decide) rfl rfl rfl rfl rfl (by omega) (by omega) rfl (pc2 := 57) ?_
    refine wp_use (m_288_0 τ7 g8 1 (by omega) (by omega) z13 (by omega) (by omega) 0 (by omega) (by omega)  _ _ (by omega) (by omega)) ?_
    rintro _ τ15 ⟨z18, rfl, h19, g16, f17⟩
    show WP 323 57 [(0, .ref 117), (1, iV z13)] [iV z18] _ _ _ _
    refine wp_z_eq jF_323_57 (m_rgb h19 rfl) rfl (pc2 := 60) ?_ ?_
    · intro h20
      refine wp_ic jF_323_67 rfl (pc2 := 68) ?_
      refine wp_ri jF_323_68 rfl ?_
      have q21 : (l0 τ15) = (l0 σ) := ((l0_fr f17 rfl (fun _ => rfl)).trans (l0_wr f9 (by decide)))
      have q22 : (l1 τ15) = (l1 σ) := ((l1_fr f17 rfl (fun _ => rfl)).trans (l1_wr f9 (by decide)))
      have q23 : (kp τ15) = (kp σ) := ((kp_fr f17 (fun _ => rfl) (fun _ => rfl)).trans (kp_wr f9 (by decide)))
      exact ⟨(-1), rfl, ⟨by omega, by omega⟩, g16, (FR.up (FR.w FR.rf f9 rfl) f17 sb_Wtr_Wstk), (by omega), (by omega), (by omega)⟩
    · intro h20
      refine wp_al1 jF_323_60 rfl rfl (pc2 := 61) ?_
      refine wp_cV (as := []) (rest := []) (a := 117) (mx := 1) (ci := 12) jF_323_61 kd117 (by decide) rfl rfl rfl rfl rfl (by omega) (by omega) rfl (pc2 := 64) ?_
      have b24 := GI.b g16 117 49 kd117 (lo := 0) (hi := 61) rfl
      have b25 := GI.b hg 143 4 kd143 (lo := 0) (hi := 16) rfl
      have q26 : (τ15.1 143 4) = (σ.1 143 4) := ((FR.at f17 143 4 rfl).trans (FRw.na f9 (by decide)))
      refine wp_use (m_290 τ15 g16  (by omega) _ _ (by omega) (by omega)) ?_
      rintro _ _ ⟨z30, rfl, h31, rfl, p27⟩
      show WP 323 64 [(0, .ref 117), (1, iV z13)] [iV z30] _ _ _ _
      refine wp_z_ne jF_323_64 (m_rgb h31 rfl) rfl (pc2 := 67) ?_ ?_
      · intro h32
        replace p27 := p27 (by omega)
        refine wp_al1 jF_323_69 rfl rfl (pc2 := 70) ?_
        refine wp_cV (as := []) (rest := []) (a := 117) (mx := 2) (ci := 12) jF_323_70 kd117 (by decide) rfl rfl rfl rfl rfl (by omega) (by omega) rfl (pc2 := 73) ?_
        have q33 : (l0 τ15) = (l0 σ) := ((l0_fr f17 rfl (fun _ => rfl)).trans (l0_wr f9 (by decide)))
        have q34 : (kp τ15) = (kp σ) := ((kp_fr f17 (fun _ => rfl) (fun _ => rfl)).trans (kp_wr f9 (by decide)))
        refine wp_use (m_262 τ15 g16  (by omega) (by omega) _ _ (by omega) (by omega)) ?_
        rintro _ τ36 ⟨rfl, g37, f38, p35⟩
        show WP 323 73 [(0, .ref 117), (1, iV z13)] [] _ _ _ _
        refine wp_al1 jF_323_73 rfl rfl (pc2 := 74) ?_
        refine wp_ic jF_323_74 rfl (pc2 := 75) ?_
        refine wp_cV (as := [iV 0]) (rest := []) (a := 117) (mx := 3) (ci := 12) jF_323_75 kd117 (by decide) rfl rfl rfl rfl rfl (by omega) (by omega) rfl (pc2 := 78) ?_
        have q39 : (tl τ36) = (tl τ15) := (tl_fr f38 rfl (fun _ => rfl))
        have q40 : (l1 τ36) = (l1 σ) := ((l1_fr f38 rfl (fun _ => rfl)).trans ((l1_fr f17 rfl (fun _ => rfl)).trans (l1_wr f9 (by decide))))
        have q41 : (τ36.1 117 49) = (τ15.1 117 49) := (FR.at f38 117 49 rfl)
        have b42 := GI.b hg 148 1 kd148 (lo := 0) (hi := 60) rfl
        have q43 : (τ36.1 148 1) = (σ.1 148 1) := ((FR.at f38 148 1 rfl).trans ((FR.at f17 148 1 rfl).trans (FRw.na f9 (by decide))))
        refine wp_use (m_263_0 τ36 g37  (by omega) _ _ (by omega) (by omega)) ?_
        rintro _ τ48 ⟨rfl, g49, f50, p44, p45, p46, p47⟩
        show WP 323 78 [(0, .ref 117), (1, iV z13)] [] _ _ _ _
        refine wp_il1 jF_323_78 rfl rfl (pc2 := 79) ?_
        refine wp_ri jF_323_79 rfl ?_
        have q51 : (kp τ48) = (kp τ36) := (kp_fr f50 (fun _ => rfl) (fun _ => rfl))
        exact ⟨z13, rfl, ⟨by omega, by omega⟩, g49, (FR.up (FR.up (FR.up (FR.w FR.rf f9 rfl) f17 sb_Wtr_Wstk) f38 sb_Wkeep_Wstk) f50 sb_Wla_Wstk), (by omega), (by omega), (by omega)⟩
      · intro h32
        clear p27
        refine wp_ic jF_323_67 rfl (pc2 := 68) ?_
        refine wp_ri jF_323_68 rfl ?_
        have q52 : (l0 τ15) = (l0 σ) := ((l0_fr f17 rfl (fun _ => rfl)).trans (l0_wr f9 (by decide)))
        have q53 : (l1 τ15) = (l1 σ) := ((l1_fr f17 rfl (fun _ => rfl)).trans (l1_wr f9 (by decide)))
        have q54 : (kp τ15) = (kp σ) := ((kp_fr f17 (fun _ => rfl) (fun _ => rfl)).trans (kp_wr f9 (by decide)))
        exact ⟨(-1), rfl, ⟨by omega, by omega⟩, g16, (FR.up (FR.w FR.rf f9 rfl) f17 sb_Wtr_Wstk), (by omega), (by omega), (by omega)⟩
  · intro h2
    refine wp_ic jF_323_9 rfl (pc2 := 10) ?_
    refine wp_ri jF_323_10 rfl ?_
    exact ⟨(-1), rfl, ⟨by omega, by omega⟩, hg, FR.rf, (by omega), (by omega), (by omega)⟩
