set_option maxHeartbeats 4000000 in
set_option maxRecDepth 20000 in
/-- M.literalSet -/
theorem m_248 (σ : jM) (hg : GI σ) (n : Int) (hl_n : 0 ≤ n) (hu_n : n ≤ 23)  (fr lo : Nat) (hfr : 0 ≤ fr) (hlo : 0 ≤ lo) : WP 248 0 (lv_args 0 [.ref 117, iV n]) [] fr lo σ (fun v τ => ∃ z : Int64, v = some (.long z) ∧ σ = τ) := by
  show WP 248 0 [(0, .ref 117), (1, iV n)] [] _ _ _ _
  refine wp_al1 jF_248_0 rfl rfl (pc2 := 1) ?_
  refine wp_gr (b := 144) jF_248_1 kd117 (by decide) (c := 244) rfl rfl rfl (pc2 := 4) ?_
  refine wp_al1 jF_248_4 rfl rfl (pc2 := 5) ?_
  refine wp_gr (b := 154) jF_248_5 kd117 (by decide) (c := 254) rfl rfl rfl (pc2 := 8) ?_
  refine wp_il1 jF_248_8 rfl rfl (pc2 := 9) ?_
  have b1 := GI.b hg 154 n.toNat kd154 (lo := 0) (hi := 23) rfl
  refine wp_iald (n := 24) (e := (σ.1 154 n.toNat)) jF_248_9 kd154 (by decide) rfl rfl (by omega) (by omega) rfl rfl (pc2 := 10) ?_
  refine wp_ic jF_248_10 rfl (pc2 := 11) ?_
  refine wp_div jF_248_11 (m_rgb b1 rfl) (by omega) (m_rgl rfl) (by omega) rfl (pc2 := 12) ?_
  refine wp_lald (n := 18) jF_248_12 kd144 (by decide) rfl rfl (by omega) (by omega) rfl (pc2 := 13) ?_
  intro y2
  refine wp_ls1 (lv2 := [(0, .ref 117), (1, iV n), (2, .long y2)]) jF_248_13 rfl rfl rfl (pc2 := 14) ?_
  refine wp_al1 jF_248_14 rfl rfl (pc2 := 15) ?_
  refine wp_gr (b := 154) jF_248_15 kd117 (by decide) (c := 254) rfl rfl rfl (pc2 := 18) ?_
  refine wp_il1 jF_248_18 rfl rfl (pc2 := 19) ?_
  refine wp_iald (n := 24) (e := (σ.1 154 n.toNat)) jF_248_19 kd154 (by decide) rfl rfl (by omega) (by omega) rfl rfl (pc2 := 20) ?_
  refine wp_ic jF_248_20 rfl (pc2 := 21) ?_
  refine wp_rem jF_248_21 (m_rgb b1 rfl) (by omega) (m_rgl rfl) (by omega) rfl (pc2 := 22) ?_
  refine wp_z_ne jF_248_22 ⟨by omega, by omega⟩ rfl (pc2 := 25) ?_ ?_
  · intro h3
    refine wp_al1 jF_248_29 rfl rfl (pc2 := 30) ?_
    refine wp_glA jF_248_30 kd117 (by decide) rfl rfl (pc2 := 33) ?_
    intro y4
    refine wp_ll1 jF_248_33 rfl rfl (pc2 := 34) ?_
    refine wp_ld jF_248_34 rfl (pc2 := 37) ?_
    refine wp_lng (pc2 := 38) jF_248_37 rfl rfl ?_
    intro y5
    refine wp_lng (pc2 := 39) jF_248_38 rfl rfl ?_
    intro y6
    refine wp_rl jF_248_39 ?_
    exact ⟨y6, rfl, rfl⟩
  · intro h3
    refine wp_ll1 jF_248_25 rfl rfl (pc2 := 26) ?_
    refine wp_go jF_248_26 ?_
    refine wp_rl jF_248_39 ?_
    exact ⟨y2, rfl, rfl⟩
set_option maxHeartbeats 4000000 in
set_option maxRecDepth 20000 in
/-- M.literalWords -/
theorem m_249 (σ : jM) (hg : GI σ) (n : Int) (hl_n : 0 ≤ n) (hu_n : n ≤ 23)  (fr lo : Nat) (hfr : 0 ≤ fr) (hlo : 0 ≤ lo) : WP 249 0 (lv_args 0 [.ref 117, iV n]) [] fr lo σ (fun v τ => ∃ z : Int, v = some (iV z) ∧ (1 ≤ z ∧ z ≤ 2) ∧ σ = τ) := by
  show WP 249 0 [(0, .ref 117), (1, iV n)] [] _ _ _ _
  refine wp_ic jF_249_0 rfl (pc2 := 1) ?_
  refine wp_al1 jF_249_1 rfl rfl (pc2 := 2) ?_
  refine wp_gr (b := 154) jF_249_2 kd117 (by decide) (c := 254) rfl rfl rfl (pc2 := 5) ?_
  refine wp_il1 jF_249_5 rfl rfl (pc2 := 6) ?_
  have b1 := GI.b hg 154 n.toNat kd154 (lo := 0) (hi := 23) rfl
  refine wp_iald (n := 24) (e := (σ.1 154 n.toNat)) jF_249_6 kd154 (by decide) rfl rfl (by omega) (by omega) rfl rfl (pc2 := 7) ?_
  refine wp_ic jF_249_7 rfl (pc2 := 8) ?_
  refine wp_rem jF_249_8 (m_rgb b1 rfl) (by omega) (m_rgl rfl) (by omega) rfl (pc2 := 9) ?_
  refine wp_add jF_249_9 rfl (pc2 := 10) ?_
  refine wp_ri jF_249_10 rfl ?_
  exact ⟨(1 + ((σ.1 154 n.toNat) % 2)), rfl, ⟨by omega, by omega⟩, rfl⟩
set_option maxHeartbeats 4000000 in
set_option maxRecDepth 20000 in
/-- M.shortIs -/
theorem m_250 (σ : jM) (hg : GI σ) (set : Int64) (w : Int) (hl_w : (-2147483648) ≤ w) (hu_w : w ≤ 2147483647) (pre0 : (σ.1 117 56) ≤ 1751) (fr lo : Nat) (hfr : 0 ≤ fr) (hlo : 0 ≤ lo) : WP 250 0 (lv_args 0 [.ref 117, .long set, iV w]) [] fr lo σ (fun v τ => v = none ∧ GI τ ∧ FR Wsi σ τ ∧ ((τ.1 117 56) = (σ.1 117 56) + 1)) := by
  show WP 250 0 [(0, .ref 117), (1, .long set), (3, iV w)] [] _ _ _ _
  refine wp_al1 jF_250_0 rfl rfl (pc2 := 1) ?_
  refine wp_gr (b := 152) jF_250_1 kd117 (by decide) (c := 252) rfl rfl rfl (pc2 := 4) ?_
  refine wp_al1 jF_250_4 rfl rfl (pc2 := 5) ?_
  have b1 := GI.b hg 117 56 kd117 (lo := 0) (hi := 1752) rfl
  refine wp_gi jF_250_5 kd117 (by decide) rfl rfl rfl (pc2 := 8) ?_
  refine wp_ll1 jF_250_8 rfl rfl (pc2 := 9) ?_
  refine wp_last (n := 1760) jF_250_9 kd152 (by decide) rfl rfl (by omega) (by omega) rfl (pc2 := 10) hg ?_
  intro τ2 g3 f4
  refine wp_al1 jF_250_10 rfl rfl (pc2 := 11) ?_
  refine wp_gr (b := 153) jF_250_11 kd117 (by decide) (c := 253) rfl rfl rfl (pc2 := 14) ?_
  refine wp_al1 jF_250_14 rfl rfl (pc2 := 15) ?_
  refine wp_gi jF_250_15 kd117 (by decide) rfl (FRw.na f4 (by decide)) rfl (pc2 := 18) ?_
  refine wp_il1 jF_250_18 rfl rfl (pc2 := 19) ?_
  refine wp_iast (n := 1760) jF_250_19 kd153 (by decide) rfl rfl (by omega) (by omega) rfl (pc2 := 20) g3 (lo := (-2147483648)) (hi := 2147483647) rfl (by omega) (by omega) ?_
  intro τ5 g6 f7 e8
  refine wp_al1 jF_250_20 rfl rfl (pc2 := 21) ?_
  refine wp_dup jF_250_21 rfl rfl (pc2 := 22) ?_
  refine wp_gi jF_250_22 kd117 (by decide) rfl ((FRw.na f7 (by decide)).trans (FRw.na f4 (by decide))) rfl (pc2 := 25) ?_
  refine wp_ic jF_250_25 rfl (pc2 := 26) ?_
  refine wp_add jF_250_26 rfl (pc2 := 27) ?_
  refine wp_pi jF_250_27 kd117 (by decide) rfl rfl rfl (pc2 := 30) g6 (lo := 0) (hi := 1752) rfl (by omega) (by omega) ?_
  intro τ9 g10 f11 e12
  refine wp_rv jF_250_30 ?_
  have q13 : (τ9.1 117 56) = ((σ.1 117 56) + 1) := e12
  exact ⟨rfl, g10, (FR.w (FR.w (FR.w FR.rf f4 rfl) f7 rfl) f11 rfl), (by omega)⟩
set_option maxHeartbeats 4000000 in
set_option maxRecDepth 20000 in
/-- M.shortsTold -/
theorem m_247 (σ : jM) (hg : GI σ)   (fr lo : Nat) (hfr : 1 ≤ fr) (hlo : 23 ≤ lo) : WP 247 0 (lv_args 0 [.ref 117]) [] fr lo σ (fun v τ => v = none ∧ GI τ ∧ FR Wsho σ τ) := by
  show WP 247 0 [(0, .ref 117)] [] _ _ _ _
  refine wp_al1 jF_247_0 rfl rfl (pc2 := 1) ?_
  refine wp_ic jF_247_1 rfl (pc2 := 2) ?_
  refine wp_pi jF_247_2 kd117 (by decide) rfl rfl rfl (pc2 := 5) hg (lo := 0) (hi := 24) rfl (by omega) (by omega) ?_
  intro τ1 g2 f3 e4
  refine wp_al1 jF_247_5 rfl rfl (pc2 := 6) ?_
  refine wp_ic jF_247_6 rfl (pc2 := 7) ?_
  refine wp_pi jF_247_7 kd117 (by decide) rfl rfl rfl (pc2 := 10) g2 (lo := 0) (hi := 1752) rfl (by omega) (by omega) ?_
  intro τ5 g6 f7 e8
  refine wp_ic jF_247_10 rfl (pc2 := 11) ?_
  refine wp_is1 (lv2 := [(0, .ref 117), (1, iV 0)]) jF_247_11 rfl rfl rfl (pc2 := 12) ?_
  refine wp_loop (α := Int) (fun a => [(0, .ref 117), (1, iV (a))]) (fun a τ => (0 ≤ a ∧ a ≤ 24) ∧ GI τ ∧ FR Wshl τ5 τ ∧ ((τ.1 117 58) ≤ (a))) (fun a τ => Int.toNat (24 - (a))) (0) τ5 ?_ ?_
  · skip
    have q9 : (τ5.1 117 58) = 0 := ((FRw.nj f7 (by decide)).trans e4)
    exact ⟨⟨by omega, by omega⟩, g6, FR.rf, (by omega)⟩
  · rintro x10 τ12 ⟨h11, g13, f14, p15⟩ ih16
    have b17 := GI.b g13 117 58 kd117 (lo := 0) (hi := 24) rfl
    show WP 247 12 [(0, .ref 117), (1, iV x10)] [] _ _ _ _
    show WP 247 12 [(0, .ref 117), (1, iV x10)] [] _ _ _ _
    refine wp_il1 jF_247_12 rfl rfl (pc2 := 13) ?_
    refine wp_bi jF_247_13 (by decide) rfl (pc2 := 15) ?_
    refine wp_i_ge jF_247_15 (m_rgb h11 rfl) (m_rgl rfl) rfl (pc2 := 18) ?_ ?_
    · intro h18
      refine wp_ic jF_247_63 rfl (pc2 := 64) ?_
      refine wp_is1 (lv2 := [(0, .ref 117), (1, iV 0)]) jF_247_64 rfl rfl rfl (pc2 := 65) ?_
      refine wp_loop (α := Int) (fun a => [(0, .ref 117), (1, iV (a))]) (fun a τ => (0 ≤ a ∧ a ≤ 24) ∧ GI τ ∧ FR Wsi τ12 τ ∧ ((τ.1 117 56) = (a)) ∧ ((a) ≤ (τ.1 117 58))) (fun a τ => Int.toNat (24 - (a))) (0) τ12 ?_ ?_
      · skip
        have q19 : (τ12.1 117 56) = 0 := ((FR.at f14 117 56 rfl).trans e8)
        exact ⟨⟨by omega, by omega⟩, g13, FR.rf, (by omega), (by omega)⟩
      · rintro x20 τ22 ⟨h21, g23, f24, p25, p26⟩ ih27
        have b28 := GI.b g23 117 56 kd117 (lo := 0) (hi := 1752) rfl
        have q29 : (τ22.1 117 58) = (τ12.1 117 58) := (FR.at f24 117 58 rfl)
        show WP 247 65 [(0, .ref 117), (1, iV x20)] [] _ _ _ _
        show WP 247 65 [(0, .ref 117), (1, iV x20)] [] _ _ _ _
        refine wp_il1 jF_247_65 rfl rfl (pc2 := 66) ?_
        refine wp_al1 jF_247_66 rfl rfl (pc2 := 67) ?_
        refine wp_gi jF_247_67 kd117 (by decide) rfl (FR.at f24 117 58 rfl) rfl (pc2 := 70) ?_
        refine wp_i_ge jF_247_70 (m_rgb h21 rfl) (m_rgb b17 rfl) rfl (pc2 := 73) ?_ ?_
        · intro h30
          refine wp_ic jF_247_93 rfl (pc2 := 94) ?_
          refine wp_is1 (lv2 := [(0, .ref 117), (1, iV 0)]) jF_247_94 rfl rfl rfl (pc2 := 95) ?_
          refine wp_loop (α := Int) (fun a => [(0, .ref 117), (1, iV (a))]) (fun a τ => (0 ≤ a ∧ a ≤ 24) ∧ GI τ ∧ FR Wsi τ22 τ ∧ ((τ.1 117 56) ≤ 24 + 72 * (a))) (fun a τ => Int.toNat (24 - (a))) (0) τ22 ?_ ?_
          · skip
            exact ⟨⟨by omega, by omega⟩, g23, FR.rf, (by omega)⟩
          · rintro x31 τ33 ⟨h32, g34, f35, p36⟩ ih37
            have b38 := GI.b g34 117 56 kd117 (lo := 0) (hi := 1752) rfl
            show WP 247 95 [(0, .ref 117), (1, iV x31)] [] _ _ _ _
            show WP 247 95 [(0, .ref 117), (1, iV x31)] [] _ _ _ _
            refine wp_il1 jF_247_95 rfl rfl (pc2 := 96) ?_
            refine wp_al1 jF_247_96 rfl rfl (pc2 := 97) ?_
            refine wp_gi jF_247_97 kd117 (by decide) rfl ((FR.at f35 117 58 rfl).trans (FR.at f24 117 58 rfl)) rfl (pc2 := 100) ?_
            refine wp_i_ge jF_247_100 (m_rgb h32 rfl) (m_rgb b17 rfl) rfl (pc2 := 103) ?_ ?_
            · intro h39
              refine wp_rv jF_247_191 ?_
              exact ⟨rfl, g34, (FR.up (FR.up (FR.up (FR.w (FR.w FR.rf f3 rfl) f7 rfl) f14 sb_Wshl_Wsho) f24 sb_Wsi_Wsho) f35 sb_Wsi_Wsho)⟩
            · intro h39
              refine wp_ic jF_247_103 rfl (pc2 := 104) ?_
              refine wp_is1 (lv2 := [(0, .ref 117), (1, iV x31), (2, iV 0)]) jF_247_104 rfl rfl rfl (pc2 := 105) ?_
              refine wp_loop (α := Int) (fun a => [(0, .ref 117), (1, iV x31), (2, iV (a))]) (fun a τ => (0 ≤ a ∧ a ≤ 24) ∧ GI τ ∧ FR Wsi τ33 τ ∧ ((τ.1 117 56) ≤ 24 + 72 * x31 + 3 * (a))) (fun a τ => Int.toNat (24 - (a))) (0) τ33 ?_ ?_
              · skip
                exact ⟨⟨by omega, by omega⟩, g34, FR.rf, (by omega)⟩
              · rintro x40 τ42 ⟨h41, g43, f44, p45⟩ ih46
                have b47 := GI.b g43 117 56 kd117 (lo := 0) (hi := 1752) rfl
                show WP 247 105 [(0, .ref 117), (1, iV x31), (2, iV x40)] [] _ _ _ _
                show WP 247 105 [(0, .ref 117), (1, iV x31), (2, iV x40)] [] _ _ _ _
                refine wp_il1 jF_247_105 rfl rfl (pc2 := 106) ?_
                refine wp_al1 jF_247_106 rfl rfl (pc2 := 107) ?_
                refine wp_gi jF_247_107 kd117 (by decide) rfl ((FR.at f44 117 58 rfl).trans ((FR.at f35 117 58 rfl).trans (FR.at f24 117 58 rfl))) rfl (pc2 := 110) ?_
                refine wp_i_ge jF_247_110 (m_rgb h41 rfl) (m_rgb b17 rfl) rfl (pc2 := 113) ?_ ?_
                · intro h48
                  refine wp_inc (lv2 := [(0, .ref 117), (1, iV (x31 + 1)), (2, iV x40)]) jF_247_185 rfl rfl rfl rfl (pc2 := 188) ?_
                  refine wp_go jF_247_188 ?_
                  refine wp_less [0, 1] (lv2 := [(0, .ref 117), (1, iV (x31 + 1))]) rfl rfl ?_
                  exact ih37 ((x31 + 1)) τ42 ⟨⟨by omega, by omega⟩, g43, (FR.up f35 f44 sb_Wsi_Wsi), (by omega)⟩ (by show Int.toNat (24 - (x31 + 1)) < Int.toNat (24 - x31); omega)
                · intro h48
                  refine wp_al1 jF_247_113 rfl rfl (pc2 := 114) ?_
                  refine wp_il1 jF_247_114 rfl rfl (pc2 := 115) ?_
                  refine wp_cV (as := [iV x31]) (rest := []) (a := 117) (mx := 2) (ci := 12) jF_247_115 kd117 (by decide) rfl rfl rfl rfl rfl (by omega) (by omega) rfl (pc2 := 118) ?_
                  refine wp_use (m_249 τ42 g43 x31 (by omega) (by omega)  _ _ (by omega) (by omega)) ?_
                  rintro _ _ ⟨z51, rfl, h52, rfl⟩
                  show WP 247 118 [(0, .ref 117), (1, iV x31), (2, iV x40)] [iV z51] _ _ _ _
                  refine wp_al1 jF_247_118 rfl rfl (pc2 := 119) ?_
                  refine wp_il1 jF_247_119 rfl rfl (pc2 := 120) ?_
                  refine wp_cV (as := [iV x40]) (rest := [iV z51]) (a := 117) (mx := 2) (ci := 12) jF_247_120 kd117 (by decide) rfl rfl rfl rfl rfl (by omega) (by omega) rfl (pc2 := 123) ?_
                  refine wp_use (m_249 τ42 g43 x40 (by omega) (by omega)  _ _ (by omega) (by omega)) ?_
                  rintro _ _ ⟨z55, rfl, h56, rfl⟩
                  show WP 247 123 [(0, .ref 117), (1, iV x31), (2, iV x40)] [iV z55, iV z51] _ _ _ _
                  refine wp_add jF_247_123 rfl (pc2 := 124) ?_
                  refine wp_ic jF_247_124 rfl (pc2 := 125) ?_
                  refine wp_add jF_247_125 rfl (pc2 := 126) ?_
                  refine wp_is1 (lv2 := [(0, .ref 117), (1, iV x31), (2, iV x40), (3, iV ((z51 + z55) + 1))]) jF_247_126 rfl rfl rfl (pc2 := 127) ?_
                  refine wp_al1 jF_247_127 rfl rfl (pc2 := 128) ?_
                  refine wp_al1 jF_247_128 rfl rfl (pc2 := 129) ?_
                  refine wp_il1 jF_247_129 rfl rfl (pc2 := 130) ?_
                  refine wp_cV (as := [iV x31]) (rest := [.ref 117]) (a := 117) (mx := 4) (ci := 12) jF_247_130 kd117 (by decide) rfl rfl rfl rfl rfl (by omega) (by omega) rfl (pc2 := 133) ?_
                  refine wp_use (m_248 τ42 g43 x31 (by omega) (by omega)  _ _ (by omega) (by omega)) ?_
                  rintro _ _ ⟨y59, rfl, rfl⟩
                  show WP 247 133 [(0, .ref 117), (1, iV x31), (2, iV x40), (3, iV ((z51 + z55) + 1))] [.long y59, .ref 117] _ _ _ _
                  refine wp_al1 jF_247_133 rfl rfl (pc2 := 134) ?_
                  refine wp_il1 jF_247_134 rfl rfl (pc2 := 135) ?_
                  refine wp_cV (as := [iV x40]) (rest := [.long y59, .ref 117]) (a := 117) (mx := 4) (ci := 12) jF_247_135 kd117 (by decide) rfl rfl rfl rfl rfl (by omega) (by omega) rfl (pc2 := 138) ?_
                  refine wp_use (m_248 τ42 g43 x40 (by omega) (by omega)  _ _ (by omega) (by omega)) ?_
                  rintro _ _ ⟨y62, rfl, rfl⟩
                  show WP 247 138 [(0, .ref 117), (1, iV x31), (2, iV x40), (3, iV ((z51 + z55) + 1))] [.long y62, .long y59, .ref 117] _ _ _ _
                  refine wp_lng (pc2 := 139) jF_247_138 rfl rfl ?_
                  intro y63
                  refine wp_il1 jF_247_139 rfl rfl (pc2 := 140) ?_
                  refine wp_cV (as := [.long y63, iV ((z51 + z55) + 1)]) (rest := []) (a := 117) (mx := 4) (ci := 12) jF_247_140 kd117 (by decide) rfl rfl rfl rfl rfl (by omega) (by omega) rfl (pc2 := 143) ?_
                  refine wp_use (m_250 τ42 g43 y63 ((z51 + z55) + 1) (by omega) (by omega) (by omega) _ _ (by omega) (by omega)) ?_
                  rintro _ τ65 ⟨rfl, g66, f67, p64⟩
                  show WP 247 143 [(0, .ref 117), (1, iV x31), (2, iV x40), (3, iV ((z51 + z55) + 1))] [] _ _ _ _
                  refine wp_al1 jF_247_143 rfl rfl (pc2 := 144) ?_
                  refine wp_al1 jF_247_144 rfl rfl (pc2 := 145) ?_
                  refine wp_il1 jF_247_145 rfl rfl (pc2 := 146) ?_
                  refine wp_cV (as := [iV x31]) (rest := [.ref 117]) (a := 117) (mx := 4) (ci := 12) jF_247_146 kd117 (by decide) rfl rfl rfl rfl rfl (by omega) (by omega) rfl (pc2 := 149) ?_
                  refine wp_use (m_248 τ65 g66 x31 (by omega) (by omega)  _ _ (by omega) (by omega)) ?_
                  rintro _ _ ⟨y70, rfl, rfl⟩
                  show WP 247 149 [(0, .ref 117), (1, iV x31), (2, iV x40), (3, iV ((z51 + z55) + 1))] [.long y70, .ref 117] _ _ _ _
                  refine wp_al1 jF_247_149 rfl rfl (pc2 := 150) ?_
                  refine wp_il1 jF_247_150 rfl rfl (pc2 := 151) ?_
                  refine wp_cV (as := [iV x40]) (rest := [.long y70, .ref 117]) (a := 117) (mx := 4) (ci := 12) jF_247_151 kd117 (by decide) rfl rfl rfl rfl rfl (by omega) (by omega) rfl (pc2 := 154) ?_
                  refine wp_use (m_248 τ65 g66 x40 (by omega) (by omega)  _ _ (by omega) (by omega)) ?_
                  rintro _ _ ⟨y73, rfl, rfl⟩
                  show WP 247 154 [(0, .ref 117), (1, iV x31), (2, iV x40), (3, iV ((z51 + z55) + 1))] [.long y73, .long y70, .ref 117] _ _ _ _
                  refine wp_lng (pc2 := 155) jF_247_154 rfl rfl ?_
                  intro y74
                  refine wp_il1 jF_247_155 rfl rfl (pc2 := 156) ?_
                  refine wp_cV (as := [.long y74, iV ((z51 + z55) + 1)]) (rest := []) (a := 117) (mx := 4) (ci := 12) jF_247_156 kd117 (by decide) rfl rfl rfl rfl rfl (by omega) (by omega) rfl (pc2 := 159) ?_
                  have b75 := GI.b g66 117 56 kd117 (lo := 0) (hi := 1752) rfl
                  refine wp_use (m_250 τ65 g66 y74 ((z51 + z55) + 1) (by omega) (by omega) (by omega) _ _ (by omega) (by omega)) ?_
                  rintro _ τ77 ⟨rfl, g78, f79, p76⟩
                  show WP 247 159 [(0, .ref 117), (1, iV x31), (2, iV x40), (3, iV ((z51 + z55) + 1))] [] _ _ _ _
                  refine wp_al1 jF_247_159 rfl rfl (pc2 := 160) ?_
                  refine wp_al1 jF_247_160 rfl rfl (pc2 := 161) ?_
                  refine wp_il1 jF_247_161 rfl rfl (pc2 := 162) ?_
                  refine wp_cV (as := [iV x31]) (rest := [.ref 117]) (a := 117) (mx := 4) (ci := 12) jF_247_162 kd117 (by decide) rfl rfl rfl rfl rfl (by omega) (by omega) rfl (pc2 := 165) ?_
                  refine wp_use (m_248 τ77 g78 x31 (by omega) (by omega)  _ _ (by omega) (by omega)) ?_
                  rintro _ _ ⟨y82, rfl, rfl⟩
                  show WP 247 165 [(0, .ref 117), (1, iV x31), (2, iV x40), (3, iV ((z51 + z55) + 1))] [.long y82, .ref 117] _ _ _ _
                  refine wp_al1 jF_247_165 rfl rfl (pc2 := 166) ?_
                  refine wp_il1 jF_247_166 rfl rfl (pc2 := 167) ?_
                  refine wp_cV (as := [iV x40]) (rest := [.long y82, .ref 117]) (a := 117) (mx := 4) (ci := 12) jF_247_167 kd117 (by decide) rfl rfl rfl rfl rfl (by omega) (by omega) rfl (pc2 := 170) ?_
                  refine wp_use (m_248 τ77 g78 x40 (by omega) (by omega)  _ _ (by omega) (by omega)) ?_
                  rintro _ _ ⟨y85, rfl, rfl⟩
                  show WP 247 170 [(0, .ref 117), (1, iV x31), (2, iV x40), (3, iV ((z51 + z55) + 1))] [.long y85, .long y82, .ref 117] _ _ _ _
                  refine wp_ld jF_247_170 rfl (pc2 := 173) ?_
                  refine wp_lng (pc2 := 174) jF_247_173 rfl rfl ?_
                  intro y86
                  refine wp_lng (pc2 := 175) jF_247_174 rfl rfl ?_
                  intro y87
                  refine wp_il1 jF_247_175 rfl rfl (pc2 := 176) ?_
                  refine wp_cV (as := [.long y87, iV ((z51 + z55) + 1)]) (rest := []) (a := 117) (mx := 4) (ci := 12) jF_247_176 kd117 (by decide) rfl rfl rfl rfl rfl (by omega) (by omega) rfl (pc2 := 179) ?_
                  have b88 := GI.b g78 117 56 kd117 (lo := 0) (hi := 1752) rfl
                  refine wp_use (m_250 τ77 g78 y87 ((z51 + z55) + 1) (by omega) (by omega) (by omega) _ _ (by omega) (by omega)) ?_
                  rintro _ τ90 ⟨rfl, g91, f92, p89⟩
                  show WP 247 179 [(0, .ref 117), (1, iV x31), (2, iV x40), (3, iV ((z51 + z55) + 1))] [] _ _ _ _
                  refine wp_inc (lv2 := [(0, .ref 117), (1, iV x31), (2, iV (x40 + 1)), (3, iV ((z51 + z55) + 1))]) jF_247_179 rfl rfl rfl rfl (pc2 := 182) ?_
                  refine wp_go jF_247_182 ?_
                  have b93 := GI.b g91 117 56 kd117 (lo := 0) (hi := 1752) rfl
                  refine wp_less [0, 1, 2] (lv2 := [(0, .ref 117), (1, iV x31), (2, iV (x40 + 1))]) rfl rfl ?_
                  exact ih46 ((x40 + 1)) τ90 ⟨⟨by omega, by omega⟩, g91, (FR.up (FR.up (FR.up f44 f67 sb_Wsi_Wsi) f79 sb_Wsi_Wsi) f92 sb_Wsi_Wsi), (by omega)⟩ (by show Int.toNat (24 - (x40 + 1)) < Int.toNat (24 - x40); omega)
        · intro h30
          refine wp_al1 jF_247_73 rfl rfl (pc2 := 74) ?_
          refine wp_al1 jF_247_74 rfl rfl (pc2 := 75) ?_
          refine wp_il1 jF_247_75 rfl rfl (pc2 := 76) ?_
          refine wp_cV (as := [iV x20]) (rest := [.ref 117]) (a := 117) (mx := 4) (ci := 12) jF_247_76 kd117 (by decide) rfl rfl rfl rfl rfl (by omega) (by omega) rfl (pc2 := 79) ?_
          refine wp_use (m_248 τ22 g23 x20 (by omega) (by omega)  _ _ (by omega) (by omega)) ?_
          rintro _ _ ⟨y96, rfl, rfl⟩
          show WP 247 79 [(0, .ref 117), (1, iV x20)] [.long y96, .ref 117] _ _ _ _
          refine wp_al1 jF_247_79 rfl rfl (pc2 := 80) ?_
          refine wp_il1 jF_247_80 rfl rfl (pc2 := 81) ?_
          refine wp_cV (as := [iV x20]) (rest := [.long y96, .ref 117]) (a := 117) (mx := 2) (ci := 12) jF_247_81 kd117 (by decide) rfl rfl rfl rfl rfl (by omega) (by omega) rfl (pc2 := 84) ?_
          refine wp_use (m_249 τ22 g23 x20 (by omega) (by omega)  _ _ (by omega) (by omega)) ?_
          rintro _ _ ⟨z99, rfl, h100, rfl⟩
          show WP 247 84 [(0, .ref 117), (1, iV x20)] [iV z99, .long y96, .ref 117] _ _ _ _
          refine wp_cV (as := [.long y96, iV z99]) (rest := []) (a := 117) (mx := 4) (ci := 12) jF_247_84 kd117 (by decide) rfl rfl rfl rfl rfl (by omega) (by omega) rfl (pc2 := 87) ?_
          refine wp_use (m_250 τ22 g23 y96 z99 (by omega) (by omega) (by omega) _ _ (by omega) (by omega)) ?_
          rintro _ τ102 ⟨rfl, g103, f104, p101⟩
          show WP 247 87 [(0, .ref 117), (1, iV x20)] [] _ _ _ _
          refine wp_inc (lv2 := [(0, .ref 117), (1, iV (x20 + 1))]) jF_247_87 rfl rfl rfl rfl (pc2 := 90) ?_
          refine wp_go jF_247_90 ?_
          have b105 := GI.b g103 117 56 kd117 (lo := 0) (hi := 1752) rfl
          have q106 : (τ102.1 117 58) = (τ12.1 117 58) := ((FR.at f104 117 58 rfl).trans (FR.at f24 117 58 rfl))
          exact ih27 ((x20 + 1)) τ102 ⟨⟨by omega, by omega⟩, g103, (FR.up f24 f104 sb_Wsi_Wsi), (by omega), (by omega)⟩ (by show Int.toNat (24 - (x20 + 1)) < Int.toNat (24 - x20); omega)
    · intro h18
      refine wp_al1 jF_247_18 rfl rfl (pc2 := 19) ?_
      refine wp_gr (b := 138) jF_247_19 kd117 (by decide) (c := 238) rfl rfl rfl (pc2 := 22) ?_
      refine wp_bi jF_247_22 (by decide) rfl (pc2 := 24) ?_
      refine wp_il1 jF_247_24 rfl rfl (pc2 := 25) ?_
      refine wp_ic jF_247_25 rfl (pc2 := 26) ?_
      refine wp_div jF_247_26 ⟨by omega, by omega⟩ (by omega) (m_rgl rfl) (by omega) rfl (pc2 := 27) ?_
      refine wp_add jF_247_27 rfl (pc2 := 28) ?_
      refine wp_lald (n := 36) jF_247_28 kd138 (by decide) rfl rfl (by omega) (by omega) rfl (pc2 := 29) ?_
      intro y107
      refine wp_lc jF_247_29 rfl (pc2 := 30) ?_
      refine wp_anyL (pc2 := 31) jF_247_30 rfl rfl ?_
      intro z108 h109
      refine wp_z_ne jF_247_31 (m_rgb h109 rfl) rfl (pc2 := 34) ?_ ?_
      · intro h110
        refine wp_al1 jF_247_37 rfl rfl (pc2 := 38) ?_
        refine wp_gr (b := 154) jF_247_38 kd117 (by decide) (c := 254) rfl rfl rfl (pc2 := 41) ?_
        refine wp_al1 jF_247_41 rfl rfl (pc2 := 42) ?_
        refine wp_gi jF_247_42 kd117 (by decide) rfl rfl rfl (pc2 := 45) ?_
        refine wp_il1 jF_247_45 rfl rfl (pc2 := 46) ?_
        refine wp_iast (n := 24) jF_247_46 kd154 (by decide) rfl rfl (by omega) (by omega) rfl (pc2 := 47) g13 (lo := 0) (hi := 23) rfl (by omega) (by omega) ?_
        intro τ111 g112 f113 e114
        refine wp_al1 jF_247_47 rfl rfl (pc2 := 48) ?_
        refine wp_dup jF_247_48 rfl rfl (pc2 := 49) ?_
        refine wp_gi jF_247_49 kd117 (by decide) rfl (FRw.na f113 (by decide)) rfl (pc2 := 52) ?_
        refine wp_ic jF_247_52 rfl (pc2 := 53) ?_
        refine wp_add jF_247_53 rfl (pc2 := 54) ?_
        refine wp_pi jF_247_54 kd117 (by decide) rfl rfl rfl (pc2 := 57) g112 (lo := 0) (hi := 24) rfl (by omega) (by omega) ?_
        intro τ115 g116 f117 e118
        refine wp_inc (lv2 := [(0, .ref 117), (1, iV (x10 + 1))]) jF_247_57 rfl rfl rfl rfl (pc2 := 60) ?_
        refine wp_go jF_247_60 ?_
        have q119 : (τ115.1 117 58) = ((τ12.1 117 58) + 1) := e118
        exact ih16 ((x10 + 1)) τ115 ⟨⟨by omega, by omega⟩, g116, (FR.w (FR.w f14 f113 rfl) f117 rfl), (by omega)⟩ (by show Int.toNat (24 - (x10 + 1)) < Int.toNat (24 - x10); omega)
      · intro h110
        refine wp_go jF_247_34 ?_
        refine wp_inc (lv2 := [(0, .ref 117), (1, iV (x10 + 1))]) jF_247_57 rfl rfl rfl rfl (pc2 := 60) ?_
        refine wp_go jF_247_60 ?_
        exact ih16 ((x10 + 1)) τ12 ⟨⟨by omega, by omega⟩, g13, f14, (by omega)⟩ (by show Int.toNat (24 - (x10 + 1)) < Int.toNat (24 - x10); omega)
