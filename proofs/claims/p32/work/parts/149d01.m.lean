set_option maxHeartbeats 4000000 in
set_option maxRecDepth 20000 in
/-- M.triesCoded -/
theorem m_306_1 (σ : jM) (hg : GI σ) (code : Int) (hl_code : 0 ≤ code) (hu_code : code ≤ 6143)  (fr lo : Nat) (hfr : 2 ≤ fr) (hlo : 49 ≤ lo) : WP 306 0 (lv_args 0 [.ref 117, iV 1, iV code]) [] fr lo σ (fun v τ => ∃ z : Int, v = some (iV z) ∧ (0 ≤ z ∧ z ≤ 1) ∧ GI τ ∧ FR Wtr σ τ) := by
  show WP 306 0 [(0, .ref 117), (1, iV 1), (2, iV code)] [] _ _ _ _
  refine wp_al1 jF_306_0 rfl rfl (pc2 := 1) ?_
  refine wp_il1 jF_306_1 rfl rfl (pc2 := 2) ?_
  refine wp_il1 jF_306_2 rfl rfl (pc2 := 3) ?_
  refine wp_si jF_306_3 (by decide) rfl (pc2 := 6) ?_
  refine wp_div jF_306_6 ⟨by omega, by omega⟩ (by omega) (m_rgl rfl) (by omega) rfl (pc2 := 7) ?_
  refine wp_il1 jF_306_7 rfl rfl (pc2 := 8) ?_
  refine wp_bi jF_306_8 (by decide) rfl (pc2 := 10) ?_
  refine wp_div jF_306_10 ⟨by omega, by omega⟩ (by omega) (m_rgl rfl) (by omega) rfl (pc2 := 11) ?_
  refine wp_bi jF_306_11 (by decide) rfl (pc2 := 13) ?_
  refine wp_rem jF_306_13 ⟨by omega, by omega⟩ (by omega) (m_rgl rfl) (by omega) rfl (pc2 := 14) ?_
  refine wp_il1 jF_306_14 rfl rfl (pc2 := 15) ?_
  refine wp_bi jF_306_15 (by decide) rfl (pc2 := 17) ?_
  refine wp_rem jF_306_17 ⟨by omega, by omega⟩ (by omega) (m_rgl rfl) (by omega) rfl (pc2 := 18) ?_
  refine wp_cV (as := [iV 1, iV (code / 2048), iV ((code / 32) % 64), iV (code % 32)]) (rest := []) (a := 117) (mx := 5) (ci := 12) jF_306_18 kd117 (by decide) rfl rfl rfl rfl rfl (by omega) (by omega) rfl (pc2 := 21) ?_
  refine wp_use (m_288_1 σ hg (code / 2048) (by omega) (by omega) ((code / 32) % 64) (by omega) (by omega) (code % 32) (by omega) (by omega)  _ _ (by omega) (by omega)) ?_
  rintro _ τ1 ⟨z4, rfl, h5, g2, f3⟩
  show WP 306 21 [(0, .ref 117), (1, iV 1), (2, iV code)] [iV z4] _ _ _ _
  refine wp_ri jF_306_21 (m_fitb (by omega) (by omega)) ?_
  exact ⟨z4, rfl, ⟨by omega, by omega⟩, g2, f3⟩
set_option maxHeartbeats 4000000 in
set_option maxRecDepth 20000 in
/-- M.changesOther -/
theorem m_304 (σ : jM) (hg : GI σ)  (pre0 : (σ.1 143 4) ≤ 8) (fr lo : Nat) (hfr : 4 ≤ fr) (hlo : 100 ≤ lo) : WP 304 0 (lv_args 0 [.ref 117]) [] fr lo σ (fun v τ => v = none ∧ GI τ ∧ FR Wch σ τ ∧ ((τ.1 117 63) ≤ 2867)) := by
  show WP 304 0 [(0, .ref 117)] [] _ _ _ _
  refine wp_al1 jF_304_0 rfl rfl (pc2 := 1) ?_
  refine wp_ic jF_304_1 rfl (pc2 := 2) ?_
  refine wp_pi jF_304_2 kd117 (by decide) rfl rfl rfl (pc2 := 5) hg (lo := 0) (hi := 2900) rfl (by omega) (by omega) ?_
  intro τ1 g2 f3 e4
  refine wp_ic jF_304_5 rfl (pc2 := 6) ?_
  refine wp_is1 (lv2 := [(0, .ref 117), (1, iV 0)]) jF_304_6 rfl rfl rfl (pc2 := 7) ?_
  refine wp_loop (α := Int) (fun a => [(0, .ref 117), (1, iV (a))]) (fun a τ => (0 ≤ a ∧ a ≤ 3) ∧ GI τ ∧ FR Wch τ1 τ ∧ ((a) = 0 → (τ.1 117 63) ≤ 0) ∧ ((a) = 1 → (τ.1 117 63) ≤ 1403) ∧ ((a) = 2 → (τ.1 117 63) ≤ 1464) ∧ ((τ.1 117 63) ≤ 2867)) (fun a τ => Int.toNat (3 - (a))) (0) τ1 ?_ ?_
  · skip
    have q5 : (τ1.1 117 63) = 0 := e4
    exact ⟨⟨by omega, by omega⟩, g2, FR.rf, (by omega), (by omega), (by omega), (by omega)⟩
  · rintro x6 τ8 ⟨h7, g9, f10, p11, p12, p13, p14⟩ ih15
    have b16 := GI.b g9 117 63 kd117 (lo := 0) (hi := 2900) rfl
    show WP 304 7 [(0, .ref 117), (1, iV x6)] [] _ _ _ _
    show WP 304 7 [(0, .ref 117), (1, iV x6)] [] _ _ _ _
    refine wp_il1 jF_304_7 rfl rfl (pc2 := 8) ?_
    refine wp_ic jF_304_8 rfl (pc2 := 9) ?_
    refine wp_i_ge jF_304_9 (m_rgb h7 rfl) (m_rgl rfl) rfl (pc2 := 12) ?_ ?_
    · intro h17
      clear p11
      clear p12
      clear p13
      refine wp_rv jF_304_105 ?_
      exact ⟨rfl, g9, (FR.up (FR.w FR.rf f3 rfl) f10 sb_Wch_Wch), (by omega)⟩
    · intro h17
      refine wp_ic jF_304_12 rfl (pc2 := 13) ?_
      refine wp_is1 (lv2 := [(0, .ref 117), (1, iV x6), (2, iV 0)]) jF_304_13 rfl rfl rfl (pc2 := 14) ?_
      refine wp_loop (α := Int) (fun a => [(0, .ref 117), (1, iV x6), (2, iV (a))]) (fun a τ => (0 ≤ a ∧ a ≤ 61) ∧ GI τ ∧ FR Wch τ8 τ ∧ (x6 = 0 → (τ.1 117 63) ≤ 23 * (a)) ∧ (x6 = 1 → (τ.1 117 63) ≤ 1403 + (a)) ∧ (x6 = 2 → (τ.1 117 63) ≤ 1464 + 23 * (a)) ∧ ((τ.1 117 63) ≤ 2867)) (fun a τ => Int.toNat (61 - (a))) (0) τ8 ?_ ?_
      · skip
        exact ⟨⟨by omega, by omega⟩, g9, FR.rf, (by omega), (by omega), (by omega), (by omega)⟩
      · rintro x18 τ20 ⟨h19, g21, f22, p23, p24, p25, p26⟩ ih27
        have b28 := GI.b g21 117 63 kd117 (lo := 0) (hi := 2900) rfl
        show WP 304 14 [(0, .ref 117), (1, iV x6), (2, iV x18)] [] _ _ _ _
        show WP 304 14 [(0, .ref 117), (1, iV x6), (2, iV x18)] [] _ _ _ _
        refine wp_il1 jF_304_14 rfl rfl (pc2 := 15) ?_
        refine wp_al1 jF_304_15 rfl rfl (pc2 := 16) ?_
        refine wp_gr (b := 148) jF_304_16 kd117 (by decide) (c := 248) rfl rfl rfl (pc2 := 19) ?_
        refine wp_ic jF_304_19 rfl (pc2 := 20) ?_
        have b29 := GI.b hg 148 1 kd148 (lo := 0) (hi := 60) rfl
        refine wp_iald (n := 2) (e := (σ.1 148 1)) jF_304_20 kd148 (by decide) rfl rfl (by omega) (by omega) ((FR.at f22 148 1 rfl).trans ((FR.at f10 148 1 rfl).trans (FRw.na f3 (by decide)))) rfl (pc2 := 21) ?_
        refine wp_i_gt jF_304_21 (m_rgb h19 rfl) (m_rgb b29 rfl) rfl (pc2 := 24) ?_ ?_
        · intro h30
          refine wp_inc (lv2 := [(0, .ref 117), (1, iV (x6 + 1)), (2, iV x18)]) jF_304_99 rfl rfl rfl rfl (pc2 := 102) ?_
          refine wp_go jF_304_102 ?_
          refine wp_less [0, 1] (lv2 := [(0, .ref 117), (1, iV (x6 + 1))]) rfl rfl ?_
          exact ih15 ((x6 + 1)) τ20 ⟨⟨by omega, by omega⟩, g21, (FR.up f10 f22 sb_Wch_Wch), (by omega), (by omega), (by omega), (by omega)⟩ (by show Int.toNat (3 - (x6 + 1)) < Int.toNat (3 - x6); omega)
        · intro h30
          refine wp_ic jF_304_24 rfl (pc2 := 25) ?_
          refine wp_is1 (lv2 := [(0, .ref 117), (1, iV x6), (2, iV x18), (3, iV 0)]) jF_304_25 rfl rfl rfl (pc2 := 26) ?_
          refine wp_loop (α := Int) (fun a => [(0, .ref 117), (1, iV x6), (2, iV x18), (3, iV (a))]) (fun a τ => (0 ≤ a ∧ a ≤ 23) ∧ GI τ ∧ FR Wch τ20 τ ∧ (x6 = 0 → (τ.1 117 63) ≤ 23 * x18 + (a)) ∧ (x6 = 1 → ((τ.1 117 63) ≤ 1403 + x18 + (a) ∧ (a) ≤ 1)) ∧ (x6 = 2 → (τ.1 117 63) ≤ 1464 + 23 * x18 + (a)) ∧ ((τ.1 117 63) ≤ 2867)) (fun a τ => Int.toNat (23 - (a))) (0) τ20 ?_ ?_
          · skip
            exact ⟨⟨by omega, by omega⟩, g21, FR.rf, (by omega), (by omega), (by omega), (by omega)⟩
          · rintro x31 τ33 ⟨h32, g34, f35, p36, p37, p38, p39⟩ ih40
            have b41 := GI.b g34 117 63 kd117 (lo := 0) (hi := 2900) rfl
            show WP 304 26 [(0, .ref 117), (1, iV x6), (2, iV x18), (3, iV x31)] [] _ _ _ _
            show WP 304 26 [(0, .ref 117), (1, iV x6), (2, iV x18), (3, iV x31)] [] _ _ _ _
            refine wp_il1 jF_304_26 rfl rfl (pc2 := 27) ?_
            refine wp_il1 jF_304_27 rfl rfl (pc2 := 28) ?_
            refine wp_ic jF_304_28 rfl (pc2 := 29) ?_
            refine wp_i_ne jF_304_29 ⟨by omega, by omega⟩ (m_rgl rfl) rfl (pc2 := 32) ?_ ?_
            · intro h42
              clear p12
              clear p24
              clear p37
              refine wp_bi jF_304_36 (by decide) rfl (pc2 := 38) ?_
              refine wp_i_ge jF_304_38 (m_rgb h32 rfl) (m_rgl rfl) rfl (pc2 := 41) ?_ ?_
              · intro h43
                refine wp_inc (lv2 := [(0, .ref 117), (1, iV x6), (2, iV (x18 + 1)), (3, iV x31)]) jF_304_93 rfl rfl rfl rfl (pc2 := 96) ?_
                refine wp_go jF_304_96 ?_
                refine wp_less [0, 1, 2] (lv2 := [(0, .ref 117), (1, iV x6), (2, iV (x18 + 1))]) rfl rfl ?_
                exact ih27 ((x18 + 1)) τ33 ⟨⟨by omega, by omega⟩, g34, (FR.up f22 f35 sb_Wch_Wch), (by omega), (by omega), (by omega), (by omega)⟩ (by show Int.toNat (61 - (x18 + 1)) < Int.toNat (61 - x18); omega)
              · intro h43
                refine wp_al1 jF_304_41 rfl rfl (pc2 := 42) ?_
                refine wp_ic jF_304_42 rfl (pc2 := 43) ?_
                refine wp_il1 jF_304_43 rfl rfl (pc2 := 44) ?_
                refine wp_il1 jF_304_44 rfl rfl (pc2 := 45) ?_
                refine wp_il1 jF_304_45 rfl rfl (pc2 := 46) ?_
                refine wp_cV (as := [iV 1, iV x6, iV x18, iV x31]) (rest := []) (a := 117) (mx := 5) (ci := 12) jF_304_46 kd117 (by decide) rfl rfl rfl rfl rfl (by omega) (by omega) rfl (pc2 := 49) ?_
                refine wp_use (m_288_1 τ33 g34 x6 (by omega) (by omega) x18 (by omega) (by omega) x31 (by omega) (by omega)  _ _ (by omega) (by omega)) ?_
                rintro _ τ44 ⟨z47, rfl, h48, g45, f46⟩
                show WP 304 49 [(0, .ref 117), (1, iV x6), (2, iV x18), (3, iV x31)] [iV z47] _ _ _ _
                refine wp_z_eq jF_304_49 (m_rgb h48 rfl) rfl (pc2 := 52) ?_ ?_
                · intro h49
                  refine wp_inc (lv2 := [(0, .ref 117), (1, iV x6), (2, iV x18), (3, iV (x31 + 1))]) jF_304_87 rfl rfl rfl rfl (pc2 := 90) ?_
                  refine wp_go jF_304_90 ?_
                  have q50 : (τ44.1 117 63) = (τ33.1 117 63) := (FR.at f46 117 63 rfl)
                  exact ih40 ((x31 + 1)) τ44 ⟨⟨by omega, by omega⟩, g45, (FR.up f35 f46 sb_Wtr_Wch), (by omega), (by omega), (by omega), (by omega)⟩ (by show Int.toNat (23 - (x31 + 1)) < Int.toNat (23 - x31); omega)
                · intro h49
                  refine wp_al1 jF_304_52 rfl rfl (pc2 := 53) ?_
                  refine wp_cV (as := []) (rest := []) (a := 117) (mx := 1) (ci := 12) jF_304_53 kd117 (by decide) rfl rfl rfl rfl rfl (by omega) (by omega) rfl (pc2 := 56) ?_
                  have b51 := GI.b g45 117 49 kd117 (lo := 0) (hi := 61) rfl
                  have b52 := GI.b hg 143 4 kd143 (lo := 0) (hi := 16) rfl
                  have q53 : (τ44.1 143 4) = (σ.1 143 4) := ((FR.at f46 143 4 rfl).trans ((FR.at f35 143 4 rfl).trans ((FR.at f22 143 4 rfl).trans ((FR.at f10 143 4 rfl).trans (FRw.na f3 (by decide))))))
                  refine wp_use (m_290 τ44 g45  (by omega) _ _ (by omega) (by omega)) ?_
                  rintro _ _ ⟨z57, rfl, h58, rfl, p54⟩
                  show WP 304 56 [(0, .ref 117), (1, iV x6), (2, iV x18), (3, iV x31)] [iV z57] _ _ _ _
                  refine wp_z_ne jF_304_56 (m_rgb h58 rfl) rfl (pc2 := 59) ?_ ?_
                  · intro h59
                    replace p54 := p54 (by omega)
                    refine wp_al1 jF_304_62 rfl rfl (pc2 := 63) ?_
                    refine wp_gr (b := 155) jF_304_63 kd117 (by decide) (c := 255) rfl rfl rfl (pc2 := 66) ?_
                    refine wp_al1 jF_304_66 rfl rfl (pc2 := 67) ?_
                    refine wp_gi jF_304_67 kd117 (by decide) rfl (FR.at f46 117 63 rfl) rfl (pc2 := 70) ?_
                    refine wp_il1 jF_304_70 rfl rfl (pc2 := 71) ?_
                    refine wp_il1 jF_304_71 rfl rfl (pc2 := 72) ?_
                    refine wp_il1 jF_304_72 rfl rfl (pc2 := 73) ?_
                    refine wp_cS (as := [iV x6, iV x18, iV x31]) (rest := [iV (τ33.1 117 63), .ref 155]) (mx := 3) jF_304_73 rfl rfl rfl rfl (by omega) (by omega) rfl (pc2 := 76) ?_
                    show WP 305 0 [(0, iV x6), (1, iV x18), (2, iV x31)] [] _ _ _ _
                    refine wp_il1 jF_305_0 rfl rfl (pc2 := 1) ?_
                    refine wp_bi jF_305_1 (by decide) rfl (pc2 := 3) ?_
                    refine wp_mul jF_305_3 rfl (pc2 := 4) ?_
                    refine wp_il1 jF_305_4 rfl rfl (pc2 := 5) ?_
                    refine wp_add jF_305_5 rfl (pc2 := 6) ?_
                    refine wp_bi jF_305_6 (by decide) rfl (pc2 := 8) ?_
                    refine wp_mul jF_305_8 rfl (pc2 := 9) ?_
                    refine wp_il1 jF_305_9 rfl rfl (pc2 := 10) ?_
                    refine wp_add jF_305_10 rfl (pc2 := 11) ?_
                    refine wp_ri jF_305_11 rfl ?_
                    show WP 304 76 [(0, .ref 117), (1, iV x6), (2, iV x18), (3, iV x31)] [iV ((((x6 * 64) + x18) * 32) + x31), iV (τ33.1 117 63), .ref 155] _ _ _ _
                    refine wp_iast (n := 2900) jF_304_76 kd155 (by decide) rfl rfl (by omega) (by omega) rfl (pc2 := 77) g45 (lo := 0) (hi := 6143) rfl (by omega) (by omega) ?_
                    intro τ60 g61 f62 e63
                    refine wp_al1 jF_304_77 rfl rfl (pc2 := 78) ?_
                    refine wp_dup jF_304_78 rfl rfl (pc2 := 79) ?_
                    refine wp_gi jF_304_79 kd117 (by decide) rfl ((FRw.na f62 (by decide)).trans (FR.at f46 117 63 rfl)) rfl (pc2 := 82) ?_
                    refine wp_ic jF_304_82 rfl (pc2 := 83) ?_
                    refine wp_add jF_304_83 rfl (pc2 := 84) ?_
                    refine wp_pi jF_304_84 kd117 (by decide) rfl rfl rfl (pc2 := 87) g61 (lo := 0) (hi := 2900) rfl (by omega) (by omega) ?_
                    intro τ64 g65 f66 e67
                    refine wp_inc (lv2 := [(0, .ref 117), (1, iV x6), (2, iV x18), (3, iV (x31 + 1))]) jF_304_87 rfl rfl rfl rfl (pc2 := 90) ?_
                    refine wp_go jF_304_90 ?_
                    have q68 : (τ64.1 117 63) = ((τ33.1 117 63) + 1) := e67
                    exact ih40 ((x31 + 1)) τ64 ⟨⟨by omega, by omega⟩, g65, (FR.w (FR.w (FR.up f35 f46 sb_Wtr_Wch) f62 rfl) f66 rfl), (by omega), (by omega), (by omega), (by omega)⟩ (by show Int.toNat (23 - (x31 + 1)) < Int.toNat (23 - x31); omega)
                  · intro h59
                    clear p54
                    refine wp_go jF_304_59 ?_
                    refine wp_inc (lv2 := [(0, .ref 117), (1, iV x6), (2, iV x18), (3, iV (x31 + 1))]) jF_304_87 rfl rfl rfl rfl (pc2 := 90) ?_
                    refine wp_go jF_304_90 ?_
                    have q69 : (τ44.1 117 63) = (τ33.1 117 63) := (FR.at f46 117 63 rfl)
                    exact ih40 ((x31 + 1)) τ44 ⟨⟨by omega, by omega⟩, g45, (FR.up f35 f46 sb_Wtr_Wch), (by omega), (by omega), (by omega), (by omega)⟩ (by show Int.toNat (23 - (x31 + 1)) < Int.toNat (23 - x31); omega)
            · intro h42
              clear p11
              replace p12 := p12 (by omega)
              clear p13
              clear p23
              replace p24 := p24 (by omega)
              clear p25
              clear p36
              replace p37 := p37 (by omega)
              clear p38
              refine wp_ic jF_304_32 rfl (pc2 := 33) ?_
              refine wp_go jF_304_33 ?_
              refine wp_i_ge jF_304_38 (m_rgb h32 rfl) (m_rgl rfl) rfl (pc2 := 41) ?_ ?_
              · intro h70
                refine wp_inc (lv2 := [(0, .ref 117), (1, iV x6), (2, iV (x18 + 1)), (3, iV x31)]) jF_304_93 rfl rfl rfl rfl (pc2 := 96) ?_
                refine wp_go jF_304_96 ?_
                refine wp_less [0, 1, 2] (lv2 := [(0, .ref 117), (1, iV x6), (2, iV (x18 + 1))]) rfl rfl ?_
                exact ih27 ((x18 + 1)) τ33 ⟨⟨by omega, by omega⟩, g34, (FR.up f22 f35 sb_Wch_Wch), (by omega), (by omega), (by omega), (by omega)⟩ (by show Int.toNat (61 - (x18 + 1)) < Int.toNat (61 - x18); omega)
              · intro h70
                refine wp_al1 jF_304_41 rfl rfl (pc2 := 42) ?_
                refine wp_ic jF_304_42 rfl (pc2 := 43) ?_
                refine wp_il1 jF_304_43 rfl rfl (pc2 := 44) ?_
                refine wp_il1 jF_304_44 rfl rfl (pc2 := 45) ?_
                refine wp_il1 jF_304_45 rfl rfl (pc2 := 46) ?_
                refine wp_cV (as := [iV 1, iV x6, iV x18, iV x31]) (rest := []) (a := 117) (mx := 5) (ci := 12) jF_304_46 kd117 (by decide) rfl rfl rfl rfl rfl (by omega) (by omega) rfl (pc2 := 49) ?_
                refine wp_use (m_288_1 τ33 g34 x6 (by omega) (by omega) x18 (by omega) (by omega) x31 (by omega) (by omega)  _ _ (by omega) (by omega)) ?_
                rintro _ τ71 ⟨z74, rfl, h75, g72, f73⟩
                show WP 304 49 [(0, .ref 117), (1, iV x6), (2, iV x18), (3, iV x31)] [iV z74] _ _ _ _
                refine wp_z_eq jF_304_49 (m_rgb h75 rfl) rfl (pc2 := 52) ?_ ?_
                · intro h76
                  refine wp_inc (lv2 := [(0, .ref 117), (1, iV x6), (2, iV x18), (3, iV (x31 + 1))]) jF_304_87 rfl rfl rfl rfl (pc2 := 90) ?_
                  refine wp_go jF_304_90 ?_
                  have q77 : (τ71.1 117 63) = (τ33.1 117 63) := (FR.at f73 117 63 rfl)
                  exact ih40 ((x31 + 1)) τ71 ⟨⟨by omega, by omega⟩, g72, (FR.up f35 f73 sb_Wtr_Wch), (by omega), (by omega), (by omega), (by omega)⟩ (by show Int.toNat (23 - (x31 + 1)) < Int.toNat (23 - x31); omega)
                · intro h76
                  refine wp_al1 jF_304_52 rfl rfl (pc2 := 53) ?_
                  refine wp_cV (as := []) (rest := []) (a := 117) (mx := 1) (ci := 12) jF_304_53 kd117 (by decide) rfl rfl rfl rfl rfl (by omega) (by omega) rfl (pc2 := 56) ?_
                  have b78 := GI.b g72 117 49 kd117 (lo := 0) (hi := 61) rfl
                  have b79 := GI.b hg 143 4 kd143 (lo := 0) (hi := 16) rfl
                  have q80 : (τ71.1 143 4) = (σ.1 143 4) := ((FR.at f73 143 4 rfl).trans ((FR.at f35 143 4 rfl).trans ((FR.at f22 143 4 rfl).trans ((FR.at f10 143 4 rfl).trans (FRw.na f3 (by decide))))))
                  refine wp_use (m_290 τ71 g72  (by omega) _ _ (by omega) (by omega)) ?_
                  rintro _ _ ⟨z84, rfl, h85, rfl, p81⟩
                  show WP 304 56 [(0, .ref 117), (1, iV x6), (2, iV x18), (3, iV x31)] [iV z84] _ _ _ _
                  refine wp_z_ne jF_304_56 (m_rgb h85 rfl) rfl (pc2 := 59) ?_ ?_
                  · intro h86
                    replace p81 := p81 (by omega)
                    refine wp_al1 jF_304_62 rfl rfl (pc2 := 63) ?_
                    refine wp_gr (b := 155) jF_304_63 kd117 (by decide) (c := 255) rfl rfl rfl (pc2 := 66) ?_
                    refine wp_al1 jF_304_66 rfl rfl (pc2 := 67) ?_
                    refine wp_gi jF_304_67 kd117 (by decide) rfl (FR.at f73 117 63 rfl) rfl (pc2 := 70) ?_
                    refine wp_il1 jF_304_70 rfl rfl (pc2 := 71) ?_
                    refine wp_il1 jF_304_71 rfl rfl (pc2 := 72) ?_
                    refine wp_il1 jF_304_72 rfl rfl (pc2 := 73) ?_
                    refine wp_cS (as := [iV x6, iV x18, iV x31]) (rest := [iV (τ33.1 117 63), .ref 155]) (mx := 3) jF_304_73 rfl rfl rfl rfl (by omega) (by omega) rfl (pc2 := 76) ?_
                    show WP 305 0 [(0, iV x6), (1, iV x18), (2, iV x31)] [] _ _ _ _
                    refine wp_il1 jF_305_0 rfl rfl (pc2 := 1) ?_
                    refine wp_bi jF_305_1 (by decide) rfl (pc2 := 3) ?_
                    refine wp_mul jF_305_3 rfl (pc2 := 4) ?_
                    refine wp_il1 jF_305_4 rfl rfl (pc2 := 5) ?_
                    refine wp_add jF_305_5 rfl (pc2 := 6) ?_
                    refine wp_bi jF_305_6 (by decide) rfl (pc2 := 8) ?_
                    refine wp_mul jF_305_8 rfl (pc2 := 9) ?_
                    refine wp_il1 jF_305_9 rfl rfl (pc2 := 10) ?_
                    refine wp_add jF_305_10 rfl (pc2 := 11) ?_
                    refine wp_ri jF_305_11 rfl ?_
                    show WP 304 76 [(0, .ref 117), (1, iV x6), (2, iV x18), (3, iV x31)] [iV ((((x6 * 64) + x18) * 32) + x31), iV (τ33.1 117 63), .ref 155] _ _ _ _
                    refine wp_iast (n := 2900) jF_304_76 kd155 (by decide) rfl rfl (by omega) (by omega) rfl (pc2 := 77) g72 (lo := 0) (hi := 6143) rfl (by omega) (by omega) ?_
                    intro τ87 g88 f89 e90
                    refine wp_al1 jF_304_77 rfl rfl (pc2 := 78) ?_
                    refine wp_dup jF_304_78 rfl rfl (pc2 := 79) ?_
                    refine wp_gi jF_304_79 kd117 (by decide) rfl ((FRw.na f89 (by decide)).trans (FR.at f73 117 63 rfl)) rfl (pc2 := 82) ?_
                    refine wp_ic jF_304_82 rfl (pc2 := 83) ?_
                    refine wp_add jF_304_83 rfl (pc2 := 84) ?_
                    refine wp_pi jF_304_84 kd117 (by decide) rfl rfl rfl (pc2 := 87) g88 (lo := 0) (hi := 2900) rfl (by omega) (by omega) ?_
                    intro τ91 g92 f93 e94
                    refine wp_inc (lv2 := [(0, .ref 117), (1, iV x6), (2, iV x18), (3, iV (x31 + 1))]) jF_304_87 rfl rfl rfl rfl (pc2 := 90) ?_
                    refine wp_go jF_304_90 ?_
                    have q95 : (τ91.1 117 63) = ((τ33.1 117 63) + 1) := e94
                    exact ih40 ((x31 + 1)) τ91 ⟨⟨by omega, by omega⟩, g92, (FR.w (FR.w (FR.up f35 f73 sb_Wtr_Wch) f89 rfl) f93 rfl), (by omega), (by omega), (by omega), (by omega)⟩ (by show Int.toNat (23 - (x31 + 1)) < Int.toNat (23 - x31); omega)
                  · intro h86
                    clear p81
                    refine wp_go jF_304_59 ?_
                    refine wp_inc (lv2 := [(0, .ref 117), (1, iV x6), (2, iV x18), (3, iV (x31 + 1))]) jF_304_87 rfl rfl rfl rfl (pc2 := 90) ?_
                    refine wp_go jF_304_90 ?_
                    have q96 : (τ71.1 117 63) = (τ33.1 117 63) := (FR.at f73 117 63 rfl)
                    exact ih40 ((x31 + 1)) τ71 ⟨⟨by omega, by omega⟩, g72, (FR.up f35 f73 sb_Wtr_Wch), (by omega), (by omega), (by omega), (by omega)⟩ (by show Int.toNat (23 - (x31 + 1)) < Int.toNat (23 - x31); omega)
set_option maxHeartbeats 4000000 in
set_option maxRecDepth 20000 in
/-- M.isNearOther -/
theorem m_307 (σ : jM) (hg : GI σ)   (fr lo : Nat) (hfr : 3 ≤ fr) (hlo : 71 ≤ lo) : WP 307 0 (lv_args 0 [.ref 117]) [] fr lo σ (fun v τ => ∃ z : Int, v = some (iV z) ∧ (0 ≤ z ∧ z ≤ 1) ∧ GI τ ∧ FR Wtr σ τ) := by
  show WP 307 0 [(0, .ref 117)] [] _ _ _ _
  refine wp_ic jF_307_0 rfl (pc2 := 1) ?_
  refine wp_is1 (lv2 := [(0, .ref 117), (1, iV 0)]) jF_307_1 rfl rfl rfl (pc2 := 2) ?_
  refine wp_loop (α := Int) (fun a => [(0, .ref 117), (1, iV (a))]) (fun a τ => (0 ≤ a ∧ a ≤ 2900) ∧ GI τ ∧ FR Wtr σ τ) (fun a τ => Int.toNat (2900 - (a))) (0) σ ?_ ?_
  · skip
    exact ⟨⟨by omega, by omega⟩, hg, FR.rf⟩
  · rintro x1 τ3 ⟨h2, g4, f5⟩ ih6
    show WP 307 2 [(0, .ref 117), (1, iV x1)] [] _ _ _ _
    show WP 307 2 [(0, .ref 117), (1, iV x1)] [] _ _ _ _
    refine wp_il1 jF_307_2 rfl rfl (pc2 := 3) ?_
    refine wp_al1 jF_307_3 rfl rfl (pc2 := 4) ?_
    have b7 := GI.b hg 117 63 kd117 (lo := 0) (hi := 2900) rfl
    refine wp_gi jF_307_4 kd117 (by decide) rfl (FR.at f5 117 63 rfl) rfl (pc2 := 7) ?_
    refine wp_i_ge jF_307_7 (m_rgb h2 rfl) (m_rgb b7 rfl) rfl (pc2 := 10) ?_ ?_
    · intro h8
      refine wp_ic jF_307_40 rfl (pc2 := 41) ?_
      refine wp_ri jF_307_41 rfl ?_
      exact ⟨0, rfl, ⟨by omega, by omega⟩, g4, f5⟩
    · intro h8
      refine wp_al1 jF_307_10 rfl rfl (pc2 := 11) ?_
      refine wp_ic jF_307_11 rfl (pc2 := 12) ?_
      refine wp_al1 jF_307_12 rfl rfl (pc2 := 13) ?_
      refine wp_gr (b := 155) jF_307_13 kd117 (by decide) (c := 255) rfl rfl rfl (pc2 := 16) ?_
      refine wp_il1 jF_307_16 rfl rfl (pc2 := 17) ?_
      have b9 := GI.b hg 155 x1.toNat kd155 (lo := 0) (hi := 6143) rfl
      refine wp_iald (n := 2900) (e := (σ.1 155 x1.toNat)) jF_307_17 kd155 (by decide) rfl rfl (by omega) (by omega) (FR.at f5 155 x1.toNat rfl) rfl (pc2 := 18) ?_
      refine wp_cV (as := [iV 1, iV (σ.1 155 x1.toNat)]) (rest := []) (a := 117) (mx := 3) (ci := 12) jF_307_18 kd117 (by decide) rfl rfl rfl rfl rfl (by omega) (by omega) rfl (pc2 := 21) ?_
      refine wp_use (m_306_1 τ3 g4 (σ.1 155 x1.toNat) (by omega) (by omega)  _ _ (by omega) (by omega)) ?_
      rintro _ τ10 ⟨z13, rfl, h14, g11, f12⟩
      show WP 307 21 [(0, .ref 117), (1, iV x1)] [iV z13] _ _ _ _
      refine wp_z_eq jF_307_21 (m_rgb h14 rfl) rfl (pc2 := 24) ?_ ?_
      · intro h15
        refine wp_inc (lv2 := [(0, .ref 117), (1, iV (x1 + 1))]) jF_307_34 rfl rfl rfl rfl (pc2 := 37) ?_
        refine wp_go jF_307_37 ?_
        exact ih6 ((x1 + 1)) τ10 ⟨⟨by omega, by omega⟩, g11, (FR.up f5 f12 sb_Wtr_Wtr)⟩ (by show Int.toNat (2900 - (x1 + 1)) < Int.toNat (2900 - x1); omega)
      · intro h15
        refine wp_al1 jF_307_24 rfl rfl (pc2 := 25) ?_
        refine wp_cV (as := []) (rest := []) (a := 117) (mx := 5) (ci := 12) jF_307_25 kd117 (by decide) rfl rfl rfl rfl rfl (by omega) (by omega) rfl (pc2 := 28) ?_
        refine wp_use (m_303 τ10 g11   _ _ (by omega) (by omega)) ?_
        rintro _ _ ⟨z18, rfl, h19, rfl⟩
        show WP 307 28 [(0, .ref 117), (1, iV x1)] [iV z18] _ _ _ _
        refine wp_ic jF_307_28 rfl (pc2 := 29) ?_
        refine wp_i_ne jF_307_29 (m_rgb h19 rfl) (m_rgl rfl) rfl (pc2 := 32) ?_ ?_
        · intro h20
          refine wp_inc (lv2 := [(0, .ref 117), (1, iV (x1 + 1))]) jF_307_34 rfl rfl rfl rfl (pc2 := 37) ?_
          refine wp_go jF_307_37 ?_
          exact ih6 ((x1 + 1)) τ10 ⟨⟨by omega, by omega⟩, g11, (FR.up f5 f12 sb_Wtr_Wtr)⟩ (by show Int.toNat (2900 - (x1 + 1)) < Int.toNat (2900 - x1); omega)
        · intro h20
          refine wp_ic jF_307_32 rfl (pc2 := 33) ?_
          refine wp_ri jF_307_33 rfl ?_
          exact ⟨1, rfl, ⟨by omega, by omega⟩, g11, (FR.up f5 f12 sb_Wtr_Wtr)⟩
set_option maxHeartbeats 4000000 in
set_option maxRecDepth 20000 in
/-- M.seed -/
theorem m_322 (σ : jM) (hg : GI σ) (n : Int) (hl_n : (-2147483648) ≤ n) (hu_n : n ≤ 2147483647)  (fr lo : Nat) (hfr : 0 ≤ fr) (hlo : 0 ≤ lo) : WP 322 0 (lv_args 0 [.ref 117, iV n]) [] fr lo σ (fun v τ => ∃ z : Int, v = some (iV z) ∧ (0 ≤ z ∧ z ≤ 1) ∧ GI τ ∧ FR Wrf σ τ) := by
  show WP 322 0 [(0, .ref 117), (1, iV n)] [] _ _ _ _
  refine wp_il1 jF_322_0 rfl rfl (pc2 := 1) ?_
  refine wp_z_ge jF_322_1 ⟨by omega, by omega⟩ rfl (pc2 := 4) ?_ ?_
  · intro h1
    refine wp_al1 jF_322_16 rfl rfl (pc2 := 17) ?_
    refine wp_il1 jF_322_17 rfl rfl (pc2 := 18) ?_
    refine wp_i2l jF_322_18 rfl (pc2 := 19) ?_
    refine wp_pl jF_322_19 kd117 (by decide) rfl rfl (pc2 := 22) hg ?_
    intro τ2 g3 f4
    refine wp_ic jF_322_22 rfl (pc2 := 23) ?_
    refine wp_ri jF_322_23 rfl ?_
    exact ⟨1, rfl, ⟨by omega, by omega⟩, g3, (FR.w FR.rf f4 rfl)⟩
  · intro h1
    refine wp_al1 jF_322_4 rfl rfl (pc2 := 5) ?_
    refine wp_gr (b := 119) jF_322_5 kd117 (by decide) (c := 219) rfl rfl rfl (pc2 := 8) ?_
    refine wp_ic jF_322_8 rfl (pc2 := 9) ?_
    refine wp_du2 jF_322_9 rfl rfl (pc2 := 10) ?_
    have b5 := GI.b hg 119 4 kd119 (lo := (-2147483648)) (hi := 2147483647) rfl
    refine wp_iald (n := 6) (e := (σ.1 119 4)) jF_322_10 kd119 (by decide) rfl rfl (by omega) (by omega) rfl rfl (pc2 := 11) ?_
    refine wp_ic jF_322_11 rfl (pc2 := 12) ?_
    refine wp_any2 (pc2 := 13) jF_322_12 rfl rfl ?_
    intro z6 h7
    refine wp_iast (n := 6) jF_322_13 kd119 (by decide) rfl rfl (by omega) (by omega) rfl (pc2 := 14) hg (lo := (-2147483648)) (hi := 2147483647) rfl (by omega) (by omega) ?_
    intro τ8 g9 f10 e11
    refine wp_ic jF_322_14 rfl (pc2 := 15) ?_
    refine wp_ri jF_322_15 rfl ?_
    exact ⟨0, rfl, ⟨by omega, by omega⟩, g9, (FR.w FR.rf f10 rfl)⟩
set_option maxHeartbeats 4000000 in
set_option maxRecDepth 20000 in
/-- M.status -/
theorem m_359 (σ : jM) (hg : GI σ) (k : Int) (hl_k : (-2147483648) ≤ k) (hu_k : k ≤ 2147483647)  (fr lo : Nat) (hfr : 1 ≤ fr) (hlo : 25 ≤ lo) : WP 359 0 (lv_args 0 [.ref 117, iV k]) [] fr lo σ (fun v τ => ∃ z : Int, v = some (iV z) ∧ ((-2147483648) ≤ z ∧ z ≤ 2147483647) ∧ σ = τ) := by
  show WP 359 0 [(0, .ref 117), (1, iV k)] [] _ _ _ _
  refine wp_il1 jF_359_0 rfl rfl (pc2 := 1) ?_
  refine wp_i2l jF_359_1 rfl (pc2 := 2) ?_
  refine wp_lc jF_359_2 rfl (pc2 := 3) ?_
  refine wp_ld jF_359_3 rfl (pc2 := 6) ?_
  refine wp_cS (as := [.long (Int32.toInt64 (Int32.ofInt k)), .long (Int64.ofNat 0), .long (5)]) (rest := []) (mx := 6) jF_359_6 rfl rfl rfl rfl (by omega) (by omega) rfl (pc2 := 9) ?_
  show WP 232 0 [(0, .long (Int32.toInt64 (Int32.ofInt k))), (2, .long (Int64.ofNat 0)), (4, .long (5))] [] _ _ _ _
  refine wp_ll1 jF_232_0 rfl rfl (pc2 := 1) ?_
  refine wp_ll1 jF_232_1 rfl rfl (pc2 := 2) ?_
  refine wp_lcmp2 (a := k) (b := 0) jF_232_2 (m_i2lt ⟨by omega, by omega⟩) (by decide) rfl (pc2 := 3) ?_
  intro z1 h2
  refine wp_z_lt jF_232_3 ⟨by omega, by omega⟩ rfl (pc2 := 6) ?_ ?_
  · intro h3
    refine wp_ic jF_232_17 rfl (pc2 := 18) ?_
    refine wp_ri jF_232_18 rfl ?_
    show WP 359 9 [(0, .ref 117), (1, iV k)] [iV 0] _ _ _ _
    refine wp_z_eq jF_359_9 (m_rgl rfl) rfl (pc2 := 12) ?_ ?_
    · intro h4
      refine wp_ic jF_359_21 rfl (pc2 := 22) ?_
      refine wp_ri jF_359_22 rfl ?_
      exact ⟨(-1), rfl, ⟨by omega, by omega⟩, rfl⟩
    · intro h4; exfalso; omega
  · intro h3
    refine wp_ll1 jF_232_6 rfl rfl (pc2 := 7) ?_
    refine wp_ll2 jF_232_7 rfl rfl (pc2 := 9) ?_
    refine wp_lcmp2 (a := k) (b := 5) jF_232_9 (m_i2lt ⟨by omega, by omega⟩) (by decide) rfl (pc2 := 10) ?_
    intro z5 h6
    refine wp_z_gt jF_232_10 ⟨by omega, by omega⟩ rfl (pc2 := 13) ?_ ?_
    · intro h7
      refine wp_ic jF_232_17 rfl (pc2 := 18) ?_
      refine wp_ri jF_232_18 rfl ?_
      show WP 359 9 [(0, .ref 117), (1, iV k)] [iV 0] _ _ _ _
      refine wp_z_eq jF_359_9 (m_rgl rfl) rfl (pc2 := 12) ?_ ?_
      · intro h8
        refine wp_ic jF_359_21 rfl (pc2 := 22) ?_
        refine wp_ri jF_359_22 rfl ?_
        exact ⟨(-1), rfl, ⟨by omega, by omega⟩, rfl⟩
      · intro h8; exfalso; omega
    · intro h7
      refine wp_ic jF_232_13 rfl (pc2 := 14) ?_
      refine wp_go jF_232_14 ?_
      refine wp_ri jF_232_18 rfl ?_
      show WP 359 9 [(0, .ref 117), (1, iV k)] [iV 1] _ _ _ _
      refine wp_z_eq jF_359_9 (m_rgl rfl) rfl (pc2 := 12) ?_ ?_
      · intro h9; exfalso; omega
      · intro h9
        refine wp_al1 jF_359_12 rfl rfl (pc2 := 13) ?_
        refine wp_gr (b := 119) jF_359_13 kd117 (by decide) (c := 219) rfl rfl rfl (pc2 := 16) ?_
        refine wp_il1 jF_359_16 rfl rfl (pc2 := 17) ?_
        have b10 := GI.b hg 119 k.toNat kd119 (lo := (-2147483648)) (hi := 2147483647) rfl
        refine wp_iald (n := 6) (e := (σ.1 119 k.toNat)) jF_359_17 kd119 (by decide) rfl rfl (by omega) (by omega) rfl rfl (pc2 := 18) ?_
        refine wp_go jF_359_18 ?_
        refine wp_ri jF_359_22 rfl ?_
        exact ⟨(σ.1 119 k.toNat), rfl, ⟨by omega, by omega⟩, rfl⟩
set_option maxHeartbeats 4000000 in
set_option maxRecDepth 20000 in
/-- M.fault -/
theorem m_264 (σ : jM) (hg : GI σ) (k : Int) (hl_k : (-2147483648) ≤ k) (hu_k : k ≤ 2147483647)  (fr lo : Nat) (hfr : 0 ≤ fr) (hlo : 0 ≤ lo) : WP 264 0 (lv_args 0 [.ref 117, iV k]) [] fr lo σ (fun v τ => ∃ z : Int, v = some (iV z) ∧ ((-2147483648) ≤ z ∧ z ≤ 2147483647) ∧ σ = τ) := by
  show WP 264 0 [(0, .ref 117), (1, iV k)] [] _ _ _ _
  refine wp_il1 jF_264_0 rfl rfl (pc2 := 1) ?_
  refine wp_z_ne jF_264_1 ⟨by omega, by omega⟩ rfl (pc2 := 4) ?_ ?_
  · intro h1
    refine wp_il1 jF_264_11 rfl rfl (pc2 := 12) ?_
    refine wp_ic jF_264_12 rfl (pc2 := 13) ?_
    refine wp_i_ne jF_264_13 ⟨by omega, by omega⟩ (m_rgl rfl) rfl (pc2 := 16) ?_ ?_
    · intro h2
      refine wp_ic jF_264_23 rfl (pc2 := 24) ?_
      refine wp_ri jF_264_24 rfl ?_
      exact ⟨(-1), rfl, ⟨by omega, by omega⟩, rfl⟩
    · intro h2
      refine wp_al1 jF_264_16 rfl rfl (pc2 := 17) ?_
      have b3 := GI.b hg 117 8 kd117 (lo := (-2147483648)) (hi := 2147483647) rfl
      refine wp_gi jF_264_17 kd117 (by decide) rfl rfl rfl (pc2 := 20) ?_
      refine wp_go jF_264_20 ?_
      refine wp_ri jF_264_24 rfl ?_
      exact ⟨(σ.1 117 8), rfl, ⟨by omega, by omega⟩, rfl⟩
  · intro h1
    refine wp_al1 jF_264_4 rfl rfl (pc2 := 5) ?_
    have b4 := GI.b hg 117 7 kd117 (lo := (-2147483648)) (hi := 2147483647) rfl
    refine wp_gi jF_264_5 kd117 (by decide) rfl rfl rfl (pc2 := 8) ?_
    refine wp_go jF_264_8 ?_
    refine wp_ri jF_264_24 rfl ?_
    exact ⟨(σ.1 117 7), rfl, ⟨by omega, by omega⟩, rfl⟩
set_option maxHeartbeats 4000000 in
set_option maxRecDepth 20000 in
/-- M.end -/
theorem m_213 (σ : jM) (hg : GI σ) (n : Int) (hl_n : (-2147483648) ≤ n) (hu_n : n ≤ 2147483647)  (fr lo : Nat) (hfr : 0 ≤ fr) (hlo : 0 ≤ lo) : WP 213 0 (lv_args 0 [.ref 117, iV n]) [] fr lo σ (fun v τ => ∃ z : Int, v = some (iV z) ∧ (0 ≤ z ∧ z ≤ 1) ∧ GI τ ∧ FR Wend σ τ) := by
  show WP 213 0 [(0, .ref 117), (1, iV n)] [] _ _ _ _
  refine wp_il1 jF_213_0 rfl rfl (pc2 := 1) ?_
  refine wp_z_lt jF_213_1 ⟨by omega, by omega⟩ rfl (pc2 := 4) ?_ ?_
  · intro h1
    refine wp_al1 jF_213_12 rfl rfl (pc2 := 13) ?_
    refine wp_gr (b := 119) jF_213_13 kd117 (by decide) (c := 219) rfl rfl rfl (pc2 := 16) ?_
    refine wp_ic jF_213_16 rfl (pc2 := 17) ?_
    refine wp_du2 jF_213_17 rfl rfl (pc2 := 18) ?_
    have b2 := GI.b hg 119 0 kd119 (lo := (-2147483648)) (hi := 2147483647) rfl
    refine wp_iald (n := 6) (e := (σ.1 119 0)) jF_213_18 kd119 (by decide) rfl rfl (by omega) (by omega) rfl rfl (pc2 := 19) ?_
    refine wp_ic jF_213_19 rfl (pc2 := 20) ?_
    refine wp_any2 (pc2 := 21) jF_213_20 rfl rfl ?_
    intro z3 h4
    refine wp_iast (n := 6) jF_213_21 kd119 (by decide) rfl rfl (by omega) (by omega) rfl (pc2 := 22) hg (lo := (-2147483648)) (hi := 2147483647) rfl (by omega) (by omega) ?_
    intro τ5 g6 f7 e8
    refine wp_ic jF_213_22 rfl (pc2 := 23) ?_
    refine wp_ri jF_213_23 rfl ?_
    exact ⟨0, rfl, ⟨by omega, by omega⟩, g6, (FR.w FR.rf f7 rfl)⟩
  · intro h1
    refine wp_il1 jF_213_4 rfl rfl (pc2 := 5) ?_
    refine wp_al1 jF_213_5 rfl rfl (pc2 := 6) ?_
    have b9 := GI.b hg 117 1 kd117 (lo := 0) (hi := 1600) rfl
    refine wp_gi jF_213_6 kd117 (by decide) rfl rfl rfl (pc2 := 9) ?_
    refine wp_i_le jF_213_9 ⟨by omega, by omega⟩ (m_rgb b9 rfl) rfl (pc2 := 12) ?_ ?_
    · intro h10
      refine wp_al1 jF_213_24 rfl rfl (pc2 := 25) ?_
      refine wp_il1 jF_213_25 rfl rfl (pc2 := 26) ?_
      refine wp_pi jF_213_26 kd117 (by decide) rfl rfl rfl (pc2 := 29) hg (lo := 0) (hi := 1600) rfl (by omega) (by omega) ?_
      intro τ11 g12 f13 e14
      refine wp_ic jF_213_29 rfl (pc2 := 30) ?_
      refine wp_ri jF_213_30 rfl ?_
      exact ⟨1, rfl, ⟨by omega, by omega⟩, g12, (FR.w FR.rf f13 rfl)⟩
    · intro h10
      refine wp_al1 jF_213_12 rfl rfl (pc2 := 13) ?_
      refine wp_gr (b := 119) jF_213_13 kd117 (by decide) (c := 219) rfl rfl rfl (pc2 := 16) ?_
      refine wp_ic jF_213_16 rfl (pc2 := 17) ?_
      refine wp_du2 jF_213_17 rfl rfl (pc2 := 18) ?_
      have b15 := GI.b hg 119 0 kd119 (lo := (-2147483648)) (hi := 2147483647) rfl
      refine wp_iald (n := 6) (e := (σ.1 119 0)) jF_213_18 kd119 (by decide) rfl rfl (by omega) (by omega) rfl rfl (pc2 := 19) ?_
      refine wp_ic jF_213_19 rfl (pc2 := 20) ?_
      refine wp_any2 (pc2 := 21) jF_213_20 rfl rfl ?_
      intro z16 h17
      refine wp_iast (n := 6) jF_213_21 kd119 (by decide) rfl rfl (by omega) (by omega) rfl (pc2 := 22) hg (lo := (-2147483648)) (hi := 2147483647) rfl (by omega) (by omega) ?_
      intro τ18 g19 f20 e21
      refine wp_ic jF_213_22 rfl (pc2 := 23) ?_
      refine wp_ri jF_213_23 rfl ?_
      exact ⟨0, rfl, ⟨by omega, by omega⟩, g19, (FR.w FR.rf f20 rfl)⟩
