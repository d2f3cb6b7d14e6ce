set_option maxHeartbeats 4000000 in
set_option maxRecDepth 20000 in
/-- Tape.seesWord -/
theorem m_37_r10 (σ : jM) (hg : GI σ)   (fr lo : Nat) (hfr : 1 ≤ fr) (hlo : 21 ≤ lo) : WP 37 0 (lv_args 0 [.ref 10]) [] fr lo σ (fun v τ => ∃ z : Int, v = some (iV z) ∧ (0 ≤ z ∧ z ≤ 1) ∧ GI τ ∧ FR Wtp σ τ ∧ (z = 1 → (τ.1 10 5) + (τ.1 10 6) ≤ (σ.1 10 1))) := by
  show WP 37 0 [(0, .ref 10)] [] _ _ _ _
  refine wp_al1 jF_37_0 rfl rfl (pc2 := 1) ?_
  refine wp_cV (as := []) (rest := []) (a := 10) (mx := 1) (ci := 6) jF_37_1 kd10 (by decide) rfl rfl rfl rfl rfl (by omega) (by omega) rfl (pc2 := 4) ?_
  have b1 := GI.b hg 10 1 kd10 (lo := 0) (hi := 1600) rfl
  refine wp_use (m_35_r10 σ hg   _ _ (by omega) (by omega)) ?_
  rintro _ τ3 ⟨z6, rfl, h7, g4, f5, p2⟩
  show WP 37 4 [(0, .ref 10)] [iV z6] _ _ _ _
  refine wp_cS (as := [iV z6]) (rest := []) (mx := 1) jF_37_4 rfl rfl rfl rfl (by omega) (by omega) rfl (pc2 := 7) ?_
  show WP 38 0 [(0, iV z6)] [] _ _ _ _
  refine wp_il1 jF_38_0 rfl rfl (pc2 := 1) ?_
  refine wp_bi jF_38_1 (by decide) rfl (pc2 := 3) ?_
  refine wp_i_lt jF_38_3 (m_rgb h7 rfl) (m_rgl rfl) rfl (pc2 := 6) ?_ ?_
  · intro h8
    refine wp_ic jF_38_16 rfl (pc2 := 17) ?_
    refine wp_ri jF_38_17 rfl ?_
    show WP 37 7 [(0, .ref 10)] [iV 0] _ _ _ _
    refine wp_z_eq jF_37_7 (m_rgl rfl) rfl (pc2 := 10) ?_ ?_
    · intro h9
      refine wp_ic jF_37_26 rfl (pc2 := 27) ?_
      refine wp_ri jF_37_27 rfl ?_
      have b10 := GI.b g4 10 5 kd10 (lo := 0) (hi := 1600) rfl
      have b11 := GI.b g4 10 6 kd10 (lo := 0) (hi := 1600) rfl
      exact ⟨0, rfl, ⟨by omega, by omega⟩, g4, f5, (by omega)⟩
    · intro h9; exfalso; omega
  · intro h8
    replace p2 := p2 (by omega)
    refine wp_il1 jF_38_6 rfl rfl (pc2 := 7) ?_
    refine wp_bi jF_38_7 (by decide) rfl (pc2 := 9) ?_
    refine wp_i_gt jF_38_9 ⟨by omega, by omega⟩ (m_rgl rfl) rfl (pc2 := 12) ?_ ?_
    · intro h12
      refine wp_ic jF_38_16 rfl (pc2 := 17) ?_
      refine wp_ri jF_38_17 rfl ?_
      show WP 37 7 [(0, .ref 10)] [iV 0] _ _ _ _
      refine wp_z_eq jF_37_7 (m_rgl rfl) rfl (pc2 := 10) ?_ ?_
      · intro h13
        refine wp_ic jF_37_26 rfl (pc2 := 27) ?_
        refine wp_ri jF_37_27 rfl ?_
        have b14 := GI.b g4 10 5 kd10 (lo := 0) (hi := 1600) rfl
        have b15 := GI.b g4 10 6 kd10 (lo := 0) (hi := 1600) rfl
        exact ⟨0, rfl, ⟨by omega, by omega⟩, g4, f5, (by omega)⟩
      · intro h13; exfalso; omega
    · intro h12
      refine wp_ic jF_38_12 rfl (pc2 := 13) ?_
      refine wp_go jF_38_13 ?_
      refine wp_ri jF_38_17 rfl ?_
      show WP 37 7 [(0, .ref 10)] [iV 1] _ _ _ _
      refine wp_z_eq jF_37_7 (m_rgl rfl) rfl (pc2 := 10) ?_ ?_
      · intro h16; exfalso; omega
      · intro h16
        refine wp_al1 jF_37_10 rfl rfl (pc2 := 11) ?_
        refine wp_al1 jF_37_11 rfl rfl (pc2 := 12) ?_
        have b17 := GI.b g4 10 2 kd10 (lo := 0) (hi := 1600) rfl
        refine wp_gi jF_37_12 kd10 (by decide) rfl rfl rfl (pc2 := 15) ?_
        refine wp_ic jF_37_15 rfl (pc2 := 16) ?_
        refine wp_sub jF_37_16 rfl (pc2 := 17) ?_
        refine wp_cV (as := [iV ((τ3.1 10 2) - 1)]) (rest := []) (a := 10) (mx := 2) (ci := 6) jF_37_17 kd10 (by decide) rfl rfl rfl rfl rfl (by omega) (by omega) rfl (pc2 := 20) ?_
        have q18 : (τ3.1 10 1) = (σ.1 10 1) := (FR.at f5 10 1 rfl)
        refine wp_use (m_39_r10 τ3 g4 ((τ3.1 10 2) - 1) (by omega) (by omega)  _ _ (by omega) (by omega)) ?_
        rintro _ _ ⟨z23, rfl, h24, rfl, p19, p20⟩
        show WP 37 20 [(0, .ref 10)] [iV z23] _ _ _ _
        refine wp_cS (as := [iV z23]) (rest := []) (mx := 1) jF_37_20 rfl rfl rfl rfl (by omega) (by omega) rfl (pc2 := 23) ?_
        show WP 40 0 [(0, iV z23)] [] _ _ _ _
        refine wp_il1 jF_40_0 rfl rfl (pc2 := 1) ?_
        refine wp_bi jF_40_1 (by decide) rfl (pc2 := 3) ?_
        refine wp_i_lt jF_40_3 (m_rgb h24 rfl) (m_rgl rfl) rfl (pc2 := 6) ?_ ?_
        · intro h25
          refine wp_ic jF_40_16 rfl (pc2 := 17) ?_
          refine wp_ri jF_40_17 rfl ?_
          show WP 37 23 [(0, .ref 10)] [iV 0] _ _ _ _
          refine wp_z_eq jF_37_23 (m_rgl rfl) rfl (pc2 := 26) ?_ ?_
          · intro h26
            refine wp_al1 jF_37_28 rfl rfl (pc2 := 29) ?_
            refine wp_al1 jF_37_29 rfl rfl (pc2 := 30) ?_
            refine wp_gi jF_37_30 kd10 (by decide) rfl rfl rfl (pc2 := 33) ?_
            refine wp_pi jF_37_33 kd10 (by decide) rfl rfl rfl (pc2 := 36) g4 (lo := 0) (hi := 1600) rfl (by omega) (by omega) ?_
            intro τ27 g28 f29 e30
            refine wp_al1 jF_37_36 rfl rfl (pc2 := 37) ?_
            refine wp_ic jF_37_37 rfl (pc2 := 38) ?_
            refine wp_pi jF_37_38 kd10 (by decide) rfl rfl rfl (pc2 := 41) g28 (lo := 0) (hi := 1600) rfl (by omega) (by omega) ?_
            intro τ31 g32 f33 e34
            refine wp_al1 jF_37_41 rfl rfl (pc2 := 42) ?_
            refine wp_ic jF_37_42 rfl (pc2 := 43) ?_
            refine wp_pi jF_37_43 kd10 (by decide) rfl rfl rfl (pc2 := 46) g32 (lo := (-2147483648)) (hi := 2147483647) rfl (by omega) (by omega) ?_
            intro τ35 g36 f37 e38
            refine wp_al1 jF_37_46 rfl rfl (pc2 := 47) ?_
            refine wp_gi jF_37_47 kd10 (by decide) rfl ((FRw.nj f37 (by decide)).trans ((FRw.nj f33 (by decide)).trans (FRw.nj f29 (by decide)))) rfl (pc2 := 50) ?_
            refine wp_is1 (lv2 := [(0, .ref 10), (1, iV (τ3.1 10 2))]) jF_37_50 rfl rfl rfl (pc2 := 51) ?_
            have q39 : (τ35.1 10 1) = (σ.1 10 1) := ((FRw.nj f37 (by decide)).trans ((FRw.nj f33 (by decide)).trans ((FRw.nj f29 (by decide)).trans (FR.at f5 10 1 rfl))))
            refine wp_loop (α := Int) (fun a => [(0, .ref 10), (1, iV (a))]) (fun a τ => (0 ≤ a ∧ a ≤ 1600) ∧ GI τ ∧ FR Wtp τ35 τ ∧ ((a) ≤ (τ35.1 10 1)) ∧ ((τ.1 10 5) + (τ.1 10 6) = (a))) (fun a τ => Int.toNat (1700 - (a))) ((τ3.1 10 2)) τ35 ?_ ?_
            · skip
              have q40 : (τ35.1 10 5) = (τ3.1 10 2) := ((FRw.nj f37 (by decide)).trans ((FRw.nj f33 (by decide)).trans e30))
              have q41 : (τ35.1 10 6) = 0 := ((FRw.nj f37 (by decide)).trans e34)
              exact ⟨⟨by omega, by omega⟩, g36, FR.rf, (by omega), (by omega)⟩
            · rintro x42 τ44 ⟨h43, g45, f46, p47, p48⟩ ih49
              have b50 := GI.b g45 10 5 kd10 (lo := 0) (hi := 1600) rfl
              have b51 := GI.b g45 10 6 kd10 (lo := 0) (hi := 1600) rfl
              show WP 37 51 [(0, .ref 10), (1, iV x42)] [] _ _ _ _
              show WP 37 51 [(0, .ref 10), (1, iV x42)] [] _ _ _ _
              refine wp_il1 jF_37_51 rfl rfl (pc2 := 52) ?_
              refine wp_al1 jF_37_52 rfl rfl (pc2 := 53) ?_
              refine wp_gi jF_37_53 kd10 (by decide) rfl ((FR.at f46 10 1 rfl).trans ((FRw.nj f37 (by decide)).trans ((FRw.nj f33 (by decide)).trans ((FRw.nj f29 (by decide)).trans (FR.at f5 10 1 rfl))))) rfl (pc2 := 56) ?_
              refine wp_i_ge jF_37_56 (m_rgb h43 rfl) (m_rgb b1 rfl) rfl (pc2 := 59) ?_ ?_
              · intro h52
                refine wp_ic jF_37_123 rfl (pc2 := 124) ?_
                refine wp_ri jF_37_124 rfl ?_
                exact ⟨1, rfl, ⟨by omega, by omega⟩, g45, (FR.up (FR.w (FR.w (FR.w f5 f29 rfl) f33 rfl) f37 rfl) f46 sb_Wtp_Wtp), (by omega)⟩
              · intro h52
                refine wp_al1 jF_37_59 rfl rfl (pc2 := 60) ?_
                refine wp_il1 jF_37_60 rfl rfl (pc2 := 61) ?_
                refine wp_cV (as := [iV x42]) (rest := []) (a := 10) (mx := 2) (ci := 6) jF_37_61 kd10 (by decide) rfl rfl rfl rfl rfl (by omega) (by omega) rfl (pc2 := 64) ?_
                have q53 : (τ44.1 10 1) = (σ.1 10 1) := ((FR.at f46 10 1 rfl).trans ((FRw.nj f37 (by decide)).trans ((FRw.nj f33 (by decide)).trans ((FRw.nj f29 (by decide)).trans (FR.at f5 10 1 rfl)))))
                refine wp_use (m_39_r10 τ44 g45 x42 (by omega) (by omega)  _ _ (by omega) (by omega)) ?_
                rintro _ _ ⟨z58, rfl, h59, rfl, p54, p55⟩
                show WP 37 64 [(0, .ref 10), (1, iV x42)] [iV z58] _ _ _ _
                refine wp_cS (as := [iV z58]) (rest := []) (mx := 1) jF_37_64 rfl rfl rfl rfl (by omega) (by omega) rfl (pc2 := 67) ?_
                show WP 38 0 [(0, iV z58)] [] _ _ _ _
                refine wp_il1 jF_38_0 rfl rfl (pc2 := 1) ?_
                refine wp_bi jF_38_1 (by decide) rfl (pc2 := 3) ?_
                refine wp_i_lt jF_38_3 (m_rgb h59 rfl) (m_rgl rfl) rfl (pc2 := 6) ?_ ?_
                · intro h60
                  refine wp_ic jF_38_16 rfl (pc2 := 17) ?_
                  refine wp_ri jF_38_17 rfl ?_
                  show WP 37 67 [(0, .ref 10), (1, iV x42)] [iV 0] _ _ _ _
                  refine wp_z_eq jF_37_67 (m_rgl rfl) rfl (pc2 := 70) ?_ ?_
                  · intro h61
                    refine wp_ic jF_37_123 rfl (pc2 := 124) ?_
                    refine wp_ri jF_37_124 rfl ?_
                    exact ⟨1, rfl, ⟨by omega, by omega⟩, g45, (FR.up (FR.w (FR.w (FR.w f5 f29 rfl) f33 rfl) f37 rfl) f46 sb_Wtp_Wtp), (by omega)⟩
                  · intro h61; exfalso; omega
                · intro h60
                  replace p54 := p54 (by omega)
                  refine wp_il1 jF_38_6 rfl rfl (pc2 := 7) ?_
                  refine wp_bi jF_38_7 (by decide) rfl (pc2 := 9) ?_
                  refine wp_i_gt jF_38_9 ⟨by omega, by omega⟩ (m_rgl rfl) rfl (pc2 := 12) ?_ ?_
                  · intro h62
                    refine wp_ic jF_38_16 rfl (pc2 := 17) ?_
                    refine wp_ri jF_38_17 rfl ?_
                    show WP 37 67 [(0, .ref 10), (1, iV x42)] [iV 0] _ _ _ _
                    refine wp_z_eq jF_37_67 (m_rgl rfl) rfl (pc2 := 70) ?_ ?_
                    · intro h63
                      refine wp_ic jF_37_123 rfl (pc2 := 124) ?_
                      refine wp_ri jF_37_124 rfl ?_
                      exact ⟨1, rfl, ⟨by omega, by omega⟩, g45, (FR.up (FR.w (FR.w (FR.w f5 f29 rfl) f33 rfl) f37 rfl) f46 sb_Wtp_Wtp), (by omega)⟩
                    · intro h63; exfalso; omega
                  · intro h62
                    refine wp_ic jF_38_12 rfl (pc2 := 13) ?_
                    refine wp_go jF_38_13 ?_
                    refine wp_ri jF_38_17 rfl ?_
                    show WP 37 67 [(0, .ref 10), (1, iV x42)] [iV 1] _ _ _ _
                    refine wp_z_eq jF_37_67 (m_rgl rfl) rfl (pc2 := 70) ?_ ?_
                    · intro h64; exfalso; omega
                    · intro h64
                      refine wp_al1 jF_37_70 rfl rfl (pc2 := 71) ?_
                      refine wp_gi jF_37_71 kd10 (by decide) rfl rfl rfl (pc2 := 74) ?_
                      refine wp_bi jF_37_74 (by decide) rfl (pc2 := 76) ?_
                      refine wp_i_ge jF_37_76 (m_rgb b51 rfl) (m_rgl rfl) rfl (pc2 := 79) ?_ ?_
                      · intro h65
                        refine wp_al1 jF_37_107 rfl rfl (pc2 := 108) ?_
                        refine wp_dup jF_37_108 rfl rfl (pc2 := 109) ?_
                        refine wp_gi jF_37_109 kd10 (by decide) rfl rfl rfl (pc2 := 112) ?_
                        refine wp_ic jF_37_112 rfl (pc2 := 113) ?_
                        refine wp_add jF_37_113 rfl (pc2 := 114) ?_
                        refine wp_pi jF_37_114 kd10 (by decide) rfl rfl rfl (pc2 := 117) g45 (lo := 0) (hi := 1600) rfl (by omega) (by omega) ?_
                        intro τ66 g67 f68 e69
                        refine wp_inc (lv2 := [(0, .ref 10), (1, iV (x42 + 1))]) jF_37_117 rfl rfl rfl rfl (pc2 := 120) ?_
                        refine wp_go jF_37_120 ?_
                        have q70 : (τ66.1 10 5) = (τ44.1 10 5) := (FRw.nj f68 (by decide))
                        have q71 : (τ66.1 10 6) = ((τ44.1 10 6) + 1) := e69
                        exact ih49 ((x42 + 1)) τ66 ⟨⟨by omega, by omega⟩, g67, (FR.w f46 f68 rfl), (by omega), (by omega)⟩ (by show Int.toNat (1700 - (x42 + 1)) < Int.toNat (1700 - x42); omega)
                      · intro h65
                        refine wp_al1 jF_37_79 rfl rfl (pc2 := 80) ?_
                        refine wp_dup jF_37_80 rfl rfl (pc2 := 81) ?_
                        have b72 := GI.b g45 10 7 kd10 (lo := (-2147483648)) (hi := 2147483647) rfl
                        refine wp_gi jF_37_81 kd10 (by decide) rfl rfl rfl (pc2 := 84) ?_
                        refine wp_al1 jF_37_84 rfl rfl (pc2 := 85) ?_
                        refine wp_gr (b := 11) jF_37_85 kd10 (by decide) (c := 111) rfl rfl rfl (pc2 := 88) ?_
                        refine wp_il1 jF_37_88 rfl rfl (pc2 := 89) ?_
                        have b73 := GI.b hg 11 x42.toNat kd11 (lo := 0) (hi := 255) rfl
                        refine wp_iald (n := 1600) (e := (σ.1 11 x42.toNat)) jF_37_89 kd11 (by decide) rfl rfl (by omega) (by omega) ((FR.at f46 11 x42.toNat rfl).trans ((FRw.na f37 (by decide)).trans ((FRw.na f33 (by decide)).trans ((FRw.na f29 (by decide)).trans (FR.at f5 11 x42.toNat rfl))))) rfl (pc2 := 90) ?_
                        refine wp_bi jF_37_90 (by decide) rfl (pc2 := 92) ?_
                        refine wp_sub jF_37_92 rfl (pc2 := 93) ?_
                        refine wp_bi jF_37_93 (by decide) rfl (pc2 := 95) ?_
                        refine wp_ic jF_37_95 rfl (pc2 := 96) ?_
                        refine wp_al1 jF_37_96 rfl rfl (pc2 := 97) ?_
                        refine wp_gi jF_37_97 kd10 (by decide) rfl rfl rfl (pc2 := 100) ?_
                        refine wp_mul jF_37_100 rfl (pc2 := 101) ?_
                        refine wp_sub jF_37_101 rfl (pc2 := 102) ?_
                        refine wp_any2 (pc2 := 103) jF_37_102 rfl rfl ?_
                        intro z74 h75
                        refine wp_any2 (pc2 := 104) jF_37_103 rfl rfl ?_
                        intro z76 h77
                        refine wp_pi jF_37_104 kd10 (by decide) rfl rfl rfl (pc2 := 107) g45 (lo := (-2147483648)) (hi := 2147483647) rfl (by omega) (by omega) ?_
                        intro τ78 g79 f80 e81
                        refine wp_al1 jF_37_107 rfl rfl (pc2 := 108) ?_
                        refine wp_dup jF_37_108 rfl rfl (pc2 := 109) ?_
                        refine wp_gi jF_37_109 kd10 (by decide) rfl (FRw.nj f80 (by decide)) rfl (pc2 := 112) ?_
                        refine wp_ic jF_37_112 rfl (pc2 := 113) ?_
                        refine wp_add jF_37_113 rfl (pc2 := 114) ?_
                        refine wp_pi jF_37_114 kd10 (by decide) rfl rfl rfl (pc2 := 117) g79 (lo := 0) (hi := 1600) rfl (by omega) (by omega) ?_
                        intro τ82 g83 f84 e85
                        refine wp_inc (lv2 := [(0, .ref 10), (1, iV (x42 + 1))]) jF_37_117 rfl rfl rfl rfl (pc2 := 120) ?_
                        refine wp_go jF_37_120 ?_
                        have q86 : (τ82.1 10 5) = (τ44.1 10 5) := ((FRw.nj f84 (by decide)).trans (FRw.nj f80 (by decide)))
                        have q87 : (τ82.1 10 6) = ((τ44.1 10 6) + 1) := e85
                        exact ih49 ((x42 + 1)) τ82 ⟨⟨by omega, by omega⟩, g83, (FR.w (FR.w f46 f80 rfl) f84 rfl), (by omega), (by omega)⟩ (by show Int.toNat (1700 - (x42 + 1)) < Int.toNat (1700 - x42); omega)
          · intro h26; exfalso; omega
        · intro h25
          replace p19 := p19 (by omega)
          refine wp_il1 jF_40_6 rfl rfl (pc2 := 7) ?_
          refine wp_bi jF_40_7 (by decide) rfl (pc2 := 9) ?_
          refine wp_i_gt jF_40_9 ⟨by omega, by omega⟩ (m_rgl rfl) rfl (pc2 := 12) ?_ ?_
          · intro h88
            refine wp_ic jF_40_16 rfl (pc2 := 17) ?_
            refine wp_ri jF_40_17 rfl ?_
            show WP 37 23 [(0, .ref 10)] [iV 0] _ _ _ _
            refine wp_z_eq jF_37_23 (m_rgl rfl) rfl (pc2 := 26) ?_ ?_
            · intro h89
              refine wp_al1 jF_37_28 rfl rfl (pc2 := 29) ?_
              refine wp_al1 jF_37_29 rfl rfl (pc2 := 30) ?_
              refine wp_gi jF_37_30 kd10 (by decide) rfl rfl rfl (pc2 := 33) ?_
              refine wp_pi jF_37_33 kd10 (by decide) rfl rfl rfl (pc2 := 36) g4 (lo := 0) (hi := 1600) rfl (by omega) (by omega) ?_
              intro τ90 g91 f92 e93
              refine wp_al1 jF_37_36 rfl rfl (pc2 := 37) ?_
              refine wp_ic jF_37_37 rfl (pc2 := 38) ?_
              refine wp_pi jF_37_38 kd10 (by decide) rfl rfl rfl (pc2 := 41) g91 (lo := 0) (hi := 1600) rfl (by omega) (by omega) ?_
              intro τ94 g95 f96 e97
              refine wp_al1 jF_37_41 rfl rfl (pc2 := 42) ?_
              refine wp_ic jF_37_42 rfl (pc2 := 43) ?_
              refine wp_pi jF_37_43 kd10 (by decide) rfl rfl rfl (pc2 := 46) g95 (lo := (-2147483648)) (hi := 2147483647) rfl (by omega) (by omega) ?_
              intro τ98 g99 f100 e101
              refine wp_al1 jF_37_46 rfl rfl (pc2 := 47) ?_
              refine wp_gi jF_37_47 kd10 (by decide) rfl ((FRw.nj f100 (by decide)).trans ((FRw.nj f96 (by decide)).trans (FRw.nj f92 (by decide)))) rfl (pc2 := 50) ?_
              refine wp_is1 (lv2 := [(0, .ref 10), (1, iV (τ3.1 10 2))]) jF_37_50 rfl rfl rfl (pc2 := 51) ?_
              have q102 : (τ98.1 10 1) = (σ.1 10 1) := ((FRw.nj f100 (by decide)).trans ((FRw.nj f96 (by decide)).trans ((FRw.nj f92 (by decide)).trans (FR.at f5 10 1 rfl))))
              refine wp_loop (α := Int) (fun a => [(0, .ref 10), (1, iV (a))]) (fun a τ => (0 ≤ a ∧ a ≤ 1600) ∧ GI τ ∧ FR Wtp τ98 τ ∧ ((a) ≤ (τ98.1 10 1)) ∧ ((τ.1 10 5) + (τ.1 10 6) = (a))) (fun a τ => Int.toNat (1700 - (a))) ((τ3.1 10 2)) τ98 ?_ ?_
              · skip
                have q103 : (τ98.1 10 5) = (τ3.1 10 2) := ((FRw.nj f100 (by decide)).trans ((FRw.nj f96 (by decide)).trans e93))
                have q104 : (τ98.1 10 6) = 0 := ((FRw.nj f100 (by decide)).trans e97)
                exact ⟨⟨by omega, by omega⟩, g99, FR.rf, (by omega), (by omega)⟩
              · rintro x105 τ107 ⟨h106, g108, f109, p110, p111⟩ ih112
                have b113 := GI.b g108 10 5 kd10 (lo := 0) (hi := 1600) rfl
                have b114 := GI.b g108 10 6 kd10 (lo := 0) (hi := 1600) rfl
                show WP 37 51 [(0, .ref 10), (1, iV x105)] [] _ _ _ _
                show WP 37 51 [(0, .ref 10), (1, iV x105)] [] _ _ _ _
                refine wp_il1 jF_37_51 rfl rfl (pc2 := 52) ?_
                refine wp_al1 jF_37_52 rfl rfl (pc2 := 53) ?_
                refine wp_gi jF_37_53 kd10 (by decide) rfl ((FR.at f109 10 1 rfl).trans ((FRw.nj f100 (by decide)).trans ((FRw.nj f96 (by decide)).trans ((FRw.nj f92 (by decide)).trans (FR.at f5 10 1 rfl))))) rfl (pc2 := 56) ?_
                refine wp_i_ge jF_37_56 (m_rgb h106 rfl) (m_rgb b1 rfl) rfl (pc2 := 59) ?_ ?_
                · intro h115
                  refine wp_ic jF_37_123 rfl (pc2 := 124) ?_
                  refine wp_ri jF_37_124 rfl ?_
                  exact ⟨1, rfl, ⟨by omega, by omega⟩, g108, (FR.up (FR.w (FR.w (FR.w f5 f92 rfl) f96 rfl) f100 rfl) f109 sb_Wtp_Wtp), (by omega)⟩
                · intro h115
                  refine wp_al1 jF_37_59 rfl rfl (pc2 := 60) ?_
                  refine wp_il1 jF_37_60 rfl rfl (pc2 := 61) ?_
                  refine wp_cV (as := [iV x105]) (rest := []) (a := 10) (mx := 2) (ci := 6) jF_37_61 kd10 (by decide) rfl rfl rfl rfl rfl (by omega) (by omega) rfl (pc2 := 64) ?_
                  have q116 : (τ107.1 10 1) = (σ.1 10 1) := ((FR.at f109 10 1 rfl).trans ((FRw.nj f100 (by decide)).trans ((FRw.nj f96 (by decide)).trans ((FRw.nj f92 (by decide)).trans (FR.at f5 10 1 rfl)))))
                  refine wp_use (m_39_r10 τ107 g108 x105 (by omega) (by omega)  _ _ (by omega) (by omega)) ?_
                  rintro _ _ ⟨z121, rfl, h122, rfl, p117, p118⟩
                  show WP 37 64 [(0, .ref 10), (1, iV x105)] [iV z121] _ _ _ _
                  refine wp_cS (as := [iV z121]) (rest := []) (mx := 1) jF_37_64 rfl rfl rfl rfl (by omega) (by omega) rfl (pc2 := 67) ?_
                  show WP 38 0 [(0, iV z121)] [] _ _ _ _
                  refine wp_il1 jF_38_0 rfl rfl (pc2 := 1) ?_
                  refine wp_bi jF_38_1 (by decide) rfl (pc2 := 3) ?_
                  refine wp_i_lt jF_38_3 (m_rgb h122 rfl) (m_rgl rfl) rfl (pc2 := 6) ?_ ?_
                  · intro h123
                    refine wp_ic jF_38_16 rfl (pc2 := 17) ?_
                    refine wp_ri jF_38_17 rfl ?_
                    show WP 37 67 [(0, .ref 10), (1, iV x105)] [iV 0] _ _ _ _
                    refine wp_z_eq jF_37_67 (m_rgl rfl) rfl (pc2 := 70) ?_ ?_
                    · intro h124
                      refine wp_ic jF_37_123 rfl (pc2 := 124) ?_
                      refine wp_ri jF_37_124 rfl ?_
                      exact ⟨1, rfl, ⟨by omega, by omega⟩, g108, (FR.up (FR.w (FR.w (FR.w f5 f92 rfl) f96 rfl) f100 rfl) f109 sb_Wtp_Wtp), (by omega)⟩
                    · intro h124; exfalso; omega
                  · intro h123
                    replace p117 := p117 (by omega)
                    refine wp_il1 jF_38_6 rfl rfl (pc2 := 7) ?_
                    refine wp_bi jF_38_7 (by decide) rfl (pc2 := 9) ?_
                    refine wp_i_gt jF_38_9 ⟨by omega, by omega⟩ (m_rgl rfl) rfl (pc2 := 12) ?_ ?_
                    · intro h125
                      refine wp_ic jF_38_16 rfl (pc2 := 17) ?_
                      refine wp_ri jF_38_17 rfl ?_
                      show WP 37 67 [(0, .ref 10), (1, iV x105)] [iV 0] _ _ _ _
                      refine wp_z_eq jF_37_67 (m_rgl rfl) rfl (pc2 := 70) ?_ ?_
                      · intro h126
                        refine wp_ic jF_37_123 rfl (pc2 := 124) ?_
                        refine wp_ri jF_37_124 rfl ?_
                        exact ⟨1, rfl, ⟨by omega, by omega⟩, g108, (FR.up (FR.w (FR.w (FR.w f5 f92 rfl) f96 rfl) f100 rfl) f109 sb_Wtp_Wtp), (by omega)⟩
                      · intro h126; exfalso; omega
                    · intro h125
                      refine wp_ic jF_38_12 rfl (pc2 := 13) ?_
                      refine wp_go jF_38_13 ?_
                      refine wp_ri jF_38_17 rfl ?_
                      show WP 37 67 [(0, .ref 10), (1, iV x105)] [iV 1] _ _ _ _
                      refine wp_z_eq jF_37_67 (m_rgl rfl) rfl (pc2 := 70) ?_ ?_
                      · intro h127; exfalso; omega
                      · intro h127
                        refine wp_al1 jF_37_70 rfl rfl (pc2 := 71) ?_
                        refine wp_gi jF_37_71 kd10 (by decide) rfl rfl rfl (pc2 := 74) ?_
                        refine wp_bi jF_37_74 (by decide) rfl (pc2 := 76) ?_
                        refine wp_i_ge jF_37_76 (m_rgb b114 rfl) (m_rgl rfl) rfl (pc2 := 79) ?_ ?_
                        · intro h128
                          refine wp_al1 jF_37_107 rfl rfl (pc2 := 108) ?_
                          refine wp_dup jF_37_108 rfl rfl (pc2 := 109) ?_
                          refine wp_gi jF_37_109 kd10 (by decide) rfl rfl rfl (pc2 := 112) ?_
                          refine wp_ic jF_37_112 rfl (pc2 := 113) ?_
                          refine wp_add jF_37_113 rfl (pc2 := 114) ?_
                          refine wp_pi jF_37_114 kd10 (by decide) rfl rfl rfl (pc2 := 117) g108 (lo := 0) (hi := 1600) rfl (by omega) (by omega) ?_
                          intro τ129 g130 f131 e132
                          refine wp_inc (lv2 := [(0, .ref 10), (1, iV (x105 + 1))]) jF_37_117 rfl rfl rfl rfl (pc2 := 120) ?_
                          refine wp_go jF_37_120 ?_
                          have q133 : (τ129.1 10 5) = (τ107.1 10 5) := (FRw.nj f131 (by decide))
                          have q134 : (τ129.1 10 6) = ((τ107.1 10 6) + 1) := e132
                          exact ih112 ((x105 + 1)) τ129 ⟨⟨by omega, by omega⟩, g130, (FR.w f109 f131 rfl), (by omega), (by omega)⟩ (by show Int.toNat (1700 - (x105 + 1)) < Int.toNat (1700 - x105); omega)
                        · intro h128
                          refine wp_al1 jF_37_79 rfl rfl (pc2 := 80) ?_
                          refine wp_dup jF_37_80 rfl rfl (pc2 := 81) ?_
                          have b135 := GI.b g108 10 7 kd10 (lo := (-2147483648)) (hi := 2147483647) rfl
                          refine wp_gi jF_37_81 kd10 (by decide) rfl rfl rfl (pc2 := 84) ?_
                          refine wp_al1 jF_37_84 rfl rfl (pc2 := 85) ?_
                          refine wp_gr (b := 11) jF_37_85 kd10 (by decide) (c := 111) rfl rfl rfl (pc2 := 88) ?_
                          refine wp_il1 jF_37_88 rfl rfl (pc2 := 89) ?_
                          have b136 := GI.b hg 11 x105.toNat kd11 (lo := 0) (hi := 255) rfl
                          refine wp_iald (n := 1600) (e := (σ.1 11 x105.toNat)) jF_37_89 kd11 (by decide) rfl rfl (by omega) (by omega) ((FR.at f109 11 x105.toNat rfl).trans ((FRw.na f100 (by decide)).trans ((FRw.na f96 (by decide)).trans ((FRw.na f92 (by decide)).trans (FR.at f5 11 x105.toNat rfl))))) rfl (pc2 := 90) ?_
                          refine wp_bi jF_37_90 (by decide) rfl (pc2 := 92) ?_
                          refine wp_sub jF_37_92 rfl (pc2 := 93) ?_
                          refine wp_bi jF_37_93 (by decide) rfl (pc2 := 95) ?_
                          refine wp_ic jF_37_95 rfl (pc2 := 96) ?_
                          refine wp_al1 jF_37_96 rfl rfl (pc2 := 97) ?_
                          refine wp_gi jF_37_97 kd10 (by decide) rfl rfl rfl (pc2 := 100) ?_
                          refine wp_mul jF_37_100 rfl (pc2 := 101) ?_
                          refine wp_sub jF_37_101 rfl (pc2 := 102) ?_
                          refine wp_any2 (pc2 := 103) jF_37_102 rfl rfl ?_
                          intro z137 h138
                          refine wp_any2 (pc2 := 104) jF_37_103 rfl rfl ?_
                          intro z139 h140
                          refine wp_pi jF_37_104 kd10 (by decide) rfl rfl rfl (pc2 := 107) g108 (lo := (-2147483648)) (hi := 2147483647) rfl (by omega) (by omega) ?_
                          intro τ141 g142 f143 e144
                          refine wp_al1 jF_37_107 rfl rfl (pc2 := 108) ?_
                          refine wp_dup jF_37_108 rfl rfl (pc2 := 109) ?_
                          refine wp_gi jF_37_109 kd10 (by decide) rfl (FRw.nj f143 (by decide)) rfl (pc2 := 112) ?_
                          refine wp_ic jF_37_112 rfl (pc2 := 113) ?_
                          refine wp_add jF_37_113 rfl (pc2 := 114) ?_
                          refine wp_pi jF_37_114 kd10 (by decide) rfl rfl rfl (pc2 := 117) g142 (lo := 0) (hi := 1600) rfl (by omega) (by omega) ?_
                          intro τ145 g146 f147 e148
                          refine wp_inc (lv2 := [(0, .ref 10), (1, iV (x105 + 1))]) jF_37_117 rfl rfl rfl rfl (pc2 := 120) ?_
                          refine wp_go jF_37_120 ?_
                          have q149 : (τ145.1 10 5) = (τ107.1 10 5) := ((FRw.nj f147 (by decide)).trans (FRw.nj f143 (by decide)))
                          have q150 : (τ145.1 10 6) = ((τ107.1 10 6) + 1) := e148
                          exact ih112 ((x105 + 1)) τ145 ⟨⟨by omega, by omega⟩, g146, (FR.w (FR.w f109 f143 rfl) f147 rfl), (by omega), (by omega)⟩ (by show Int.toNat (1700 - (x105 + 1)) < Int.toNat (1700 - x105); omega)
            · intro h89; exfalso; omega
          · intro h88
            refine wp_ic jF_40_12 rfl (pc2 := 13) ?_
            refine wp_go jF_40_13 ?_
            refine wp_ri jF_40_17 rfl ?_
            show WP 37 23 [(0, .ref 10)] [iV 1] _ _ _ _
            refine wp_z_eq jF_37_23 (m_rgl rfl) rfl (pc2 := 26) ?_ ?_
            · intro h151; exfalso; omega
            · intro h151
              refine wp_ic jF_37_26 rfl (pc2 := 27) ?_
              refine wp_ri jF_37_27 rfl ?_
              have b152 := GI.b g4 10 5 kd10 (lo := 0) (hi := 1600) rfl
              have b153 := GI.b g4 10 6 kd10 (lo := 0) (hi := 1600) rfl
              exact ⟨0, rfl, ⟨by omega, by omega⟩, g4, f5, (by omega)⟩
set_option maxHeartbeats 4000000 in
set_option maxRecDepth 20000 in
/-- Tape.pass -/
theorem m_45_r10 (σ : jM) (hg : GI σ)  (pre0 : (σ.1 10 5) + (σ.1 10 6) ≤ 1600) (fr lo : Nat) (hfr : 0 ≤ fr) (hlo : 0 ≤ lo) : WP 45 0 (lv_args 0 [.ref 10]) [] fr lo σ (fun v τ => v = none ∧ GI τ ∧ FR Wtp σ τ) := by
  show WP 45 0 [(0, .ref 10)] [] _ _ _ _
  refine wp_al1 jF_45_0 rfl rfl (pc2 := 1) ?_
  refine wp_al1 jF_45_1 rfl rfl (pc2 := 2) ?_
  have b1 := GI.b hg 10 5 kd10 (lo := 0) (hi := 1600) rfl
  refine wp_gi jF_45_2 kd10 (by decide) rfl rfl rfl (pc2 := 5) ?_
  refine wp_al1 jF_45_5 rfl rfl (pc2 := 6) ?_
  have b2 := GI.b hg 10 6 kd10 (lo := 0) (hi := 1600) rfl
  refine wp_gi jF_45_6 kd10 (by decide) rfl rfl rfl (pc2 := 9) ?_
  refine wp_add jF_45_9 rfl (pc2 := 10) ?_
  refine wp_pi jF_45_10 kd10 (by decide) rfl rfl rfl (pc2 := 13) hg (lo := 0) (hi := 1600) rfl (by omega) (by omega) ?_
  intro τ3 g4 f5 e6
  refine wp_rv jF_45_13 ?_
  exact ⟨rfl, g4, (FR.w FR.rf f5 rfl)⟩
set_option maxHeartbeats 4000000 in
set_option maxRecDepth 20000 in
/-- Tape.rankIn -/
theorem m_41_r10_13 (σ : jM) (hg : GI σ)   (fr lo : Nat) (hfr : 0 ≤ fr) (hlo : 0 ≤ lo) : WP 41 0 (lv_args 0 [.ref 10, .ref 13]) [] fr lo σ (fun v τ => ∃ z : Int, v = some (iV z) ∧ ((-1) ≤ z ∧ z ≤ 17) ∧ σ = τ) := by
  show WP 41 0 [(0, .ref 10), (1, .ref 13)] [] _ _ _ _
  refine wp_ic jF_41_0 rfl (pc2 := 1) ?_
  refine wp_is1 (lv2 := [(0, .ref 10), (1, .ref 13), (2, iV 0)]) jF_41_1 rfl rfl rfl (pc2 := 2) ?_
  refine wp_loop (α := Int) (fun a => [(0, .ref 10), (1, .ref 13), (2, iV (a))]) (fun a τ => (0 ≤ a ∧ a ≤ 18) ∧ σ = τ) (fun a τ => Int.toNat (18 - (a))) (0) σ ?_ ?_
  · skip
    exact ⟨⟨by omega, by omega⟩, rfl⟩
  · rintro x1 _ ⟨h2, rfl⟩ ih6
    show WP 41 2 [(0, .ref 10), (1, .ref 13), (2, iV x1)] [] _ _ _ _
    show WP 41 2 [(0, .ref 10), (1, .ref 13), (2, iV x1)] [] _ _ _ _
    refine wp_il1 jF_41_2 rfl rfl (pc2 := 3) ?_
    refine wp_al1 jF_41_3 rfl rfl (pc2 := 4) ?_
    refine wp_len (n := 18) (t := 0) jF_41_4 kd13 (by decide) rfl rfl (pc2 := 5) ?_
    refine wp_i_ge jF_41_5 (m_rgb h2 rfl) (m_rgl rfl) rfl (pc2 := 8) ?_ ?_
    · intro h7
      refine wp_ic jF_41_35 rfl (pc2 := 36) ?_
      refine wp_ri jF_41_36 rfl ?_
      exact ⟨(-1), rfl, ⟨by omega, by omega⟩, rfl⟩
    · intro h7
      refine wp_al1 jF_41_8 rfl rfl (pc2 := 9) ?_
      refine wp_il1 jF_41_9 rfl rfl (pc2 := 10) ?_
      have b8 := GI.b hg 13 x1.toNat kd13 (lo := (-2147483648)) (hi := 2147483647) rfl
      refine wp_iald (n := 18) (e := (σ.1 13 x1.toNat)) jF_41_10 kd13 (by decide) rfl rfl (by omega) (by omega) rfl rfl (pc2 := 11) ?_
      refine wp_al1 jF_41_11 rfl rfl (pc2 := 12) ?_
      have b9 := GI.b hg 10 7 kd10 (lo := (-2147483648)) (hi := 2147483647) rfl
      refine wp_gi jF_41_12 kd10 (by decide) rfl rfl rfl (pc2 := 15) ?_
      refine wp_i_ne jF_41_15 (m_rgb b8 rfl) (m_rgb b9 rfl) rfl (pc2 := 18) ?_ ?_
      · intro h10
        refine wp_inc (lv2 := [(0, .ref 10), (1, .ref 13), (2, iV (x1 + 1))]) jF_41_29 rfl rfl rfl rfl (pc2 := 32) ?_
        refine wp_go jF_41_32 ?_
        exact ih6 ((x1 + 1)) σ ⟨⟨by omega, by omega⟩, rfl⟩ (by show Int.toNat (18 - (x1 + 1)) < Int.toNat (18 - x1); omega)
      · intro h10
        refine wp_al1 jF_41_18 rfl rfl (pc2 := 19) ?_
        have b11 := GI.b hg 10 6 kd10 (lo := 0) (hi := 1600) rfl
        refine wp_gi jF_41_19 kd10 (by decide) rfl rfl rfl (pc2 := 22) ?_
        refine wp_bi jF_41_22 (by decide) rfl (pc2 := 24) ?_
        refine wp_i_gt jF_41_24 (m_rgb b11 rfl) (m_rgl rfl) rfl (pc2 := 27) ?_ ?_
        · intro h12
          refine wp_inc (lv2 := [(0, .ref 10), (1, .ref 13), (2, iV (x1 + 1))]) jF_41_29 rfl rfl rfl rfl (pc2 := 32) ?_
          refine wp_go jF_41_32 ?_
          exact ih6 ((x1 + 1)) σ ⟨⟨by omega, by omega⟩, rfl⟩ (by show Int.toNat (18 - (x1 + 1)) < Int.toNat (18 - x1); omega)
        · intro h12
          refine wp_il1 jF_41_27 rfl rfl (pc2 := 28) ?_
          refine wp_ri jF_41_28 rfl ?_
          exact ⟨x1, rfl, ⟨by omega, by omega⟩, rfl⟩
set_option maxHeartbeats 4000000 in
set_option maxRecDepth 20000 in
/-- Tape.rankIn -/
theorem m_41_r10_15 (σ : jM) (hg : GI σ)   (fr lo : Nat) (hfr : 0 ≤ fr) (hlo : 0 ≤ lo) : WP 41 0 (lv_args 0 [.ref 10, .ref 15]) [] fr lo σ (fun v τ => ∃ z : Int, v = some (iV z) ∧ ((-1) ≤ z ∧ z ≤ 17) ∧ σ = τ) := by
  show WP 41 0 [(0, .ref 10), (1, .ref 15)] [] _ _ _ _
  refine wp_ic jF_41_0 rfl (pc2 := 1) ?_
  refine wp_is1 (lv2 := [(0, .ref 10), (1, .ref 15), (2, iV 0)]) jF_41_1 rfl rfl rfl (pc2 := 2) ?_
  refine wp_loop (α := Int) (fun a => [(0, .ref 10), (1, .ref 15), (2, iV (a))]) (fun a τ => (0 ≤ a ∧ a ≤ 18) ∧ σ = τ) (fun a τ => Int.toNat (18 - (a))) (0) σ ?_ ?_
  · skip
    exact ⟨⟨by omega, by omega⟩, rfl⟩
  · rintro x1 _ ⟨h2, rfl⟩ ih6
    show WP 41 2 [(0, .ref 10), (1, .ref 15), (2, iV x1)] [] _ _ _ _
    show WP 41 2 [(0, .ref 10), (1, .ref 15), (2, iV x1)] [] _ _ _ _
    refine wp_il1 jF_41_2 rfl rfl (pc2 := 3) ?_
    refine wp_al1 jF_41_3 rfl rfl (pc2 := 4) ?_
    refine wp_len (n := 18) (t := 0) jF_41_4 kd15 (by decide) rfl rfl (pc2 := 5) ?_
    refine wp_i_ge jF_41_5 (m_rgb h2 rfl) (m_rgl rfl) rfl (pc2 := 8) ?_ ?_
    · intro h7
      refine wp_ic jF_41_35 rfl (pc2 := 36) ?_
      refine wp_ri jF_41_36 rfl ?_
      exact ⟨(-1), rfl, ⟨by omega, by omega⟩, rfl⟩
    · intro h7
      refine wp_al1 jF_41_8 rfl rfl (pc2 := 9) ?_
      refine wp_il1 jF_41_9 rfl rfl (pc2 := 10) ?_
      have b8 := GI.b hg 15 x1.toNat kd15 (lo := (-2147483648)) (hi := 2147483647) rfl
      refine wp_iald (n := 18) (e := (σ.1 15 x1.toNat)) jF_41_10 kd15 (by decide) rfl rfl (by omega) (by omega) rfl rfl (pc2 := 11) ?_
      refine wp_al1 jF_41_11 rfl rfl (pc2 := 12) ?_
      have b9 := GI.b hg 10 7 kd10 (lo := (-2147483648)) (hi := 2147483647) rfl
      refine wp_gi jF_41_12 kd10 (by decide) rfl rfl rfl (pc2 := 15) ?_
      refine wp_i_ne jF_41_15 (m_rgb b8 rfl) (m_rgb b9 rfl) rfl (pc2 := 18) ?_ ?_
      · intro h10
        refine wp_inc (lv2 := [(0, .ref 10), (1, .ref 15), (2, iV (x1 + 1))]) jF_41_29 rfl rfl rfl rfl (pc2 := 32) ?_
        refine wp_go jF_41_32 ?_
        exact ih6 ((x1 + 1)) σ ⟨⟨by omega, by omega⟩, rfl⟩ (by show Int.toNat (18 - (x1 + 1)) < Int.toNat (18 - x1); omega)
      · intro h10
        refine wp_al1 jF_41_18 rfl rfl (pc2 := 19) ?_
        have b11 := GI.b hg 10 6 kd10 (lo := 0) (hi := 1600) rfl
        refine wp_gi jF_41_19 kd10 (by decide) rfl rfl rfl (pc2 := 22) ?_
        refine wp_bi jF_41_22 (by decide) rfl (pc2 := 24) ?_
        refine wp_i_gt jF_41_24 (m_rgb b11 rfl) (m_rgl rfl) rfl (pc2 := 27) ?_ ?_
        · intro h12
          refine wp_inc (lv2 := [(0, .ref 10), (1, .ref 15), (2, iV (x1 + 1))]) jF_41_29 rfl rfl rfl rfl (pc2 := 32) ?_
          refine wp_go jF_41_32 ?_
          exact ih6 ((x1 + 1)) σ ⟨⟨by omega, by omega⟩, rfl⟩ (by show Int.toNat (18 - (x1 + 1)) < Int.toNat (18 - x1); omega)
        · intro h12
          refine wp_il1 jF_41_27 rfl rfl (pc2 := 28) ?_
          refine wp_ri jF_41_28 rfl ?_
          exact ⟨x1, rfl, ⟨by omega, by omega⟩, rfl⟩
set_option maxHeartbeats 4000000 in
set_option maxRecDepth 20000 in
/-- Tape.rankIn -/
theorem m_41_r10_17 (σ : jM) (hg : GI σ)   (fr lo : Nat) (hfr : 0 ≤ fr) (hlo : 0 ≤ lo) : WP 41 0 (lv_args 0 [.ref 10, .ref 17]) [] fr lo σ (fun v τ => ∃ z : Int, v = some (iV z) ∧ ((-1) ≤ z ∧ z ≤ 18) ∧ σ = τ) := by
  show WP 41 0 [(0, .ref 10), (1, .ref 17)] [] _ _ _ _
  refine wp_ic jF_41_0 rfl (pc2 := 1) ?_
  refine wp_is1 (lv2 := [(0, .ref 10), (1, .ref 17), (2, iV 0)]) jF_41_1 rfl rfl rfl (pc2 := 2) ?_
  refine wp_loop (α := Int) (fun a => [(0, .ref 10), (1, .ref 17), (2, iV (a))]) (fun a τ => (0 ≤ a ∧ a ≤ 19) ∧ σ = τ) (fun a τ => Int.toNat (19 - (a))) (0) σ ?_ ?_
  · skip
    exact ⟨⟨by omega, by omega⟩, rfl⟩
  · rintro x1 _ ⟨h2, rfl⟩ ih6
    show WP 41 2 [(0, .ref 10), (1, .ref 17), (2, iV x1)] [] _ _ _ _
    show WP 41 2 [(0, .ref 10), (1, .ref 17), (2, iV x1)] [] _ _ _ _
    refine wp_il1 jF_41_2 rfl rfl (pc2 := 3) ?_
    refine wp_al1 jF_41_3 rfl rfl (pc2 := 4) ?_
    refine wp_len (n := 19) (t := 0) jF_41_4 kd17 (by decide) rfl rfl (pc2 := 5) ?_
    refine wp_i_ge jF_41_5 (m_rgb h2 rfl) (m_rgl rfl) rfl (pc2 := 8) ?_ ?_
    · intro h7
      refine wp_ic jF_41_35 rfl (pc2 := 36) ?_
      refine wp_ri jF_41_36 rfl ?_
      exact ⟨(-1), rfl, ⟨by omega, by omega⟩, rfl⟩
    · intro h7
      refine wp_al1 jF_41_8 rfl rfl (pc2 := 9) ?_
      refine wp_il1 jF_41_9 rfl rfl (pc2 := 10) ?_
      have b8 := GI.b hg 17 x1.toNat kd17 (lo := (-2147483648)) (hi := 2147483647) rfl
      refine wp_iald (n := 19) (e := (σ.1 17 x1.toNat)) jF_41_10 kd17 (by decide) rfl rfl (by omega) (by omega) rfl rfl (pc2 := 11) ?_
      refine wp_al1 jF_41_11 rfl rfl (pc2 := 12) ?_
      have b9 := GI.b hg 10 7 kd10 (lo := (-2147483648)) (hi := 2147483647) rfl
      refine wp_gi jF_41_12 kd10 (by decide) rfl rfl rfl (pc2 := 15) ?_
      refine wp_i_ne jF_41_15 (m_rgb b8 rfl) (m_rgb b9 rfl) rfl (pc2 := 18) ?_ ?_
      · intro h10
        refine wp_inc (lv2 := [(0, .ref 10), (1, .ref 17), (2, iV (x1 + 1))]) jF_41_29 rfl rfl rfl rfl (pc2 := 32) ?_
        refine wp_go jF_41_32 ?_
        exact ih6 ((x1 + 1)) σ ⟨⟨by omega, by omega⟩, rfl⟩ (by show Int.toNat (19 - (x1 + 1)) < Int.toNat (19 - x1); omega)
      · intro h10
        refine wp_al1 jF_41_18 rfl rfl (pc2 := 19) ?_
        have b11 := GI.b hg 10 6 kd10 (lo := 0) (hi := 1600) rfl
        refine wp_gi jF_41_19 kd10 (by decide) rfl rfl rfl (pc2 := 22) ?_
        refine wp_bi jF_41_22 (by decide) rfl (pc2 := 24) ?_
        refine wp_i_gt jF_41_24 (m_rgb b11 rfl) (m_rgl rfl) rfl (pc2 := 27) ?_ ?_
        · intro h12
          refine wp_inc (lv2 := [(0, .ref 10), (1, .ref 17), (2, iV (x1 + 1))]) jF_41_29 rfl rfl rfl rfl (pc2 := 32) ?_
          refine wp_go jF_41_32 ?_
          exact ih6 ((x1 + 1)) σ ⟨⟨by omega, by omega⟩, rfl⟩ (by show Int.toNat (19 - (x1 + 1)) < Int.toNat (19 - x1); omega)
        · intro h12
          refine wp_il1 jF_41_27 rfl rfl (pc2 := 28) ?_
          refine wp_ri jF_41_28 rfl ?_
          exact ⟨x1, rfl, ⟨by omega, by omega⟩, rfl⟩
set_option maxHeartbeats 4000000 in
set_option maxRecDepth 20000 in
/-- Tape.takes -/
theorem m_68_r10 (σ : jM) (hg : GI σ) (oc : Int) (hl_oc : 0 ≤ oc) (hu_oc : oc ≤ 255)  (fr lo : Nat) (hfr : 1 ≤ fr) (hlo : 22 ≤ lo) : WP 68 0 (lv_args 0 [.ref 10, iV oc]) [] fr lo σ (fun v τ => ∃ z : Int, v = some (iV z) ∧ (0 ≤ z ∧ z ≤ 1) ∧ GI τ ∧ FR Wtp σ τ) := by
  show WP 68 0 [(0, .ref 10), (1, iV oc)] [] _ _ _ _
  refine wp_al1 jF_68_0 rfl rfl (pc2 := 1) ?_
  refine wp_cV (as := []) (rest := []) (a := 10) (mx := 1) (ci := 6) jF_68_1 kd10 (by decide) rfl rfl rfl rfl rfl (by omega) (by omega) rfl (pc2 := 4) ?_
  have b1 := GI.b hg 10 1 kd10 (lo := 0) (hi := 1600) rfl
  refine wp_use (m_35_r10 σ hg   _ _ (by omega) (by omega)) ?_
  rintro _ τ3 ⟨z6, rfl, h7, g4, f5, p2⟩
  show WP 68 4 [(0, .ref 10), (1, iV oc)] [iV z6] _ _ _ _
  refine wp_il1 jF_68_4 rfl rfl (pc2 := 5) ?_
  refine wp_i_eq jF_68_5 (m_rgb h7 rfl) ⟨by omega, by omega⟩ rfl (pc2 := 8) ?_ ?_
  · intro h8
    refine wp_al1 jF_68_18 rfl rfl (pc2 := 19) ?_
    refine wp_dup jF_68_19 rfl rfl (pc2 := 20) ?_
    have b9 := GI.b g4 10 2 kd10 (lo := 0) (hi := 1600) rfl
    refine wp_gi jF_68_20 kd10 (by decide) rfl rfl rfl (pc2 := 23) ?_
    refine wp_ic jF_68_23 rfl (pc2 := 24) ?_
    refine wp_add jF_68_24 rfl (pc2 := 25) ?_
    refine wp_pi jF_68_25 kd10 (by decide) rfl rfl rfl (pc2 := 28) g4 (lo := 0) (hi := 1600) rfl (by omega) (by omega) ?_
    intro τ10 g11 f12 e13
    refine wp_ic jF_68_28 rfl (pc2 := 29) ?_
    refine wp_ri jF_68_29 rfl ?_
    exact ⟨1, rfl, ⟨by omega, by omega⟩, g11, (FR.w f5 f12 rfl)⟩
  · intro h8
    refine wp_al1 jF_68_8 rfl rfl (pc2 := 9) ?_
    refine wp_ic jF_68_9 rfl (pc2 := 10) ?_
    refine wp_al1 jF_68_10 rfl rfl (pc2 := 11) ?_
    have b14 := GI.b g4 10 2 kd10 (lo := 0) (hi := 1600) rfl
    refine wp_gi jF_68_11 kd10 (by decide) rfl rfl rfl (pc2 := 14) ?_
    refine wp_cV (as := [iV 1, iV (τ3.1 10 2)]) (rest := []) (a := 10) (mx := 3) (ci := 6) jF_68_14 kd10 (by decide) rfl rfl rfl rfl rfl (by omega) (by omega) rfl (pc2 := 17) ?_
    refine wp_use (m_42_r10 τ3 g4 1 (by omega) (by omega) (τ3.1 10 2) (by omega) (by omega)  _ _ (by omega) (by omega)) ?_
    rintro _ τ15 ⟨z18, rfl, h19, g16, f17⟩
    show WP 68 17 [(0, .ref 10), (1, iV oc)] [iV z18] _ _ _ _
    refine wp_ri jF_68_17 (m_fitb (by omega) (by omega)) ?_
    exact ⟨z18, rfl, ⟨by omega, by omega⟩, g16, (FR.up f5 f17 sb_Wtp_Wtp)⟩
