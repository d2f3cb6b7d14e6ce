set_option maxHeartbeats 4000000 in
set_option maxRecDepth 20000 in
/-- M.qTest -/
theorem m_326 (σ : jM) (hg : GI σ)  (pre0 : (σ.1 117 5) = 0) (pre1 : (tt σ) = 1) (pre2 : (ws σ) ≤ (dp σ)) (pre3 : (σ.1 117 87) + (σ.1 117 89) ≤ (σ.1 117 2)) (pre4 : (σ.1 117 89) = 0) (fr lo : Nat) (hfr : 8 ≤ fr) (hlo : 174 ≤ lo) : WP 326 0 (lv_args 0 [.ref 117]) [] fr lo σ (fun v τ => v = none ∧ GI τ ∧ FR Wqs σ τ ∧ ((σ.1 117 2) ≤ (τ.1 117 2)) ∧ ((τ.1 117 5) = 0 → (dp τ) - (ws τ) = (dp σ) - (ws σ) + 1)) := by
  show WP 326 0 [(0, .ref 117)] [] _ _ _ _
  refine wp_ic jF_326_0 rfl (pc2 := 1) ?_
  refine wp_is1 (lv2 := [(0, .ref 117), (1, iV 1)]) jF_326_1 rfl rfl rfl (pc2 := 2) ?_
  refine wp_il1 jF_326_2 rfl rfl (pc2 := 3) ?_
  have q1 := ws_nn (σ := σ)
  have b2 := GI.b hg 117 2 kd117 (lo := 0) (hi := 1601) rfl
  refine wp_join (α := Unit) 110 (fun a => [(0, .ref 117)]) (fun a τ => GI τ ∧ FR Wqs σ τ ∧ ((σ.1 117 2) ≤ (τ.1 117 2)) ∧ ((τ.1 117 5) = 0 → (tt τ) = 1) ∧ ((τ.1 117 5) = 0 → (dp τ) - (ws τ) = (dp σ) - (ws σ) + 1) ∧ ((τ.1 117 5) = 0 → (sq τ) = 0) ∧ ((τ.1 117 87) + (τ.1 117 89) ≤ 1690)) ?_ ?_
  · rintro ⟨⟩ τ3 ⟨g4, f5, p6, p7, p8, p9, p10⟩
    have q11 := ws_nn (σ := τ3)
    have b12 := GI.b g4 117 2 kd117 (lo := 0) (hi := 1601) rfl
    have b13 := GI.b g4 117 5 kd117 (lo := (-2147483648)) (hi := 2147483647) rfl
    have b14 := GI.b g4 117 87 kd117 (lo := 0) (hi := 1690) rfl
    have b15 := GI.b g4 117 89 kd117 (lo := 0) (hi := 1690) rfl
    show WP 326 110 [(0, .ref 117)] [] _ _ _ _
    refine wp_loop (α := Unit) (fun a => [(0, .ref 117)]) (fun a τ => GI τ ∧ FR Wqd τ3 τ ∧ ((τ.1 117 5) = 0 → (tt τ) = 1) ∧ ((τ.1 117 5) = 0 → (dp τ) - (ws τ) = (dp σ) - (ws σ) + 1) ∧ ((τ.1 117 5) = 0 → (sq τ) = 0) ∧ ((τ.1 117 87) + (τ.1 117 89) = (τ3.1 117 87) + (τ3.1 117 89))) (fun a τ => Int.toNat ((τ.1 117 89))) () τ3 ?_ ?_
    · skip
      exact ⟨g4, FR.rf, (by omega), (by omega), (by omega), (by omega)⟩
    · rintro ⟨⟩ τ16 ⟨g17, f18, p19, p20, p21, p22⟩ ih23
      have q24 := ws_nn (σ := τ16)
      have q25 : (τ16.1 117 5) = (τ3.1 117 5) := (FR.at f18 117 5 rfl)
      have b26 := GI.b g17 117 87 kd117 (lo := 0) (hi := 1690) rfl
      have b27 := GI.b g17 117 89 kd117 (lo := 0) (hi := 1690) rfl
      show WP 326 110 [(0, .ref 117)] [] _ _ _ _
      show WP 326 110 [(0, .ref 117)] [] _ _ _ _
      refine wp_al1 jF_326_110 rfl rfl (pc2 := 111) ?_
      refine wp_gi jF_326_111 kd117 (by decide) rfl (FR.at f18 117 5 rfl) rfl (pc2 := 114) ?_
      refine wp_z_ne jF_326_114 (m_rgb b13 rfl) rfl (pc2 := 117) ?_ ?_
      · intro h28
        clear p7
        clear p8
        clear p9
        clear p19
        clear p20
        clear p21
        refine wp_rv jF_326_131 ?_
        have q29 : (τ16.1 117 2) = (τ3.1 117 2) := (FR.at f18 117 2 rfl)
        exact ⟨rfl, g17, (FR.up f5 f18 sb_Wqd_Wqs), (by omega), (by omega)⟩
      · intro h28
        replace p7 := p7 (by omega)
        replace p8 := p8 (by omega)
        replace p9 := p9 (by omega)
        replace p19 := p19 (by omega)
        replace p20 := p20 (by omega)
        replace p21 := p21 (by omega)
        refine wp_al1 jF_326_117 rfl rfl (pc2 := 118) ?_
        refine wp_gi jF_326_118 kd117 (by decide) rfl rfl rfl (pc2 := 121) ?_
        refine wp_z_le jF_326_121 (m_rgb b27 rfl) rfl (pc2 := 124) ?_ ?_
        · intro h30
          refine wp_rv jF_326_131 ?_
          have q31 : (τ16.1 117 2) = (τ3.1 117 2) := (FR.at f18 117 2 rfl)
          exact ⟨rfl, g17, (FR.up f5 f18 sb_Wqd_Wqs), (by omega), (by omega)⟩
        · intro h30
          have n32 := sq_n (σ := τ16) (by omega) (by omega)
          refine wp_al1 jF_326_124 rfl rfl (pc2 := 125) ?_
          refine wp_cV (as := []) (rest := []) (a := 117) (mx := 1) (ci := 12) jF_326_125 kd117 (by decide) rfl rfl rfl rfl rfl (by omega) (by omega) rfl (pc2 := 128) ?_
          refine wp_use (m_336_t τ16 g17  (by omega) (by omega) (by omega) (by omega) (by omega) _ _ (by omega) (by omega)) ?_
          rintro _ τ38 ⟨rfl, g39, f40, p33, p34, p35, p36, p37⟩
          show WP 326 128 [(0, .ref 117)] [] _ _ _ _
          refine wp_go jF_326_128 ?_
          have q41 := ws_nn (σ := τ38)
          have q42 : (τ38.1 117 5) = (τ3.1 117 5) := ((FR.at f40 117 5 rfl).trans (FR.at f18 117 5 rfl))
          have b43 := GI.b g39 117 87 kd117 (lo := 0) (hi := 1690) rfl
          have b44 := GI.b g39 117 89 kd117 (lo := 0) (hi := 1690) rfl
          exact ih23 () τ38 ⟨g39, (FR.up f18 f40 sb_Wqd_Wqd), (by omega), (by omega), (by omega), (by omega)⟩ (by show Int.toNat ((τ38.1 117 89)) < Int.toNat ((τ16.1 117 89)); omega)
  · intro jn45
    refine wp_z_eq jF_326_3 (m_rgl rfl) rfl (pc2 := 6) ?_ ?_
    · intro h46; exfalso; omega
    · intro h46
      refine wp_al1 jF_326_6 rfl rfl (pc2 := 7) ?_
      have b47 := GI.b hg 117 5 kd117 (lo := (-2147483648)) (hi := 2147483647) rfl
      refine wp_gi jF_326_7 kd117 (by decide) rfl rfl rfl (pc2 := 10) ?_
      refine wp_z_ne jF_326_10 (m_rgb b47 rfl) rfl (pc2 := 13) ?_ ?_
      · intro h48
        have b49 := GI.b hg 117 87 kd117 (lo := 0) (hi := 1690) rfl
        have b50 := GI.b hg 117 89 kd117 (lo := 0) (hi := 1690) rfl
        refine wp_less [0] (lv2 := [(0, .ref 117)]) rfl rfl ?_
        exact jn45 () σ ⟨hg, FR.rf, (by omega), (by omega), (by omega), (by omega), (by omega)⟩
      · intro h48
        refine wp_loop (α := Int) (fun a => [(0, .ref 117), (1, iV (a))]) (fun a τ => (1 ≤ a ∧ a ≤ 1) ∧ GI τ ∧ FR Wqs σ τ ∧ ((τ.1 117 5) = 0) ∧ ((tt τ) = 1) ∧ ((dp τ) - (ws τ) = (dp σ) - (ws σ)) ∧ ((σ.1 117 2) ≤ (τ.1 117 2)) ∧ ((τ.1 117 87) + (τ.1 117 89) ≤ (τ.1 117 2))) (fun a τ => Int.toNat (1700 - (τ.1 117 2))) (1) σ ?_ ?_
        · skip
          have b51 := GI.b hg 117 87 kd117 (lo := 0) (hi := 1690) rfl
          have b52 := GI.b hg 117 89 kd117 (lo := 0) (hi := 1690) rfl
          exact ⟨⟨by omega, by omega⟩, hg, FR.rf, (by omega), (by omega), (by omega), (by omega), (by omega)⟩
        · rintro x53 τ55 ⟨h54, g56, f57, p58, p59, p60, p61, p62⟩ ih63
          have q64 := ws_nn (σ := τ55)
          have b65 := GI.b g56 117 2 kd117 (lo := 0) (hi := 1601) rfl
          have b66 := GI.b g56 117 5 kd117 (lo := (-2147483648)) (hi := 2147483647) rfl
          have b67 := GI.b g56 117 87 kd117 (lo := 0) (hi := 1690) rfl
          have b68 := GI.b g56 117 89 kd117 (lo := 0) (hi := 1690) rfl
          show WP 326 13 [(0, .ref 117), (1, iV x53)] [] _ _ _ _
          show WP 326 13 [(0, .ref 117), (1, iV x53)] [] _ _ _ _
          refine wp_al1 jF_326_13 rfl rfl (pc2 := 14) ?_
          refine wp_cV (as := []) (rest := []) (a := 117) (mx := 1) (ci := 12) jF_326_14 kd117 (by decide) rfl rfl rfl rfl rfl (by omega) (by omega) rfl (pc2 := 17) ?_
          have b69 := GI.b hg 117 3 kd117 (lo := 0) (hi := 1600) rfl
          have q70 : (τ55.1 117 3) = (σ.1 117 3) := (FR.at f57 117 3 rfl)
          refine wp_use (m_216 τ55 g56   _ _ (by omega) (by omega)) ?_
          rintro _ τ77 ⟨z80, rfl, h81, g78, f79, p71, p72, p73, p74, p75, p76⟩
          have b82 := GI.b hg 118 (τ77.1 117 2).toNat kd118 (lo := 0) (hi := 255) rfl
          have q83 : (τ55.1 118 (τ77.1 117 2).toNat) = (σ.1 118 (τ77.1 117 2).toNat) := (FR.at f57 118 (τ77.1 117 2).toNat rfl)
          show WP 326 17 [(0, .ref 117), (1, iV x53)] [iV z80] _ _ _ _
          refine wp_is1 (lv2 := [(0, .ref 117), (1, iV x53), (2, iV z80)]) jF_326_17 rfl rfl rfl (pc2 := 18) ?_
          refine wp_il1 jF_326_18 rfl rfl (pc2 := 19) ?_
          refine wp_bi jF_326_19 (by decide) rfl (pc2 := 21) ?_
          refine wp_i_ne jF_326_21 (m_rgb h81 rfl) (m_rgl rfl) rfl (pc2 := 24) ?_ ?_
          · intro h84
            refine wp_al1 jF_326_47 rfl rfl (pc2 := 48) ?_
            refine wp_al1 jF_326_48 rfl rfl (pc2 := 49) ?_
            refine wp_gr (b := 163) jF_326_49 kd117 (by decide) (c := 263) rfl rfl rfl (pc2 := 52) ?_
            refine wp_cV (as := [.ref 163]) (rest := []) (a := 117) (mx := 4) (ci := 12) jF_326_52 kd117 (by decide) rfl rfl rfl rfl rfl (by omega) (by omega) rfl (pc2 := 55) ?_
            have b85 := GI.b g78 117 2 kd117 (lo := 0) (hi := 1601) rfl
            have q86 : (τ77.1 117 3) = (σ.1 117 3) := ((FR.at f79 117 3 rfl).trans (FR.at f57 117 3 rfl))
            have q87 : (τ77.1 117 5) = (τ55.1 117 5) := (FR.at f79 117 5 rfl)
            refine wp_use (m_220 τ77 g78 163 3 cw163.1 cw163.2 (by decide)  _ _ (by omega) (by omega)) ?_
            rintro _ τ91 ⟨z94, rfl, h95, g92, f93, p88, p89, p90⟩
            replace p90 := p90 (by omega)
            show WP 326 55 [(0, .ref 117), (1, iV x53), (2, iV z80)] [iV z94] _ _ _ _
            refine wp_z_eq jF_326_55 (m_rgb h95 rfl) rfl (pc2 := 58) ?_ ?_
            · intro h96
              clear p89
              refine wp_al1 jF_326_79 rfl rfl (pc2 := 80) ?_
              refine wp_cV (as := []) (rest := []) (a := 117) (mx := 2) (ci := 12) jF_326_80 kd117 (by decide) rfl rfl rfl rfl rfl (by omega) (by omega) rfl (pc2 := 83) ?_
              have q97 : (dp τ91) = (dp τ55) := ((dp_fr f93 (fun _ => rfl) rfl).trans (dp_fr f79 (fun _ => rfl) rfl))
              have q98 := ws_nn (σ := τ55)
              have q99 : (ws τ91) = (ws τ55) := ((ws_fr f93 (fun _ => rfl) rfl).trans (ws_fr f79 (fun _ => rfl) rfl))
              have q100 : (tt τ91) = (tt τ55) := ((tt_fr f93 (fun _ => rfl) rfl).trans (tt_fr f79 (fun _ => rfl) rfl))
              have b101 := GI.b g92 117 2 kd117 (lo := 0) (hi := 1601) rfl
              have q102 : (τ91.1 117 5) = (τ55.1 117 5) := ((FR.at f93 117 5 rfl).trans (FR.at f79 117 5 rfl))
              have q103 : (τ91.1 117 87) = (τ55.1 117 87) := ((FR.at f93 117 87 rfl).trans (FR.at f79 117 87 rfl))
              have q104 : (τ91.1 117 89) = (τ55.1 117 89) := ((FR.at f93 117 89 rfl).trans (FR.at f79 117 89 rfl))
              have b105 := GI.b g56 117 91 kd117 (lo := 0) (hi := 1690) rfl
              have q106 : (τ91.1 117 91) = (τ55.1 117 91) := ((FR.at f93 117 91 rfl).trans (FR.at f79 117 91 rfl))
              refine wp_use (m_328 τ91 g92  (by omega) (by omega) (by omega) (by omega) _ _ (by omega) (by omega)) ?_
              rintro _ τ115 ⟨rfl, g116, f117, p107, p108, p109, p110, p111, p112, p113, p114⟩
              show WP 326 83 [(0, .ref 117), (1, iV x53), (2, iV z80)] [] _ _ _ _
              have q118 := ws_nn (σ := τ115)
              have b119 := GI.b g116 117 2 kd117 (lo := 0) (hi := 1601) rfl
              have b120 := GI.b g116 117 87 kd117 (lo := 0) (hi := 1690) rfl
              have b121 := GI.b g116 117 89 kd117 (lo := 0) (hi := 1690) rfl
              refine wp_al1 jF_326_83 rfl rfl (pc2 := 84) ?_
              refine wp_cV (as := []) (rest := []) (a := 117) (mx := 1) (ci := 12) jF_326_84 kd117 (by decide) rfl rfl rfl rfl rfl (by omega) (by omega) rfl (pc2 := 87) ?_
              have b122 := GI.b g116 117 5 kd117 (lo := (-2147483648)) (hi := 2147483647) rfl
              refine wp_use (m_342 τ115 g116  (by omega) (by omega) (by omega) _ _ (by omega) (by omega)) ?_
              rintro _ τ127 ⟨rfl, g128, f129, p123, p124, p125, p126⟩
              show WP 326 87 [(0, .ref 117), (1, iV x53), (2, iV z80)] [] _ _ _ _
              have q130 := ws_nn (σ := τ127)
              have q131 : (τ127.1 117 2) = (τ115.1 117 2) := (FR.at f129 117 2 rfl)
              have b132 := GI.b g128 117 87 kd117 (lo := 0) (hi := 1690) rfl
              have b133 := GI.b g128 117 89 kd117 (lo := 0) (hi := 1690) rfl
              refine wp_al1 jF_326_87 rfl rfl (pc2 := 88) ?_
              refine wp_gi jF_326_88 kd117 (by decide) rfl (FR.at f129 117 5 rfl) rfl (pc2 := 91) ?_
              refine wp_z_ne jF_326_91 (m_rgb b122 rfl) rfl (pc2 := 94) ?_ ?_
              · intro h134
                clear p109
                clear p110
                clear p111
                clear p112
                clear p113
                clear p124
                clear p125
                clear p126
                refine wp_ic jF_326_105 rfl (pc2 := 106) ?_
                refine wp_is1 (lv2 := [(0, .ref 117), (1, iV 0), (2, iV z80)]) jF_326_106 rfl rfl rfl (pc2 := 107) ?_
                refine wp_go jF_326_107 ?_
                refine wp_il1 jF_326_2 rfl rfl (pc2 := 3) ?_
                refine wp_z_eq jF_326_3 (m_rgl rfl) rfl (pc2 := 6) ?_ ?_
                · intro h135
                  have q136 : (τ127.1 117 5) = (τ115.1 117 5) := (FR.at f129 117 5 rfl)
                  refine wp_less [0] (lv2 := [(0, .ref 117)]) rfl rfl ?_
                  exact jn45 () τ127 ⟨g128, (FR.up (FR.up (FR.up (FR.up f57 f79 sb_Wat_Wqs) f93 sb_Wat_Wqs) f117 sb_Wqs_Wqs) f129 sb_Wqe_Wqs), (by omega), (by omega), (by omega), (by omega), (by omega)⟩
                · intro h135; exfalso; omega
              · intro h134
                replace p109 := p109 (by omega)
                replace p110 := p110 (by omega)
                replace p111 := p111 (by omega)
                replace p112 := p112 (by omega)
                replace p113 := p113 (by omega)
                replace p124 := p124 (by omega)
                replace p125 := p125 (by omega)
                replace p126 := p126 (by omega)
                refine wp_al1 jF_326_94 rfl rfl (pc2 := 95) ?_
                refine wp_cV (as := []) (rest := []) (a := 117) (mx := 1) (ci := 12) jF_326_95 kd117 (by decide) rfl rfl rfl rfl rfl (by omega) (by omega) rfl (pc2 := 98) ?_
                have q137 : (τ127.1 117 5) = (τ115.1 117 5) := (FR.at f129 117 5 rfl)
                refine wp_use (m_343 τ127 g128  (by omega) (by omega) (by omega) (by omega) _ _ (by omega) (by omega)) ?_
                rintro _ τ142 ⟨z145, rfl, h146, g143, f144, p138, p139, p140, p141⟩
                show WP 326 98 [(0, .ref 117), (1, iV x53), (2, iV z80)] [iV z145] _ _ _ _
                have q147 := ws_nn (σ := τ142)
                have b148 := GI.b g143 117 2 kd117 (lo := 0) (hi := 1601) rfl
                have b149 := GI.b g143 117 87 kd117 (lo := 0) (hi := 1690) rfl
                have b150 := GI.b g143 117 89 kd117 (lo := 0) (hi := 1690) rfl
                refine wp_z_eq jF_326_98 (m_rgb h146 rfl) rfl (pc2 := 101) ?_ ?_
                · intro h151
                  clear p139
                  replace p140 := p140 (by omega)
                  refine wp_ic jF_326_105 rfl (pc2 := 106) ?_
                  refine wp_is1 (lv2 := [(0, .ref 117), (1, iV 0), (2, iV z80)]) jF_326_106 rfl rfl rfl (pc2 := 107) ?_
                  refine wp_go jF_326_107 ?_
                  refine wp_il1 jF_326_2 rfl rfl (pc2 := 3) ?_
                  refine wp_z_eq jF_326_3 (m_rgl rfl) rfl (pc2 := 6) ?_ ?_
                  · intro h152
                    have b153 := GI.b g143 117 5 kd117 (lo := (-2147483648)) (hi := 2147483647) rfl
                    refine wp_less [0] (lv2 := [(0, .ref 117)]) rfl rfl ?_
                    exact jn45 () τ142 ⟨g143, (FR.up (FR.up (FR.up (FR.up (FR.up f57 f79 sb_Wat_Wqs) f93 sb_Wat_Wqs) f117 sb_Wqs_Wqs) f129 sb_Wqe_Wqs) f144 sb_Wqp_Wqs), (by omega), (by omega), (by omega), (by omega), (by omega)⟩
                  · intro h152; exfalso; omega
                · intro h151
                  replace p139 := p139 (by omega)
                  clear p140
                  refine wp_ic jF_326_101 rfl (pc2 := 102) ?_
                  refine wp_go jF_326_102 ?_
                  refine wp_is1 (lv2 := [(0, .ref 117), (1, iV 1), (2, iV z80)]) jF_326_106 rfl rfl rfl (pc2 := 107) ?_
                  refine wp_go jF_326_107 ?_
                  refine wp_il1 jF_326_2 rfl rfl (pc2 := 3) ?_
                  refine wp_z_eq jF_326_3 (m_rgl rfl) rfl (pc2 := 6) ?_ ?_
                  · intro h154; exfalso; omega
                  · intro h154
                    refine wp_al1 jF_326_6 rfl rfl (pc2 := 7) ?_
                    have b155 := GI.b g143 117 5 kd117 (lo := (-2147483648)) (hi := 2147483647) rfl
                    refine wp_gi jF_326_7 kd117 (by decide) rfl rfl rfl (pc2 := 10) ?_
                    refine wp_z_ne jF_326_10 (m_rgb b155 rfl) rfl (pc2 := 13) ?_ ?_
                    · intro h156
                      refine wp_less [0] (lv2 := [(0, .ref 117)]) rfl rfl ?_
                      exact jn45 () τ142 ⟨g143, (FR.up (FR.up (FR.up (FR.up (FR.up f57 f79 sb_Wat_Wqs) f93 sb_Wat_Wqs) f117 sb_Wqs_Wqs) f129 sb_Wqe_Wqs) f144 sb_Wqp_Wqs), (by omega), (by omega), (by omega), (by omega), (by omega)⟩
                    · intro h156
                      refine wp_less [0, 1] (lv2 := [(0, .ref 117), (1, iV 1)]) rfl rfl ?_
                      exact ih63 (1) τ142 ⟨⟨by omega, by omega⟩, g143, (FR.up (FR.up (FR.up (FR.up (FR.up f57 f79 sb_Wat_Wqs) f93 sb_Wat_Wqs) f117 sb_Wqs_Wqs) f129 sb_Wqe_Wqs) f144 sb_Wqp_Wqs), (by omega), (by omega), (by omega), (by omega), (by omega)⟩ (by show Int.toNat (1700 - (τ142.1 117 2)) < Int.toNat (1700 - (τ55.1 117 2)); omega)
            · intro h96
              replace p89 := p89 (by omega)
              refine wp_al1 jF_326_58 rfl rfl (pc2 := 59) ?_
              refine wp_bi jF_326_59 (by decide) rfl (pc2 := 61) ?_
              refine wp_al1 jF_326_61 rfl rfl (pc2 := 62) ?_
              have b157 := GI.b g92 117 2 kd117 (lo := 0) (hi := 1601) rfl
              refine wp_gi jF_326_62 kd117 (by decide) rfl rfl rfl (pc2 := 65) ?_
              refine wp_cV (as := [iV 12, iV (τ91.1 117 2)]) (rest := []) (a := 117) (mx := 3) (ci := 12) jF_326_65 kd117 (by decide) rfl rfl rfl rfl rfl (by omega) (by omega) rfl (pc2 := 68) ?_
              have q158 := ws_nn (σ := τ55)
              have q159 : (ws τ91) = (ws τ55) := ((ws_fr f93 (fun _ => rfl) rfl).trans (ws_fr f79 (fun _ => rfl) rfl))
              have q160 : (tt τ91) = (tt τ55) := ((tt_fr f93 (fun _ => rfl) rfl).trans (tt_fr f79 (fun _ => rfl) rfl))
              have q161 : (wk τ91) = (wk τ55) := ((wk_fr f93 (fun _ => rfl) rfl rfl).trans (wk_fr f79 (fun _ => rfl) rfl rfl))
              have q162 : (τ91.1 117 5) = (τ55.1 117 5) := ((FR.at f93 117 5 rfl).trans (FR.at f79 117 5 rfl))
              have q163 : (τ91.1 117 89) = (τ55.1 117 89) := ((FR.at f93 117 89 rfl).trans (FR.at f79 117 89 rfl))
              have b164 := GI.b g56 117 91 kd117 (lo := 0) (hi := 1690) rfl
              have q165 : (τ91.1 117 91) = (τ55.1 117 91) := ((FR.at f93 117 91 rfl).trans (FR.at f79 117 91 rfl))
              refine wp_use (m_327 τ91 g92 12 (by omega) (by omega) (τ91.1 117 2) (by omega) (by omega) (by omega) (by omega) _ _ (by omega) (by omega)) ?_
              rintro _ τ174 ⟨rfl, g175, f176, p166, p167, p168, p169, p170, p171, p172, p173⟩
              clear p166
              show WP 326 68 [(0, .ref 117), (1, iV x53), (2, iV z80)] [] _ _ _ _
              refine wp_al1 jF_326_68 rfl rfl (pc2 := 69) ?_
              refine wp_al1 jF_326_69 rfl rfl (pc2 := 70) ?_
              refine wp_gr (b := 163) jF_326_70 kd117 (by decide) (c := 263) rfl rfl rfl (pc2 := 73) ?_
              refine wp_cV (as := [.ref 163]) (rest := []) (a := 117) (mx := 2) (ci := 12) jF_326_73 kd117 (by decide) rfl rfl rfl rfl rfl (by omega) (by omega) rfl (pc2 := 76) ?_
              have q177 : (τ174.1 117 2) = (τ91.1 117 2) := (FR.at f176 117 2 rfl)
              have q178 : (τ174.1 117 3) = (σ.1 117 3) := ((FR.at f176 117 3 rfl).trans ((FR.at f93 117 3 rfl).trans ((FR.at f79 117 3 rfl).trans (FR.at f57 117 3 rfl))))
              have b179 := GI.b g175 117 5 kd117 (lo := (-2147483648)) (hi := 2147483647) rfl
              refine wp_use (m_234 τ174 g175 163 3 cw163.1 cw163.2 (by decide)  _ _ (by omega) (by omega)) ?_
              rintro _ τ183 ⟨rfl, g184, f185, p180, p181, p182⟩
              show WP 326 76 [(0, .ref 117), (1, iV x53), (2, iV z80)] [] _ _ _ _
              refine wp_go jF_326_76 ?_
              refine wp_il1 jF_326_2 rfl rfl (pc2 := 3) ?_
              refine wp_z_eq jF_326_3 (m_rgb h54 rfl) rfl (pc2 := 6) ?_ ?_
              · intro h186; exfalso; omega
              · intro h186
                refine wp_al1 jF_326_6 rfl rfl (pc2 := 7) ?_
                have b187 := GI.b g184 117 5 kd117 (lo := (-2147483648)) (hi := 2147483647) rfl
                refine wp_gi jF_326_7 kd117 (by decide) rfl rfl rfl (pc2 := 10) ?_
                refine wp_z_ne jF_326_10 (m_rgb b187 rfl) rfl (pc2 := 13) ?_ ?_
                · intro h188
                  clear p182
                  have q189 : (dp τ183) = (dp τ55) := ((dp_fr f185 (fun _ => rfl) rfl).trans ((dp_fr f176 (fun _ => rfl) rfl).trans ((dp_fr f93 (fun _ => rfl) rfl).trans (dp_fr f79 (fun _ => rfl) rfl))))
                  have q190 := ws_nn (σ := τ174)
                  have q191 : (ws τ183) = (ws τ174) := (ws_fr f185 (fun _ => rfl) rfl)
                  have q192 : (tt τ183) = (tt τ174) := (tt_fr f185 (fun _ => rfl) rfl)
                  have q193 : (sq τ183) = (sq τ174) := (sq_fr f185 (fun _ => rfl) rfl)
                  have b194 := GI.b g184 117 2 kd117 (lo := 0) (hi := 1601) rfl
                  have q195 : (τ183.1 117 87) = (τ55.1 117 87) := ((FR.at f185 117 87 rfl).trans ((FR.at f176 117 87 rfl).trans ((FR.at f93 117 87 rfl).trans (FR.at f79 117 87 rfl))))
                  have b196 := GI.b g175 117 89 kd117 (lo := 0) (hi := 1690) rfl
                  have q197 : (τ183.1 117 89) = (τ174.1 117 89) := (FR.at f185 117 89 rfl)
                  refine wp_less [0] (lv2 := [(0, .ref 117)]) rfl rfl ?_
                  exact jn45 () τ183 ⟨g184, (FR.up (FR.up (FR.up (FR.up f57 f79 sb_Wat_Wqs) f93 sb_Wat_Wqs) f176 sb_Wqo_Wqs) f185 sb_Wask_Wqs), (by omega), (by omega), (by omega), (by omega), (by omega)⟩
                · intro h188
                  replace p182 := p182 (by omega)
                  have q198 : (dp τ183) = (dp τ55) := ((dp_fr f185 (fun _ => rfl) rfl).trans ((dp_fr f176 (fun _ => rfl) rfl).trans ((dp_fr f93 (fun _ => rfl) rfl).trans (dp_fr f79 (fun _ => rfl) rfl))))
                  have q199 := ws_nn (σ := τ174)
                  have q200 : (ws τ183) = (ws τ174) := (ws_fr f185 (fun _ => rfl) rfl)
                  have q201 : (tt τ183) = (tt τ174) := (tt_fr f185 (fun _ => rfl) rfl)
                  have b202 := GI.b g184 117 2 kd117 (lo := 0) (hi := 1601) rfl
                  have q203 : (τ183.1 117 87) = (τ55.1 117 87) := ((FR.at f185 117 87 rfl).trans ((FR.at f176 117 87 rfl).trans ((FR.at f93 117 87 rfl).trans (FR.at f79 117 87 rfl))))
                  have b204 := GI.b g175 117 89 kd117 (lo := 0) (hi := 1690) rfl
                  have q205 : (τ183.1 117 89) = (τ174.1 117 89) := (FR.at f185 117 89 rfl)
                  refine wp_less [0, 1] (lv2 := [(0, .ref 117), (1, iV x53)]) rfl rfl ?_
                  exact ih63 (x53) τ183 ⟨⟨by omega, by omega⟩, g184, (FR.up (FR.up (FR.up (FR.up f57 f79 sb_Wat_Wqs) f93 sb_Wat_Wqs) f176 sb_Wqo_Wqs) f185 sb_Wask_Wqs), (by omega), (by omega), (by omega), (by omega), (by omega)⟩ (by show Int.toNat (1700 - (τ183.1 117 2)) < Int.toNat (1700 - (τ55.1 117 2)); omega)
          · intro h84
            replace p71 := p71 (by omega)
            replace p76 := p76 (by omega)
            refine wp_al1 jF_326_24 rfl rfl (pc2 := 25) ?_
            refine wp_bi jF_326_25 (by decide) rfl (pc2 := 27) ?_
            refine wp_al1 jF_326_27 rfl rfl (pc2 := 28) ?_
            have b206 := GI.b g78 117 2 kd117 (lo := 0) (hi := 1601) rfl
            refine wp_gi jF_326_28 kd117 (by decide) rfl rfl rfl (pc2 := 31) ?_
            refine wp_cV (as := [iV 25, iV (τ77.1 117 2)]) (rest := []) (a := 117) (mx := 3) (ci := 12) jF_326_31 kd117 (by decide) rfl rfl rfl rfl rfl (by omega) (by omega) rfl (pc2 := 34) ?_
            have q207 := ws_nn (σ := τ55)
            have q208 : (ws τ77) = (ws τ55) := (ws_fr f79 (fun _ => rfl) rfl)
            have q209 : (tt τ77) = (tt τ55) := (tt_fr f79 (fun _ => rfl) rfl)
            have q210 : (wk τ77) = (wk τ55) := (wk_fr f79 (fun _ => rfl) rfl rfl)
            have q211 : (τ77.1 117 5) = (τ55.1 117 5) := (FR.at f79 117 5 rfl)
            have q212 : (τ77.1 117 89) = (τ55.1 117 89) := (FR.at f79 117 89 rfl)
            have b213 := GI.b g56 117 91 kd117 (lo := 0) (hi := 1690) rfl
            have q214 : (τ77.1 117 91) = (τ55.1 117 91) := (FR.at f79 117 91 rfl)
            refine wp_use (m_327 τ77 g78 25 (by omega) (by omega) (τ77.1 117 2) (by omega) (by omega) (by omega) (by omega) _ _ (by omega) (by omega)) ?_
            rintro _ τ223 ⟨rfl, g224, f225, p215, p216, p217, p218, p219, p220, p221, p222⟩
            clear p215
            show WP 326 34 [(0, .ref 117), (1, iV x53), (2, iV z80)] [] _ _ _ _
            refine wp_al1 jF_326_34 rfl rfl (pc2 := 35) ?_
            refine wp_dup jF_326_35 rfl rfl (pc2 := 36) ?_
            refine wp_gi jF_326_36 kd117 (by decide) rfl (FR.at f225 117 2 rfl) rfl (pc2 := 39) ?_
            refine wp_ic jF_326_39 rfl (pc2 := 40) ?_
            refine wp_add jF_326_40 rfl (pc2 := 41) ?_
            refine wp_pi jF_326_41 kd117 (by decide) rfl rfl rfl (pc2 := 44) g224 (lo := 0) (hi := 1601) rfl (by omega) (by omega) ?_
            intro τ226 g227 f228 e229
            refine wp_go jF_326_44 ?_
            refine wp_il1 jF_326_2 rfl rfl (pc2 := 3) ?_
            refine wp_z_eq jF_326_3 (m_rgb h54 rfl) rfl (pc2 := 6) ?_ ?_
            · intro h230; exfalso; omega
            · intro h230
              refine wp_al1 jF_326_6 rfl rfl (pc2 := 7) ?_
              have b231 := GI.b g224 117 5 kd117 (lo := (-2147483648)) (hi := 2147483647) rfl
              refine wp_gi jF_326_7 kd117 (by decide) rfl (FRw.nj f228 (by decide)) rfl (pc2 := 10) ?_
              refine wp_z_ne jF_326_10 (m_rgb b231 rfl) rfl (pc2 := 13) ?_ ?_
              · intro h232
                clear p216
                replace p219 := p219 (by omega)
                have q233 : (dp τ226) = (dp τ55) := ((dp_wr f228 (by decide)).trans ((dp_fr f225 (fun _ => rfl) rfl).trans (dp_fr f79 (fun _ => rfl) rfl)))
                have q234 := ws_nn (σ := τ223)
                have q235 : (ws τ226) = (ws τ223) := (ws_wr f228 (by decide))
                have q236 : (tt τ226) = (tt τ223) := (tt_wr f228 (by decide))
                have q237 : (sq τ226) = (sq τ223) := (sq_wr f228 (by decide))
                have q238 : (τ226.1 117 2) = ((τ77.1 117 2) + 1) := e229
                have q239 : (τ226.1 117 5) = (τ223.1 117 5) := (FRw.nj f228 (by decide))
                have q240 : (τ226.1 117 87) = (τ55.1 117 87) := ((FRw.nj f228 (by decide)).trans ((FR.at f225 117 87 rfl).trans (FR.at f79 117 87 rfl)))
                have b241 := GI.b g224 117 89 kd117 (lo := 0) (hi := 1690) rfl
                have q242 : (τ226.1 117 89) = (τ223.1 117 89) := (FRw.nj f228 (by decide))
                refine wp_less [0] (lv2 := [(0, .ref 117)]) rfl rfl ?_
                exact jn45 () τ226 ⟨g227, (FR.w (FR.up (FR.up f57 f79 sb_Wat_Wqs) f225 sb_Wqo_Wqs) f228 rfl), (by omega), (by omega), (by omega), (by omega), (by omega)⟩
              · intro h232
                replace p216 := p216 (by omega)
                clear p219
                have q243 : (dp τ226) = (dp τ55) := ((dp_wr f228 (by decide)).trans ((dp_fr f225 (fun _ => rfl) rfl).trans (dp_fr f79 (fun _ => rfl) rfl)))
                have q244 := ws_nn (σ := τ223)
                have q245 : (ws τ226) = (ws τ223) := (ws_wr f228 (by decide))
                have q246 : (tt τ226) = (tt τ223) := (tt_wr f228 (by decide))
                have q247 : (τ226.1 117 2) = ((τ77.1 117 2) + 1) := e229
                have q248 : (τ226.1 117 5) = (τ223.1 117 5) := (FRw.nj f228 (by decide))
                have q249 : (τ226.1 117 87) = (τ55.1 117 87) := ((FRw.nj f228 (by decide)).trans ((FR.at f225 117 87 rfl).trans (FR.at f79 117 87 rfl)))
                have b250 := GI.b g224 117 89 kd117 (lo := 0) (hi := 1690) rfl
                have q251 : (τ226.1 117 89) = (τ223.1 117 89) := (FRw.nj f228 (by decide))
                refine wp_less [0, 1] (lv2 := [(0, .ref 117), (1, iV x53)]) rfl rfl ?_
                exact ih63 (x53) τ226 ⟨⟨by omega, by omega⟩, g227, (FR.w (FR.up (FR.up f57 f79 sb_Wat_Wqs) f225 sb_Wqo_Wqs) f228 rfl), (by omega), (by omega), (by omega), (by omega), (by omega)⟩ (by show Int.toNat (1700 - (τ226.1 117 2)) < Int.toNat (1700 - (τ55.1 117 2)); omega)
