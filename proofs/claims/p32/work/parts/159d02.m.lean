set_option maxHeartbeats 4000000 in
set_option maxRecDepth 20000 in
/-- M.qSums -/
theorem m_330 (σ : jM) (hg : GI σ)  (pre0 : (σ.1 117 5) = 0) (pre1 : (tt σ) = 1) (pre2 : (ws σ) ≤ (dp σ)) (pre3 : (σ.1 117 87) + (σ.1 117 89) ≤ (σ.1 117 2)) (fr lo : Nat) (hfr : 6 ≤ fr) (hlo : 131 ≤ lo) : WP 330 0 (lv_args 0 [.ref 117]) [] fr lo σ (fun v τ => v = none ∧ GI τ ∧ FR Wqs σ τ ∧ ((σ.1 117 2) ≤ (τ.1 117 2)) ∧ ((τ.1 117 91) = (σ.1 117 91)) ∧ ((τ.1 117 5) = 0 → (tt τ) = 1) ∧ ((τ.1 117 5) = 0 → (τ.1 117 89) = (σ.1 117 89)) ∧ ((τ.1 117 5) = 0 → (dp τ) - (ws τ) = (dp σ) - (ws σ) + 1) ∧ ((τ.1 117 5) = 0 → (τ.1 117 87) + (τ.1 117 89) - (τ.1 117 2) ≤ (σ.1 117 87) + (σ.1 117 89) - (σ.1 117 2)) ∧ ((τ.1 117 5) = 0 → (σ.1 117 2) < (τ.1 117 2)) ∧ ((τ.1 117 87) + (τ.1 117 89) ≤ (τ.1 117 2) + 1)) := by
  show WP 330 0 [(0, .ref 117)] [] _ _ _ _
  refine wp_al1 jF_330_0 rfl rfl (pc2 := 1) ?_
  have b1 := GI.b hg 117 91 kd117 (lo := 0) (hi := 1690) rfl
  refine wp_gi jF_330_1 kd117 (by decide) rfl rfl rfl (pc2 := 4) ?_
  refine wp_is1 (lv2 := [(0, .ref 117), (1, iV (σ.1 117 91))]) jF_330_4 rfl rfl rfl (pc2 := 5) ?_
  refine wp_al1 jF_330_5 rfl rfl (pc2 := 6) ?_
  refine wp_al1 jF_330_6 rfl rfl (pc2 := 7) ?_
  have b2 := GI.b hg 117 89 kd117 (lo := 0) (hi := 1690) rfl
  refine wp_gi jF_330_7 kd117 (by decide) rfl rfl rfl (pc2 := 10) ?_
  refine wp_pi jF_330_10 kd117 (by decide) rfl rfl rfl (pc2 := 13) hg (lo := 0) (hi := 1690) rfl (by omega) (by omega) ?_
  intro τ3 g4 f5 e6
  refine wp_ic jF_330_13 rfl (pc2 := 14) ?_
  refine wp_is1 (lv2 := [(0, .ref 117), (1, iV (σ.1 117 91)), (2, iV 1)]) jF_330_14 rfl rfl rfl (pc2 := 15) ?_
  refine wp_il1 jF_330_15 rfl rfl (pc2 := 16) ?_
  refine wp_join (α := Unit) 53 (fun a => [(0, .ref 117), (1, iV (σ.1 117 91))]) (fun a τ => GI τ ∧ FR Wqp τ3 τ ∧ ((σ.1 117 2) ≤ (τ.1 117 2)) ∧ ((τ.1 117 5) = 0 → (wk τ) = 1) ∧ ((τ.1 117 5) = 0 → (σ.1 117 89) ≤ (τ.1 117 89)) ∧ ((τ.1 117 5) = 0 → (dp τ) - (ws τ) = (dp σ) - (ws σ) + 1) ∧ ((τ.1 117 5) = 0 → (qb τ) = -1) ∧ ((τ.1 117 5) = 0 → (τ.1 117 87) + (τ.1 117 89) - (τ.1 117 2) ≤ (σ.1 117 87) + (σ.1 117 89) - (σ.1 117 2)) ∧ ((τ.1 117 87) + (τ.1 117 89) ≤ (τ.1 117 2) + 1) ∧ ((τ.1 117 5) = 0 → (σ.1 117 2) < (τ.1 117 2))) ?_ ?_
  · rintro ⟨⟩ τ7 ⟨g8, f9, p10, p11, p12, p13, p14, p15, p16, p17⟩
    have q18 := ws_nn (σ := τ7)
    have b19 := GI.b g8 117 2 kd117 (lo := 0) (hi := 1601) rfl
    have b20 := GI.b g8 117 5 kd117 (lo := (-2147483648)) (hi := 2147483647) rfl
    have b21 := GI.b g8 117 87 kd117 (lo := 0) (hi := 1690) rfl
    have b22 := GI.b g8 117 89 kd117 (lo := 0) (hi := 1690) rfl
    show WP 330 53 [(0, .ref 117), (1, iV (σ.1 117 91))] [] _ _ _ _
    refine wp_loop (α := Unit) (fun a => [(0, .ref 117), (1, iV (σ.1 117 91))]) (fun a τ => GI τ ∧ FR Wqd τ7 τ ∧ ((τ.1 117 5) = 0 → (wk τ) = 1) ∧ ((τ.1 117 5) = 0 → (σ.1 117 89) ≤ (τ.1 117 89)) ∧ ((τ.1 117 5) = 0 → (dp τ) - (ws τ) = (dp σ) - (ws σ) + 1) ∧ ((τ.1 117 5) = 0 → (qb τ) = -1) ∧ ((τ.1 117 87) + (τ.1 117 89) = (τ7.1 117 87) + (τ7.1 117 89))) (fun a τ => Int.toNat ((τ.1 117 89))) () τ7 ?_ ?_
    · skip
      exact ⟨g8, FR.rf, (by omega), (by omega), (by omega), (by omega), (by omega)⟩
    · rintro ⟨⟩ τ23 ⟨g24, f25, p26, p27, p28, p29, p30⟩ ih31
      have q32 := ws_nn (σ := τ23)
      have q33 : (τ23.1 117 5) = (τ7.1 117 5) := (FR.at f25 117 5 rfl)
      have b34 := GI.b g24 117 87 kd117 (lo := 0) (hi := 1690) rfl
      have b35 := GI.b g24 117 89 kd117 (lo := 0) (hi := 1690) rfl
      show WP 330 53 [(0, .ref 117), (1, iV (σ.1 117 91))] [] _ _ _ _
      show WP 330 53 [(0, .ref 117), (1, iV (σ.1 117 91))] [] _ _ _ _
      refine wp_al1 jF_330_53 rfl rfl (pc2 := 54) ?_
      refine wp_gi jF_330_54 kd117 (by decide) rfl (FR.at f25 117 5 rfl) rfl (pc2 := 57) ?_
      refine wp_z_ne jF_330_57 (m_rgb b20 rfl) rfl (pc2 := 60) ?_ ?_
      · intro h36
        clear p11
        clear p12
        clear p13
        clear p14
        clear p15
        clear p17
        clear p26
        clear p27
        clear p28
        clear p29
        refine wp_al1 jF_330_78 rfl rfl (pc2 := 79) ?_
        refine wp_il1 jF_330_79 rfl rfl (pc2 := 80) ?_
        refine wp_pi jF_330_80 kd117 (by decide) rfl rfl rfl (pc2 := 83) g24 (lo := 0) (hi := 1690) rfl (by omega) (by omega) ?_
        intro τ37 g38 f39 e40
        refine wp_rv jF_330_83 ?_
        have q41 : (dp τ37) = (dp τ23) := (dp_wr f39 (by decide))
        have q42 := ws_nn (σ := τ23)
        have q43 : (ws τ37) = (ws τ23) := (ws_wr f39 (by decide))
        have q44 : (tt τ37) = (tt τ23) := (tt_wr f39 (by decide))
        have q45 : (τ37.1 117 2) = (τ7.1 117 2) := ((FRw.nj f39 (by decide)).trans (FR.at f25 117 2 rfl))
        have q46 : (τ37.1 117 5) = (τ7.1 117 5) := ((FRw.nj f39 (by decide)).trans (FR.at f25 117 5 rfl))
        have q47 : (τ37.1 117 87) = (τ23.1 117 87) := (FRw.nj f39 (by decide))
        have q48 : (τ37.1 117 89) = (τ23.1 117 89) := (FRw.nj f39 (by decide))
        have q49 : (τ37.1 117 91) = (σ.1 117 91) := e40
        have q50 : (τ23.1 117 91) = (σ.1 117 89) := ((FR.at f25 117 91 rfl).trans ((FR.at f9 117 91 rfl).trans e6))
        exact ⟨rfl, g38, (FR.w (FR.up (FR.up (FR.w FR.rf f5 rfl) f9 sb_Wqp_Wqs) f25 sb_Wqd_Wqs) f39 rfl), (by omega), (by omega), (fun _ => by have e := wk_tt (σ := τ23) (by omega) (by omega); omega), (by omega), (by omega), (by omega), (by omega), (by omega)⟩
      · intro h36
        replace p11 := p11 (by omega)
        replace p12 := p12 (by omega)
        replace p13 := p13 (by omega)
        replace p14 := p14 (by omega)
        replace p15 := p15 (by omega)
        replace p17 := p17 (by omega)
        replace p26 := p26 (by omega)
        replace p27 := p27 (by omega)
        replace p28 := p28 (by omega)
        replace p29 := p29 (by omega)
        refine wp_al1 jF_330_60 rfl rfl (pc2 := 61) ?_
        refine wp_gi jF_330_61 kd117 (by decide) rfl rfl rfl (pc2 := 64) ?_
        refine wp_al1 jF_330_64 rfl rfl (pc2 := 65) ?_
        refine wp_gi jF_330_65 kd117 (by decide) rfl ((FR.at f25 117 91 rfl).trans ((FR.at f9 117 91 rfl).trans e6)) rfl (pc2 := 68) ?_
        refine wp_i_le jF_330_68 (m_rgb b35 rfl) (m_rgb b2 rfl) rfl (pc2 := 71) ?_ ?_
        · intro h51
          refine wp_al1 jF_330_78 rfl rfl (pc2 := 79) ?_
          refine wp_il1 jF_330_79 rfl rfl (pc2 := 80) ?_
          refine wp_pi jF_330_80 kd117 (by decide) rfl rfl rfl (pc2 := 83) g24 (lo := 0) (hi := 1690) rfl (by omega) (by omega) ?_
          intro τ52 g53 f54 e55
          refine wp_rv jF_330_83 ?_
          have q56 : (dp τ52) = (dp τ23) := (dp_wr f54 (by decide))
          have q57 := ws_nn (σ := τ23)
          have q58 : (ws τ52) = (ws τ23) := (ws_wr f54 (by decide))
          have q59 : (tt τ52) = (tt τ23) := (tt_wr f54 (by decide))
          have q60 : (τ52.1 117 2) = (τ7.1 117 2) := ((FRw.nj f54 (by decide)).trans (FR.at f25 117 2 rfl))
          have q61 : (τ52.1 117 5) = (τ7.1 117 5) := ((FRw.nj f54 (by decide)).trans (FR.at f25 117 5 rfl))
          have q62 : (τ52.1 117 87) = (τ23.1 117 87) := (FRw.nj f54 (by decide))
          have q63 : (τ52.1 117 89) = (τ23.1 117 89) := (FRw.nj f54 (by decide))
          have q64 : (τ52.1 117 91) = (σ.1 117 91) := e55
          have q65 : (τ23.1 117 91) = (σ.1 117 89) := ((FR.at f25 117 91 rfl).trans ((FR.at f9 117 91 rfl).trans e6))
          exact ⟨rfl, g53, (FR.w (FR.up (FR.up (FR.w FR.rf f5 rfl) f9 sb_Wqp_Wqs) f25 sb_Wqd_Wqs) f54 rfl), (by omega), (by omega), (fun _ => by have e := wk_tt (σ := τ23) (by omega) (by omega); omega), (by omega), (by omega), (by omega), (by omega), (by omega)⟩
        · intro h51
          have q66 : (τ23.1 117 91) = (σ.1 117 89) := ((FR.at f25 117 91 rfl).trans ((FR.at f9 117 91 rfl).trans e6))
          have n67 := @qbn τ23 (by omega) (by omega) (by omega)
          refine wp_al1 jF_330_71 rfl rfl (pc2 := 72) ?_
          refine wp_cV (as := []) (rest := []) (a := 117) (mx := 1) (ci := 12) jF_330_72 kd117 (by decide) rfl rfl rfl rfl rfl (by omega) (by omega) rfl (pc2 := 75) ?_
          refine wp_use (m_336_s τ23 g24  (by omega) (by omega) (by omega) (by omega) (by omega) (by omega) _ _ (by omega) (by omega)) ?_
          rintro _ τ73 ⟨rfl, g74, f75, p68, p69, p70, p71, p72⟩
          show WP 330 75 [(0, .ref 117), (1, iV (σ.1 117 91))] [] _ _ _ _
          refine wp_go jF_330_75 ?_
          have q76 := ws_nn (σ := τ73)
          have q77 : (τ73.1 117 5) = (τ7.1 117 5) := ((FR.at f75 117 5 rfl).trans (FR.at f25 117 5 rfl))
          have b78 := GI.b g74 117 87 kd117 (lo := 0) (hi := 1690) rfl
          have b79 := GI.b g74 117 89 kd117 (lo := 0) (hi := 1690) rfl
          exact ih31 () τ73 ⟨g74, (FR.up f25 f75 sb_Wqd_Wqd), (by omega), (by omega), (by omega), (by omega), (by omega)⟩ (by show Int.toNat ((τ73.1 117 89)) < Int.toNat ((τ23.1 117 89)); omega)
  · intro jn80
    refine wp_z_eq jF_330_16 (m_rgl rfl) rfl (pc2 := 19) ?_ ?_
    · intro h81; exfalso; omega
    · intro h81
      have n82 := bas f5 e6 (by omega) (by omega)
      refine wp_al1 jF_330_19 rfl rfl (pc2 := 20) ?_
      have b83 := GI.b hg 117 5 kd117 (lo := (-2147483648)) (hi := 2147483647) rfl
      refine wp_gi jF_330_20 kd117 (by decide) rfl (FRw.nj f5 (by decide)) rfl (pc2 := 23) ?_
      refine wp_z_ne jF_330_23 (m_rgb b83 rfl) rfl (pc2 := 26) ?_ ?_
      · intro h84
        have q85 : (dp τ3) = (dp σ) := (dp_wr f5 (by decide))
        have q86 := ws_nn (σ := σ)
        have q87 : (ws τ3) = (ws σ) := (ws_wr f5 (by decide))
        have b88 := GI.b hg 117 2 kd117 (lo := 0) (hi := 1601) rfl
        have q89 : (τ3.1 117 2) = (σ.1 117 2) := (FRw.nj f5 (by decide))
        have q90 : (τ3.1 117 5) = (σ.1 117 5) := (FRw.nj f5 (by decide))
        have b91 := GI.b hg 117 87 kd117 (lo := 0) (hi := 1690) rfl
        have q92 : (τ3.1 117 87) = (σ.1 117 87) := (FRw.nj f5 (by decide))
        have q93 : (τ3.1 117 89) = (σ.1 117 89) := (FRw.nj f5 (by decide))
        refine wp_less [0, 1] (lv2 := [(0, .ref 117), (1, iV (σ.1 117 91))]) rfl rfl ?_
        exact jn80 () τ3 ⟨g4, FR.rf, (by omega), (by omega), (by omega), (by omega), (by omega), (by omega), (by omega), (by omega)⟩
      · intro h84
        refine wp_loop (α := Int) (fun a => [(0, .ref 117), (1, iV (σ.1 117 91)), (2, iV (a))]) (fun a τ => (1 ≤ a ∧ a ≤ 1) ∧ GI τ ∧ FR Wqp τ3 τ ∧ ((σ.1 117 2) ≤ (τ.1 117 2)) ∧ ((τ.1 117 5) = 0) ∧ ((wk τ) = 1) ∧ ((σ.1 117 89) ≤ (τ.1 117 89)) ∧ ((dp τ) - (ws τ) = (dp σ) - (ws σ)) ∧ ((τ.1 117 87) + (τ.1 117 89) - (τ.1 117 2) ≤ (σ.1 117 87) + (σ.1 117 89) - (σ.1 117 2))) (fun a τ => Int.toNat (1700 - (τ.1 117 2))) (1) τ3 ?_ ?_
        · skip
          have q94 : (dp τ3) = (dp σ) := (dp_wr f5 (by decide))
          have q95 := ws_nn (σ := σ)
          have q96 : (ws τ3) = (ws σ) := (ws_wr f5 (by decide))
          have b97 := GI.b hg 117 2 kd117 (lo := 0) (hi := 1601) rfl
          have q98 : (τ3.1 117 2) = (σ.1 117 2) := (FRw.nj f5 (by decide))
          have q99 : (τ3.1 117 5) = (σ.1 117 5) := (FRw.nj f5 (by decide))
          have b100 := GI.b hg 117 87 kd117 (lo := 0) (hi := 1690) rfl
          have q101 : (τ3.1 117 87) = (σ.1 117 87) := (FRw.nj f5 (by decide))
          have q102 : (τ3.1 117 89) = (σ.1 117 89) := (FRw.nj f5 (by decide))
          exact ⟨⟨by omega, by omega⟩, g4, FR.rf, (by omega), (by omega), (by omega), (by omega), (by omega), (by omega)⟩
        · rintro x103 τ105 ⟨h104, g106, f107, p108, p109, p110, p111, p112, p113⟩ ih114
          have q115 := ws_nn (σ := τ105)
          have b116 := GI.b g106 117 2 kd117 (lo := 0) (hi := 1601) rfl
          have b117 := GI.b g106 117 5 kd117 (lo := (-2147483648)) (hi := 2147483647) rfl
          have b118 := GI.b g106 117 87 kd117 (lo := 0) (hi := 1690) rfl
          have b119 := GI.b g106 117 89 kd117 (lo := 0) (hi := 1690) rfl
          show WP 330 26 [(0, .ref 117), (1, iV (σ.1 117 91)), (2, iV x103)] [] _ _ _ _
          show WP 330 26 [(0, .ref 117), (1, iV (σ.1 117 91)), (2, iV x103)] [] _ _ _ _
          refine wp_al1 jF_330_26 rfl rfl (pc2 := 27) ?_
          refine wp_cV (as := []) (rest := []) (a := 117) (mx := 6) (ci := 12) jF_330_27 kd117 (by decide) rfl rfl rfl rfl rfl (by omega) (by omega) rfl (pc2 := 30) ?_
          have q120 : (τ105.1 117 91) = (σ.1 117 89) := ((FR.at f107 117 91 rfl).trans e6)
          refine wp_use (m_331 τ105 g106  (by omega) (by omega) (by omega) (by omega) (by omega) _ _ (by omega) (by omega)) ?_
          rintro _ τ128 ⟨rfl, g129, f130, p121, p122, p123, p124, p125, p126, p127⟩
          show WP 330 30 [(0, .ref 117), (1, iV (σ.1 117 91)), (2, iV x103)] [] _ _ _ _
          refine wp_al1 jF_330_30 rfl rfl (pc2 := 31) ?_
          have b131 := GI.b g129 117 5 kd117 (lo := (-2147483648)) (hi := 2147483647) rfl
          refine wp_gi jF_330_31 kd117 (by decide) rfl rfl rfl (pc2 := 34) ?_
          refine wp_z_ne jF_330_34 (m_rgb b131 rfl) rfl (pc2 := 37) ?_ ?_
          · intro h132
            clear p122
            clear p123
            clear p124
            clear p125
            clear p126
            refine wp_ic jF_330_48 rfl (pc2 := 49) ?_
            refine wp_is1 (lv2 := [(0, .ref 117), (1, iV (σ.1 117 91)), (2, iV 0)]) jF_330_49 rfl rfl rfl (pc2 := 50) ?_
            refine wp_go jF_330_50 ?_
            refine wp_il1 jF_330_15 rfl rfl (pc2 := 16) ?_
            refine wp_z_eq jF_330_16 (m_rgl rfl) rfl (pc2 := 19) ?_ ?_
            · intro h133
              have q134 := ws_nn (σ := τ128)
              have b135 := GI.b g129 117 2 kd117 (lo := 0) (hi := 1601) rfl
              have b136 := GI.b g129 117 87 kd117 (lo := 0) (hi := 1690) rfl
              have b137 := GI.b g129 117 89 kd117 (lo := 0) (hi := 1690) rfl
              refine wp_less [0, 1] (lv2 := [(0, .ref 117), (1, iV (σ.1 117 91))]) rfl rfl ?_
              exact jn80 () τ128 ⟨g129, (FR.up f107 f130 sb_Wqp_Wqp), (by omega), (by omega), (by omega), (by omega), (by omega), (by omega), (by omega), (by omega)⟩
            · intro h133; exfalso; omega
          · intro h132
            replace p122 := p122 (by omega)
            replace p123 := p123 (by omega)
            replace p124 := p124 (by omega)
            replace p125 := p125 (by omega)
            replace p126 := p126 (by omega)
            refine wp_al1 jF_330_37 rfl rfl (pc2 := 38) ?_
            refine wp_cV (as := []) (rest := []) (a := 117) (mx := 2) (ci := 12) jF_330_38 kd117 (by decide) rfl rfl rfl rfl rfl (by omega) (by omega) rfl (pc2 := 41) ?_
            have q138 := ws_nn (σ := τ128)
            have b139 := GI.b g129 117 2 kd117 (lo := 0) (hi := 1601) rfl
            have b140 := GI.b g129 117 87 kd117 (lo := 0) (hi := 1690) rfl
            have b141 := GI.b g129 117 89 kd117 (lo := 0) (hi := 1690) rfl
            have q142 : (τ128.1 117 91) = (σ.1 117 89) := ((FR.at f130 117 91 rfl).trans ((FR.at f107 117 91 rfl).trans e6))
            refine wp_use (m_337 τ128 g129  (by omega) (by omega) (by omega) (by omega) (by omega) _ _ (by omega) (by omega)) ?_
            rintro _ τ147 ⟨z150, rfl, h151, g148, f149, p143, p144, p145, p146⟩
            show WP 330 41 [(0, .ref 117), (1, iV (σ.1 117 91)), (2, iV x103)] [iV z150] _ _ _ _
            refine wp_z_eq jF_330_41 (m_rgb h151 rfl) rfl (pc2 := 44) ?_ ?_
            · intro h152
              clear p144
              replace p145 := p145 (by omega)
              refine wp_ic jF_330_48 rfl (pc2 := 49) ?_
              refine wp_is1 (lv2 := [(0, .ref 117), (1, iV (σ.1 117 91)), (2, iV 0)]) jF_330_49 rfl rfl rfl (pc2 := 50) ?_
              refine wp_go jF_330_50 ?_
              refine wp_il1 jF_330_15 rfl rfl (pc2 := 16) ?_
              refine wp_z_eq jF_330_16 (m_rgl rfl) rfl (pc2 := 19) ?_ ?_
              · intro h153
                have q154 := ws_nn (σ := τ147)
                have b155 := GI.b g148 117 2 kd117 (lo := 0) (hi := 1601) rfl
                have b156 := GI.b g148 117 5 kd117 (lo := (-2147483648)) (hi := 2147483647) rfl
                have b157 := GI.b g148 117 87 kd117 (lo := 0) (hi := 1690) rfl
                have b158 := GI.b g148 117 89 kd117 (lo := 0) (hi := 1690) rfl
                refine wp_less [0, 1] (lv2 := [(0, .ref 117), (1, iV (σ.1 117 91))]) rfl rfl ?_
                exact jn80 () τ147 ⟨g148, (FR.up (FR.up f107 f130 sb_Wqp_Wqp) f149 sb_Wqp_Wqp), (by omega), (by omega), (by omega), (by omega), (by omega), (by omega), (by omega), (by omega)⟩
              · intro h153; exfalso; omega
            · intro h152
              replace p144 := p144 (by omega)
              clear p145
              refine wp_ic jF_330_44 rfl (pc2 := 45) ?_
              refine wp_go jF_330_45 ?_
              refine wp_is1 (lv2 := [(0, .ref 117), (1, iV (σ.1 117 91)), (2, iV 1)]) jF_330_49 rfl rfl rfl (pc2 := 50) ?_
              refine wp_go jF_330_50 ?_
              refine wp_il1 jF_330_15 rfl rfl (pc2 := 16) ?_
              refine wp_z_eq jF_330_16 (m_rgl rfl) rfl (pc2 := 19) ?_ ?_
              · intro h159; exfalso; omega
              · intro h159
                refine wp_al1 jF_330_19 rfl rfl (pc2 := 20) ?_
                have b160 := GI.b g148 117 5 kd117 (lo := (-2147483648)) (hi := 2147483647) rfl
                refine wp_gi jF_330_20 kd117 (by decide) rfl rfl rfl (pc2 := 23) ?_
                refine wp_z_ne jF_330_23 (m_rgb b160 rfl) rfl (pc2 := 26) ?_ ?_
                · intro h161
                  have q162 := ws_nn (σ := τ147)
                  have b163 := GI.b g148 117 2 kd117 (lo := 0) (hi := 1601) rfl
                  have b164 := GI.b g148 117 87 kd117 (lo := 0) (hi := 1690) rfl
                  have b165 := GI.b g148 117 89 kd117 (lo := 0) (hi := 1690) rfl
                  refine wp_less [0, 1] (lv2 := [(0, .ref 117), (1, iV (σ.1 117 91))]) rfl rfl ?_
                  exact jn80 () τ147 ⟨g148, (FR.up (FR.up f107 f130 sb_Wqp_Wqp) f149 sb_Wqp_Wqp), (by omega), (by omega), (by omega), (by omega), (by omega), (by omega), (by omega), (by omega)⟩
                · intro h161
                  have q166 := ws_nn (σ := τ147)
                  have b167 := GI.b g148 117 2 kd117 (lo := 0) (hi := 1601) rfl
                  have b168 := GI.b g148 117 87 kd117 (lo := 0) (hi := 1690) rfl
                  have b169 := GI.b g148 117 89 kd117 (lo := 0) (hi := 1690) rfl
                  exact ih114 (1) τ147 ⟨⟨by omega, by omega⟩, g148, (FR.up (FR.up f107 f130 sb_Wqp_Wqp) f149 sb_Wqp_Wqp), (by omega), (by omega), (by omega), (by omega), (by omega), (by omega)⟩ (by show Int.toNat (1700 - (τ147.1 117 2)) < Int.toNat (1700 - (τ105.1 117 2)); omega)
set_option maxHeartbeats 4000000 in
set_option maxRecDepth 20000 in
/-- M.qFact -/
theorem m_328 (σ : jM) (hg : GI σ)  (pre0 : (σ.1 117 5) = 0) (pre1 : (tt σ) = 1) (pre2 : (ws σ) ≤ (dp σ)) (pre3 : (σ.1 117 87) + (σ.1 117 89) ≤ (σ.1 117 2)) (fr lo : Nat) (hfr : 7 ≤ fr) (hlo : 153 ≤ lo) : WP 328 0 (lv_args 0 [.ref 117]) [] fr lo σ (fun v τ => v = none ∧ GI τ ∧ FR Wqs σ τ ∧ ((σ.1 117 2) ≤ (τ.1 117 2)) ∧ ((τ.1 117 91) = (σ.1 117 91)) ∧ ((τ.1 117 5) = 0 → (tt τ) = 1) ∧ ((τ.1 117 5) = 0 → (τ.1 117 89) = (σ.1 117 89)) ∧ ((τ.1 117 5) = 0 → (dp τ) - (ws τ) = (dp σ) - (ws σ) + 1) ∧ ((τ.1 117 5) = 0 → (τ.1 117 87) + (τ.1 117 89) - (τ.1 117 2) ≤ (σ.1 117 87) + (σ.1 117 89) - (σ.1 117 2)) ∧ ((τ.1 117 5) = 0 → (σ.1 117 2) < (τ.1 117 2)) ∧ ((τ.1 117 87) + (τ.1 117 89) ≤ (τ.1 117 2) + 2)) := by
  show WP 328 0 [(0, .ref 117)] [] _ _ _ _
  refine wp_al1 jF_328_0 rfl rfl (pc2 := 1) ?_
  refine wp_al1 jF_328_1 rfl rfl (pc2 := 2) ?_
  refine wp_gr (b := 166) jF_328_2 kd117 (by decide) (c := 266) rfl rfl rfl (pc2 := 5) ?_
  refine wp_cV (as := [.ref 166]) (rest := []) (a := 117) (mx := 2) (ci := 12) jF_328_5 kd117 (by decide) rfl rfl rfl rfl rfl (by omega) (by omega) rfl (pc2 := 8) ?_
  have b1 := GI.b hg 117 2 kd117 (lo := 0) (hi := 1601) rfl
  have b2 := GI.b hg 117 3 kd117 (lo := 0) (hi := 1600) rfl
  have b3 := GI.b hg 117 5 kd117 (lo := (-2147483648)) (hi := 2147483647) rfl
  refine wp_use (m_219 σ hg 166 3 cw166.1 cw166.2 (by decide)  _ _ (by omega) (by omega)) ?_
  rintro _ τ8 ⟨z11, rfl, h12, g9, f10, p4, p5, p6, p7⟩
  show WP 328 8 [(0, .ref 117)] [iV z11] _ _ _ _
  refine wp_z_eq jF_328_8 (m_rgb h12 rfl) rfl (pc2 := 11) ?_ ?_
  · intro h13
    clear p5
    refine wp_al1 jF_328_18 rfl rfl (pc2 := 19) ?_
    refine wp_cV (as := []) (rest := []) (a := 117) (mx := 3) (ci := 12) jF_328_19 kd117 (by decide) rfl rfl rfl rfl rfl (by omega) (by omega) rfl (pc2 := 22) ?_
    have q14 : (dp τ8) = (dp σ) := (dp_fr f10 (fun _ => rfl) rfl)
    have q15 := ws_nn (σ := σ)
    have q16 : (ws τ8) = (ws σ) := (ws_fr f10 (fun _ => rfl) rfl)
    have q17 : (tt τ8) = (tt σ) := (tt_fr f10 (fun _ => rfl) rfl)
    have b18 := GI.b g9 117 2 kd117 (lo := 0) (hi := 1601) rfl
    have q19 : (τ8.1 117 5) = (σ.1 117 5) := (FR.at f10 117 5 rfl)
    have b20 := GI.b hg 117 87 kd117 (lo := 0) (hi := 1690) rfl
    have q21 : (τ8.1 117 87) = (σ.1 117 87) := (FR.at f10 117 87 rfl)
    have b22 := GI.b hg 117 89 kd117 (lo := 0) (hi := 1690) rfl
    have q23 : (τ8.1 117 89) = (σ.1 117 89) := (FR.at f10 117 89 rfl)
    have b24 := GI.b hg 117 91 kd117 (lo := 0) (hi := 1690) rfl
    have q25 : (τ8.1 117 91) = (σ.1 117 91) := (FR.at f10 117 91 rfl)
    refine wp_use (m_330 τ8 g9  (by omega) (by omega) (by omega) (by omega) _ _ (by omega) (by omega)) ?_
    rintro _ τ34 ⟨rfl, g35, f36, p26, p27, p28, p29, p30, p31, p32, p33⟩
    show WP 328 22 [(0, .ref 117)] [] _ _ _ _
    refine wp_al1 jF_328_22 rfl rfl (pc2 := 23) ?_
    have b37 := GI.b g35 117 5 kd117 (lo := (-2147483648)) (hi := 2147483647) rfl
    refine wp_gi jF_328_23 kd117 (by decide) rfl rfl rfl (pc2 := 26) ?_
    refine wp_z_eq jF_328_26 (m_rgb b37 rfl) rfl (pc2 := 29) ?_ ?_
    · intro h38
      replace p28 := p28 (by omega)
      replace p29 := p29 (by omega)
      replace p30 := p30 (by omega)
      replace p31 := p31 (by omega)
      replace p32 := p32 (by omega)
      refine wp_al1 jF_328_30 rfl rfl (pc2 := 31) ?_
      refine wp_cV (as := []) (rest := []) (a := 117) (mx := 1) (ci := 12) jF_328_31 kd117 (by decide) rfl rfl rfl rfl rfl (by omega) (by omega) rfl (pc2 := 34) ?_
      have b39 := GI.b g35 117 2 kd117 (lo := 0) (hi := 1601) rfl
      have q40 : (τ34.1 117 3) = (σ.1 117 3) := ((FR.at f36 117 3 rfl).trans (FR.at f10 117 3 rfl))
      refine wp_use (m_216 τ34 g35   _ _ (by omega) (by omega)) ?_
      rintro _ τ47 ⟨z50, rfl, h51, g48, f49, p41, p42, p43, p44, p45, p46⟩
      have b52 := GI.b hg 118 (τ47.1 117 2).toNat kd118 (lo := 0) (hi := 255) rfl
      have q53 : (τ34.1 118 (τ47.1 117 2).toNat) = (σ.1 118 (τ47.1 117 2).toNat) := ((FR.at f36 118 (τ47.1 117 2).toNat rfl).trans (FR.at f10 118 (τ47.1 117 2).toNat rfl))
      show WP 328 34 [(0, .ref 117)] [iV z50] _ _ _ _
      refine wp_is1 (lv2 := [(0, .ref 117), (1, iV z50)]) jF_328_34 rfl rfl rfl (pc2 := 35) ?_
      refine wp_il1 jF_328_35 rfl rfl (pc2 := 36) ?_
      refine wp_bi jF_328_36 (by decide) rfl (pc2 := 38) ?_
      refine wp_i_eq jF_328_38 (m_rgb h51 rfl) (m_rgl rfl) rfl (pc2 := 41) ?_ ?_
      · intro h54
        replace p41 := p41 (by omega)
        replace p46 := p46 (by omega)
        refine wp_al1 jF_328_63 rfl rfl (pc2 := 64) ?_
        refine wp_dup jF_328_64 rfl rfl (pc2 := 65) ?_
        have b55 := GI.b g48 117 2 kd117 (lo := 0) (hi := 1601) rfl
        refine wp_gi jF_328_65 kd117 (by decide) rfl rfl rfl (pc2 := 68) ?_
        refine wp_ic jF_328_68 rfl (pc2 := 69) ?_
        refine wp_add jF_328_69 rfl (pc2 := 70) ?_
        refine wp_pi jF_328_70 kd117 (by decide) rfl rfl rfl (pc2 := 73) g48 (lo := 0) (hi := 1601) rfl (by omega) (by omega) ?_
        intro τ56 g57 f58 e59
        refine wp_al1 jF_328_73 rfl rfl (pc2 := 74) ?_
        refine wp_cV (as := []) (rest := []) (a := 117) (mx := 3) (ci := 12) jF_328_74 kd117 (by decide) rfl rfl rfl rfl rfl (by omega) (by omega) rfl (pc2 := 77) ?_
        have q60 : (dp τ56) = (dp τ34) := ((dp_wr f58 (by decide)).trans (dp_fr f49 (fun _ => rfl) rfl))
        have q61 := ws_nn (σ := τ34)
        have q62 : (ws τ56) = (ws τ34) := ((ws_wr f58 (by decide)).trans (ws_fr f49 (fun _ => rfl) rfl))
        have q63 : (tt τ56) = (tt τ34) := ((tt_wr f58 (by decide)).trans (tt_fr f49 (fun _ => rfl) rfl))
        have q64 : (τ56.1 117 2) = ((τ47.1 117 2) + 1) := e59
        have q65 : (τ56.1 117 5) = (τ34.1 117 5) := ((FRw.nj f58 (by decide)).trans (FR.at f49 117 5 rfl))
        have b66 := GI.b g35 117 87 kd117 (lo := 0) (hi := 1690) rfl
        have q67 : (τ56.1 117 87) = (τ34.1 117 87) := ((FRw.nj f58 (by decide)).trans (FR.at f49 117 87 rfl))
        have b68 := GI.b g35 117 89 kd117 (lo := 0) (hi := 1690) rfl
        have q69 : (τ56.1 117 89) = (τ34.1 117 89) := ((FRw.nj f58 (by decide)).trans (FR.at f49 117 89 rfl))
        have b70 := GI.b g35 117 91 kd117 (lo := 0) (hi := 1690) rfl
        have q71 : (τ56.1 117 91) = (τ34.1 117 91) := ((FRw.nj f58 (by decide)).trans (FR.at f49 117 91 rfl))
        refine wp_use (m_330 τ56 g57  (by omega) (by omega) (by omega) (by omega) _ _ (by omega) (by omega)) ?_
        rintro _ τ80 ⟨rfl, g81, f82, p72, p73, p74, p75, p76, p77, p78, p79⟩
        show WP 328 77 [(0, .ref 117), (1, iV z50)] [] _ _ _ _
        have q83 := ws_nn (σ := τ80)
        have b84 := GI.b g81 117 2 kd117 (lo := 0) (hi := 1601) rfl
        have b85 := GI.b g81 117 87 kd117 (lo := 0) (hi := 1690) rfl
        have b86 := GI.b g81 117 89 kd117 (lo := 0) (hi := 1690) rfl
        refine wp_al1 jF_328_77 rfl rfl (pc2 := 78) ?_
        refine wp_il1 jF_328_78 rfl rfl (pc2 := 79) ?_
        refine wp_bi jF_328_79 (by decide) rfl (pc2 := 81) ?_
        refine wp_i_ne jF_328_81 ⟨by omega, by omega⟩ (m_rgl rfl) rfl (pc2 := 84) ?_ ?_
        · intro h87; exfalso; omega
        · intro h87
          refine wp_bi jF_328_84 (by decide) rfl (pc2 := 86) ?_
          refine wp_go jF_328_86 ?_
          refine wp_cV (as := [iV 7]) (rest := []) (a := 117) (mx := 2) (ci := 12) jF_328_102 kd117 (by decide) rfl rfl rfl rfl rfl (by omega) (by omega) rfl (pc2 := 105) ?_
          have b88 := GI.b g81 117 5 kd117 (lo := (-2147483648)) (hi := 2147483647) rfl
          refine wp_use (m_329_b τ80 g81 7 (by omega) (by omega) (by omega) (by omega) (by omega) _ _ (by omega) (by omega)) ?_
          rintro _ τ91 ⟨rfl, g92, f93, p89, p90⟩
          show WP 328 105 [(0, .ref 117), (1, iV z50)] [] _ _ _ _
          refine wp_rv jF_328_105 ?_
          have q94 := ws_nn (σ := τ80)
          have q95 : (ws τ91) = (ws τ80) := (ws_fr f93 (fun _ => rfl) rfl)
          have q96 : (tt τ91) = (tt τ80) := (tt_fr f93 (fun _ => rfl) rfl)
          have q97 : (τ91.1 117 2) = (τ80.1 117 2) := (FR.at f93 117 2 rfl)
          have q98 : (τ91.1 117 5) = (τ80.1 117 5) := (FR.at f93 117 5 rfl)
          have b99 := GI.b g92 117 87 kd117 (lo := 0) (hi := 1690) rfl
          have q100 : (τ91.1 117 89) = (τ80.1 117 89) := (FR.at f93 117 89 rfl)
          have b101 := GI.b g81 117 91 kd117 (lo := 0) (hi := 1690) rfl
          have q102 : (τ91.1 117 91) = (τ80.1 117 91) := (FR.at f93 117 91 rfl)
          exact ⟨rfl, g92, (FR.up (FR.up (FR.w (FR.up (FR.up (FR.up FR.rf f10 sb_Wtak_Wqs) f36 sb_Wqs_Wqs) f49 sb_Wat_Wqs) f58 rfl) f82 sb_Wqs_Wqs) f93 sb_Wqc_Wqs), (by omega), (by omega), (by omega), (by omega), (by omega), (by omega), (by omega), (by omega)⟩
      · intro h54
        refine wp_il1 jF_328_41 rfl rfl (pc2 := 42) ?_
        refine wp_bi jF_328_42 (by decide) rfl (pc2 := 44) ?_
        refine wp_i_eq jF_328_44 (m_rgb h51 rfl) (m_rgl rfl) rfl (pc2 := 47) ?_ ?_
        · intro h103
          replace p41 := p41 (by omega)
          replace p46 := p46 (by omega)
          refine wp_al1 jF_328_63 rfl rfl (pc2 := 64) ?_
          refine wp_dup jF_328_64 rfl rfl (pc2 := 65) ?_
          have b104 := GI.b g48 117 2 kd117 (lo := 0) (hi := 1601) rfl
          refine wp_gi jF_328_65 kd117 (by decide) rfl rfl rfl (pc2 := 68) ?_
          refine wp_ic jF_328_68 rfl (pc2 := 69) ?_
          refine wp_add jF_328_69 rfl (pc2 := 70) ?_
          refine wp_pi jF_328_70 kd117 (by decide) rfl rfl rfl (pc2 := 73) g48 (lo := 0) (hi := 1601) rfl (by omega) (by omega) ?_
          intro τ105 g106 f107 e108
          refine wp_al1 jF_328_73 rfl rfl (pc2 := 74) ?_
          refine wp_cV (as := []) (rest := []) (a := 117) (mx := 3) (ci := 12) jF_328_74 kd117 (by decide) rfl rfl rfl rfl rfl (by omega) (by omega) rfl (pc2 := 77) ?_
          have q109 : (dp τ105) = (dp τ34) := ((dp_wr f107 (by decide)).trans (dp_fr f49 (fun _ => rfl) rfl))
          have q110 := ws_nn (σ := τ34)
          have q111 : (ws τ105) = (ws τ34) := ((ws_wr f107 (by decide)).trans (ws_fr f49 (fun _ => rfl) rfl))
          have q112 : (tt τ105) = (tt τ34) := ((tt_wr f107 (by decide)).trans (tt_fr f49 (fun _ => rfl) rfl))
          have q113 : (τ105.1 117 2) = ((τ47.1 117 2) + 1) := e108
          have q114 : (τ105.1 117 5) = (τ34.1 117 5) := ((FRw.nj f107 (by decide)).trans (FR.at f49 117 5 rfl))
          have b115 := GI.b g35 117 87 kd117 (lo := 0) (hi := 1690) rfl
          have q116 : (τ105.1 117 87) = (τ34.1 117 87) := ((FRw.nj f107 (by decide)).trans (FR.at f49 117 87 rfl))
          have b117 := GI.b g35 117 89 kd117 (lo := 0) (hi := 1690) rfl
          have q118 : (τ105.1 117 89) = (τ34.1 117 89) := ((FRw.nj f107 (by decide)).trans (FR.at f49 117 89 rfl))
          have b119 := GI.b g35 117 91 kd117 (lo := 0) (hi := 1690) rfl
          have q120 : (τ105.1 117 91) = (τ34.1 117 91) := ((FRw.nj f107 (by decide)).trans (FR.at f49 117 91 rfl))
          refine wp_use (m_330 τ105 g106  (by omega) (by omega) (by omega) (by omega) _ _ (by omega) (by omega)) ?_
          rintro _ τ129 ⟨rfl, g130, f131, p121, p122, p123, p124, p125, p126, p127, p128⟩
          show WP 328 77 [(0, .ref 117), (1, iV z50)] [] _ _ _ _
          have q132 := ws_nn (σ := τ129)
          have b133 := GI.b g130 117 2 kd117 (lo := 0) (hi := 1601) rfl
          have b134 := GI.b g130 117 87 kd117 (lo := 0) (hi := 1690) rfl
          have b135 := GI.b g130 117 89 kd117 (lo := 0) (hi := 1690) rfl
          refine wp_al1 jF_328_77 rfl rfl (pc2 := 78) ?_
          refine wp_il1 jF_328_78 rfl rfl (pc2 := 79) ?_
          refine wp_bi jF_328_79 (by decide) rfl (pc2 := 81) ?_
          refine wp_i_ne jF_328_81 ⟨by omega, by omega⟩ (m_rgl rfl) rfl (pc2 := 84) ?_ ?_
          · intro h136
            refine wp_il1 jF_328_89 rfl rfl (pc2 := 90) ?_
            refine wp_bi jF_328_90 (by decide) rfl (pc2 := 92) ?_
            refine wp_i_ne jF_328_92 ⟨by omega, by omega⟩ (m_rgl rfl) rfl (pc2 := 95) ?_ ?_
            · intro h137; exfalso; omega
            · intro h137
              refine wp_bi jF_328_95 (by decide) rfl (pc2 := 97) ?_
              refine wp_go jF_328_97 ?_
              refine wp_cV (as := [iV 8]) (rest := []) (a := 117) (mx := 2) (ci := 12) jF_328_102 kd117 (by decide) rfl rfl rfl rfl rfl (by omega) (by omega) rfl (pc2 := 105) ?_
              have b138 := GI.b g130 117 5 kd117 (lo := (-2147483648)) (hi := 2147483647) rfl
              refine wp_use (m_329_b τ129 g130 8 (by omega) (by omega) (by omega) (by omega) (by omega) _ _ (by omega) (by omega)) ?_
              rintro _ τ141 ⟨rfl, g142, f143, p139, p140⟩
              show WP 328 105 [(0, .ref 117), (1, iV z50)] [] _ _ _ _
              refine wp_rv jF_328_105 ?_
              have q144 := ws_nn (σ := τ129)
              have q145 : (ws τ141) = (ws τ129) := (ws_fr f143 (fun _ => rfl) rfl)
              have q146 : (tt τ141) = (tt τ129) := (tt_fr f143 (fun _ => rfl) rfl)
              have q147 : (τ141.1 117 2) = (τ129.1 117 2) := (FR.at f143 117 2 rfl)
              have q148 : (τ141.1 117 5) = (τ129.1 117 5) := (FR.at f143 117 5 rfl)
              have b149 := GI.b g142 117 87 kd117 (lo := 0) (hi := 1690) rfl
              have q150 : (τ141.1 117 89) = (τ129.1 117 89) := (FR.at f143 117 89 rfl)
              have b151 := GI.b g130 117 91 kd117 (lo := 0) (hi := 1690) rfl
              have q152 : (τ141.1 117 91) = (τ129.1 117 91) := (FR.at f143 117 91 rfl)
              exact ⟨rfl, g142, (FR.up (FR.up (FR.w (FR.up (FR.up (FR.up FR.rf f10 sb_Wtak_Wqs) f36 sb_Wqs_Wqs) f49 sb_Wat_Wqs) f107 rfl) f131 sb_Wqs_Wqs) f143 sb_Wqc_Wqs), (by omega), (by omega), (by omega), (by omega), (by omega), (by omega), (by omega), (by omega)⟩
          · intro h136; exfalso; omega
        · intro h103
          refine wp_il1 jF_328_47 rfl rfl (pc2 := 48) ?_
          refine wp_bi jF_328_48 (by decide) rfl (pc2 := 50) ?_
          refine wp_i_eq jF_328_50 (m_rgb h51 rfl) (m_rgl rfl) rfl (pc2 := 53) ?_ ?_
          · intro h153
            replace p41 := p41 (by omega)
            replace p46 := p46 (by omega)
            refine wp_al1 jF_328_63 rfl rfl (pc2 := 64) ?_
            refine wp_dup jF_328_64 rfl rfl (pc2 := 65) ?_
            have b154 := GI.b g48 117 2 kd117 (lo := 0) (hi := 1601) rfl
            refine wp_gi jF_328_65 kd117 (by decide) rfl rfl rfl (pc2 := 68) ?_
            refine wp_ic jF_328_68 rfl (pc2 := 69) ?_
            refine wp_add jF_328_69 rfl (pc2 := 70) ?_
            refine wp_pi jF_328_70 kd117 (by decide) rfl rfl rfl (pc2 := 73) g48 (lo := 0) (hi := 1601) rfl (by omega) (by omega) ?_
            intro τ155 g156 f157 e158
            refine wp_al1 jF_328_73 rfl rfl (pc2 := 74) ?_
            refine wp_cV (as := []) (rest := []) (a := 117) (mx := 3) (ci := 12) jF_328_74 kd117 (by decide) rfl rfl rfl rfl rfl (by omega) (by omega) rfl (pc2 := 77) ?_
            have q159 : (dp τ155) = (dp τ34) := ((dp_wr f157 (by decide)).trans (dp_fr f49 (fun _ => rfl) rfl))
            have q160 := ws_nn (σ := τ34)
            have q161 : (ws τ155) = (ws τ34) := ((ws_wr f157 (by decide)).trans (ws_fr f49 (fun _ => rfl) rfl))
            have q162 : (tt τ155) = (tt τ34) := ((tt_wr f157 (by decide)).trans (tt_fr f49 (fun _ => rfl) rfl))
            have q163 : (τ155.1 117 2) = ((τ47.1 117 2) + 1) := e158
            have q164 : (τ155.1 117 5) = (τ34.1 117 5) := ((FRw.nj f157 (by decide)).trans (FR.at f49 117 5 rfl))
            have b165 := GI.b g35 117 87 kd117 (lo := 0) (hi := 1690) rfl
            have q166 : (τ155.1 117 87) = (τ34.1 117 87) := ((FRw.nj f157 (by decide)).trans (FR.at f49 117 87 rfl))
            have b167 := GI.b g35 117 89 kd117 (lo := 0) (hi := 1690) rfl
            have q168 : (τ155.1 117 89) = (τ34.1 117 89) := ((FRw.nj f157 (by decide)).trans (FR.at f49 117 89 rfl))
            have b169 := GI.b g35 117 91 kd117 (lo := 0) (hi := 1690) rfl
            have q170 : (τ155.1 117 91) = (τ34.1 117 91) := ((FRw.nj f157 (by decide)).trans (FR.at f49 117 91 rfl))
            refine wp_use (m_330 τ155 g156  (by omega) (by omega) (by omega) (by omega) _ _ (by omega) (by omega)) ?_
            rintro _ τ179 ⟨rfl, g180, f181, p171, p172, p173, p174, p175, p176, p177, p178⟩
            show WP 328 77 [(0, .ref 117), (1, iV z50)] [] _ _ _ _
            have q182 := ws_nn (σ := τ179)
            have b183 := GI.b g180 117 2 kd117 (lo := 0) (hi := 1601) rfl
            have b184 := GI.b g180 117 87 kd117 (lo := 0) (hi := 1690) rfl
            have b185 := GI.b g180 117 89 kd117 (lo := 0) (hi := 1690) rfl
            refine wp_al1 jF_328_77 rfl rfl (pc2 := 78) ?_
            refine wp_il1 jF_328_78 rfl rfl (pc2 := 79) ?_
            refine wp_bi jF_328_79 (by decide) rfl (pc2 := 81) ?_
            refine wp_i_ne jF_328_81 ⟨by omega, by omega⟩ (m_rgl rfl) rfl (pc2 := 84) ?_ ?_
            · intro h186
              refine wp_il1 jF_328_89 rfl rfl (pc2 := 90) ?_
              refine wp_bi jF_328_90 (by decide) rfl (pc2 := 92) ?_
              refine wp_i_ne jF_328_92 ⟨by omega, by omega⟩ (m_rgl rfl) rfl (pc2 := 95) ?_ ?_
              · intro h187
                refine wp_bi jF_328_100 (by decide) rfl (pc2 := 102) ?_
                refine wp_cV (as := [iV 9]) (rest := []) (a := 117) (mx := 2) (ci := 12) jF_328_102 kd117 (by decide) rfl rfl rfl rfl rfl (by omega) (by omega) rfl (pc2 := 105) ?_
                have b188 := GI.b g180 117 5 kd117 (lo := (-2147483648)) (hi := 2147483647) rfl
                refine wp_use (m_329_b τ179 g180 9 (by omega) (by omega) (by omega) (by omega) (by omega) _ _ (by omega) (by omega)) ?_
                rintro _ τ191 ⟨rfl, g192, f193, p189, p190⟩
                show WP 328 105 [(0, .ref 117), (1, iV z50)] [] _ _ _ _
                refine wp_rv jF_328_105 ?_
                have q194 := ws_nn (σ := τ179)
                have q195 : (ws τ191) = (ws τ179) := (ws_fr f193 (fun _ => rfl) rfl)
                have q196 : (tt τ191) = (tt τ179) := (tt_fr f193 (fun _ => rfl) rfl)
                have q197 : (τ191.1 117 2) = (τ179.1 117 2) := (FR.at f193 117 2 rfl)
                have q198 : (τ191.1 117 5) = (τ179.1 117 5) := (FR.at f193 117 5 rfl)
                have b199 := GI.b g192 117 87 kd117 (lo := 0) (hi := 1690) rfl
                have q200 : (τ191.1 117 89) = (τ179.1 117 89) := (FR.at f193 117 89 rfl)
                have b201 := GI.b g180 117 91 kd117 (lo := 0) (hi := 1690) rfl
                have q202 : (τ191.1 117 91) = (τ179.1 117 91) := (FR.at f193 117 91 rfl)
                exact ⟨rfl, g192, (FR.up (FR.up (FR.w (FR.up (FR.up (FR.up FR.rf f10 sb_Wtak_Wqs) f36 sb_Wqs_Wqs) f49 sb_Wat_Wqs) f157 rfl) f181 sb_Wqs_Wqs) f193 sb_Wqc_Wqs), (by omega), (by omega), (by omega), (by omega), (by omega), (by omega), (by omega), (by omega)⟩
              · intro h187; exfalso; omega
            · intro h186; exfalso; omega
          · intro h153
            refine wp_al1 jF_328_53 rfl rfl (pc2 := 54) ?_
            refine wp_ic jF_328_54 rfl (pc2 := 55) ?_
            refine wp_al1 jF_328_55 rfl rfl (pc2 := 56) ?_
            have b203 := GI.b g48 117 2 kd117 (lo := 0) (hi := 1601) rfl
            refine wp_gi jF_328_56 kd117 (by decide) rfl rfl rfl (pc2 := 59) ?_
            refine wp_cV (as := [iV 1, iV (τ47.1 117 2)]) (rest := []) (a := 117) (mx := 3) (ci := 12) jF_328_59 kd117 (by decide) rfl rfl rfl rfl rfl (by omega) (by omega) rfl (pc2 := 62) ?_
            have q204 : (τ47.1 117 5) = (τ34.1 117 5) := (FR.at f49 117 5 rfl)
            refine wp_use (m_218 τ47 g48 1 (by omega) (by omega) (τ47.1 117 2) (by omega) (by omega)  _ _ (by omega) (by omega)) ?_
            rintro _ τ207 ⟨rfl, g208, f209, p205, p206⟩
            clear p205
            replace p206 := p206 (by omega)
            show WP 328 62 [(0, .ref 117), (1, iV z50)] [] _ _ _ _
            refine wp_rv jF_328_62 ?_
            have q210 : (dp τ207) = (dp τ34) := ((dp_fr f209 (fun _ => rfl) rfl).trans (dp_fr f49 (fun _ => rfl) rfl))
            have q211 := ws_nn (σ := τ34)
            have q212 : (ws τ207) = (ws τ34) := ((ws_fr f209 (fun _ => rfl) rfl).trans (ws_fr f49 (fun _ => rfl) rfl))
            have q213 : (tt τ207) = (tt τ34) := ((tt_fr f209 (fun _ => rfl) rfl).trans (tt_fr f49 (fun _ => rfl) rfl))
            have q214 : (τ207.1 117 2) = (τ47.1 117 2) := (FR.at f209 117 2 rfl)
            have b215 := GI.b g208 117 5 kd117 (lo := (-2147483648)) (hi := 2147483647) rfl
            have b216 := GI.b g35 117 87 kd117 (lo := 0) (hi := 1690) rfl
            have q217 : (τ207.1 117 87) = (τ34.1 117 87) := ((FR.at f209 117 87 rfl).trans (FR.at f49 117 87 rfl))
            have b218 := GI.b g35 117 89 kd117 (lo := 0) (hi := 1690) rfl
            have q219 : (τ207.1 117 89) = (τ34.1 117 89) := ((FR.at f209 117 89 rfl).trans (FR.at f49 117 89 rfl))
            have b220 := GI.b g35 117 91 kd117 (lo := 0) (hi := 1690) rfl
            have q221 : (τ207.1 117 91) = (τ34.1 117 91) := ((FR.at f209 117 91 rfl).trans (FR.at f49 117 91 rfl))
            exact ⟨rfl, g208, (FR.up (FR.up (FR.up (FR.up FR.rf f10 sb_Wtak_Wqs) f36 sb_Wqs_Wqs) f49 sb_Wat_Wqs) f209 sb_Wbad_Wqs), (by omega), (by omega), (by omega), (by omega), (by omega), (by omega), (by omega), (by omega)⟩
    · intro h38
      clear p28
      clear p29
      clear p30
      clear p31
      clear p32
      refine wp_rv jF_328_29 ?_
      have q222 := ws_nn (σ := τ34)
      have b223 := GI.b g35 117 2 kd117 (lo := 0) (hi := 1601) rfl
      have b224 := GI.b g35 117 87 kd117 (lo := 0) (hi := 1690) rfl
      have b225 := GI.b g35 117 89 kd117 (lo := 0) (hi := 1690) rfl
      have b226 := GI.b g35 117 91 kd117 (lo := 0) (hi := 1690) rfl
      exact ⟨rfl, g35, (FR.up (FR.up FR.rf f10 sb_Wtak_Wqs) f36 sb_Wqs_Wqs), (by omega), (by omega), (by omega), (by omega), (by omega), (by omega), (by omega), (by omega)⟩
  · intro h13
    replace p5 := p5 (by omega)
    have q227 : (dp τ8) = (dp σ) := (dp_fr f10 (fun _ => rfl) rfl)
    have q228 := ws_nn (σ := σ)
    have q229 : (ws τ8) = (ws σ) := (ws_fr f10 (fun _ => rfl) rfl)
    have b230 := GI.b g9 117 2 kd117 (lo := 0) (hi := 1601) rfl
    have b231 := GI.b hg 117 87 kd117 (lo := 0) (hi := 1690) rfl
    have q232 : (τ8.1 117 87) = (σ.1 117 87) := (FR.at f10 117 87 rfl)
    have b233 := GI.b hg 117 89 kd117 (lo := 0) (hi := 1690) rfl
    have q234 : (τ8.1 117 89) = (σ.1 117 89) := (FR.at f10 117 89 rfl)
    refine wp_al1 jF_328_11 rfl rfl (pc2 := 12) ?_
    refine wp_bi jF_328_12 (by decide) rfl (pc2 := 14) ?_
    refine wp_cV (as := [iV 13]) (rest := []) (a := 117) (mx := 2) (ci := 12) jF_328_14 kd117 (by decide) rfl rfl rfl rfl rfl (by omega) (by omega) rfl (pc2 := 17) ?_
    refine wp_use (m_329_p τ8 g9 13 (by omega) (by omega) (by omega) (by omega) (by omega) _ _ (by omega) (by omega)) ?_
    rintro _ τ237 ⟨rfl, g238, f239, p235, p236⟩
    show WP 328 17 [(0, .ref 117)] [] _ _ _ _
    refine wp_rv jF_328_17 ?_
    have q240 := ws_nn (σ := σ)
    have q241 : (ws τ237) = (ws σ) := ((ws_fr f239 (fun _ => rfl) rfl).trans (ws_fr f10 (fun _ => rfl) rfl))
    have q242 : (tt τ237) = (tt σ) := ((tt_fr f239 (fun _ => rfl) rfl).trans (tt_fr f10 (fun _ => rfl) rfl))
    have q243 : (τ237.1 117 2) = (τ8.1 117 2) := (FR.at f239 117 2 rfl)
    have q244 : (τ237.1 117 5) = (σ.1 117 5) := ((FR.at f239 117 5 rfl).trans (FR.at f10 117 5 rfl))
    have b245 := GI.b g238 117 87 kd117 (lo := 0) (hi := 1690) rfl
    have q246 : (τ237.1 117 89) = (σ.1 117 89) := ((FR.at f239 117 89 rfl).trans (FR.at f10 117 89 rfl))
    have b247 := GI.b hg 117 91 kd117 (lo := 0) (hi := 1690) rfl
    have q248 : (τ237.1 117 91) = (σ.1 117 91) := ((FR.at f239 117 91 rfl).trans (FR.at f10 117 91 rfl))
    exact ⟨rfl, g238, (FR.up (FR.up FR.rf f10 sb_Wtak_Wqs) f239 sb_Wqc_Wqs), (by omega), (by omega), (by omega), (by omega), (by omega), (by omega), (by omega), (by omega)⟩
set_option maxHeartbeats 4000000 in
set_option maxRecDepth 20000 in
/-- M.qDropsNots -/
theorem m_342 (σ : jM) (hg : GI σ)  (pre0 : (σ.1 117 5) = 0 → (tt σ) = 1) (pre1 : (σ.1 117 5) = 0 → (ws σ) < (dp σ)) (pre2 : (σ.1 117 87) + (σ.1 117 89) ≤ 1689) (fr lo : Nat) (hfr : 2 ≤ fr) (hlo : 41 ≤ lo) : WP 342 0 (lv_args 0 [.ref 117]) [] fr lo σ (fun v τ => v = none ∧ GI τ ∧ FR Wqe σ τ ∧ ((τ.1 117 87) + (τ.1 117 89) = (σ.1 117 87) + (σ.1 117 89)) ∧ ((σ.1 117 5) = 0 → (tt τ) = 1) ∧ ((σ.1 117 5) = 0 → (dp τ) - (ws τ) = (dp σ) - (ws σ)) ∧ ((σ.1 117 5) = 0 → (sq τ) = (sq σ))) := by
  show WP 342 0 [(0, .ref 117)] [] _ _ _ _
  have q1 := ws_nn (σ := σ)
  have b2 := GI.b hg 117 5 kd117 (lo := (-2147483648)) (hi := 2147483647) rfl
  have b3 := GI.b hg 117 87 kd117 (lo := 0) (hi := 1690) rfl
  have b4 := GI.b hg 117 89 kd117 (lo := 0) (hi := 1690) rfl
  refine wp_loop (α := Unit) (fun a => [(0, .ref 117)]) (fun a τ => GI τ ∧ FR Wqe σ τ ∧ ((τ.1 117 87) + (τ.1 117 89) = (σ.1 117 87) + (σ.1 117 89)) ∧ ((σ.1 117 5) = 0 → (tt τ) = 1) ∧ ((σ.1 117 5) = 0 → (dp τ) - (ws τ) = (dp σ) - (ws σ)) ∧ ((σ.1 117 5) = 0 → (sq τ) = (sq σ))) (fun a τ => Int.toNat ((τ.1 117 89))) () σ ?_ ?_
  · skip
    exact ⟨hg, FR.rf, (by omega), (by omega), (by omega), (by omega)⟩
  · rintro ⟨⟩ τ5 ⟨g6, f7, p8, p9, p10, p11⟩ ih12
    have q13 := ws_nn (σ := τ5)
    have b14 := GI.b g6 117 87 kd117 (lo := 0) (hi := 1690) rfl
    have b15 := GI.b g6 117 89 kd117 (lo := 0) (hi := 1690) rfl
    show WP 342 0 [(0, .ref 117)] [] _ _ _ _
    show WP 342 0 [(0, .ref 117)] [] _ _ _ _
    refine wp_al1 jF_342_0 rfl rfl (pc2 := 1) ?_
    refine wp_gi jF_342_1 kd117 (by decide) rfl (FR.at f7 117 5 rfl) rfl (pc2 := 4) ?_
    refine wp_z_ne jF_342_4 (m_rgb b2 rfl) rfl (pc2 := 7) ?_ ?_
    · intro h16
      clear p9
      clear p10
      clear p11
      refine wp_rv jF_342_33 ?_
      exact ⟨rfl, g6, f7, (by omega), (by omega), (by omega), (by omega)⟩
    · intro h16
      replace p9 := p9 (by omega)
      replace p10 := p10 (by omega)
      replace p11 := p11 (by omega)
      refine wp_al1 jF_342_7 rfl rfl (pc2 := 8) ?_
      refine wp_bi jF_342_8 (by decide) rfl (pc2 := 10) ?_
      refine wp_cV (as := [iV 12]) (rest := []) (a := 117) (mx := 2) (ci := 12) jF_342_10 kd117 (by decide) rfl rfl rfl rfl rfl (by omega) (by omega) rfl (pc2 := 13) ?_
      refine wp_use (m_341 τ5 g6 12 (by omega) (by omega)  _ _ (by omega) (by omega)) ?_
      rintro _ _ ⟨z21, rfl, h22, rfl, p17, p18⟩
      show WP 342 13 [(0, .ref 117)] [iV z21] _ _ _ _
      refine wp_z_eq jF_342_13 (m_rgb h22 rfl) rfl (pc2 := 16) ?_ ?_
      · intro h23
        clear p17
        replace p18 := p18 (by omega)
        refine wp_rv jF_342_33 ?_
        exact ⟨rfl, g6, f7, (by omega), (by omega), (by omega), (by omega)⟩
      · intro h23
        replace p17 := p17 (by omega)
        clear p18
        refine wp_al1 jF_342_16 rfl rfl (pc2 := 17) ?_
        refine wp_dup jF_342_17 rfl rfl (pc2 := 18) ?_
        have b24 := GI.b g6 117 90 kd117 (lo := (-2147483648)) (hi := 2147483647) rfl
        refine wp_gi jF_342_18 kd117 (by decide) rfl rfl rfl (pc2 := 21) ?_
        refine wp_ic jF_342_21 rfl (pc2 := 22) ?_
        refine wp_any2 (pc2 := 23) jF_342_22 rfl rfl ?_
        intro z25 h26
        refine wp_pi jF_342_23 kd117 (by decide) rfl rfl rfl (pc2 := 26) g6 (lo := (-2147483648)) (hi := 2147483647) rfl (by omega) (by omega) ?_
        intro τ27 g28 f29 e30
        refine wp_al1 jF_342_26 rfl rfl (pc2 := 27) ?_
        refine wp_cV (as := []) (rest := []) (a := 117) (mx := 1) (ci := 12) jF_342_27 kd117 (by decide) rfl rfl rfl rfl rfl (by omega) (by omega) rfl (pc2 := 30) ?_
        have q31 : (dp τ27) = (dp τ5) := (dp_wr f29 (by decide))
        have q32 := ws_nn (σ := τ5)
        have q33 : (ws τ27) = (ws τ5) := (ws_wr f29 (by decide))
        have q34 : (tt τ27) = (tt τ5) := (tt_wr f29 (by decide))
        have q35 : (tq τ27) = (tq τ5) := (tq_wr f29 (by decide))
        have q36 : (sq τ27) = (sq τ5) := (sq_wr f29 (by decide))
        have q37 : (τ27.1 117 87) = (τ5.1 117 87) := (FRw.nj f29 (by decide))
        have q38 : (τ27.1 117 89) = (τ5.1 117 89) := (FRw.nj f29 (by decide))
        refine wp_use (m_336_t τ27 g28  (by omega) (by omega) (by omega) (by omega) (by omega) _ _ (by omega) (by omega)) ?_
        rintro _ τ44 ⟨rfl, g45, f46, p39, p40, p41, p42, p43⟩
        show WP 342 30 [(0, .ref 117)] [] _ _ _ _
        refine wp_go jF_342_30 ?_
        have q47 := ws_nn (σ := τ44)
        have b48 := GI.b g45 117 87 kd117 (lo := 0) (hi := 1690) rfl
        have b49 := GI.b g45 117 89 kd117 (lo := 0) (hi := 1690) rfl
        exact ih12 () τ44 ⟨g45, (FR.up (FR.w f7 f29 rfl) f46 sb_Wqd_Wqe), (by omega), (by omega), (by omega), (by omega)⟩ (by show Int.toNat ((τ44.1 117 89)) < Int.toNat ((τ5.1 117 89)); omega)
set_option maxHeartbeats 4000000 in
set_option maxRecDepth 20000 in
/-- M.qHasSquare -/
theorem m_344 (σ : jM) (hg : GI σ)   (fr lo : Nat) (hfr : 0 ≤ fr) (hlo : 0 ≤ lo) : WP 344 0 (lv_args 0 [.ref 117]) [] fr lo σ (fun v τ => ∃ z : Int, v = some (iV z) ∧ (0 ≤ z ∧ z ≤ 1) ∧ σ = τ ∧ (z = (sq σ))) := by
  show WP 344 0 [(0, .ref 117)] [] _ _ _ _
  refine wp_ic jF_344_0 rfl (pc2 := 1) ?_
  refine wp_is1 (lv2 := [(0, .ref 117), (1, iV 0)]) jF_344_1 rfl rfl rfl (pc2 := 2) ?_
  have b1 := GI.b hg 117 89 kd117 (lo := 0) (hi := 1690) rfl
  refine wp_loop (α := Int) (fun a => [(0, .ref 117), (1, iV (a))]) (fun a τ => (0 ≤ a ∧ a ≤ 1690) ∧ σ = τ ∧ (SQI σ (a)) ∧ ((a) ≤ (σ.1 117 89))) (fun a τ => Int.toNat ((σ.1 117 89) - (a))) (0) σ ?_ ?_
  · skip
    exact ⟨⟨by omega, by omega⟩, rfl, sqi_0, (by omega)⟩
  · rintro x2 _ ⟨h3, rfl, p7, p8⟩ ih9
    show WP 344 2 [(0, .ref 117), (1, iV x2)] [] _ _ _ _
    show WP 344 2 [(0, .ref 117), (1, iV x2)] [] _ _ _ _
    refine wp_il1 jF_344_2 rfl rfl (pc2 := 3) ?_
    refine wp_al1 jF_344_3 rfl rfl (pc2 := 4) ?_
    refine wp_gi jF_344_4 kd117 (by decide) rfl rfl rfl (pc2 := 7) ?_
    refine wp_i_ge jF_344_7 (m_rgb h3 rfl) (m_rgb b1 rfl) rfl (pc2 := 10) ?_ ?_
    · intro h10
      refine wp_ic jF_344_29 rfl (pc2 := 30) ?_
      refine wp_ri jF_344_30 rfl ?_
      exact ⟨0, rfl, ⟨by omega, by omega⟩, rfl, (sqi_e p7 (by omega)).symm⟩
    · intro h10
      refine wp_al1 jF_344_10 rfl rfl (pc2 := 11) ?_
      refine wp_gr (b := 177) jF_344_11 kd117 (by decide) (c := 277) rfl rfl rfl (pc2 := 14) ?_
      refine wp_il1 jF_344_14 rfl rfl (pc2 := 15) ?_
      have b11 := GI.b hg 177 x2.toNat kd177 (lo := (-2147483648)) (hi := 2147483647) rfl
      refine wp_iald (n := 1700) (e := (σ.1 177 x2.toNat)) jF_344_15 kd177 (by decide) rfl rfl (by omega) (by omega) rfl rfl (pc2 := 16) ?_
      refine wp_bi jF_344_16 (by decide) rfl (pc2 := 18) ?_
      refine wp_i_ne jF_344_18 (m_rgb b11 rfl) (m_rgl rfl) rfl (pc2 := 21) ?_ ?_
      · intro h12
        refine wp_inc (lv2 := [(0, .ref 117), (1, iV (x2 + 1))]) jF_344_23 rfl rfl rfl rfl (pc2 := 26) ?_
        refine wp_go jF_344_26 ?_
        exact ih9 ((x2 + 1)) σ ⟨⟨by omega, by omega⟩, rfl, (sqi_s p7 (by omega) (by omega)), (by omega)⟩ (by show Int.toNat ((σ.1 117 89) - (x2 + 1)) < Int.toNat ((σ.1 117 89) - x2); omega)
      · intro h12
        refine wp_ic jF_344_21 rfl (pc2 := 22) ?_
        refine wp_ri jF_344_22 rfl ?_
        exact ⟨1, rfl, ⟨by omega, by omega⟩, rfl, (sqi_1 (x := x2) (by omega) (by omega) (by omega)).symm⟩
