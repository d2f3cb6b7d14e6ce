set_option maxHeartbeats 4000000 in
set_option maxRecDepth 20000 in
/-- M.law -/
theorem m_251_z (σ : jM) (hg : GI σ) (other : Int) (hl_other : 0 ≤ other) (hu_other : other ≤ 1) (pre0 : (σ.1 143 3) ≤ 16) (pre1 : (σ.1 143 4) ≤ 8) (pre2 : (σ.1 143 5) ≤ 10) (pre3 : (kp σ) = 1) (pre4 : (l0 σ) = 22) (pre5 : (l1 σ) = 22) (fr lo : Nat) (hfr : 6 ≤ fr) (hlo : 131 ≤ lo) : WP 251 0 (lv_args 0 [.ref 117, iV other]) [] fr lo σ (fun v τ => ∃ z : Int, v = some (iV z) ∧ ((-2147483648) ≤ z ∧ z ≤ 2147483647) ∧ GI τ ∧ FR Wlaw σ τ ∧ ((kp τ) = 1) ∧ ((l0 τ) = 22) ∧ ((l1 τ) = 22) ∧ ((τ.1 117 1) = 0)) := by
  show WP 251 0 [(0, .ref 117), (1, iV other)] [] _ _ _ _
  refine wp_al1 jF_251_0 rfl rfl (pc2 := 1) ?_
  refine wp_cV (as := []) (rest := []) (a := 117) (mx := 1) (ci := 12) jF_251_1 kd117 (by decide) rfl rfl rfl rfl rfl (by omega) (by omega) rfl (pc2 := 4) ?_
  show WP 215 0 [(0, .ref 117)] [] _ _ _ _
  refine wp_al1 jF_215_0 rfl rfl (pc2 := 1) ?_
  refine wp_al1 jF_215_1 rfl rfl (pc2 := 2) ?_
  have b1 := GI.b hg 117 1 kd117 (lo := 0) (hi := 1600) rfl
  refine wp_gi jF_215_2 kd117 (by decide) rfl rfl rfl (pc2 := 5) ?_
  refine wp_pi jF_215_5 kd117 (by decide) rfl rfl rfl (pc2 := 8) hg (lo := 0) (hi := 1600) rfl (by omega) (by omega) ?_
  intro τ2 g3 f4 e5
  refine wp_al1 jF_215_8 rfl rfl (pc2 := 9) ?_
  refine wp_ic jF_215_9 rfl (pc2 := 10) ?_
  refine wp_pi jF_215_10 kd117 (by decide) rfl rfl rfl (pc2 := 13) g3 (lo := 0) (hi := 1600) rfl (by omega) (by omega) ?_
  intro τ6 g7 f8 e9
  refine wp_al1 jF_215_13 rfl rfl (pc2 := 14) ?_
  refine wp_ic jF_215_14 rfl (pc2 := 15) ?_
  refine wp_pi jF_215_15 kd117 (by decide) rfl rfl rfl (pc2 := 18) g7 (lo := 0) (hi := 1601) rfl (by omega) (by omega) ?_
  intro τ10 g11 f12 e13
  refine wp_al1 jF_215_18 rfl rfl (pc2 := 19) ?_
  refine wp_ic jF_215_19 rfl (pc2 := 20) ?_
  refine wp_pi jF_215_20 kd117 (by decide) rfl rfl rfl (pc2 := 23) g11 (lo := (-2147483648)) (hi := 2147483647) rfl (by omega) (by omega) ?_
  intro τ14 g15 f16 e17
  refine wp_al1 jF_215_23 rfl rfl (pc2 := 24) ?_
  refine wp_ic jF_215_24 rfl (pc2 := 25) ?_
  refine wp_pi jF_215_25 kd117 (by decide) rfl rfl rfl (pc2 := 28) g15 (lo := (-2147483648)) (hi := 2147483647) rfl (by omega) (by omega) ?_
  intro τ18 g19 f20 e21
  refine wp_al1 jF_215_28 rfl rfl (pc2 := 29) ?_
  refine wp_ic jF_215_29 rfl (pc2 := 30) ?_
  refine wp_pi jF_215_30 kd117 (by decide) rfl rfl rfl (pc2 := 33) g19 (lo := (-2147483648)) (hi := 2147483647) rfl (by omega) (by omega) ?_
  intro τ22 g23 f24 e25
  refine wp_rv jF_215_33 ?_
  show WP 251 4 [(0, .ref 117), (1, iV other)] [] _ _ _ _
  refine wp_al1 jF_251_4 rfl rfl (pc2 := 5) ?_
  refine wp_ic jF_251_5 rfl (pc2 := 6) ?_
  refine wp_pi jF_251_6 kd117 (by decide) rfl rfl rfl (pc2 := 9) g23 (lo := 0) (hi := 60) rfl (by omega) (by omega) ?_
  intro τ26 g27 f28 e29
  refine wp_al1 jF_251_9 rfl rfl (pc2 := 10) ?_
  refine wp_ic jF_251_10 rfl (pc2 := 11) ?_
  refine wp_pi jF_251_11 kd117 (by decide) rfl rfl rfl (pc2 := 14) g27 (lo := (-2147483648)) (hi := 2147483647) rfl (by omega) (by omega) ?_
  intro τ30 g31 f32 e33
  refine wp_al1 jF_251_14 rfl rfl (pc2 := 15) ?_
  refine wp_cV (as := []) (rest := []) (a := 117) (mx := 2) (ci := 12) jF_251_15 kd117 (by decide) rfl rfl rfl rfl rfl (by omega) (by omega) rfl (pc2 := 18) ?_
  have q34 : (ch τ30) = (ch τ10) := ((ch_wr f32 (by decide)).trans ((ch_wr f28 (by decide)).trans ((ch_wr f24 (by decide)).trans ((ch_wr f20 (by decide)).trans (ch_wr f16 (by decide))))))
  have q35 : (nb τ30) = (nb τ10) := ((nb_wr f32 (by decide)).trans ((nb_wr f28 (by decide)).trans ((nb_wr f24 (by decide)).trans ((nb_wr f20 (by decide)).trans (nb_wr f16 (by decide))))))
  have q36 : (τ30.1 117 2) = 0 := ((FRw.nj f32 (by decide)).trans ((FRw.nj f28 (by decide)).trans ((FRw.nj f24 (by decide)).trans ((FRw.nj f20 (by decide)).trans ((FRw.nj f16 (by decide)).trans e13)))))
  have q37 : (τ30.1 117 44) = 0 := ((FRw.nj f32 (by decide)).trans e29)
  have q38 : (τ30.1 117 5) = 0 := ((FRw.nj f32 (by decide)).trans ((FRw.nj f28 (by decide)).trans ((FRw.nj f24 (by decide)).trans e21)))
  refine wp_use (m_252 τ30 g31   _ _ (by omega) (by omega)) ?_
  rintro _ τ47 ⟨z50, rfl, h51, g48, f49, p39, p40, p41, p42, p43, p44, p45, p46⟩
  clear p40
  show WP 251 18 [(0, .ref 117), (1, iV other)] [iV z50] _ _ _ _
  refine wp_z_eq jF_251_18 (m_rgb h51 rfl) rfl (pc2 := 21) ?_ ?_
  · intro h52
    clear p41
    replace p42 := p42 (by omega)
    clear p45
    clear p46
    refine wp_al1 jF_251_36 rfl rfl (pc2 := 37) ?_
    refine wp_cV (as := []) (rest := []) (a := 117) (mx := 1) (ci := 12) jF_251_37 kd117 (by decide) rfl rfl rfl rfl rfl (by omega) (by omega) rfl (pc2 := 40) ?_
    show WP 240 0 [(0, .ref 117)] [] _ _ _ _
    refine wp_al1 jF_240_0 rfl rfl (pc2 := 1) ?_
    refine wp_al1 jF_240_1 rfl rfl (pc2 := 2) ?_
    have b53 := GI.b g48 117 5 kd117 (lo := (-2147483648)) (hi := 2147483647) rfl
    refine wp_gi jF_240_2 kd117 (by decide) rfl rfl rfl (pc2 := 5) ?_
    refine wp_pi jF_240_5 kd117 (by decide) rfl rfl rfl (pc2 := 8) g48 (lo := (-2147483648)) (hi := 2147483647) rfl (by omega) (by omega) ?_
    intro τ54 g55 f56 e57
    refine wp_al1 jF_240_8 rfl rfl (pc2 := 9) ?_
    refine wp_al1 jF_240_9 rfl rfl (pc2 := 10) ?_
    have b58 := GI.b g48 117 6 kd117 (lo := (-2147483648)) (hi := 2147483647) rfl
    refine wp_gi jF_240_10 kd117 (by decide) rfl (FRw.nj f56 (by decide)) rfl (pc2 := 13) ?_
    refine wp_pi jF_240_13 kd117 (by decide) rfl rfl rfl (pc2 := 16) g55 (lo := (-2147483648)) (hi := 2147483647) rfl (by omega) (by omega) ?_
    intro τ59 g60 f61 e62
    refine wp_al1 jF_240_16 rfl rfl (pc2 := 17) ?_
    refine wp_gi jF_240_17 kd117 (by decide) rfl ((FRw.nj f61 (by decide)).trans (FRw.nj f56 (by decide))) rfl (pc2 := 20) ?_
    refine wp_z_eq jF_240_20 (m_rgb b53 rfl) rfl (pc2 := 23) ?_ ?_
    · intro h63
      refine wp_al1 jF_240_33 rfl rfl (pc2 := 34) ?_
      refine wp_gi jF_240_34 kd117 (by decide) rfl ((FRw.nj f61 (by decide)).trans (FRw.nj f56 (by decide))) rfl (pc2 := 37) ?_
      refine wp_z_ne jF_240_37 (m_rgb b53 rfl) rfl (pc2 := 40) ?_ ?_
      · intro h64
        refine wp_ic jF_240_44 rfl (pc2 := 45) ?_
        refine wp_ri jF_240_45 rfl ?_
        show WP 251 40 [(0, .ref 117), (1, iV other)] [iV 0] _ _ _ _
        refine wp_z_ne jF_251_40 (m_rgl rfl) rfl (pc2 := 43) ?_ ?_
        · intro h65; exfalso; omega
        · intro h65
          refine wp_ic jF_251_43 rfl (pc2 := 44) ?_
          refine wp_ri jF_251_44 rfl ?_
          have q66 : (l0 τ59) = (l0 σ) := ((l0_wr f61 (by decide)).trans ((l0_wr f56 (by decide)).trans ((l0_fr f49 rfl (fun _ => rfl)).trans ((l0_wr f32 (by decide)).trans ((l0_wr f28 (by decide)).trans ((l0_wr f24 (by decide)).trans ((l0_wr f20 (by decide)).trans ((l0_wr f16 (by decide)).trans ((l0_wr f12 (by decide)).trans ((l0_wr f8 (by decide)).trans (l0_wr f4 (by decide))))))))))))
          have q67 : (l1 τ59) = (l1 σ) := ((l1_wr f61 (by decide)).trans ((l1_wr f56 (by decide)).trans ((l1_fr f49 rfl (fun _ => rfl)).trans ((l1_wr f32 (by decide)).trans ((l1_wr f28 (by decide)).trans ((l1_wr f24 (by decide)).trans ((l1_wr f20 (by decide)).trans ((l1_wr f16 (by decide)).trans ((l1_wr f12 (by decide)).trans ((l1_wr f8 (by decide)).trans (l1_wr f4 (by decide))))))))))))
          have q68 : (kp τ59) = (kp σ) := ((kp_wr f61 (by decide)).trans ((kp_wr f56 (by decide)).trans ((kp_fr f49 (fun _ => rfl) (fun _ => rfl)).trans ((kp_wr f32 (by decide)).trans ((kp_wr f28 (by decide)).trans ((kp_wr f24 (by decide)).trans ((kp_wr f20 (by decide)).trans ((kp_wr f16 (by decide)).trans ((kp_wr f12 (by decide)).trans ((kp_wr f8 (by decide)).trans (kp_wr f4 (by decide))))))))))))
          have q69 : (τ59.1 117 1) = 0 := ((FRw.nj f61 (by decide)).trans ((FRw.nj f56 (by decide)).trans ((FR.at f49 117 1 rfl).trans ((FRw.nj f32 (by decide)).trans ((FRw.nj f28 (by decide)).trans ((FRw.nj f24 (by decide)).trans ((FRw.nj f20 (by decide)).trans ((FRw.nj f16 (by decide)).trans ((FRw.nj f12 (by decide)).trans e9)))))))))
          exact ⟨(-1), rfl, ⟨by omega, by omega⟩, g60, (FR.w (FR.w (FR.up (FR.w (FR.w (FR.w (FR.w (FR.w (FR.w (FR.w (FR.w FR.rf f4 rfl) f8 rfl) f12 rfl) f16 rfl) f20 rfl) f24 rfl) f28 rfl) f32 rfl) f49 sb_Wsgn_Wlaw) f56 rfl) f61 rfl), (by omega), (by omega), (by omega), (by omega)⟩
      · intro h64
        refine wp_ic jF_240_40 rfl (pc2 := 41) ?_
        refine wp_go jF_240_41 ?_
        refine wp_ri jF_240_45 rfl ?_
        show WP 251 40 [(0, .ref 117), (1, iV other)] [iV 1] _ _ _ _
        refine wp_z_ne jF_251_40 (m_rgl rfl) rfl (pc2 := 43) ?_ ?_
        · intro h70
          refine wp_al1 jF_251_45 rfl rfl (pc2 := 46) ?_
          refine wp_cV (as := []) (rest := []) (a := 117) (mx := 2) (ci := 12) jF_251_46 kd117 (by decide) rfl rfl rfl rfl rfl (by omega) (by omega) rfl (pc2 := 49) ?_
          have q71 : (rl τ59) = (rl τ26) := ((rl_wr f61 (by decide)).trans ((rl_wr f56 (by decide)).trans ((rl_fr f49 rfl (fun _ => rfl)).trans (rl_wr f32 (by decide)))))
          have q72 : (τ59.1 117 44) = 0 := ((FRw.nj f61 (by decide)).trans ((FRw.nj f56 (by decide)).trans ((FR.at f49 117 44 rfl).trans ((FRw.nj f32 (by decide)).trans e29))))
          refine wp_use (m_257 τ59 g60   _ _ (by omega) (by omega)) ?_
          rintro _ τ75 ⟨rfl, g76, f77, p73, p74⟩
          show WP 251 49 [(0, .ref 117), (1, iV other)] [] _ _ _ _
          refine wp_il1 jF_251_49 rfl rfl (pc2 := 50) ?_
          refine wp_z_ne jF_251_50 ⟨by omega, by omega⟩ rfl (pc2 := 53) ?_ ?_
          · intro h78
            refine wp_il1 jF_251_73 rfl rfl (pc2 := 74) ?_
            refine wp_z_ne jF_251_74 ⟨by omega, by omega⟩ rfl (pc2 := 77) ?_ ?_
            · intro h79
              refine wp_al1 jF_251_81 rfl rfl (pc2 := 82) ?_
              refine wp_il1 jF_251_82 rfl rfl (pc2 := 83) ?_
              refine wp_z_eq jF_251_83 ⟨by omega, by omega⟩ rfl (pc2 := 86) ?_ ?_
              · intro h80; exfalso; omega
              · intro h80
                refine wp_ic jF_251_86 rfl (pc2 := 87) ?_
                refine wp_go jF_251_87 ?_
                refine wp_cV (as := [iV 1]) (rest := []) (a := 117) (mx := 3) (ci := 12) jF_251_91 kd117 (by decide) rfl rfl rfl rfl rfl (by omega) (by omega) rfl (pc2 := 94) ?_
                have q81 : (l0 τ75) = (l0 σ) := ((l0_fr f77 rfl (fun _ => rfl)).trans ((l0_wr f61 (by decide)).trans ((l0_wr f56 (by decide)).trans ((l0_fr f49 rfl (fun _ => rfl)).trans ((l0_wr f32 (by decide)).trans ((l0_wr f28 (by decide)).trans ((l0_wr f24 (by decide)).trans ((l0_wr f20 (by decide)).trans ((l0_wr f16 (by decide)).trans ((l0_wr f12 (by decide)).trans ((l0_wr f8 (by decide)).trans (l0_wr f4 (by decide)))))))))))))
                have b82 := GI.b g76 117 49 kd117 (lo := 0) (hi := 61) rfl
                have b83 := GI.b hg 148 0 kd148 (lo := 0) (hi := 60) rfl
                have q84 : (τ75.1 148 0) = (σ.1 148 0) := ((FR.at f77 148 0 rfl).trans ((FRw.na f61 (by decide)).trans ((FRw.na f56 (by decide)).trans ((FR.at f49 148 0 rfl).trans ((FRw.na f32 (by decide)).trans ((FRw.na f28 (by decide)).trans ((FRw.na f24 (by decide)).trans ((FRw.na f20 (by decide)).trans ((FRw.na f16 (by decide)).trans ((FRw.na f12 (by decide)).trans ((FRw.na f8 (by decide)).trans (FRw.na f4 (by decide)))))))))))))
                refine wp_use (m_263_1 τ75 g76  (by omega) _ _ (by omega) (by omega)) ?_
                rintro _ τ89 ⟨rfl, g90, f91, p85, p86, p87, p88⟩
                show WP 251 94 [(0, .ref 117), (1, iV other)] [] _ _ _ _
                refine wp_al1 jF_251_94 rfl rfl (pc2 := 95) ?_
                refine wp_gi jF_251_95 kd117 (by decide) rfl ((FR.at f91 117 45 rfl).trans ((FR.at f77 117 45 rfl).trans ((FRw.nj f61 (by decide)).trans ((FRw.nj f56 (by decide)).trans ((FR.at f49 117 45 rfl).trans e33))))) rfl (pc2 := 98) ?_
                refine wp_ri jF_251_98 rfl ?_
                have q92 : (kp τ89) = (kp σ) := ((kp_fr f91 (fun _ => rfl) (fun _ => rfl)).trans ((kp_fr f77 (fun _ => rfl) (fun _ => rfl)).trans ((kp_wr f61 (by decide)).trans ((kp_wr f56 (by decide)).trans ((kp_fr f49 (fun _ => rfl) (fun _ => rfl)).trans ((kp_wr f32 (by decide)).trans ((kp_wr f28 (by decide)).trans ((kp_wr f24 (by decide)).trans ((kp_wr f20 (by decide)).trans ((kp_wr f16 (by decide)).trans ((kp_wr f12 (by decide)).trans ((kp_wr f8 (by decide)).trans (kp_wr f4 (by decide))))))))))))))
                have q93 : (τ89.1 117 1) = 0 := ((FR.at f91 117 1 rfl).trans ((FR.at f77 117 1 rfl).trans ((FRw.nj f61 (by decide)).trans ((FRw.nj f56 (by decide)).trans ((FR.at f49 117 1 rfl).trans ((FRw.nj f32 (by decide)).trans ((FRw.nj f28 (by decide)).trans ((FRw.nj f24 (by decide)).trans ((FRw.nj f20 (by decide)).trans ((FRw.nj f16 (by decide)).trans ((FRw.nj f12 (by decide)).trans e9)))))))))))
                exact ⟨0, rfl, ⟨by omega, by omega⟩, g90, (FR.up (FR.up (FR.w (FR.w (FR.up (FR.w (FR.w (FR.w (FR.w (FR.w (FR.w (FR.w (FR.w FR.rf f4 rfl) f8 rfl) f12 rfl) f16 rfl) f20 rfl) f24 rfl) f28 rfl) f32 rfl) f49 sb_Wsgn_Wlaw) f56 rfl) f61 rfl) f77 sb_Wtr_Wlaw) f91 sb_Wla_Wlaw), (by omega), (by omega), (by omega), (by omega)⟩
            · intro h79; exfalso; omega
          · intro h78
            refine wp_al1 jF_251_53 rfl rfl (pc2 := 54) ?_
            refine wp_cV (as := []) (rest := []) (a := 117) (mx := 6) (ci := 12) jF_251_54 kd117 (by decide) rfl rfl rfl rfl rfl (by omega) (by omega) rfl (pc2 := 57) ?_
            have b94 := GI.b hg 143 4 kd143 (lo := 0) (hi := 16) rfl
            have q95 : (τ75.1 143 4) = (σ.1 143 4) := ((FR.at f77 143 4 rfl).trans ((FRw.na f61 (by decide)).trans ((FRw.na f56 (by decide)).trans ((FR.at f49 143 4 rfl).trans ((FRw.na f32 (by decide)).trans ((FRw.na f28 (by decide)).trans ((FRw.na f24 (by decide)).trans ((FRw.na f20 (by decide)).trans ((FRw.na f16 (by decide)).trans ((FRw.na f12 (by decide)).trans ((FRw.na f8 (by decide)).trans (FRw.na f4 (by decide)))))))))))))
            refine wp_use (m_258 τ75 g76  (by omega) (by omega) _ _ (by omega) (by omega)) ?_
            rintro _ _ ⟨z98, rfl, h99, rfl⟩
            show WP 251 57 [(0, .ref 117), (1, iV other)] [iV z98] _ _ _ _
            refine wp_z_ne jF_251_57 (m_rgb h99 rfl) rfl (pc2 := 60) ?_ ?_
            · intro h100
              refine wp_il1 jF_251_73 rfl rfl (pc2 := 74) ?_
              refine wp_z_ne jF_251_74 ⟨by omega, by omega⟩ rfl (pc2 := 77) ?_ ?_
              · intro h101; exfalso; omega
              · intro h101
                refine wp_al1 jF_251_77 rfl rfl (pc2 := 78) ?_
                refine wp_cV (as := []) (rest := []) (a := 117) (mx := 2) (ci := 12) jF_251_78 kd117 (by decide) rfl rfl rfl rfl rfl (by omega) (by omega) rfl (pc2 := 81) ?_
                have q102 : (l0 τ75) = (l0 σ) := ((l0_fr f77 rfl (fun _ => rfl)).trans ((l0_wr f61 (by decide)).trans ((l0_wr f56 (by decide)).trans ((l0_fr f49 rfl (fun _ => rfl)).trans ((l0_wr f32 (by decide)).trans ((l0_wr f28 (by decide)).trans ((l0_wr f24 (by decide)).trans ((l0_wr f20 (by decide)).trans ((l0_wr f16 (by decide)).trans ((l0_wr f12 (by decide)).trans ((l0_wr f8 (by decide)).trans (l0_wr f4 (by decide)))))))))))))
                have q103 : (kp τ75) = (kp σ) := ((kp_fr f77 (fun _ => rfl) (fun _ => rfl)).trans ((kp_wr f61 (by decide)).trans ((kp_wr f56 (by decide)).trans ((kp_fr f49 (fun _ => rfl) (fun _ => rfl)).trans ((kp_wr f32 (by decide)).trans ((kp_wr f28 (by decide)).trans ((kp_wr f24 (by decide)).trans ((kp_wr f20 (by decide)).trans ((kp_wr f16 (by decide)).trans ((kp_wr f12 (by decide)).trans ((kp_wr f8 (by decide)).trans (kp_wr f4 (by decide)))))))))))))
                refine wp_use (m_262 τ75 g76  (by omega) (by omega) _ _ (by omega) (by omega)) ?_
                rintro _ τ105 ⟨rfl, g106, f107, p104⟩
                show WP 251 81 [(0, .ref 117), (1, iV other)] [] _ _ _ _
                refine wp_al1 jF_251_81 rfl rfl (pc2 := 82) ?_
                refine wp_il1 jF_251_82 rfl rfl (pc2 := 83) ?_
                refine wp_z_eq jF_251_83 ⟨by omega, by omega⟩ rfl (pc2 := 86) ?_ ?_
                · intro h108
                  refine wp_ic jF_251_90 rfl (pc2 := 91) ?_
                  refine wp_cV (as := [iV 0]) (rest := []) (a := 117) (mx := 3) (ci := 12) jF_251_91 kd117 (by decide) rfl rfl rfl rfl rfl (by omega) (by omega) rfl (pc2 := 94) ?_
                  have q109 : (tl τ105) = (tl τ75) := (tl_fr f107 rfl (fun _ => rfl))
                  have q110 : (l1 τ105) = (l1 σ) := ((l1_fr f107 rfl (fun _ => rfl)).trans ((l1_fr f77 rfl (fun _ => rfl)).trans ((l1_wr f61 (by decide)).trans ((l1_wr f56 (by decide)).trans ((l1_fr f49 rfl (fun _ => rfl)).trans ((l1_wr f32 (by decide)).trans ((l1_wr f28 (by decide)).trans ((l1_wr f24 (by decide)).trans ((l1_wr f20 (by decide)).trans ((l1_wr f16 (by decide)).trans ((l1_wr f12 (by decide)).trans ((l1_wr f8 (by decide)).trans (l1_wr f4 (by decide))))))))))))))
                  have b111 := GI.b g76 117 49 kd117 (lo := 0) (hi := 61) rfl
                  have q112 : (τ105.1 117 49) = (τ75.1 117 49) := (FR.at f107 117 49 rfl)
                  have b113 := GI.b hg 148 1 kd148 (lo := 0) (hi := 60) rfl
                  have q114 : (τ105.1 148 1) = (σ.1 148 1) := ((FR.at f107 148 1 rfl).trans ((FR.at f77 148 1 rfl).trans ((FRw.na f61 (by decide)).trans ((FRw.na f56 (by decide)).trans ((FR.at f49 148 1 rfl).trans ((FRw.na f32 (by decide)).trans ((FRw.na f28 (by decide)).trans ((FRw.na f24 (by decide)).trans ((FRw.na f20 (by decide)).trans ((FRw.na f16 (by decide)).trans ((FRw.na f12 (by decide)).trans ((FRw.na f8 (by decide)).trans (FRw.na f4 (by decide))))))))))))))
                  refine wp_use (m_263_0 τ105 g106  (by omega) _ _ (by omega) (by omega)) ?_
                  rintro _ τ119 ⟨rfl, g120, f121, p115, p116, p117, p118⟩
                  show WP 251 94 [(0, .ref 117), (1, iV other)] [] _ _ _ _
                  refine wp_al1 jF_251_94 rfl rfl (pc2 := 95) ?_
                  refine wp_gi jF_251_95 kd117 (by decide) rfl ((FR.at f121 117 45 rfl).trans ((FR.at f107 117 45 rfl).trans ((FR.at f77 117 45 rfl).trans ((FRw.nj f61 (by decide)).trans ((FRw.nj f56 (by decide)).trans ((FR.at f49 117 45 rfl).trans e33)))))) rfl (pc2 := 98) ?_
                  refine wp_ri jF_251_98 rfl ?_
                  have q122 : (kp τ119) = (kp τ105) := (kp_fr f121 (fun _ => rfl) (fun _ => rfl))
                  have q123 : (τ119.1 117 1) = 0 := ((FR.at f121 117 1 rfl).trans ((FR.at f107 117 1 rfl).trans ((FR.at f77 117 1 rfl).trans ((FRw.nj f61 (by decide)).trans ((FRw.nj f56 (by decide)).trans ((FR.at f49 117 1 rfl).trans ((FRw.nj f32 (by decide)).trans ((FRw.nj f28 (by decide)).trans ((FRw.nj f24 (by decide)).trans ((FRw.nj f20 (by decide)).trans ((FRw.nj f16 (by decide)).trans ((FRw.nj f12 (by decide)).trans e9))))))))))))
                  exact ⟨0, rfl, ⟨by omega, by omega⟩, g120, (FR.up (FR.up (FR.up (FR.w (FR.w (FR.up (FR.w (FR.w (FR.w (FR.w (FR.w (FR.w (FR.w (FR.w FR.rf f4 rfl) f8 rfl) f12 rfl) f16 rfl) f20 rfl) f24 rfl) f28 rfl) f32 rfl) f49 sb_Wsgn_Wlaw) f56 rfl) f61 rfl) f77 sb_Wtr_Wlaw) f107 sb_Wkeep_Wlaw) f121 sb_Wla_Wlaw), (by omega), (by omega), (by omega), (by omega)⟩
                · intro h108; exfalso; omega
            · intro h100
              refine wp_al1 jF_251_60 rfl rfl (pc2 := 61) ?_
              refine wp_gr (b := 119) jF_251_61 kd117 (by decide) (c := 219) rfl rfl rfl (pc2 := 64) ?_
              refine wp_ic jF_251_64 rfl (pc2 := 65) ?_
              refine wp_du2 jF_251_65 rfl rfl (pc2 := 66) ?_
              have b124 := GI.b hg 119 1 kd119 (lo := (-2147483648)) (hi := 2147483647) rfl
              refine wp_iald (n := 6) (e := (σ.1 119 1)) jF_251_66 kd119 (by decide) rfl rfl (by omega) (by omega) ((FR.at f77 119 1 rfl).trans ((FRw.na f61 (by decide)).trans ((FRw.na f56 (by decide)).trans ((FR.at f49 119 1 rfl).trans ((FRw.na f32 (by decide)).trans ((FRw.na f28 (by decide)).trans ((FRw.na f24 (by decide)).trans ((FRw.na f20 (by decide)).trans ((FRw.na f16 (by decide)).trans ((FRw.na f12 (by decide)).trans ((FRw.na f8 (by decide)).trans (FRw.na f4 (by decide))))))))))))) rfl (pc2 := 67) ?_
              refine wp_ic jF_251_67 rfl (pc2 := 68) ?_
              refine wp_any2 (pc2 := 69) jF_251_68 rfl rfl ?_
              intro z125 h126
              refine wp_iast (n := 6) jF_251_69 kd119 (by decide) rfl rfl (by omega) (by omega) rfl (pc2 := 70) g76 (lo := (-2147483648)) (hi := 2147483647) rfl (by omega) (by omega) ?_
              intro τ127 g128 f129 e130
              refine wp_bi jF_251_70 (by decide) rfl (pc2 := 72) ?_
              refine wp_ri jF_251_72 rfl ?_
              have q131 : (l0 τ127) = (l0 σ) := ((l0_wr f129 (by decide)).trans ((l0_fr f77 rfl (fun _ => rfl)).trans ((l0_wr f61 (by decide)).trans ((l0_wr f56 (by decide)).trans ((l0_fr f49 rfl (fun _ => rfl)).trans ((l0_wr f32 (by decide)).trans ((l0_wr f28 (by decide)).trans ((l0_wr f24 (by decide)).trans ((l0_wr f20 (by decide)).trans ((l0_wr f16 (by decide)).trans ((l0_wr f12 (by decide)).trans ((l0_wr f8 (by decide)).trans (l0_wr f4 (by decide))))))))))))))
              have q132 : (l1 τ127) = (l1 σ) := ((l1_wr f129 (by decide)).trans ((l1_fr f77 rfl (fun _ => rfl)).trans ((l1_wr f61 (by decide)).trans ((l1_wr f56 (by decide)).trans ((l1_fr f49 rfl (fun _ => rfl)).trans ((l1_wr f32 (by decide)).trans ((l1_wr f28 (by decide)).trans ((l1_wr f24 (by decide)).trans ((l1_wr f20 (by decide)).trans ((l1_wr f16 (by decide)).trans ((l1_wr f12 (by decide)).trans ((l1_wr f8 (by decide)).trans (l1_wr f4 (by decide))))))))))))))
              have q133 : (kp τ127) = (kp σ) := ((kp_wr f129 (by decide)).trans ((kp_fr f77 (fun _ => rfl) (fun _ => rfl)).trans ((kp_wr f61 (by decide)).trans ((kp_wr f56 (by decide)).trans ((kp_fr f49 (fun _ => rfl) (fun _ => rfl)).trans ((kp_wr f32 (by decide)).trans ((kp_wr f28 (by decide)).trans ((kp_wr f24 (by decide)).trans ((kp_wr f20 (by decide)).trans ((kp_wr f16 (by decide)).trans ((kp_wr f12 (by decide)).trans ((kp_wr f8 (by decide)).trans (kp_wr f4 (by decide))))))))))))))
              have q134 : (τ127.1 117 1) = 0 := ((FRw.na f129 (by decide)).trans ((FR.at f77 117 1 rfl).trans ((FRw.nj f61 (by decide)).trans ((FRw.nj f56 (by decide)).trans ((FR.at f49 117 1 rfl).trans ((FRw.nj f32 (by decide)).trans ((FRw.nj f28 (by decide)).trans ((FRw.nj f24 (by decide)).trans ((FRw.nj f20 (by decide)).trans ((FRw.nj f16 (by decide)).trans ((FRw.nj f12 (by decide)).trans e9)))))))))))
              exact ⟨(-2), rfl, ⟨by omega, by omega⟩, g128, (FR.w (FR.up (FR.w (FR.w (FR.up (FR.w (FR.w (FR.w (FR.w (FR.w (FR.w (FR.w (FR.w FR.rf f4 rfl) f8 rfl) f12 rfl) f16 rfl) f20 rfl) f24 rfl) f28 rfl) f32 rfl) f49 sb_Wsgn_Wlaw) f56 rfl) f61 rfl) f77 sb_Wtr_Wlaw) f129 rfl), (by omega), (by omega), (by omega), (by omega)⟩
        · intro h70; exfalso; omega
    · intro h63
      refine wp_al1 jF_240_23 rfl rfl (pc2 := 24) ?_
      refine wp_gr (b := 119) jF_240_24 kd117 (by decide) (c := 219) rfl rfl rfl (pc2 := 27) ?_
      refine wp_ic jF_240_27 rfl (pc2 := 28) ?_
      refine wp_du2 jF_240_28 rfl rfl (pc2 := 29) ?_
      have b135 := GI.b hg 119 1 kd119 (lo := (-2147483648)) (hi := 2147483647) rfl
      refine wp_iald (n := 6) (e := (σ.1 119 1)) jF_240_29 kd119 (by decide) rfl rfl (by omega) (by omega) ((FRw.na f61 (by decide)).trans ((FRw.na f56 (by decide)).trans ((FR.at f49 119 1 rfl).trans ((FRw.na f32 (by decide)).trans ((FRw.na f28 (by decide)).trans ((FRw.na f24 (by decide)).trans ((FRw.na f20 (by decide)).trans ((FRw.na f16 (by decide)).trans ((FRw.na f12 (by decide)).trans ((FRw.na f8 (by decide)).trans (FRw.na f4 (by decide)))))))))))) rfl (pc2 := 30) ?_
      refine wp_ic jF_240_30 rfl (pc2 := 31) ?_
      refine wp_any2 (pc2 := 32) jF_240_31 rfl rfl ?_
      intro z136 h137
      refine wp_iast (n := 6) jF_240_32 kd119 (by decide) rfl rfl (by omega) (by omega) rfl (pc2 := 33) g60 (lo := (-2147483648)) (hi := 2147483647) rfl (by omega) (by omega) ?_
      intro τ138 g139 f140 e141
      refine wp_al1 jF_240_33 rfl rfl (pc2 := 34) ?_
      refine wp_gi jF_240_34 kd117 (by decide) rfl ((FRw.na f140 (by decide)).trans ((FRw.nj f61 (by decide)).trans (FRw.nj f56 (by decide)))) rfl (pc2 := 37) ?_
      refine wp_z_ne jF_240_37 (m_rgb b53 rfl) rfl (pc2 := 40) ?_ ?_
      · intro h142
        refine wp_ic jF_240_44 rfl (pc2 := 45) ?_
        refine wp_ri jF_240_45 rfl ?_
        show WP 251 40 [(0, .ref 117), (1, iV other)] [iV 0] _ _ _ _
        refine wp_z_ne jF_251_40 (m_rgl rfl) rfl (pc2 := 43) ?_ ?_
        · intro h143; exfalso; omega
        · intro h143
          refine wp_ic jF_251_43 rfl (pc2 := 44) ?_
          refine wp_ri jF_251_44 rfl ?_
          have q144 : (l0 τ138) = (l0 σ) := ((l0_wr f140 (by decide)).trans ((l0_wr f61 (by decide)).trans ((l0_wr f56 (by decide)).trans ((l0_fr f49 rfl (fun _ => rfl)).trans ((l0_wr f32 (by decide)).trans ((l0_wr f28 (by decide)).trans ((l0_wr f24 (by decide)).trans ((l0_wr f20 (by decide)).trans ((l0_wr f16 (by decide)).trans ((l0_wr f12 (by decide)).trans ((l0_wr f8 (by decide)).trans (l0_wr f4 (by decide)))))))))))))
          have q145 : (l1 τ138) = (l1 σ) := ((l1_wr f140 (by decide)).trans ((l1_wr f61 (by decide)).trans ((l1_wr f56 (by decide)).trans ((l1_fr f49 rfl (fun _ => rfl)).trans ((l1_wr f32 (by decide)).trans ((l1_wr f28 (by decide)).trans ((l1_wr f24 (by decide)).trans ((l1_wr f20 (by decide)).trans ((l1_wr f16 (by decide)).trans ((l1_wr f12 (by decide)).trans ((l1_wr f8 (by decide)).trans (l1_wr f4 (by decide)))))))))))))
          have q146 : (kp τ138) = (kp σ) := ((kp_wr f140 (by decide)).trans ((kp_wr f61 (by decide)).trans ((kp_wr f56 (by decide)).trans ((kp_fr f49 (fun _ => rfl) (fun _ => rfl)).trans ((kp_wr f32 (by decide)).trans ((kp_wr f28 (by decide)).trans ((kp_wr f24 (by decide)).trans ((kp_wr f20 (by decide)).trans ((kp_wr f16 (by decide)).trans ((kp_wr f12 (by decide)).trans ((kp_wr f8 (by decide)).trans (kp_wr f4 (by decide)))))))))))))
          have q147 : (τ138.1 117 1) = 0 := ((FRw.na f140 (by decide)).trans ((FRw.nj f61 (by decide)).trans ((FRw.nj f56 (by decide)).trans ((FR.at f49 117 1 rfl).trans ((FRw.nj f32 (by decide)).trans ((FRw.nj f28 (by decide)).trans ((FRw.nj f24 (by decide)).trans ((FRw.nj f20 (by decide)).trans ((FRw.nj f16 (by decide)).trans ((FRw.nj f12 (by decide)).trans e9))))))))))
          exact ⟨(-1), rfl, ⟨by omega, by omega⟩, g139, (FR.w (FR.w (FR.w (FR.up (FR.w (FR.w (FR.w (FR.w (FR.w (FR.w (FR.w (FR.w FR.rf f4 rfl) f8 rfl) f12 rfl) f16 rfl) f20 rfl) f24 rfl) f28 rfl) f32 rfl) f49 sb_Wsgn_Wlaw) f56 rfl) f61 rfl) f140 rfl), (by omega), (by omega), (by omega), (by omega)⟩
      · intro h142
        refine wp_ic jF_240_40 rfl (pc2 := 41) ?_
        refine wp_go jF_240_41 ?_
        refine wp_ri jF_240_45 rfl ?_
        show WP 251 40 [(0, .ref 117), (1, iV other)] [iV 1] _ _ _ _
        refine wp_z_ne jF_251_40 (m_rgl rfl) rfl (pc2 := 43) ?_ ?_
        · intro h148
          refine wp_al1 jF_251_45 rfl rfl (pc2 := 46) ?_
          refine wp_cV (as := []) (rest := []) (a := 117) (mx := 2) (ci := 12) jF_251_46 kd117 (by decide) rfl rfl rfl rfl rfl (by omega) (by omega) rfl (pc2 := 49) ?_
          have q149 : (rl τ138) = (rl τ26) := ((rl_wr f140 (by decide)).trans ((rl_wr f61 (by decide)).trans ((rl_wr f56 (by decide)).trans ((rl_fr f49 rfl (fun _ => rfl)).trans (rl_wr f32 (by decide))))))
          have q150 : (τ138.1 117 44) = 0 := ((FRw.na f140 (by decide)).trans ((FRw.nj f61 (by decide)).trans ((FRw.nj f56 (by decide)).trans ((FR.at f49 117 44 rfl).trans ((FRw.nj f32 (by decide)).trans e29)))))
          refine wp_use (m_257 τ138 g139   _ _ (by omega) (by omega)) ?_
          rintro _ τ153 ⟨rfl, g154, f155, p151, p152⟩
          show WP 251 49 [(0, .ref 117), (1, iV other)] [] _ _ _ _
          refine wp_il1 jF_251_49 rfl rfl (pc2 := 50) ?_
          refine wp_z_ne jF_251_50 ⟨by omega, by omega⟩ rfl (pc2 := 53) ?_ ?_
          · intro h156
            refine wp_il1 jF_251_73 rfl rfl (pc2 := 74) ?_
            refine wp_z_ne jF_251_74 ⟨by omega, by omega⟩ rfl (pc2 := 77) ?_ ?_
            · intro h157
              refine wp_al1 jF_251_81 rfl rfl (pc2 := 82) ?_
              refine wp_il1 jF_251_82 rfl rfl (pc2 := 83) ?_
              refine wp_z_eq jF_251_83 ⟨by omega, by omega⟩ rfl (pc2 := 86) ?_ ?_
              · intro h158; exfalso; omega
              · intro h158
                refine wp_ic jF_251_86 rfl (pc2 := 87) ?_
                refine wp_go jF_251_87 ?_
                refine wp_cV (as := [iV 1]) (rest := []) (a := 117) (mx := 3) (ci := 12) jF_251_91 kd117 (by decide) rfl rfl rfl rfl rfl (by omega) (by omega) rfl (pc2 := 94) ?_
                have q159 : (l0 τ153) = (l0 σ) := ((l0_fr f155 rfl (fun _ => rfl)).trans ((l0_wr f140 (by decide)).trans ((l0_wr f61 (by decide)).trans ((l0_wr f56 (by decide)).trans ((l0_fr f49 rfl (fun _ => rfl)).trans ((l0_wr f32 (by decide)).trans ((l0_wr f28 (by decide)).trans ((l0_wr f24 (by decide)).trans ((l0_wr f20 (by decide)).trans ((l0_wr f16 (by decide)).trans ((l0_wr f12 (by decide)).trans ((l0_wr f8 (by decide)).trans (l0_wr f4 (by decide))))))))))))))
                have b160 := GI.b g154 117 49 kd117 (lo := 0) (hi := 61) rfl
                have b161 := GI.b hg 148 0 kd148 (lo := 0) (hi := 60) rfl
                have q162 : (τ153.1 148 0) = (σ.1 148 0) := ((FR.at f155 148 0 rfl).trans ((FRw.na f140 (by decide)).trans ((FRw.na f61 (by decide)).trans ((FRw.na f56 (by decide)).trans ((FR.at f49 148 0 rfl).trans ((FRw.na f32 (by decide)).trans ((FRw.na f28 (by decide)).trans ((FRw.na f24 (by decide)).trans ((FRw.na f20 (by decide)).trans ((FRw.na f16 (by decide)).trans ((FRw.na f12 (by decide)).trans ((FRw.na f8 (by decide)).trans (FRw.na f4 (by decide))))))))))))))
                refine wp_use (m_263_1 τ153 g154  (by omega) _ _ (by omega) (by omega)) ?_
                rintro _ τ167 ⟨rfl, g168, f169, p163, p164, p165, p166⟩
                show WP 251 94 [(0, .ref 117), (1, iV other)] [] _ _ _ _
                refine wp_al1 jF_251_94 rfl rfl (pc2 := 95) ?_
                refine wp_gi jF_251_95 kd117 (by decide) rfl ((FR.at f169 117 45 rfl).trans ((FR.at f155 117 45 rfl).trans ((FRw.na f140 (by decide)).trans ((FRw.nj f61 (by decide)).trans ((FRw.nj f56 (by decide)).trans ((FR.at f49 117 45 rfl).trans e33)))))) rfl (pc2 := 98) ?_
                refine wp_ri jF_251_98 rfl ?_
                have q170 : (kp τ167) = (kp σ) := ((kp_fr f169 (fun _ => rfl) (fun _ => rfl)).trans ((kp_fr f155 (fun _ => rfl) (fun _ => rfl)).trans ((kp_wr f140 (by decide)).trans ((kp_wr f61 (by decide)).trans ((kp_wr f56 (by decide)).trans ((kp_fr f49 (fun _ => rfl) (fun _ => rfl)).trans ((kp_wr f32 (by decide)).trans ((kp_wr f28 (by decide)).trans ((kp_wr f24 (by decide)).trans ((kp_wr f20 (by decide)).trans ((kp_wr f16 (by decide)).trans ((kp_wr f12 (by decide)).trans ((kp_wr f8 (by decide)).trans (kp_wr f4 (by decide)))))))))))))))
                have q171 : (τ167.1 117 1) = 0 := ((FR.at f169 117 1 rfl).trans ((FR.at f155 117 1 rfl).trans ((FRw.na f140 (by decide)).trans ((FRw.nj f61 (by decide)).trans ((FRw.nj f56 (by decide)).trans ((FR.at f49 117 1 rfl).trans ((FRw.nj f32 (by decide)).trans ((FRw.nj f28 (by decide)).trans ((FRw.nj f24 (by decide)).trans ((FRw.nj f20 (by decide)).trans ((FRw.nj f16 (by decide)).trans ((FRw.nj f12 (by decide)).trans e9))))))))))))
                exact ⟨0, rfl, ⟨by omega, by omega⟩, g168, (FR.up (FR.up (FR.w (FR.w (FR.w (FR.up (FR.w (FR.w (FR.w (FR.w (FR.w (FR.w (FR.w (FR.w FR.rf f4 rfl) f8 rfl) f12 rfl) f16 rfl) f20 rfl) f24 rfl) f28 rfl) f32 rfl) f49 sb_Wsgn_Wlaw) f56 rfl) f61 rfl) f140 rfl) f155 sb_Wtr_Wlaw) f169 sb_Wla_Wlaw), (by omega), (by omega), (by omega), (by omega)⟩
            · intro h157; exfalso; omega
          · intro h156
            refine wp_al1 jF_251_53 rfl rfl (pc2 := 54) ?_
            refine wp_cV (as := []) (rest := []) (a := 117) (mx := 6) (ci := 12) jF_251_54 kd117 (by decide) rfl rfl rfl rfl rfl (by omega) (by omega) rfl (pc2 := 57) ?_
            have b172 := GI.b hg 143 4 kd143 (lo := 0) (hi := 16) rfl
            have q173 : (τ153.1 143 4) = (σ.1 143 4) := ((FR.at f155 143 4 rfl).trans ((FRw.na f140 (by decide)).trans ((FRw.na f61 (by decide)).trans ((FRw.na f56 (by decide)).trans ((FR.at f49 143 4 rfl).trans ((FRw.na f32 (by decide)).trans ((FRw.na f28 (by decide)).trans ((FRw.na f24 (by decide)).trans ((FRw.na f20 (by decide)).trans ((FRw.na f16 (by decide)).trans ((FRw.na f12 (by decide)).trans ((FRw.na f8 (by decide)).trans (FRw.na f4 (by decide))))))))))))))
            refine wp_use (m_258 τ153 g154  (by omega) (by omega) _ _ (by omega) (by omega)) ?_
            rintro _ _ ⟨z176, rfl, h177, rfl⟩
            show WP 251 57 [(0, .ref 117), (1, iV other)] [iV z176] _ _ _ _
            refine wp_z_ne jF_251_57 (m_rgb h177 rfl) rfl (pc2 := 60) ?_ ?_
            · intro h178
              refine wp_il1 jF_251_73 rfl rfl (pc2 := 74) ?_
              refine wp_z_ne jF_251_74 ⟨by omega, by omega⟩ rfl (pc2 := 77) ?_ ?_
              · intro h179; exfalso; omega
              · intro h179
                refine wp_al1 jF_251_77 rfl rfl (pc2 := 78) ?_
                refine wp_cV (as := []) (rest := []) (a := 117) (mx := 2) (ci := 12) jF_251_78 kd117 (by decide) rfl rfl rfl rfl rfl (by omega) (by omega) rfl (pc2 := 81) ?_
                have q180 : (l0 τ153) = (l0 σ) := ((l0_fr f155 rfl (fun _ => rfl)).trans ((l0_wr f140 (by decide)).trans ((l0_wr f61 (by decide)).trans ((l0_wr f56 (by decide)).trans ((l0_fr f49 rfl (fun _ => rfl)).trans ((l0_wr f32 (by decide)).trans ((l0_wr f28 (by decide)).trans ((l0_wr f24 (by decide)).trans ((l0_wr f20 (by decide)).trans ((l0_wr f16 (by decide)).trans ((l0_wr f12 (by decide)).trans ((l0_wr f8 (by decide)).trans (l0_wr f4 (by decide))))))))))))))
                have q181 : (kp τ153) = (kp σ) := ((kp_fr f155 (fun _ => rfl) (fun _ => rfl)).trans ((kp_wr f140 (by decide)).trans ((kp_wr f61 (by decide)).trans ((kp_wr f56 (by decide)).trans ((kp_fr f49 (fun _ => rfl) (fun _ => rfl)).trans ((kp_wr f32 (by decide)).trans ((kp_wr f28 (by decide)).trans ((kp_wr f24 (by decide)).trans ((kp_wr f20 (by decide)).trans ((kp_wr f16 (by decide)).trans ((kp_wr f12 (by decide)).trans ((kp_wr f8 (by decide)).trans (kp_wr f4 (by decide))))))))))))))
                refine wp_use (m_262 τ153 g154  (by omega) (by omega) _ _ (by omega) (by omega)) ?_
                rintro _ τ183 ⟨rfl, g184, f185, p182⟩
                show WP 251 81 [(0, .ref 117), (1, iV other)] [] _ _ _ _
                refine wp_al1 jF_251_81 rfl rfl (pc2 := 82) ?_
                refine wp_il1 jF_251_82 rfl rfl (pc2 := 83) ?_
                refine wp_z_eq jF_251_83 ⟨by omega, by omega⟩ rfl (pc2 := 86) ?_ ?_
                · intro h186
                  refine wp_ic jF_251_90 rfl (pc2 := 91) ?_
                  refine wp_cV (as := [iV 0]) (rest := []) (a := 117) (mx := 3) (ci := 12) jF_251_91 kd117 (by decide) rfl rfl rfl rfl rfl (by omega) (by omega) rfl (pc2 := 94) ?_
                  have q187 : (tl τ183) = (tl τ153) := (tl_fr f185 rfl (fun _ => rfl))
                  have q188 : (l1 τ183) = (l1 σ) := ((l1_fr f185 rfl (fun _ => rfl)).trans ((l1_fr f155 rfl (fun _ => rfl)).trans ((l1_wr f140 (by decide)).trans ((l1_wr f61 (by decide)).trans ((l1_wr f56 (by decide)).trans ((l1_fr f49 rfl (fun _ => rfl)).trans ((l1_wr f32 (by decide)).trans ((l1_wr f28 (by decide)).trans ((l1_wr f24 (by decide)).trans ((l1_wr f20 (by decide)).trans ((l1_wr f16 (by decide)).trans ((l1_wr f12 (by decide)).trans ((l1_wr f8 (by decide)).trans (l1_wr f4 (by decide)))))))))))))))
                  have b189 := GI.b g154 117 49 kd117 (lo := 0) (hi := 61) rfl
                  have q190 : (τ183.1 117 49) = (τ153.1 117 49) := (FR.at f185 117 49 rfl)
                  have b191 := GI.b hg 148 1 kd148 (lo := 0) (hi := 60) rfl
                  have q192 : (τ183.1 148 1) = (σ.1 148 1) := ((FR.at f185 148 1 rfl).trans ((FR.at f155 148 1 rfl).trans ((FRw.na f140 (by decide)).trans ((FRw.na f61 (by decide)).trans ((FRw.na f56 (by decide)).trans ((FR.at f49 148 1 rfl).trans ((FRw.na f32 (by decide)).trans ((FRw.na f28 (by decide)).trans ((FRw.na f24 (by decide)).trans ((FRw.na f20 (by decide)).trans ((FRw.na f16 (by decide)).trans ((FRw.na f12 (by decide)).trans ((FRw.na f8 (by decide)).trans (FRw.na f4 (by decide)))))))))))))))
                  refine wp_use (m_263_0 τ183 g184  (by omega) _ _ (by omega) (by omega)) ?_
                  rintro _ τ197 ⟨rfl, g198, f199, p193, p194, p195, p196⟩
                  show WP 251 94 [(0, .ref 117), (1, iV other)] [] _ _ _ _
                  refine wp_al1 jF_251_94 rfl rfl (pc2 := 95) ?_
                  refine wp_gi jF_251_95 kd117 (by decide) rfl ((FR.at f199 117 45 rfl).trans ((FR.at f185 117 45 rfl).trans ((FR.at f155 117 45 rfl).trans ((FRw.na f140 (by decide)).trans ((FRw.nj f61 (by decide)).trans ((FRw.nj f56 (by decide)).trans ((FR.at f49 117 45 rfl).trans e33))))))) rfl (pc2 := 98) ?_
                  refine wp_ri jF_251_98 rfl ?_
                  have q200 : (kp τ197) = (kp τ183) := (kp_fr f199 (fun _ => rfl) (fun _ => rfl))
                  have q201 : (τ197.1 117 1) = 0 := ((FR.at f199 117 1 rfl).trans ((FR.at f185 117 1 rfl).trans ((FR.at f155 117 1 rfl).trans ((FRw.na f140 (by decide)).trans ((FRw.nj f61 (by decide)).trans ((FRw.nj f56 (by decide)).trans ((FR.at f49 117 1 rfl).trans ((FRw.nj f32 (by decide)).trans ((FRw.nj f28 (by decide)).trans ((FRw.nj f24 (by decide)).trans ((FRw.nj f20 (by decide)).trans ((FRw.nj f16 (by decide)).trans ((FRw.nj f12 (by decide)).trans e9)))))))))))))
                  exact ⟨0, rfl, ⟨by omega, by omega⟩, g198, (FR.up (FR.up (FR.up (FR.w (FR.w (FR.w (FR.up (FR.w (FR.w (FR.w (FR.w (FR.w (FR.w (FR.w (FR.w FR.rf f4 rfl) f8 rfl) f12 rfl) f16 rfl) f20 rfl) f24 rfl) f28 rfl) f32 rfl) f49 sb_Wsgn_Wlaw) f56 rfl) f61 rfl) f140 rfl) f155 sb_Wtr_Wlaw) f185 sb_Wkeep_Wlaw) f199 sb_Wla_Wlaw), (by omega), (by omega), (by omega), (by omega)⟩
                · intro h186; exfalso; omega
            · intro h178
              refine wp_al1 jF_251_60 rfl rfl (pc2 := 61) ?_
              refine wp_gr (b := 119) jF_251_61 kd117 (by decide) (c := 219) rfl rfl rfl (pc2 := 64) ?_
              refine wp_ic jF_251_64 rfl (pc2 := 65) ?_
              refine wp_du2 jF_251_65 rfl rfl (pc2 := 66) ?_
              refine wp_iald (n := 6) (e := z136) jF_251_66 kd119 (by decide) rfl rfl (by omega) (by omega) ((FR.at f155 119 1 rfl).trans e141) rfl (pc2 := 67) ?_
              refine wp_ic jF_251_67 rfl (pc2 := 68) ?_
              refine wp_any2 (pc2 := 69) jF_251_68 rfl rfl ?_
              intro z202 h203
              refine wp_iast (n := 6) jF_251_69 kd119 (by decide) rfl rfl (by omega) (by omega) rfl (pc2 := 70) g154 (lo := (-2147483648)) (hi := 2147483647) rfl (by omega) (by omega) ?_
              intro τ204 g205 f206 e207
              refine wp_bi jF_251_70 (by decide) rfl (pc2 := 72) ?_
              refine wp_ri jF_251_72 rfl ?_
              have q208 : (l0 τ204) = (l0 σ) := ((l0_wr f206 (by decide)).trans ((l0_fr f155 rfl (fun _ => rfl)).trans ((l0_wr f140 (by decide)).trans ((l0_wr f61 (by decide)).trans ((l0_wr f56 (by decide)).trans ((l0_fr f49 rfl (fun _ => rfl)).trans ((l0_wr f32 (by decide)).trans ((l0_wr f28 (by decide)).trans ((l0_wr f24 (by decide)).trans ((l0_wr f20 (by decide)).trans ((l0_wr f16 (by decide)).trans ((l0_wr f12 (by decide)).trans ((l0_wr f8 (by decide)).trans (l0_wr f4 (by decide)))))))))))))))
              have q209 : (l1 τ204) = (l1 σ) := ((l1_wr f206 (by decide)).trans ((l1_fr f155 rfl (fun _ => rfl)).trans ((l1_wr f140 (by decide)).trans ((l1_wr f61 (by decide)).trans ((l1_wr f56 (by decide)).trans ((l1_fr f49 rfl (fun _ => rfl)).trans ((l1_wr f32 (by decide)).trans ((l1_wr f28 (by decide)).trans ((l1_wr f24 (by decide)).trans ((l1_wr f20 (by decide)).trans ((l1_wr f16 (by decide)).trans ((l1_wr f12 (by decide)).trans ((l1_wr f8 (by decide)).trans (l1_wr f4 (by decide)))))))))))))))
              have q210 : (kp τ204) = (kp σ) := ((kp_wr f206 (by decide)).trans ((kp_fr f155 (fun _ => rfl) (fun _ => rfl)).trans ((kp_wr f140 (by decide)).trans ((kp_wr f61 (by decide)).trans ((kp_wr f56 (by decide)).trans ((kp_fr f49 (fun _ => rfl) (fun _ => rfl)).trans ((kp_wr f32 (by decide)).trans ((kp_wr f28 (by decide)).trans ((kp_wr f24 (by decide)).trans ((kp_wr f20 (by decide)).trans ((kp_wr f16 (by decide)).trans ((kp_wr f12 (by decide)).trans ((kp_wr f8 (by decide)).trans (kp_wr f4 (by decide)))))))))))))))
              have q211 : (τ204.1 117 1) = 0 := ((FRw.na f206 (by decide)).trans ((FR.at f155 117 1 rfl).trans ((FRw.na f140 (by decide)).trans ((FRw.nj f61 (by decide)).trans ((FRw.nj f56 (by decide)).trans ((FR.at f49 117 1 rfl).trans ((FRw.nj f32 (by decide)).trans ((FRw.nj f28 (by decide)).trans ((FRw.nj f24 (by decide)).trans ((FRw.nj f20 (by decide)).trans ((FRw.nj f16 (by decide)).trans ((FRw.nj f12 (by decide)).trans e9))))))))))))
              exact ⟨(-2), rfl, ⟨by omega, by omega⟩, g205, (FR.w (FR.up (FR.w (FR.w (FR.w (FR.up (FR.w (FR.w (FR.w (FR.w (FR.w (FR.w (FR.w (FR.w FR.rf f4 rfl) f8 rfl) f12 rfl) f16 rfl) f20 rfl) f24 rfl) f28 rfl) f32 rfl) f49 sb_Wsgn_Wlaw) f56 rfl) f61 rfl) f140 rfl) f155 sb_Wtr_Wlaw) f206 rfl), (by omega), (by omega), (by omega), (by omega)⟩
        · intro h148; exfalso; omega
  · intro h52
    replace p41 := p41 (by omega)
    clear p42
    replace p45 := p45 (by omega)
    replace p46 := p46 (by omega)
    have b212 := GI.b g48 117 2 kd117 (lo := 0) (hi := 1601) rfl
    refine wp_loop (α := Unit) (fun a => [(0, .ref 117), (1, iV other)]) (fun a τ => GI τ ∧ FR Wlw τ47 τ ∧ ((τ.1 117 5) = 0) ∧ ((rl τ) = 22) ∧ ((τ47.1 117 2) ≤ (τ.1 117 2))) (fun a τ => Int.toNat (1700 - (τ.1 117 2))) () τ47 ?_ ?_
    · skip
      have q213 : (rl τ47) = (rl τ26) := ((rl_fr f49 rfl (fun _ => rfl)).trans (rl_wr f32 (by decide)))
      have b214 := GI.b g48 117 5 kd117 (lo := (-2147483648)) (hi := 2147483647) rfl
      exact ⟨g48, FR.rf, (by omega), (by have e : rl τ26 = 22 := rl_0 e29; omega), (by omega)⟩
    · rintro ⟨⟩ τ215 ⟨g216, f217, p218, p219, p220⟩ ih221
      have b222 := GI.b g216 117 2 kd117 (lo := 0) (hi := 1601) rfl
      have b223 := GI.b g216 117 5 kd117 (lo := (-2147483648)) (hi := 2147483647) rfl
      show WP 251 21 [(0, .ref 117), (1, iV other)] [] _ _ _ _
      show WP 251 21 [(0, .ref 117), (1, iV other)] [] _ _ _ _
      refine wp_al1 jF_251_21 rfl rfl (pc2 := 22) ?_
      refine wp_cV (as := []) (rest := []) (a := 117) (mx := 1) (ci := 12) jF_251_22 kd117 (by decide) rfl rfl rfl rfl rfl (by omega) (by omega) rfl (pc2 := 25) ?_
      have q224 : (τ215.1 117 3) = (σ.1 117 1) := ((FR.at f217 117 3 rfl).trans ((FR.at f49 117 3 rfl).trans ((FRw.nj f32 (by decide)).trans ((FRw.nj f28 (by decide)).trans ((FRw.nj f24 (by decide)).trans ((FRw.nj f20 (by decide)).trans ((FRw.nj f16 (by decide)).trans ((FRw.nj f12 (by decide)).trans ((FRw.nj f8 (by decide)).trans e5)))))))))
      refine wp_use (m_216 τ215 g216   _ _ (by omega) (by omega)) ?_
      rintro _ τ231 ⟨z234, rfl, h235, g232, f233, p225, p226, p227, p228, p229, p230⟩
      have b236 := GI.b hg 118 (τ231.1 117 2).toNat kd118 (lo := 0) (hi := 255) rfl
      have q237 : (τ215.1 118 (τ231.1 117 2).toNat) = (σ.1 118 (τ231.1 117 2).toNat) := ((FR.at f217 118 (τ231.1 117 2).toNat rfl).trans ((FR.at f49 118 (τ231.1 117 2).toNat rfl).trans ((FRw.na f32 (by decide)).trans ((FRw.na f28 (by decide)).trans ((FRw.na f24 (by decide)).trans ((FRw.na f20 (by decide)).trans ((FRw.na f16 (by decide)).trans ((FRw.na f12 (by decide)).trans ((FRw.na f8 (by decide)).trans (FRw.na f4 (by decide)))))))))))
      show WP 251 25 [(0, .ref 117), (1, iV other)] [iV z234] _ _ _ _
      refine wp_ic jF_251_25 rfl (pc2 := 26) ?_
      refine wp_i_eq jF_251_26 (m_rgb h235 rfl) (m_rgl rfl) rfl (pc2 := 29) ?_ ?_
      · intro h238
        clear p225
        clear p230
        refine wp_al1 jF_251_36 rfl rfl (pc2 := 37) ?_
        refine wp_cV (as := []) (rest := []) (a := 117) (mx := 1) (ci := 12) jF_251_37 kd117 (by decide) rfl rfl rfl rfl rfl (by omega) (by omega) rfl (pc2 := 40) ?_
        show WP 240 0 [(0, .ref 117)] [] _ _ _ _
        refine wp_al1 jF_240_0 rfl rfl (pc2 := 1) ?_
        refine wp_al1 jF_240_1 rfl rfl (pc2 := 2) ?_
        refine wp_gi jF_240_2 kd117 (by decide) rfl (FR.at f233 117 5 rfl) rfl (pc2 := 5) ?_
        refine wp_pi jF_240_5 kd117 (by decide) rfl rfl rfl (pc2 := 8) g232 (lo := (-2147483648)) (hi := 2147483647) rfl (by omega) (by omega) ?_
        intro τ239 g240 f241 e242
        refine wp_al1 jF_240_8 rfl rfl (pc2 := 9) ?_
        refine wp_al1 jF_240_9 rfl rfl (pc2 := 10) ?_
        have b243 := GI.b g216 117 6 kd117 (lo := (-2147483648)) (hi := 2147483647) rfl
        refine wp_gi jF_240_10 kd117 (by decide) rfl ((FRw.nj f241 (by decide)).trans (FR.at f233 117 6 rfl)) rfl (pc2 := 13) ?_
        refine wp_pi jF_240_13 kd117 (by decide) rfl rfl rfl (pc2 := 16) g240 (lo := (-2147483648)) (hi := 2147483647) rfl (by omega) (by omega) ?_
        intro τ244 g245 f246 e247
        refine wp_al1 jF_240_16 rfl rfl (pc2 := 17) ?_
        refine wp_gi jF_240_17 kd117 (by decide) rfl ((FRw.nj f246 (by decide)).trans ((FRw.nj f241 (by decide)).trans (FR.at f233 117 5 rfl))) rfl (pc2 := 20) ?_
        refine wp_z_eq jF_240_20 (m_rgb b223 rfl) rfl (pc2 := 23) ?_ ?_
        · intro h248
          refine wp_al1 jF_240_33 rfl rfl (pc2 := 34) ?_
          refine wp_gi jF_240_34 kd117 (by decide) rfl ((FRw.nj f246 (by decide)).trans ((FRw.nj f241 (by decide)).trans (FR.at f233 117 5 rfl))) rfl (pc2 := 37) ?_
          refine wp_z_ne jF_240_37 (m_rgb b223 rfl) rfl (pc2 := 40) ?_ ?_
          · intro h249
            refine wp_ic jF_240_44 rfl (pc2 := 45) ?_
            refine wp_ri jF_240_45 rfl ?_
            show WP 251 40 [(0, .ref 117), (1, iV other)] [iV 0] _ _ _ _
            refine wp_z_ne jF_251_40 (m_rgl rfl) rfl (pc2 := 43) ?_ ?_
            · intro h250; exfalso; omega
            · intro h250
              refine wp_ic jF_251_43 rfl (pc2 := 44) ?_
              refine wp_ri jF_251_44 rfl ?_
              have q251 : (l0 τ244) = (l0 σ) := ((l0_wr f246 (by decide)).trans ((l0_wr f241 (by decide)).trans ((l0_fr f233 rfl (fun _ => rfl)).trans ((l0_fr f217 rfl (fun _ => rfl)).trans ((l0_fr f49 rfl (fun _ => rfl)).trans ((l0_wr f32 (by decide)).trans ((l0_wr f28 (by decide)).trans ((l0_wr f24 (by decide)).trans ((l0_wr f20 (by decide)).trans ((l0_wr f16 (by decide)).trans ((l0_wr f12 (by decide)).trans ((l0_wr f8 (by decide)).trans (l0_wr f4 (by decide))))))))))))))
              have q252 : (l1 τ244) = (l1 σ) := ((l1_wr f246 (by decide)).trans ((l1_wr f241 (by decide)).trans ((l1_fr f233 rfl (fun _ => rfl)).trans ((l1_fr f217 rfl (fun _ => rfl)).trans ((l1_fr f49 rfl (fun _ => rfl)).trans ((l1_wr f32 (by decide)).trans ((l1_wr f28 (by decide)).trans ((l1_wr f24 (by decide)).trans ((l1_wr f20 (by decide)).trans ((l1_wr f16 (by decide)).trans ((l1_wr f12 (by decide)).trans ((l1_wr f8 (by decide)).trans (l1_wr f4 (by decide))))))))))))))
              have q253 : (kp τ244) = (kp σ) := ((kp_wr f246 (by decide)).trans ((kp_wr f241 (by decide)).trans ((kp_fr f233 (fun _ => rfl) (fun _ => rfl)).trans ((kp_fr f217 (fun _ => rfl) (fun _ => rfl)).trans ((kp_fr f49 (fun _ => rfl) (fun _ => rfl)).trans ((kp_wr f32 (by decide)).trans ((kp_wr f28 (by decide)).trans ((kp_wr f24 (by decide)).trans ((kp_wr f20 (by decide)).trans ((kp_wr f16 (by decide)).trans ((kp_wr f12 (by decide)).trans ((kp_wr f8 (by decide)).trans (kp_wr f4 (by decide))))))))))))))
              have q254 : (τ244.1 117 1) = 0 := ((FRw.nj f246 (by decide)).trans ((FRw.nj f241 (by decide)).trans ((FR.at f233 117 1 rfl).trans ((FR.at f217 117 1 rfl).trans ((FR.at f49 117 1 rfl).trans ((FRw.nj f32 (by decide)).trans ((FRw.nj f28 (by decide)).trans ((FRw.nj f24 (by decide)).trans ((FRw.nj f20 (by decide)).trans ((FRw.nj f16 (by decide)).trans ((FRw.nj f12 (by decide)).trans e9)))))))))))
              exact ⟨(-1), rfl, ⟨by omega, by omega⟩, g245, (FR.w (FR.w (FR.up (FR.up (FR.up (FR.w (FR.w (FR.w (FR.w (FR.w (FR.w (FR.w (FR.w FR.rf f4 rfl) f8 rfl) f12 rfl) f16 rfl) f20 rfl) f24 rfl) f28 rfl) f32 rfl) f49 sb_Wsgn_Wlaw) f217 sb_Wlw_Wlaw) f233 sb_Wat_Wlaw) f241 rfl) f246 rfl), (by omega), (by omega), (by omega), (by omega)⟩
          · intro h249
            refine wp_ic jF_240_40 rfl (pc2 := 41) ?_
            refine wp_go jF_240_41 ?_
            refine wp_ri jF_240_45 rfl ?_
            show WP 251 40 [(0, .ref 117), (1, iV other)] [iV 1] _ _ _ _
            refine wp_z_ne jF_251_40 (m_rgl rfl) rfl (pc2 := 43) ?_ ?_
            · intro h255
              refine wp_al1 jF_251_45 rfl rfl (pc2 := 46) ?_
              refine wp_cV (as := []) (rest := []) (a := 117) (mx := 2) (ci := 12) jF_251_46 kd117 (by decide) rfl rfl rfl rfl rfl (by omega) (by omega) rfl (pc2 := 49) ?_
              have q256 : (rl τ244) = (rl τ215) := ((rl_wr f246 (by decide)).trans ((rl_wr f241 (by decide)).trans (rl_fr f233 rfl (fun _ => rfl))))
              have b257 := GI.b g216 117 44 kd117 (lo := 0) (hi := 60) rfl
              have q258 : (τ244.1 117 44) = (τ215.1 117 44) := ((FRw.nj f246 (by decide)).trans ((FRw.nj f241 (by decide)).trans (FR.at f233 117 44 rfl)))
              refine wp_use (m_257 τ244 g245   _ _ (by omega) (by omega)) ?_
              rintro _ τ261 ⟨rfl, g262, f263, p259, p260⟩
              show WP 251 49 [(0, .ref 117), (1, iV other)] [] _ _ _ _
              refine wp_il1 jF_251_49 rfl rfl (pc2 := 50) ?_
              refine wp_z_ne jF_251_50 ⟨by omega, by omega⟩ rfl (pc2 := 53) ?_ ?_
              · intro h264
                refine wp_il1 jF_251_73 rfl rfl (pc2 := 74) ?_
                refine wp_z_ne jF_251_74 ⟨by omega, by omega⟩ rfl (pc2 := 77) ?_ ?_
                · intro h265
                  refine wp_al1 jF_251_81 rfl rfl (pc2 := 82) ?_
                  refine wp_il1 jF_251_82 rfl rfl (pc2 := 83) ?_
                  refine wp_z_eq jF_251_83 ⟨by omega, by omega⟩ rfl (pc2 := 86) ?_ ?_
                  · intro h266; exfalso; omega
                  · intro h266
                    refine wp_ic jF_251_86 rfl (pc2 := 87) ?_
                    refine wp_go jF_251_87 ?_
                    refine wp_cV (as := [iV 1]) (rest := []) (a := 117) (mx := 3) (ci := 12) jF_251_91 kd117 (by decide) rfl rfl rfl rfl rfl (by omega) (by omega) rfl (pc2 := 94) ?_
                    have q267 : (l0 τ261) = (l0 σ) := ((l0_fr f263 rfl (fun _ => rfl)).trans ((l0_wr f246 (by decide)).trans ((l0_wr f241 (by decide)).trans ((l0_fr f233 rfl (fun _ => rfl)).trans ((l0_fr f217 rfl (fun _ => rfl)).trans ((l0_fr f49 rfl (fun _ => rfl)).trans ((l0_wr f32 (by decide)).trans ((l0_wr f28 (by decide)).trans ((l0_wr f24 (by decide)).trans ((l0_wr f20 (by decide)).trans ((l0_wr f16 (by decide)).trans ((l0_wr f12 (by decide)).trans ((l0_wr f8 (by decide)).trans (l0_wr f4 (by decide)))))))))))))))
                    have b268 := GI.b g262 117 49 kd117 (lo := 0) (hi := 61) rfl
                    have b269 := GI.b hg 148 0 kd148 (lo := 0) (hi := 60) rfl
                    have q270 : (τ261.1 148 0) = (σ.1 148 0) := ((FR.at f263 148 0 rfl).trans ((FRw.na f246 (by decide)).trans ((FRw.na f241 (by decide)).trans ((FR.at f233 148 0 rfl).trans ((FR.at f217 148 0 rfl).trans ((FR.at f49 148 0 rfl).trans ((FRw.na f32 (by decide)).trans ((FRw.na f28 (by decide)).trans ((FRw.na f24 (by decide)).trans ((FRw.na f20 (by decide)).trans ((FRw.na f16 (by decide)).trans ((FRw.na f12 (by decide)).trans ((FRw.na f8 (by decide)).trans (FRw.na f4 (by decide)))))))))))))))
                    refine wp_use (m_263_1 τ261 g262  (by omega) _ _ (by omega) (by omega)) ?_
                    rintro _ τ275 ⟨rfl, g276, f277, p271, p272, p273, p274⟩
                    show WP 251 94 [(0, .ref 117), (1, iV other)] [] _ _ _ _
                    refine wp_al1 jF_251_94 rfl rfl (pc2 := 95) ?_
                    have b278 := GI.b g216 117 45 kd117 (lo := (-2147483648)) (hi := 2147483647) rfl
                    refine wp_gi jF_251_95 kd117 (by decide) rfl ((FR.at f277 117 45 rfl).trans ((FR.at f263 117 45 rfl).trans ((FRw.nj f246 (by decide)).trans ((FRw.nj f241 (by decide)).trans (FR.at f233 117 45 rfl))))) rfl (pc2 := 98) ?_
                    refine wp_ri jF_251_98 rfl ?_
                    have q279 : (kp τ275) = (kp σ) := ((kp_fr f277 (fun _ => rfl) (fun _ => rfl)).trans ((kp_fr f263 (fun _ => rfl) (fun _ => rfl)).trans ((kp_wr f246 (by decide)).trans ((kp_wr f241 (by decide)).trans ((kp_fr f233 (fun _ => rfl) (fun _ => rfl)).trans ((kp_fr f217 (fun _ => rfl) (fun _ => rfl)).trans ((kp_fr f49 (fun _ => rfl) (fun _ => rfl)).trans ((kp_wr f32 (by decide)).trans ((kp_wr f28 (by decide)).trans ((kp_wr f24 (by decide)).trans ((kp_wr f20 (by decide)).trans ((kp_wr f16 (by decide)).trans ((kp_wr f12 (by decide)).trans ((kp_wr f8 (by decide)).trans (kp_wr f4 (by decide))))))))))))))))
                    have q280 : (τ275.1 117 1) = 0 := ((FR.at f277 117 1 rfl).trans ((FR.at f263 117 1 rfl).trans ((FRw.nj f246 (by decide)).trans ((FRw.nj f241 (by decide)).trans ((FR.at f233 117 1 rfl).trans ((FR.at f217 117 1 rfl).trans ((FR.at f49 117 1 rfl).trans ((FRw.nj f32 (by decide)).trans ((FRw.nj f28 (by decide)).trans ((FRw.nj f24 (by decide)).trans ((FRw.nj f20 (by decide)).trans ((FRw.nj f16 (by decide)).trans ((FRw.nj f12 (by decide)).trans e9)))))))))))))
                    exact ⟨(τ215.1 117 45), rfl, ⟨by omega, by omega⟩, g276, (FR.up (FR.up (FR.w (FR.w (FR.up (FR.up (FR.up (FR.w (FR.w (FR.w (FR.w (FR.w (FR.w (FR.w (FR.w FR.rf f4 rfl) f8 rfl) f12 rfl) f16 rfl) f20 rfl) f24 rfl) f28 rfl) f32 rfl) f49 sb_Wsgn_Wlaw) f217 sb_Wlw_Wlaw) f233 sb_Wat_Wlaw) f241 rfl) f246 rfl) f263 sb_Wtr_Wlaw) f277 sb_Wla_Wlaw), (by omega), (by omega), (by omega), (by omega)⟩
                · intro h265; exfalso; omega
              · intro h264
                refine wp_al1 jF_251_53 rfl rfl (pc2 := 54) ?_
                refine wp_cV (as := []) (rest := []) (a := 117) (mx := 6) (ci := 12) jF_251_54 kd117 (by decide) rfl rfl rfl rfl rfl (by omega) (by omega) rfl (pc2 := 57) ?_
                have b281 := GI.b hg 143 4 kd143 (lo := 0) (hi := 16) rfl
                have q282 : (τ261.1 143 4) = (σ.1 143 4) := ((FR.at f263 143 4 rfl).trans ((FRw.na f246 (by decide)).trans ((FRw.na f241 (by decide)).trans ((FR.at f233 143 4 rfl).trans ((FR.at f217 143 4 rfl).trans ((FR.at f49 143 4 rfl).trans ((FRw.na f32 (by decide)).trans ((FRw.na f28 (by decide)).trans ((FRw.na f24 (by decide)).trans ((FRw.na f20 (by decide)).trans ((FRw.na f16 (by decide)).trans ((FRw.na f12 (by decide)).trans ((FRw.na f8 (by decide)).trans (FRw.na f4 (by decide)))))))))))))))
                refine wp_use (m_258 τ261 g262  (by omega) (by omega) _ _ (by omega) (by omega)) ?_
                rintro _ _ ⟨z285, rfl, h286, rfl⟩
                show WP 251 57 [(0, .ref 117), (1, iV other)] [iV z285] _ _ _ _
                refine wp_z_ne jF_251_57 (m_rgb h286 rfl) rfl (pc2 := 60) ?_ ?_
                · intro h287
                  refine wp_il1 jF_251_73 rfl rfl (pc2 := 74) ?_
                  refine wp_z_ne jF_251_74 ⟨by omega, by omega⟩ rfl (pc2 := 77) ?_ ?_
                  · intro h288; exfalso; omega
                  · intro h288
                    refine wp_al1 jF_251_77 rfl rfl (pc2 := 78) ?_
                    refine wp_cV (as := []) (rest := []) (a := 117) (mx := 2) (ci := 12) jF_251_78 kd117 (by decide) rfl rfl rfl rfl rfl (by omega) (by omega) rfl (pc2 := 81) ?_
                    have q289 : (l0 τ261) = (l0 σ) := ((l0_fr f263 rfl (fun _ => rfl)).trans ((l0_wr f246 (by decide)).trans ((l0_wr f241 (by decide)).trans ((l0_fr f233 rfl (fun _ => rfl)).trans ((l0_fr f217 rfl (fun _ => rfl)).trans ((l0_fr f49 rfl (fun _ => rfl)).trans ((l0_wr f32 (by decide)).trans ((l0_wr f28 (by decide)).trans ((l0_wr f24 (by decide)).trans ((l0_wr f20 (by decide)).trans ((l0_wr f16 (by decide)).trans ((l0_wr f12 (by decide)).trans ((l0_wr f8 (by decide)).trans (l0_wr f4 (by decide)))))))))))))))
                    have q290 : (kp τ261) = (kp σ) := ((kp_fr f263 (fun _ => rfl) (fun _ => rfl)).trans ((kp_wr f246 (by decide)).trans ((kp_wr f241 (by decide)).trans ((kp_fr f233 (fun _ => rfl) (fun _ => rfl)).trans ((kp_fr f217 (fun _ => rfl) (fun _ => rfl)).trans ((kp_fr f49 (fun _ => rfl) (fun _ => rfl)).trans ((kp_wr f32 (by decide)).trans ((kp_wr f28 (by decide)).trans ((kp_wr f24 (by decide)).trans ((kp_wr f20 (by decide)).trans ((kp_wr f16 (by decide)).trans ((kp_wr f12 (by decide)).trans ((kp_wr f8 (by decide)).trans (kp_wr f4 (by decide)))))))))))))))
                    refine wp_use (m_262 τ261 g262  (by omega) (by omega) _ _ (by omega) (by omega)) ?_
                    rintro _ τ292 ⟨rfl, g293, f294, p291⟩
                    show WP 251 81 [(0, .ref 117), (1, iV other)] [] _ _ _ _
                    refine wp_al1 jF_251_81 rfl rfl (pc2 := 82) ?_
                    refine wp_il1 jF_251_82 rfl rfl (pc2 := 83) ?_
                    refine wp_z_eq jF_251_83 ⟨by omega, by omega⟩ rfl (pc2 := 86) ?_ ?_
                    · intro h295
                      refine wp_ic jF_251_90 rfl (pc2 := 91) ?_
                      refine wp_cV (as := [iV 0]) (rest := []) (a := 117) (mx := 3) (ci := 12) jF_251_91 kd117 (by decide) rfl rfl rfl rfl rfl (by omega) (by omega) rfl (pc2 := 94) ?_
                      have q296 : (tl τ292) = (tl τ261) := (tl_fr f294 rfl (fun _ => rfl))
                      have q297 : (l1 τ292) = (l1 σ) := ((l1_fr f294 rfl (fun _ => rfl)).trans ((l1_fr f263 rfl (fun _ => rfl)).trans ((l1_wr f246 (by decide)).trans ((l1_wr f241 (by decide)).trans ((l1_fr f233 rfl (fun _ => rfl)).trans ((l1_fr f217 rfl (fun _ => rfl)).trans ((l1_fr f49 rfl (fun _ => rfl)).trans ((l1_wr f32 (by decide)).trans ((l1_wr f28 (by decide)).trans ((l1_wr f24 (by decide)).trans ((l1_wr f20 (by decide)).trans ((l1_wr f16 (by decide)).trans ((l1_wr f12 (by decide)).trans ((l1_wr f8 (by decide)).trans (l1_wr f4 (by decide))))))))))))))))
                      have b298 := GI.b g262 117 49 kd117 (lo := 0) (hi := 61) rfl
                      have q299 : (τ292.1 117 49) = (τ261.1 117 49) := (FR.at f294 117 49 rfl)
                      have b300 := GI.b hg 148 1 kd148 (lo := 0) (hi := 60) rfl
                      have q301 : (τ292.1 148 1) = (σ.1 148 1) := ((FR.at f294 148 1 rfl).trans ((FR.at f263 148 1 rfl).trans ((FRw.na f246 (by decide)).trans ((FRw.na f241 (by decide)).trans ((FR.at f233 148 1 rfl).trans ((FR.at f217 148 1 rfl).trans ((FR.at f49 148 1 rfl).trans ((FRw.na f32 (by decide)).trans ((FRw.na f28 (by decide)).trans ((FRw.na f24 (by decide)).trans ((FRw.na f20 (by decide)).trans ((FRw.na f16 (by decide)).trans ((FRw.na f12 (by decide)).trans ((FRw.na f8 (by decide)).trans (FRw.na f4 (by decide))))))))))))))))
                      refine wp_use (m_263_0 τ292 g293  (by omega) _ _ (by omega) (by omega)) ?_
                      rintro _ τ306 ⟨rfl, g307, f308, p302, p303, p304, p305⟩
                      show WP 251 94 [(0, .ref 117), (1, iV other)] [] _ _ _ _
                      refine wp_al1 jF_251_94 rfl rfl (pc2 := 95) ?_
                      have b309 := GI.b g216 117 45 kd117 (lo := (-2147483648)) (hi := 2147483647) rfl
                      refine wp_gi jF_251_95 kd117 (by decide) rfl ((FR.at f308 117 45 rfl).trans ((FR.at f294 117 45 rfl).trans ((FR.at f263 117 45 rfl).trans ((FRw.nj f246 (by decide)).trans ((FRw.nj f241 (by decide)).trans (FR.at f233 117 45 rfl)))))) rfl (pc2 := 98) ?_
                      refine wp_ri jF_251_98 rfl ?_
                      have q310 : (kp τ306) = (kp τ292) := (kp_fr f308 (fun _ => rfl) (fun _ => rfl))
                      have q311 : (τ306.1 117 1) = 0 := ((FR.at f308 117 1 rfl).trans ((FR.at f294 117 1 rfl).trans ((FR.at f263 117 1 rfl).trans ((FRw.nj f246 (by decide)).trans ((FRw.nj f241 (by decide)).trans ((FR.at f233 117 1 rfl).trans ((FR.at f217 117 1 rfl).trans ((FR.at f49 117 1 rfl).trans ((FRw.nj f32 (by decide)).trans ((FRw.nj f28 (by decide)).trans ((FRw.nj f24 (by decide)).trans ((FRw.nj f20 (by decide)).trans ((FRw.nj f16 (by decide)).trans ((FRw.nj f12 (by decide)).trans e9))))))))))))))
                      exact ⟨(τ215.1 117 45), rfl, ⟨by omega, by omega⟩, g307, (FR.up (FR.up (FR.up (FR.w (FR.w (FR.up (FR.up (FR.up (FR.w (FR.w (FR.w (FR.w (FR.w (FR.w (FR.w (FR.w FR.rf f4 rfl) f8 rfl) f12 rfl) f16 rfl) f20 rfl) f24 rfl) f28 rfl) f32 rfl) f49 sb_Wsgn_Wlaw) f217 sb_Wlw_Wlaw) f233 sb_Wat_Wlaw) f241 rfl) f246 rfl) f263 sb_Wtr_Wlaw) f294 sb_Wkeep_Wlaw) f308 sb_Wla_Wlaw), (by omega), (by omega), (by omega), (by omega)⟩
                    · intro h295; exfalso; omega
                · intro h287
                  refine wp_al1 jF_251_60 rfl rfl (pc2 := 61) ?_
                  refine wp_gr (b := 119) jF_251_61 kd117 (by decide) (c := 219) rfl rfl rfl (pc2 := 64) ?_
                  refine wp_ic jF_251_64 rfl (pc2 := 65) ?_
                  refine wp_du2 jF_251_65 rfl rfl (pc2 := 66) ?_
                  have b312 := GI.b hg 119 1 kd119 (lo := (-2147483648)) (hi := 2147483647) rfl
                  refine wp_iald (n := 6) (e := (σ.1 119 1)) jF_251_66 kd119 (by decide) rfl rfl (by omega) (by omega) ((FR.at f263 119 1 rfl).trans ((FRw.na f246 (by decide)).trans ((FRw.na f241 (by decide)).trans ((FR.at f233 119 1 rfl).trans ((FR.at f217 119 1 rfl).trans ((FR.at f49 119 1 rfl).trans ((FRw.na f32 (by decide)).trans ((FRw.na f28 (by decide)).trans ((FRw.na f24 (by decide)).trans ((FRw.na f20 (by decide)).trans ((FRw.na f16 (by decide)).trans ((FRw.na f12 (by decide)).trans ((FRw.na f8 (by decide)).trans (FRw.na f4 (by decide))))))))))))))) rfl (pc2 := 67) ?_
                  refine wp_ic jF_251_67 rfl (pc2 := 68) ?_
                  refine wp_any2 (pc2 := 69) jF_251_68 rfl rfl ?_
                  intro z313 h314
                  refine wp_iast (n := 6) jF_251_69 kd119 (by decide) rfl rfl (by omega) (by omega) rfl (pc2 := 70) g262 (lo := (-2147483648)) (hi := 2147483647) rfl (by omega) (by omega) ?_
                  intro τ315 g316 f317 e318
                  refine wp_bi jF_251_70 (by decide) rfl (pc2 := 72) ?_
                  refine wp_ri jF_251_72 rfl ?_
                  have q319 : (l0 τ315) = (l0 σ) := ((l0_wr f317 (by decide)).trans ((l0_fr f263 rfl (fun _ => rfl)).trans ((l0_wr f246 (by decide)).trans ((l0_wr f241 (by decide)).trans ((l0_fr f233 rfl (fun _ => rfl)).trans ((l0_fr f217 rfl (fun _ => rfl)).trans ((l0_fr f49 rfl (fun _ => rfl)).trans ((l0_wr f32 (by decide)).trans ((l0_wr f28 (by decide)).trans ((l0_wr f24 (by decide)).trans ((l0_wr f20 (by decide)).trans ((l0_wr f16 (by decide)).trans ((l0_wr f12 (by decide)).trans ((l0_wr f8 (by decide)).trans (l0_wr f4 (by decide))))))))))))))))
                  have q320 : (l1 τ315) = (l1 σ) := ((l1_wr f317 (by decide)).trans ((l1_fr f263 rfl (fun _ => rfl)).trans ((l1_wr f246 (by decide)).trans ((l1_wr f241 (by decide)).trans ((l1_fr f233 rfl (fun _ => rfl)).trans ((l1_fr f217 rfl (fun _ => rfl)).trans ((l1_fr f49 rfl (fun _ => rfl)).trans ((l1_wr f32 (by decide)).trans ((l1_wr f28 (by decide)).trans ((l1_wr f24 (by decide)).trans ((l1_wr f20 (by decide)).trans ((l1_wr f16 (by decide)).trans ((l1_wr f12 (by decide)).trans ((l1_wr f8 (by decide)).trans (l1_wr f4 (by decide))))))))))))))))
                  have q321 : (kp τ315) = (kp σ) := ((kp_wr f317 (by decide)).trans ((kp_fr f263 (fun _ => rfl) (fun _ => rfl)).trans ((kp_wr f246 (by decide)).trans ((kp_wr f241 (by decide)).trans ((kp_fr f233 (fun _ => rfl) (fun _ => rfl)).trans ((kp_fr f217 (fun _ => rfl) (fun _ => rfl)).trans ((kp_fr f49 (fun _ => rfl) (fun _ => rfl)).trans ((kp_wr f32 (by decide)).trans ((kp_wr f28 (by decide)).trans ((kp_wr f24 (by decide)).trans ((kp_wr f20 (by decide)).trans ((kp_wr f16 (by decide)).trans ((kp_wr f12 (by decide)).trans ((kp_wr f8 (by decide)).trans (kp_wr f4 (by decide))))))))))))))))
                  have q322 : (τ315.1 117 1) = 0 := ((FRw.na f317 (by decide)).trans ((FR.at f263 117 1 rfl).trans ((FRw.nj f246 (by decide)).trans ((FRw.nj f241 (by decide)).trans ((FR.at f233 117 1 rfl).trans ((FR.at f217 117 1 rfl).trans ((FR.at f49 117 1 rfl).trans ((FRw.nj f32 (by decide)).trans ((FRw.nj f28 (by decide)).trans ((FRw.nj f24 (by decide)).trans ((FRw.nj f20 (by decide)).trans ((FRw.nj f16 (by decide)).trans ((FRw.nj f12 (by decide)).trans e9)))))))))))))
                  exact ⟨(-2), rfl, ⟨by omega, by omega⟩, g316, (FR.w (FR.up (FR.w (FR.w (FR.up (FR.up (FR.up (FR.w (FR.w (FR.w (FR.w (FR.w (FR.w (FR.w (FR.w FR.rf f4 rfl) f8 rfl) f12 rfl) f16 rfl) f20 rfl) f24 rfl) f28 rfl) f32 rfl) f49 sb_Wsgn_Wlaw) f217 sb_Wlw_Wlaw) f233 sb_Wat_Wlaw) f241 rfl) f246 rfl) f263 sb_Wtr_Wlaw) f317 rfl), (by omega), (by omega), (by omega), (by omega)⟩
            · intro h255; exfalso; omega
        · intro h248
          refine wp_al1 jF_240_23 rfl rfl (pc2 := 24) ?_
          refine wp_gr (b := 119) jF_240_24 kd117 (by decide) (c := 219) rfl rfl rfl (pc2 := 27) ?_
          refine wp_ic jF_240_27 rfl (pc2 := 28) ?_
          refine wp_du2 jF_240_28 rfl rfl (pc2 := 29) ?_
          have b323 := GI.b hg 119 1 kd119 (lo := (-2147483648)) (hi := 2147483647) rfl
          refine wp_iald (n := 6) (e := (σ.1 119 1)) jF_240_29 kd119 (by decide) rfl rfl (by omega) (by omega) ((FRw.na f246 (by decide)).trans ((FRw.na f241 (by decide)).trans ((FR.at f233 119 1 rfl).trans ((FR.at f217 119 1 rfl).trans ((FR.at f49 119 1 rfl).trans ((FRw.na f32 (by decide)).trans ((FRw.na f28 (by decide)).trans ((FRw.na f24 (by decide)).trans ((FRw.na f20 (by decide)).trans ((FRw.na f16 (by decide)).trans ((FRw.na f12 (by decide)).trans ((FRw.na f8 (by decide)).trans (FRw.na f4 (by decide)))))))))))))) rfl (pc2 := 30) ?_
          refine wp_ic jF_240_30 rfl (pc2 := 31) ?_
          refine wp_any2 (pc2 := 32) jF_240_31 rfl rfl ?_
          intro z324 h325
          refine wp_iast (n := 6) jF_240_32 kd119 (by decide) rfl rfl (by omega) (by omega) rfl (pc2 := 33) g245 (lo := (-2147483648)) (hi := 2147483647) rfl (by omega) (by omega) ?_
          intro τ326 g327 f328 e329
          refine wp_al1 jF_240_33 rfl rfl (pc2 := 34) ?_
          refine wp_gi jF_240_34 kd117 (by decide) rfl ((FRw.na f328 (by decide)).trans ((FRw.nj f246 (by decide)).trans ((FRw.nj f241 (by decide)).trans (FR.at f233 117 5 rfl)))) rfl (pc2 := 37) ?_
          refine wp_z_ne jF_240_37 (m_rgb b223 rfl) rfl (pc2 := 40) ?_ ?_
          · intro h330
            refine wp_ic jF_240_44 rfl (pc2 := 45) ?_
            refine wp_ri jF_240_45 rfl ?_
            show WP 251 40 [(0, .ref 117), (1, iV other)] [iV 0] _ _ _ _
            refine wp_z_ne jF_251_40 (m_rgl rfl) rfl (pc2 := 43) ?_ ?_
            · intro h331; exfalso; omega
            · intro h331
              refine wp_ic jF_251_43 rfl (pc2 := 44) ?_
              refine wp_ri jF_251_44 rfl ?_
              have q332 : (l0 τ326) = (l0 σ) := ((l0_wr f328 (by decide)).trans ((l0_wr f246 (by decide)).trans ((l0_wr f241 (by decide)).trans ((l0_fr f233 rfl (fun _ => rfl)).trans ((l0_fr f217 rfl (fun _ => rfl)).trans ((l0_fr f49 rfl (fun _ => rfl)).trans ((l0_wr f32 (by decide)).trans ((l0_wr f28 (by decide)).trans ((l0_wr f24 (by decide)).trans ((l0_wr f20 (by decide)).trans ((l0_wr f16 (by decide)).trans ((l0_wr f12 (by decide)).trans ((l0_wr f8 (by decide)).trans (l0_wr f4 (by decide)))))))))))))))
              have q333 : (l1 τ326) = (l1 σ) := ((l1_wr f328 (by decide)).trans ((l1_wr f246 (by decide)).trans ((l1_wr f241 (by decide)).trans ((l1_fr f233 rfl (fun _ => rfl)).trans ((l1_fr f217 rfl (fun _ => rfl)).trans ((l1_fr f49 rfl (fun _ => rfl)).trans ((l1_wr f32 (by decide)).trans ((l1_wr f28 (by decide)).trans ((l1_wr f24 (by decide)).trans ((l1_wr f20 (by decide)).trans ((l1_wr f16 (by decide)).trans ((l1_wr f12 (by decide)).trans ((l1_wr f8 (by decide)).trans (l1_wr f4 (by decide)))))))))))))))
              have q334 : (kp τ326) = (kp σ) := ((kp_wr f328 (by decide)).trans ((kp_wr f246 (by decide)).trans ((kp_wr f241 (by decide)).trans ((kp_fr f233 (fun _ => rfl) (fun _ => rfl)).trans ((kp_fr f217 (fun _ => rfl) (fun _ => rfl)).trans ((kp_fr f49 (fun _ => rfl) (fun _ => rfl)).trans ((kp_wr f32 (by decide)).trans ((kp_wr f28 (by decide)).trans ((kp_wr f24 (by decide)).trans ((kp_wr f20 (by decide)).trans ((kp_wr f16 (by decide)).trans ((kp_wr f12 (by decide)).trans ((kp_wr f8 (by decide)).trans (kp_wr f4 (by decide)))))))))))))))
              have q335 : (τ326.1 117 1) = 0 := ((FRw.na f328 (by decide)).trans ((FRw.nj f246 (by decide)).trans ((FRw.nj f241 (by decide)).trans ((FR.at f233 117 1 rfl).trans ((FR.at f217 117 1 rfl).trans ((FR.at f49 117 1 rfl).trans ((FRw.nj f32 (by decide)).trans ((FRw.nj f28 (by decide)).trans ((FRw.nj f24 (by decide)).trans ((FRw.nj f20 (by decide)).trans ((FRw.nj f16 (by decide)).trans ((FRw.nj f12 (by decide)).trans e9))))))))))))
              exact ⟨(-1), rfl, ⟨by omega, by omega⟩, g327, (FR.w (FR.w (FR.w (FR.up (FR.up (FR.up (FR.w (FR.w (FR.w (FR.w (FR.w (FR.w (FR.w (FR.w FR.rf f4 rfl) f8 rfl) f12 rfl) f16 rfl) f20 rfl) f24 rfl) f28 rfl) f32 rfl) f49 sb_Wsgn_Wlaw) f217 sb_Wlw_Wlaw) f233 sb_Wat_Wlaw) f241 rfl) f246 rfl) f328 rfl), (by omega), (by omega), (by omega), (by omega)⟩
          · intro h330
            refine wp_ic jF_240_40 rfl (pc2 := 41) ?_
            refine wp_go jF_240_41 ?_
            refine wp_ri jF_240_45 rfl ?_
            show WP 251 40 [(0, .ref 117), (1, iV other)] [iV 1] _ _ _ _
            refine wp_z_ne jF_251_40 (m_rgl rfl) rfl (pc2 := 43) ?_ ?_
            · intro h336
              refine wp_al1 jF_251_45 rfl rfl (pc2 := 46) ?_
              refine wp_cV (as := []) (rest := []) (a := 117) (mx := 2) (ci := 12) jF_251_46 kd117 (by decide) rfl rfl rfl rfl rfl (by omega) (by omega) rfl (pc2 := 49) ?_
              have q337 : (rl τ326) = (rl τ215) := ((rl_wr f328 (by decide)).trans ((rl_wr f246 (by decide)).trans ((rl_wr f241 (by decide)).trans (rl_fr f233 rfl (fun _ => rfl)))))
              have b338 := GI.b g216 117 44 kd117 (lo := 0) (hi := 60) rfl
              have q339 : (τ326.1 117 44) = (τ215.1 117 44) := ((FRw.na f328 (by decide)).trans ((FRw.nj f246 (by decide)).trans ((FRw.nj f241 (by decide)).trans (FR.at f233 117 44 rfl))))
              refine wp_use (m_257 τ326 g327   _ _ (by omega) (by omega)) ?_
              rintro _ τ342 ⟨rfl, g343, f344, p340, p341⟩
              show WP 251 49 [(0, .ref 117), (1, iV other)] [] _ _ _ _
              refine wp_il1 jF_251_49 rfl rfl (pc2 := 50) ?_
              refine wp_z_ne jF_251_50 ⟨by omega, by omega⟩ rfl (pc2 := 53) ?_ ?_
              · intro h345
                refine wp_il1 jF_251_73 rfl rfl (pc2 := 74) ?_
                refine wp_z_ne jF_251_74 ⟨by omega, by omega⟩ rfl (pc2 := 77) ?_ ?_
                · intro h346
                  refine wp_al1 jF_251_81 rfl rfl (pc2 := 82) ?_
                  refine wp_il1 jF_251_82 rfl rfl (pc2 := 83) ?_
                  refine wp_z_eq jF_251_83 ⟨by omega, by omega⟩ rfl (pc2 := 86) ?_ ?_
                  · intro h347; exfalso; omega
                  · intro h347
                    refine wp_ic jF_251_86 rfl (pc2 := 87) ?_
                    refine wp_go jF_251_87 ?_
                    refine wp_cV (as := [iV 1]) (rest := []) (a := 117) (mx := 3) (ci := 12) jF_251_91 kd117 (by decide) rfl rfl rfl rfl rfl (by omega) (by omega) rfl (pc2 := 94) ?_
                    have q348 : (l0 τ342) = (l0 σ) := ((l0_fr f344 rfl (fun _ => rfl)).trans ((l0_wr f328 (by decide)).trans ((l0_wr f246 (by decide)).trans ((l0_wr f241 (by decide)).trans ((l0_fr f233 rfl (fun _ => rfl)).trans ((l0_fr f217 rfl (fun _ => rfl)).trans ((l0_fr f49 rfl (fun _ => rfl)).trans ((l0_wr f32 (by decide)).trans ((l0_wr f28 (by decide)).trans ((l0_wr f24 (by decide)).trans ((l0_wr f20 (by decide)).trans ((l0_wr f16 (by decide)).trans ((l0_wr f12 (by decide)).trans ((l0_wr f8 (by decide)).trans (l0_wr f4 (by decide))))))))))))))))
                    have b349 := GI.b g343 117 49 kd117 (lo := 0) (hi := 61) rfl
                    have b350 := GI.b hg 148 0 kd148 (lo := 0) (hi := 60) rfl
                    have q351 : (τ342.1 148 0) = (σ.1 148 0) := ((FR.at f344 148 0 rfl).trans ((FRw.na f328 (by decide)).trans ((FRw.na f246 (by decide)).trans ((FRw.na f241 (by decide)).trans ((FR.at f233 148 0 rfl).trans ((FR.at f217 148 0 rfl).trans ((FR.at f49 148 0 rfl).trans ((FRw.na f32 (by decide)).trans ((FRw.na f28 (by decide)).trans ((FRw.na f24 (by decide)).trans ((FRw.na f20 (by decide)).trans ((FRw.na f16 (by decide)).trans ((FRw.na f12 (by decide)).trans ((FRw.na f8 (by decide)).trans (FRw.na f4 (by decide))))))))))))))))
                    refine wp_use (m_263_1 τ342 g343  (by omega) _ _ (by omega) (by omega)) ?_
                    rintro _ τ356 ⟨rfl, g357, f358, p352, p353, p354, p355⟩
                    show WP 251 94 [(0, .ref 117), (1, iV other)] [] _ _ _ _
                    refine wp_al1 jF_251_94 rfl rfl (pc2 := 95) ?_
                    have b359 := GI.b g216 117 45 kd117 (lo := (-2147483648)) (hi := 2147483647) rfl
                    refine wp_gi jF_251_95 kd117 (by decide) rfl ((FR.at f358 117 45 rfl).trans ((FR.at f344 117 45 rfl).trans ((FRw.na f328 (by decide)).trans ((FRw.nj f246 (by decide)).trans ((FRw.nj f241 (by decide)).trans (FR.at f233 117 45 rfl)))))) rfl (pc2 := 98) ?_
                    refine wp_ri jF_251_98 rfl ?_
                    have q360 : (kp τ356) = (kp σ) := ((kp_fr f358 (fun _ => rfl) (fun _ => rfl)).trans ((kp_fr f344 (fun _ => rfl) (fun _ => rfl)).trans ((kp_wr f328 (by decide)).trans ((kp_wr f246 (by decide)).trans ((kp_wr f241 (by decide)).trans ((kp_fr f233 (fun _ => rfl) (fun _ => rfl)).trans ((kp_fr f217 (fun _ => rfl) (fun _ => rfl)).trans ((kp_fr f49 (fun _ => rfl) (fun _ => rfl)).trans ((kp_wr f32 (by decide)).trans ((kp_wr f28 (by decide)).trans ((kp_wr f24 (by decide)).trans ((kp_wr f20 (by decide)).trans ((kp_wr f16 (by decide)).trans ((kp_wr f12 (by decide)).trans ((kp_wr f8 (by decide)).trans (kp_wr f4 (by decide)))))))))))))))))
                    have q361 : (τ356.1 117 1) = 0 := ((FR.at f358 117 1 rfl).trans ((FR.at f344 117 1 rfl).trans ((FRw.na f328 (by decide)).trans ((FRw.nj f246 (by decide)).trans ((FRw.nj f241 (by decide)).trans ((FR.at f233 117 1 rfl).trans ((FR.at f217 117 1 rfl).trans ((FR.at f49 117 1 rfl).trans ((FRw.nj f32 (by decide)).trans ((FRw.nj f28 (by decide)).trans ((FRw.nj f24 (by decide)).trans ((FRw.nj f20 (by decide)).trans ((FRw.nj f16 (by decide)).trans ((FRw.nj f12 (by decide)).trans e9))))))))))))))
                    exact ⟨(τ215.1 117 45), rfl, ⟨by omega, by omega⟩, g357, (FR.up (FR.up (FR.w (FR.w (FR.w (FR.up (FR.up (FR.up (FR.w (FR.w (FR.w (FR.w (FR.w (FR.w (FR.w (FR.w FR.rf f4 rfl) f8 rfl) f12 rfl) f16 rfl) f20 rfl) f24 rfl) f28 rfl) f32 rfl) f49 sb_Wsgn_Wlaw) f217 sb_Wlw_Wlaw) f233 sb_Wat_Wlaw) f241 rfl) f246 rfl) f328 rfl) f344 sb_Wtr_Wlaw) f358 sb_Wla_Wlaw), (by omega), (by omega), (by omega), (by omega)⟩
                · intro h346; exfalso; omega
              · intro h345
                refine wp_al1 jF_251_53 rfl rfl (pc2 := 54) ?_
                refine wp_cV (as := []) (rest := []) (a := 117) (mx := 6) (ci := 12) jF_251_54 kd117 (by decide) rfl rfl rfl rfl rfl (by omega) (by omega) rfl (pc2 := 57) ?_
                have b362 := GI.b hg 143 4 kd143 (lo := 0) (hi := 16) rfl
                have q363 : (τ342.1 143 4) = (σ.1 143 4) := ((FR.at f344 143 4 rfl).trans ((FRw.na f328 (by decide)).trans ((FRw.na f246 (by decide)).trans ((FRw.na f241 (by decide)).trans ((FR.at f233 143 4 rfl).trans ((FR.at f217 143 4 rfl).trans ((FR.at f49 143 4 rfl).trans ((FRw.na f32 (by decide)).trans ((FRw.na f28 (by decide)).trans ((FRw.na f24 (by decide)).trans ((FRw.na f20 (by decide)).trans ((FRw.na f16 (by decide)).trans ((FRw.na f12 (by decide)).trans ((FRw.na f8 (by decide)).trans (FRw.na f4 (by decide))))))))))))))))
                refine wp_use (m_258 τ342 g343  (by omega) (by omega) _ _ (by omega) (by omega)) ?_
                rintro _ _ ⟨z366, rfl, h367, rfl⟩
                show WP 251 57 [(0, .ref 117), (1, iV other)] [iV z366] _ _ _ _
                refine wp_z_ne jF_251_57 (m_rgb h367 rfl) rfl (pc2 := 60) ?_ ?_
                · intro h368
                  refine wp_il1 jF_251_73 rfl rfl (pc2 := 74) ?_
                  refine wp_z_ne jF_251_74 ⟨by omega, by omega⟩ rfl (pc2 := 77) ?_ ?_
                  · intro h369; exfalso; omega
                  · intro h369
                    refine wp_al1 jF_251_77 rfl rfl (pc2 := 78) ?_
                    refine wp_cV (as := []) (rest := []) (a := 117) (mx := 2) (ci := 12) jF_251_78 kd117 (by decide) rfl rfl rfl rfl rfl (by omega) (by omega) rfl (pc2 := 81) ?_
                    have q370 : (l0 τ342) = (l0 σ) := ((l0_fr f344 rfl (fun _ => rfl)).trans ((l0_wr f328 (by decide)).trans ((l0_wr f246 (by decide)).trans ((l0_wr f241 (by decide)).trans ((l0_fr f233 rfl (fun _ => rfl)).trans ((l0_fr f217 rfl (fun _ => rfl)).trans ((l0_fr f49 rfl (fun _ => rfl)).trans ((l0_wr f32 (by decide)).trans ((l0_wr f28 (by decide)).trans ((l0_wr f24 (by decide)).trans ((l0_wr f20 (by decide)).trans ((l0_wr f16 (by decide)).trans ((l0_wr f12 (by decide)).trans ((l0_wr f8 (by decide)).trans (l0_wr f4 (by decide))))))))))))))))
                    have q371 : (kp τ342) = (kp σ) := ((kp_fr f344 (fun _ => rfl) (fun _ => rfl)).trans ((kp_wr f328 (by decide)).trans ((kp_wr f246 (by decide)).trans ((kp_wr f241 (by decide)).trans ((kp_fr f233 (fun _ => rfl) (fun _ => rfl)).trans ((kp_fr f217 (fun _ => rfl) (fun _ => rfl)).trans ((kp_fr f49 (fun _ => rfl) (fun _ => rfl)).trans ((kp_wr f32 (by decide)).trans ((kp_wr f28 (by decide)).trans ((kp_wr f24 (by decide)).trans ((kp_wr f20 (by decide)).trans ((kp_wr f16 (by decide)).trans ((kp_wr f12 (by decide)).trans ((kp_wr f8 (by decide)).trans (kp_wr f4 (by decide))))))))))))))))
                    refine wp_use (m_262 τ342 g343  (by omega) (by omega) _ _ (by omega) (by omega)) ?_
                    rintro _ τ373 ⟨rfl, g374, f375, p372⟩
                    show WP 251 81 [(0, .ref 117), (1, iV other)] [] _ _ _ _
                    refine wp_al1 jF_251_81 rfl rfl (pc2 := 82) ?_
                    refine wp_il1 jF_251_82 rfl rfl (pc2 := 83) ?_
                    refine wp_z_eq jF_251_83 ⟨by omega, by omega⟩ rfl (pc2 := 86) ?_ ?_
                    · intro h376
                      refine wp_ic jF_251_90 rfl (pc2 := 91) ?_
                      refine wp_cV (as := [iV 0]) (rest := []) (a := 117) (mx := 3) (ci := 12) jF_251_91 kd117 (by decide) rfl rfl rfl rfl rfl (by omega) (by omega) rfl (pc2 := 94) ?_
                      have q377 : (tl τ373) = (tl τ342) := (tl_fr f375 rfl (fun _ => rfl))
                      have q378 : (l1 τ373) = (l1 σ) := ((l1_fr f375 rfl (fun _ => rfl)).trans ((l1_fr f344 rfl (fun _ => rfl)).trans ((l1_wr f328 (by decide)).trans ((l1_wr f246 (by decide)).trans ((l1_wr f241 (by decide)).trans ((l1_fr f233 rfl (fun _ => rfl)).trans ((l1_fr f217 rfl (fun _ => rfl)).trans ((l1_fr f49 rfl (fun _ => rfl)).trans ((l1_wr f32 (by decide)).trans ((l1_wr f28 (by decide)).trans ((l1_wr f24 (by decide)).trans ((l1_wr f20 (by decide)).trans ((l1_wr f16 (by decide)).trans ((l1_wr f12 (by decide)).trans ((l1_wr f8 (by decide)).trans (l1_wr f4 (by decide)))))))))))))))))
                      have b379 := GI.b g343 117 49 kd117 (lo := 0) (hi := 61) rfl
                      have q380 : (τ373.1 117 49) = (τ342.1 117 49) := (FR.at f375 117 49 rfl)
                      have b381 := GI.b hg 148 1 kd148 (lo := 0) (hi := 60) rfl
                      have q382 : (τ373.1 148 1) = (σ.1 148 1) := ((FR.at f375 148 1 rfl).trans ((FR.at f344 148 1 rfl).trans ((FRw.na f328 (by decide)).trans ((FRw.na f246 (by decide)).trans ((FRw.na f241 (by decide)).trans ((FR.at f233 148 1 rfl).trans ((FR.at f217 148 1 rfl).trans ((FR.at f49 148 1 rfl).trans ((FRw.na f32 (by decide)).trans ((FRw.na f28 (by decide)).trans ((FRw.na f24 (by decide)).trans ((FRw.na f20 (by decide)).trans ((FRw.na f16 (by decide)).trans ((FRw.na f12 (by decide)).trans ((FRw.na f8 (by decide)).trans (FRw.na f4 (by decide)))))))))))))))))
                      refine wp_use (m_263_0 τ373 g374  (by omega) _ _ (by omega) (by omega)) ?_
                      rintro _ τ387 ⟨rfl, g388, f389, p383, p384, p385, p386⟩
                      show WP 251 94 [(0, .ref 117), (1, iV other)] [] _ _ _ _
                      refine wp_al1 jF_251_94 rfl rfl (pc2 := 95) ?_
                      have b390 := GI.b g216 117 45 kd117 (lo := (-2147483648)) (hi := 2147483647) rfl
                      refine wp_gi jF_251_95 kd117 (by decide) rfl ((FR.at f389 117 45 rfl).trans ((FR.at f375 117 45 rfl).trans ((FR.at f344 117 45 rfl).trans ((FRw.na f328 (by decide)).trans ((FRw.nj f246 (by decide)).trans ((FRw.nj f241 (by decide)).trans (FR.at f233 117 45 rfl))))))) rfl (pc2 := 98) ?_
                      refine wp_ri jF_251_98 rfl ?_
                      have q391 : (kp τ387) = (kp τ373) := (kp_fr f389 (fun _ => rfl) (fun _ => rfl))
                      have q392 : (τ387.1 117 1) = 0 := ((FR.at f389 117 1 rfl).trans ((FR.at f375 117 1 rfl).trans ((FR.at f344 117 1 rfl).trans ((FRw.na f328 (by decide)).trans ((FRw.nj f246 (by decide)).trans ((FRw.nj f241 (by decide)).trans ((FR.at f233 117 1 rfl).trans ((FR.at f217 117 1 rfl).trans ((FR.at f49 117 1 rfl).trans ((FRw.nj f32 (by decide)).trans ((FRw.nj f28 (by decide)).trans ((FRw.nj f24 (by decide)).trans ((FRw.nj f20 (by decide)).trans ((FRw.nj f16 (by decide)).trans ((FRw.nj f12 (by decide)).trans e9)))))))))))))))
                      exact ⟨(τ215.1 117 45), rfl, ⟨by omega, by omega⟩, g388, (FR.up (FR.up (FR.up (FR.w (FR.w (FR.w (FR.up (FR.up (FR.up (FR.w (FR.w (FR.w (FR.w (FR.w (FR.w (FR.w (FR.w FR.rf f4 rfl) f8 rfl) f12 rfl) f16 rfl) f20 rfl) f24 rfl) f28 rfl) f32 rfl) f49 sb_Wsgn_Wlaw) f217 sb_Wlw_Wlaw) f233 sb_Wat_Wlaw) f241 rfl) f246 rfl) f328 rfl) f344 sb_Wtr_Wlaw) f375 sb_Wkeep_Wlaw) f389 sb_Wla_Wlaw), (by omega), (by omega), (by omega), (by omega)⟩
                    · intro h376; exfalso; omega
                · intro h368
                  refine wp_al1 jF_251_60 rfl rfl (pc2 := 61) ?_
                  refine wp_gr (b := 119) jF_251_61 kd117 (by decide) (c := 219) rfl rfl rfl (pc2 := 64) ?_
                  refine wp_ic jF_251_64 rfl (pc2 := 65) ?_
                  refine wp_du2 jF_251_65 rfl rfl (pc2 := 66) ?_
                  refine wp_iald (n := 6) (e := z324) jF_251_66 kd119 (by decide) rfl rfl (by omega) (by omega) ((FR.at f344 119 1 rfl).trans e329) rfl (pc2 := 67) ?_
                  refine wp_ic jF_251_67 rfl (pc2 := 68) ?_
                  refine wp_any2 (pc2 := 69) jF_251_68 rfl rfl ?_
                  intro z393 h394
                  refine wp_iast (n := 6) jF_251_69 kd119 (by decide) rfl rfl (by omega) (by omega) rfl (pc2 := 70) g343 (lo := (-2147483648)) (hi := 2147483647) rfl (by omega) (by omega) ?_
                  intro τ395 g396 f397 e398
                  refine wp_bi jF_251_70 (by decide) rfl (pc2 := 72) ?_
                  refine wp_ri jF_251_72 rfl ?_
                  have q399 : (l0 τ395) = (l0 σ) := ((l0_wr f397 (by decide)).trans ((l0_fr f344 rfl (fun _ => rfl)).trans ((l0_wr f328 (by decide)).trans ((l0_wr f246 (by decide)).trans ((l0_wr f241 (by decide)).trans ((l0_fr f233 rfl (fun _ => rfl)).trans ((l0_fr f217 rfl (fun _ => rfl)).trans ((l0_fr f49 rfl (fun _ => rfl)).trans ((l0_wr f32 (by decide)).trans ((l0_wr f28 (by decide)).trans ((l0_wr f24 (by decide)).trans ((l0_wr f20 (by decide)).trans ((l0_wr f16 (by decide)).trans ((l0_wr f12 (by decide)).trans ((l0_wr f8 (by decide)).trans (l0_wr f4 (by decide)))))))))))))))))
                  have q400 : (l1 τ395) = (l1 σ) := ((l1_wr f397 (by decide)).trans ((l1_fr f344 rfl (fun _ => rfl)).trans ((l1_wr f328 (by decide)).trans ((l1_wr f246 (by decide)).trans ((l1_wr f241 (by decide)).trans ((l1_fr f233 rfl (fun _ => rfl)).trans ((l1_fr f217 rfl (fun _ => rfl)).trans ((l1_fr f49 rfl (fun _ => rfl)).trans ((l1_wr f32 (by decide)).trans ((l1_wr f28 (by decide)).trans ((l1_wr f24 (by decide)).trans ((l1_wr f20 (by decide)).trans ((l1_wr f16 (by decide)).trans ((l1_wr f12 (by decide)).trans ((l1_wr f8 (by decide)).trans (l1_wr f4 (by decide)))))))))))))))))
                  have q401 : (kp τ395) = (kp σ) := ((kp_wr f397 (by decide)).trans ((kp_fr f344 (fun _ => rfl) (fun _ => rfl)).trans ((kp_wr f328 (by decide)).trans ((kp_wr f246 (by decide)).trans ((kp_wr f241 (by decide)).trans ((kp_fr f233 (fun _ => rfl) (fun _ => rfl)).trans ((kp_fr f217 (fun _ => rfl) (fun _ => rfl)).trans ((kp_fr f49 (fun _ => rfl) (fun _ => rfl)).trans ((kp_wr f32 (by decide)).trans ((kp_wr f28 (by decide)).trans ((kp_wr f24 (by decide)).trans ((kp_wr f20 (by decide)).trans ((kp_wr f16 (by decide)).trans ((kp_wr f12 (by decide)).trans ((kp_wr f8 (by decide)).trans (kp_wr f4 (by decide)))))))))))))))))
                  have q402 : (τ395.1 117 1) = 0 := ((FRw.na f397 (by decide)).trans ((FR.at f344 117 1 rfl).trans ((FRw.na f328 (by decide)).trans ((FRw.nj f246 (by decide)).trans ((FRw.nj f241 (by decide)).trans ((FR.at f233 117 1 rfl).trans ((FR.at f217 117 1 rfl).trans ((FR.at f49 117 1 rfl).trans ((FRw.nj f32 (by decide)).trans ((FRw.nj f28 (by decide)).trans ((FRw.nj f24 (by decide)).trans ((FRw.nj f20 (by decide)).trans ((FRw.nj f16 (by decide)).trans ((FRw.nj f12 (by decide)).trans e9))))))))))))))
                  exact ⟨(-2), rfl, ⟨by omega, by omega⟩, g396, (FR.w (FR.up (FR.w (FR.w (FR.w (FR.up (FR.up (FR.up (FR.w (FR.w (FR.w (FR.w (FR.w (FR.w (FR.w (FR.w FR.rf f4 rfl) f8 rfl) f12 rfl) f16 rfl) f20 rfl) f24 rfl) f28 rfl) f32 rfl) f49 sb_Wsgn_Wlaw) f217 sb_Wlw_Wlaw) f233 sb_Wat_Wlaw) f241 rfl) f246 rfl) f328 rfl) f344 sb_Wtr_Wlaw) f397 rfl), (by omega), (by omega), (by omega), (by omega)⟩
            · intro h336; exfalso; omega
      · intro h238
        replace p225 := p225 (by omega)
        replace p230 := p230 (by omega)
        refine wp_al1 jF_251_29 rfl rfl (pc2 := 30) ?_
        refine wp_cV (as := []) (rest := []) (a := 117) (mx := 3) (ci := 12) jF_251_30 kd117 (by decide) rfl rfl rfl rfl rfl (by omega) (by omega) rfl (pc2 := 33) ?_
        have b403 := GI.b g232 117 2 kd117 (lo := 0) (hi := 1601) rfl
        have q404 : (τ231.1 117 5) = (τ215.1 117 5) := (FR.at f233 117 5 rfl)
        refine wp_use (m_253 τ231 g232   _ _ (by omega) (by omega)) ?_
        rintro _ τ410 ⟨rfl, g411, f412, p405, p406, p407, p408, p409⟩
        clear p406
        show WP 251 33 [(0, .ref 117), (1, iV other)] [] _ _ _ _
        refine wp_go jF_251_33 ?_
        refine wp_al1 jF_251_14 rfl rfl (pc2 := 15) ?_
        refine wp_cV (as := []) (rest := []) (a := 117) (mx := 2) (ci := 12) jF_251_15 kd117 (by decide) rfl rfl rfl rfl rfl (by omega) (by omega) rfl (pc2 := 18) ?_
        have b413 := GI.b g411 117 2 kd117 (lo := 0) (hi := 1601) rfl
        have b414 := GI.b g411 117 44 kd117 (lo := 0) (hi := 60) rfl
        have b415 := GI.b g411 117 5 kd117 (lo := (-2147483648)) (hi := 2147483647) rfl
        refine wp_use (m_252 τ410 g411   _ _ (by omega) (by omega)) ?_
        rintro _ τ424 ⟨z427, rfl, h428, g425, f426, p416, p417, p418, p419, p420, p421, p422, p423⟩
        show WP 251 18 [(0, .ref 117), (1, iV other)] [iV z427] _ _ _ _
        refine wp_z_eq jF_251_18 (m_rgb h428 rfl) rfl (pc2 := 21) ?_ ?_
        · intro h429
          clear p418
          replace p419 := p419 (by omega)
          clear p422
          clear p423
          refine wp_al1 jF_251_36 rfl rfl (pc2 := 37) ?_
          refine wp_cV (as := []) (rest := []) (a := 117) (mx := 1) (ci := 12) jF_251_37 kd117 (by decide) rfl rfl rfl rfl rfl (by omega) (by omega) rfl (pc2 := 40) ?_
          show WP 240 0 [(0, .ref 117)] [] _ _ _ _
          refine wp_al1 jF_240_0 rfl rfl (pc2 := 1) ?_
          refine wp_al1 jF_240_1 rfl rfl (pc2 := 2) ?_
          have b430 := GI.b g425 117 5 kd117 (lo := (-2147483648)) (hi := 2147483647) rfl
          refine wp_gi jF_240_2 kd117 (by decide) rfl rfl rfl (pc2 := 5) ?_
          refine wp_pi jF_240_5 kd117 (by decide) rfl rfl rfl (pc2 := 8) g425 (lo := (-2147483648)) (hi := 2147483647) rfl (by omega) (by omega) ?_
          intro τ431 g432 f433 e434
          refine wp_al1 jF_240_8 rfl rfl (pc2 := 9) ?_
          refine wp_al1 jF_240_9 rfl rfl (pc2 := 10) ?_
          have b435 := GI.b g425 117 6 kd117 (lo := (-2147483648)) (hi := 2147483647) rfl
          refine wp_gi jF_240_10 kd117 (by decide) rfl (FRw.nj f433 (by decide)) rfl (pc2 := 13) ?_
          refine wp_pi jF_240_13 kd117 (by decide) rfl rfl rfl (pc2 := 16) g432 (lo := (-2147483648)) (hi := 2147483647) rfl (by omega) (by omega) ?_
          intro τ436 g437 f438 e439
          refine wp_al1 jF_240_16 rfl rfl (pc2 := 17) ?_
          refine wp_gi jF_240_17 kd117 (by decide) rfl ((FRw.nj f438 (by decide)).trans (FRw.nj f433 (by decide))) rfl (pc2 := 20) ?_
          refine wp_z_eq jF_240_20 (m_rgb b430 rfl) rfl (pc2 := 23) ?_ ?_
          · intro h440
            refine wp_al1 jF_240_33 rfl rfl (pc2 := 34) ?_
            refine wp_gi jF_240_34 kd117 (by decide) rfl ((FRw.nj f438 (by decide)).trans (FRw.nj f433 (by decide))) rfl (pc2 := 37) ?_
            refine wp_z_ne jF_240_37 (m_rgb b430 rfl) rfl (pc2 := 40) ?_ ?_
            · intro h441
              refine wp_ic jF_240_44 rfl (pc2 := 45) ?_
              refine wp_ri jF_240_45 rfl ?_
              show WP 251 40 [(0, .ref 117), (1, iV other)] [iV 0] _ _ _ _
              refine wp_z_ne jF_251_40 (m_rgl rfl) rfl (pc2 := 43) ?_ ?_
              · intro h442; exfalso; omega
              · intro h442
                refine wp_ic jF_251_43 rfl (pc2 := 44) ?_
                refine wp_ri jF_251_44 rfl ?_
                have q443 : (l0 τ436) = (l0 σ) := ((l0_wr f438 (by decide)).trans ((l0_wr f433 (by decide)).trans ((l0_fr f426 rfl (fun _ => rfl)).trans ((l0_fr f412 rfl (fun _ => rfl)).trans ((l0_fr f233 rfl (fun _ => rfl)).trans ((l0_fr f217 rfl (fun _ => rfl)).trans ((l0_fr f49 rfl (fun _ => rfl)).trans ((l0_wr f32 (by decide)).trans ((l0_wr f28 (by decide)).trans ((l0_wr f24 (by decide)).trans ((l0_wr f20 (by decide)).trans ((l0_wr f16 (by decide)).trans ((l0_wr f12 (by decide)).trans ((l0_wr f8 (by decide)).trans (l0_wr f4 (by decide))))))))))))))))
                have q444 : (l1 τ436) = (l1 σ) := ((l1_wr f438 (by decide)).trans ((l1_wr f433 (by decide)).trans ((l1_fr f426 rfl (fun _ => rfl)).trans ((l1_fr f412 rfl (fun _ => rfl)).trans ((l1_fr f233 rfl (fun _ => rfl)).trans ((l1_fr f217 rfl (fun _ => rfl)).trans ((l1_fr f49 rfl (fun _ => rfl)).trans ((l1_wr f32 (by decide)).trans ((l1_wr f28 (by decide)).trans ((l1_wr f24 (by decide)).trans ((l1_wr f20 (by decide)).trans ((l1_wr f16 (by decide)).trans ((l1_wr f12 (by decide)).trans ((l1_wr f8 (by decide)).trans (l1_wr f4 (by decide))))))))))))))))
                have q445 : (kp τ436) = (kp σ) := ((kp_wr f438 (by decide)).trans ((kp_wr f433 (by decide)).trans ((kp_fr f426 (fun _ => rfl) (fun _ => rfl)).trans ((kp_fr f412 (fun _ => rfl) (fun _ => rfl)).trans ((kp_fr f233 (fun _ => rfl) (fun _ => rfl)).trans ((kp_fr f217 (fun _ => rfl) (fun _ => rfl)).trans ((kp_fr f49 (fun _ => rfl) (fun _ => rfl)).trans ((kp_wr f32 (by decide)).trans ((kp_wr f28 (by decide)).trans ((kp_wr f24 (by decide)).trans ((kp_wr f20 (by decide)).trans ((kp_wr f16 (by decide)).trans ((kp_wr f12 (by decide)).trans ((kp_wr f8 (by decide)).trans (kp_wr f4 (by decide))))))))))))))))
                have q446 : (τ436.1 117 1) = 0 := ((FRw.nj f438 (by decide)).trans ((FRw.nj f433 (by decide)).trans ((FR.at f426 117 1 rfl).trans ((FR.at f412 117 1 rfl).trans ((FR.at f233 117 1 rfl).trans ((FR.at f217 117 1 rfl).trans ((FR.at f49 117 1 rfl).trans ((FRw.nj f32 (by decide)).trans ((FRw.nj f28 (by decide)).trans ((FRw.nj f24 (by decide)).trans ((FRw.nj f20 (by decide)).trans ((FRw.nj f16 (by decide)).trans ((FRw.nj f12 (by decide)).trans e9)))))))))))))
                exact ⟨(-1), rfl, ⟨by omega, by omega⟩, g437, (FR.w (FR.w (FR.up (FR.up (FR.up (FR.up (FR.up (FR.w (FR.w (FR.w (FR.w (FR.w (FR.w (FR.w (FR.w FR.rf f4 rfl) f8 rfl) f12 rfl) f16 rfl) f20 rfl) f24 rfl) f28 rfl) f32 rfl) f49 sb_Wsgn_Wlaw) f217 sb_Wlw_Wlaw) f233 sb_Wat_Wlaw) f412 sb_Wlw_Wlaw) f426 sb_Wsgn_Wlaw) f433 rfl) f438 rfl), (by omega), (by omega), (by omega), (by omega)⟩
            · intro h441
              refine wp_ic jF_240_40 rfl (pc2 := 41) ?_
              refine wp_go jF_240_41 ?_
              refine wp_ri jF_240_45 rfl ?_
              show WP 251 40 [(0, .ref 117), (1, iV other)] [iV 1] _ _ _ _
              refine wp_z_ne jF_251_40 (m_rgl rfl) rfl (pc2 := 43) ?_ ?_
              · intro h447
                refine wp_al1 jF_251_45 rfl rfl (pc2 := 46) ?_
                refine wp_cV (as := []) (rest := []) (a := 117) (mx := 2) (ci := 12) jF_251_46 kd117 (by decide) rfl rfl rfl rfl rfl (by omega) (by omega) rfl (pc2 := 49) ?_
                have q448 : (rl τ436) = (rl τ410) := ((rl_wr f438 (by decide)).trans ((rl_wr f433 (by decide)).trans (rl_fr f426 rfl (fun _ => rfl))))
                have q449 : (τ436.1 117 44) = (τ410.1 117 44) := ((FRw.nj f438 (by decide)).trans ((FRw.nj f433 (by decide)).trans (FR.at f426 117 44 rfl)))
                refine wp_use (m_257 τ436 g437   _ _ (by omega) (by omega)) ?_
                rintro _ τ452 ⟨rfl, g453, f454, p450, p451⟩
                show WP 251 49 [(0, .ref 117), (1, iV other)] [] _ _ _ _
                refine wp_il1 jF_251_49 rfl rfl (pc2 := 50) ?_
                refine wp_z_ne jF_251_50 ⟨by omega, by omega⟩ rfl (pc2 := 53) ?_ ?_
                · intro h455
                  refine wp_il1 jF_251_73 rfl rfl (pc2 := 74) ?_
                  refine wp_z_ne jF_251_74 ⟨by omega, by omega⟩ rfl (pc2 := 77) ?_ ?_
                  · intro h456
                    refine wp_al1 jF_251_81 rfl rfl (pc2 := 82) ?_
                    refine wp_il1 jF_251_82 rfl rfl (pc2 := 83) ?_
                    refine wp_z_eq jF_251_83 ⟨by omega, by omega⟩ rfl (pc2 := 86) ?_ ?_
                    · intro h457; exfalso; omega
                    · intro h457
                      refine wp_ic jF_251_86 rfl (pc2 := 87) ?_
                      refine wp_go jF_251_87 ?_
                      refine wp_cV (as := [iV 1]) (rest := []) (a := 117) (mx := 3) (ci := 12) jF_251_91 kd117 (by decide) rfl rfl rfl rfl rfl (by omega) (by omega) rfl (pc2 := 94) ?_
                      have q458 : (l0 τ452) = (l0 σ) := ((l0_fr f454 rfl (fun _ => rfl)).trans ((l0_wr f438 (by decide)).trans ((l0_wr f433 (by decide)).trans ((l0_fr f426 rfl (fun _ => rfl)).trans ((l0_fr f412 rfl (fun _ => rfl)).trans ((l0_fr f233 rfl (fun _ => rfl)).trans ((l0_fr f217 rfl (fun _ => rfl)).trans ((l0_fr f49 rfl (fun _ => rfl)).trans ((l0_wr f32 (by decide)).trans ((l0_wr f28 (by decide)).trans ((l0_wr f24 (by decide)).trans ((l0_wr f20 (by decide)).trans ((l0_wr f16 (by decide)).trans ((l0_wr f12 (by decide)).trans ((l0_wr f8 (by decide)).trans (l0_wr f4 (by decide)))))))))))))))))
                      have b459 := GI.b g453 117 49 kd117 (lo := 0) (hi := 61) rfl
                      have b460 := GI.b hg 148 0 kd148 (lo := 0) (hi := 60) rfl
                      have q461 : (τ452.1 148 0) = (σ.1 148 0) := ((FR.at f454 148 0 rfl).trans ((FRw.na f438 (by decide)).trans ((FRw.na f433 (by decide)).trans ((FR.at f426 148 0 rfl).trans ((FR.at f412 148 0 rfl).trans ((FR.at f233 148 0 rfl).trans ((FR.at f217 148 0 rfl).trans ((FR.at f49 148 0 rfl).trans ((FRw.na f32 (by decide)).trans ((FRw.na f28 (by decide)).trans ((FRw.na f24 (by decide)).trans ((FRw.na f20 (by decide)).trans ((FRw.na f16 (by decide)).trans ((FRw.na f12 (by decide)).trans ((FRw.na f8 (by decide)).trans (FRw.na f4 (by decide)))))))))))))))))
                      refine wp_use (m_263_1 τ452 g453  (by omega) _ _ (by omega) (by omega)) ?_
                      rintro _ τ466 ⟨rfl, g467, f468, p462, p463, p464, p465⟩
                      show WP 251 94 [(0, .ref 117), (1, iV other)] [] _ _ _ _
                      refine wp_al1 jF_251_94 rfl rfl (pc2 := 95) ?_
                      have b469 := GI.b g411 117 45 kd117 (lo := (-2147483648)) (hi := 2147483647) rfl
                      refine wp_gi jF_251_95 kd117 (by decide) rfl ((FR.at f468 117 45 rfl).trans ((FR.at f454 117 45 rfl).trans ((FRw.nj f438 (by decide)).trans ((FRw.nj f433 (by decide)).trans (FR.at f426 117 45 rfl))))) rfl (pc2 := 98) ?_
                      refine wp_ri jF_251_98 rfl ?_
                      have q470 : (kp τ466) = (kp σ) := ((kp_fr f468 (fun _ => rfl) (fun _ => rfl)).trans ((kp_fr f454 (fun _ => rfl) (fun _ => rfl)).trans ((kp_wr f438 (by decide)).trans ((kp_wr f433 (by decide)).trans ((kp_fr f426 (fun _ => rfl) (fun _ => rfl)).trans ((kp_fr f412 (fun _ => rfl) (fun _ => rfl)).trans ((kp_fr f233 (fun _ => rfl) (fun _ => rfl)).trans ((kp_fr f217 (fun _ => rfl) (fun _ => rfl)).trans ((kp_fr f49 (fun _ => rfl) (fun _ => rfl)).trans ((kp_wr f32 (by decide)).trans ((kp_wr f28 (by decide)).trans ((kp_wr f24 (by decide)).trans ((kp_wr f20 (by decide)).trans ((kp_wr f16 (by decide)).trans ((kp_wr f12 (by decide)).trans ((kp_wr f8 (by decide)).trans (kp_wr f4 (by decide))))))))))))))))))
                      have q471 : (τ466.1 117 1) = 0 := ((FR.at f468 117 1 rfl).trans ((FR.at f454 117 1 rfl).trans ((FRw.nj f438 (by decide)).trans ((FRw.nj f433 (by decide)).trans ((FR.at f426 117 1 rfl).trans ((FR.at f412 117 1 rfl).trans ((FR.at f233 117 1 rfl).trans ((FR.at f217 117 1 rfl).trans ((FR.at f49 117 1 rfl).trans ((FRw.nj f32 (by decide)).trans ((FRw.nj f28 (by decide)).trans ((FRw.nj f24 (by decide)).trans ((FRw.nj f20 (by decide)).trans ((FRw.nj f16 (by decide)).trans ((FRw.nj f12 (by decide)).trans e9)))))))))))))))
                      exact ⟨(τ410.1 117 45), rfl, ⟨by omega, by omega⟩, g467, (FR.up (FR.up (FR.w (FR.w (FR.up (FR.up (FR.up (FR.up (FR.up (FR.w (FR.w (FR.w (FR.w (FR.w (FR.w (FR.w (FR.w FR.rf f4 rfl) f8 rfl) f12 rfl) f16 rfl) f20 rfl) f24 rfl) f28 rfl) f32 rfl) f49 sb_Wsgn_Wlaw) f217 sb_Wlw_Wlaw) f233 sb_Wat_Wlaw) f412 sb_Wlw_Wlaw) f426 sb_Wsgn_Wlaw) f433 rfl) f438 rfl) f454 sb_Wtr_Wlaw) f468 sb_Wla_Wlaw), (by omega), (by omega), (by omega), (by omega)⟩
                  · intro h456; exfalso; omega
                · intro h455
                  refine wp_al1 jF_251_53 rfl rfl (pc2 := 54) ?_
                  refine wp_cV (as := []) (rest := []) (a := 117) (mx := 6) (ci := 12) jF_251_54 kd117 (by decide) rfl rfl rfl rfl rfl (by omega) (by omega) rfl (pc2 := 57) ?_
                  have b472 := GI.b hg 143 4 kd143 (lo := 0) (hi := 16) rfl
                  have q473 : (τ452.1 143 4) = (σ.1 143 4) := ((FR.at f454 143 4 rfl).trans ((FRw.na f438 (by decide)).trans ((FRw.na f433 (by decide)).trans ((FR.at f426 143 4 rfl).trans ((FR.at f412 143 4 rfl).trans ((FR.at f233 143 4 rfl).trans ((FR.at f217 143 4 rfl).trans ((FR.at f49 143 4 rfl).trans ((FRw.na f32 (by decide)).trans ((FRw.na f28 (by decide)).trans ((FRw.na f24 (by decide)).trans ((FRw.na f20 (by decide)).trans ((FRw.na f16 (by decide)).trans ((FRw.na f12 (by decide)).trans ((FRw.na f8 (by decide)).trans (FRw.na f4 (by decide)))))))))))))))))
                  refine wp_use (m_258 τ452 g453  (by omega) (by omega) _ _ (by omega) (by omega)) ?_
                  rintro _ _ ⟨z476, rfl, h477, rfl⟩
                  show WP 251 57 [(0, .ref 117), (1, iV other)] [iV z476] _ _ _ _
                  refine wp_z_ne jF_251_57 (m_rgb h477 rfl) rfl (pc2 := 60) ?_ ?_
                  · intro h478
                    refine wp_il1 jF_251_73 rfl rfl (pc2 := 74) ?_
                    refine wp_z_ne jF_251_74 ⟨by omega, by omega⟩ rfl (pc2 := 77) ?_ ?_
                    · intro h479; exfalso; omega
                    · intro h479
                      refine wp_al1 jF_251_77 rfl rfl (pc2 := 78) ?_
                      refine wp_cV (as := []) (rest := []) (a := 117) (mx := 2) (ci := 12) jF_251_78 kd117 (by decide) rfl rfl rfl rfl rfl (by omega) (by omega) rfl (pc2 := 81) ?_
                      have q480 : (l0 τ452) = (l0 σ) := ((l0_fr f454 rfl (fun _ => rfl)).trans ((l0_wr f438 (by decide)).trans ((l0_wr f433 (by decide)).trans ((l0_fr f426 rfl (fun _ => rfl)).trans ((l0_fr f412 rfl (fun _ => rfl)).trans ((l0_fr f233 rfl (fun _ => rfl)).trans ((l0_fr f217 rfl (fun _ => rfl)).trans ((l0_fr f49 rfl (fun _ => rfl)).trans ((l0_wr f32 (by decide)).trans ((l0_wr f28 (by decide)).trans ((l0_wr f24 (by decide)).trans ((l0_wr f20 (by decide)).trans ((l0_wr f16 (by decide)).trans ((l0_wr f12 (by decide)).trans ((l0_wr f8 (by decide)).trans (l0_wr f4 (by decide)))))))))))))))))
                      have q481 : (kp τ452) = (kp σ) := ((kp_fr f454 (fun _ => rfl) (fun _ => rfl)).trans ((kp_wr f438 (by decide)).trans ((kp_wr f433 (by decide)).trans ((kp_fr f426 (fun _ => rfl) (fun _ => rfl)).trans ((kp_fr f412 (fun _ => rfl) (fun _ => rfl)).trans ((kp_fr f233 (fun _ => rfl) (fun _ => rfl)).trans ((kp_fr f217 (fun _ => rfl) (fun _ => rfl)).trans ((kp_fr f49 (fun _ => rfl) (fun _ => rfl)).trans ((kp_wr f32 (by decide)).trans ((kp_wr f28 (by decide)).trans ((kp_wr f24 (by decide)).trans ((kp_wr f20 (by decide)).trans ((kp_wr f16 (by decide)).trans ((kp_wr f12 (by decide)).trans ((kp_wr f8 (by decide)).trans (kp_wr f4 (by decide)))))))))))))))))
                      refine wp_use (m_262 τ452 g453  (by omega) (by omega) _ _ (by omega) (by omega)) ?_
                      rintro _ τ483 ⟨rfl, g484, f485, p482⟩
                      show WP 251 81 [(0, .ref 117), (1, iV other)] [] _ _ _ _
                      refine wp_al1 jF_251_81 rfl rfl (pc2 := 82) ?_
                      refine wp_il1 jF_251_82 rfl rfl (pc2 := 83) ?_
                      refine wp_z_eq jF_251_83 ⟨by omega, by omega⟩ rfl (pc2 := 86) ?_ ?_
                      · intro h486
                        refine wp_ic jF_251_90 rfl (pc2 := 91) ?_
                        refine wp_cV (as := [iV 0]) (rest := []) (a := 117) (mx := 3) (ci := 12) jF_251_91 kd117 (by decide) rfl rfl rfl rfl rfl (by omega) (by omega) rfl (pc2 := 94) ?_
                        have q487 : (tl τ483) = (tl τ452) := (tl_fr f485 rfl (fun _ => rfl))
                        have q488 : (l1 τ483) = (l1 σ) := ((l1_fr f485 rfl (fun _ => rfl)).trans ((l1_fr f454 rfl (fun _ => rfl)).trans ((l1_wr f438 (by decide)).trans ((l1_wr f433 (by decide)).trans ((l1_fr f426 rfl (fun _ => rfl)).trans ((l1_fr f412 rfl (fun _ => rfl)).trans ((l1_fr f233 rfl (fun _ => rfl)).trans ((l1_fr f217 rfl (fun _ => rfl)).trans ((l1_fr f49 rfl (fun _ => rfl)).trans ((l1_wr f32 (by decide)).trans ((l1_wr f28 (by decide)).trans ((l1_wr f24 (by decide)).trans ((l1_wr f20 (by decide)).trans ((l1_wr f16 (by decide)).trans ((l1_wr f12 (by decide)).trans ((l1_wr f8 (by decide)).trans (l1_wr f4 (by decide))))))))))))))))))
                        have b489 := GI.b g453 117 49 kd117 (lo := 0) (hi := 61) rfl
                        have q490 : (τ483.1 117 49) = (τ452.1 117 49) := (FR.at f485 117 49 rfl)
                        have b491 := GI.b hg 148 1 kd148 (lo := 0) (hi := 60) rfl
                        have q492 : (τ483.1 148 1) = (σ.1 148 1) := ((FR.at f485 148 1 rfl).trans ((FR.at f454 148 1 rfl).trans ((FRw.na f438 (by decide)).trans ((FRw.na f433 (by decide)).trans ((FR.at f426 148 1 rfl).trans ((FR.at f412 148 1 rfl).trans ((FR.at f233 148 1 rfl).trans ((FR.at f217 148 1 rfl).trans ((FR.at f49 148 1 rfl).trans ((FRw.na f32 (by decide)).trans ((FRw.na f28 (by decide)).trans ((FRw.na f24 (by decide)).trans ((FRw.na f20 (by decide)).trans ((FRw.na f16 (by decide)).trans ((FRw.na f12 (by decide)).trans ((FRw.na f8 (by decide)).trans (FRw.na f4 (by decide))))))))))))))))))
                        refine wp_use (m_263_0 τ483 g484  (by omega) _ _ (by omega) (by omega)) ?_
                        rintro _ τ497 ⟨rfl, g498, f499, p493, p494, p495, p496⟩
                        show WP 251 94 [(0, .ref 117), (1, iV other)] [] _ _ _ _
                        refine wp_al1 jF_251_94 rfl rfl (pc2 := 95) ?_
                        have b500 := GI.b g411 117 45 kd117 (lo := (-2147483648)) (hi := 2147483647) rfl
                        refine wp_gi jF_251_95 kd117 (by decide) rfl ((FR.at f499 117 45 rfl).trans ((FR.at f485 117 45 rfl).trans ((FR.at f454 117 45 rfl).trans ((FRw.nj f438 (by decide)).trans ((FRw.nj f433 (by decide)).trans (FR.at f426 117 45 rfl)))))) rfl (pc2 := 98) ?_
                        refine wp_ri jF_251_98 rfl ?_
                        have q501 : (kp τ497) = (kp τ483) := (kp_fr f499 (fun _ => rfl) (fun _ => rfl))
                        have q502 : (τ497.1 117 1) = 0 := ((FR.at f499 117 1 rfl).trans ((FR.at f485 117 1 rfl).trans ((FR.at f454 117 1 rfl).trans ((FRw.nj f438 (by decide)).trans ((FRw.nj f433 (by decide)).trans ((FR.at f426 117 1 rfl).trans ((FR.at f412 117 1 rfl).trans ((FR.at f233 117 1 rfl).trans ((FR.at f217 117 1 rfl).trans ((FR.at f49 117 1 rfl).trans ((FRw.nj f32 (by decide)).trans ((FRw.nj f28 (by decide)).trans ((FRw.nj f24 (by decide)).trans ((FRw.nj f20 (by decide)).trans ((FRw.nj f16 (by decide)).trans ((FRw.nj f12 (by decide)).trans e9))))))))))))))))
                        exact ⟨(τ410.1 117 45), rfl, ⟨by omega, by omega⟩, g498, (FR.up (FR.up (FR.up (FR.w (FR.w (FR.up (FR.up (FR.up (FR.up (FR.up (FR.w (FR.w (FR.w (FR.w (FR.w (FR.w (FR.w (FR.w FR.rf f4 rfl) f8 rfl) f12 rfl) f16 rfl) f20 rfl) f24 rfl) f28 rfl) f32 rfl) f49 sb_Wsgn_Wlaw) f217 sb_Wlw_Wlaw) f233 sb_Wat_Wlaw) f412 sb_Wlw_Wlaw) f426 sb_Wsgn_Wlaw) f433 rfl) f438 rfl) f454 sb_Wtr_Wlaw) f485 sb_Wkeep_Wlaw) f499 sb_Wla_Wlaw), (by omega), (by omega), (by omega), (by omega)⟩
                      · intro h486; exfalso; omega
                  · intro h478
                    refine wp_al1 jF_251_60 rfl rfl (pc2 := 61) ?_
                    refine wp_gr (b := 119) jF_251_61 kd117 (by decide) (c := 219) rfl rfl rfl (pc2 := 64) ?_
                    refine wp_ic jF_251_64 rfl (pc2 := 65) ?_
                    refine wp_du2 jF_251_65 rfl rfl (pc2 := 66) ?_
                    have b503 := GI.b hg 119 1 kd119 (lo := (-2147483648)) (hi := 2147483647) rfl
                    refine wp_iald (n := 6) (e := (σ.1 119 1)) jF_251_66 kd119 (by decide) rfl rfl (by omega) (by omega) ((FR.at f454 119 1 rfl).trans ((FRw.na f438 (by decide)).trans ((FRw.na f433 (by decide)).trans ((FR.at f426 119 1 rfl).trans ((FR.at f412 119 1 rfl).trans ((FR.at f233 119 1 rfl).trans ((FR.at f217 119 1 rfl).trans ((FR.at f49 119 1 rfl).trans ((FRw.na f32 (by decide)).trans ((FRw.na f28 (by decide)).trans ((FRw.na f24 (by decide)).trans ((FRw.na f20 (by decide)).trans ((FRw.na f16 (by decide)).trans ((FRw.na f12 (by decide)).trans ((FRw.na f8 (by decide)).trans (FRw.na f4 (by decide))))))))))))))))) rfl (pc2 := 67) ?_
                    refine wp_ic jF_251_67 rfl (pc2 := 68) ?_
                    refine wp_any2 (pc2 := 69) jF_251_68 rfl rfl ?_
                    intro z504 h505
                    refine wp_iast (n := 6) jF_251_69 kd119 (by decide) rfl rfl (by omega) (by omega) rfl (pc2 := 70) g453 (lo := (-2147483648)) (hi := 2147483647) rfl (by omega) (by omega) ?_
                    intro τ506 g507 f508 e509
                    refine wp_bi jF_251_70 (by decide) rfl (pc2 := 72) ?_
                    refine wp_ri jF_251_72 rfl ?_
                    have q510 : (l0 τ506) = (l0 σ) := ((l0_wr f508 (by decide)).trans ((l0_fr f454 rfl (fun _ => rfl)).trans ((l0_wr f438 (by decide)).trans ((l0_wr f433 (by decide)).trans ((l0_fr f426 rfl (fun _ => rfl)).trans ((l0_fr f412 rfl (fun _ => rfl)).trans ((l0_fr f233 rfl (fun _ => rfl)).trans ((l0_fr f217 rfl (fun _ => rfl)).trans ((l0_fr f49 rfl (fun _ => rfl)).trans ((l0_wr f32 (by decide)).trans ((l0_wr f28 (by decide)).trans ((l0_wr f24 (by decide)).trans ((l0_wr f20 (by decide)).trans ((l0_wr f16 (by decide)).trans ((l0_wr f12 (by decide)).trans ((l0_wr f8 (by decide)).trans (l0_wr f4 (by decide))))))))))))))))))
                    have q511 : (l1 τ506) = (l1 σ) := ((l1_wr f508 (by decide)).trans ((l1_fr f454 rfl (fun _ => rfl)).trans ((l1_wr f438 (by decide)).trans ((l1_wr f433 (by decide)).trans ((l1_fr f426 rfl (fun _ => rfl)).trans ((l1_fr f412 rfl (fun _ => rfl)).trans ((l1_fr f233 rfl (fun _ => rfl)).trans ((l1_fr f217 rfl (fun _ => rfl)).trans ((l1_fr f49 rfl (fun _ => rfl)).trans ((l1_wr f32 (by decide)).trans ((l1_wr f28 (by decide)).trans ((l1_wr f24 (by decide)).trans ((l1_wr f20 (by decide)).trans ((l1_wr f16 (by decide)).trans ((l1_wr f12 (by decide)).trans ((l1_wr f8 (by decide)).trans (l1_wr f4 (by decide))))))))))))))))))
                    have q512 : (kp τ506) = (kp σ) := ((kp_wr f508 (by decide)).trans ((kp_fr f454 (fun _ => rfl) (fun _ => rfl)).trans ((kp_wr f438 (by decide)).trans ((kp_wr f433 (by decide)).trans ((kp_fr f426 (fun _ => rfl) (fun _ => rfl)).trans ((kp_fr f412 (fun _ => rfl) (fun _ => rfl)).trans ((kp_fr f233 (fun _ => rfl) (fun _ => rfl)).trans ((kp_fr f217 (fun _ => rfl) (fun _ => rfl)).trans ((kp_fr f49 (fun _ => rfl) (fun _ => rfl)).trans ((kp_wr f32 (by decide)).trans ((kp_wr f28 (by decide)).trans ((kp_wr f24 (by decide)).trans ((kp_wr f20 (by decide)).trans ((kp_wr f16 (by decide)).trans ((kp_wr f12 (by decide)).trans ((kp_wr f8 (by decide)).trans (kp_wr f4 (by decide))))))))))))))))))
                    have q513 : (τ506.1 117 1) = 0 := ((FRw.na f508 (by decide)).trans ((FR.at f454 117 1 rfl).trans ((FRw.nj f438 (by decide)).trans ((FRw.nj f433 (by decide)).trans ((FR.at f426 117 1 rfl).trans ((FR.at f412 117 1 rfl).trans ((FR.at f233 117 1 rfl).trans ((FR.at f217 117 1 rfl).trans ((FR.at f49 117 1 rfl).trans ((FRw.nj f32 (by decide)).trans ((FRw.nj f28 (by decide)).trans ((FRw.nj f24 (by decide)).trans ((FRw.nj f20 (by decide)).trans ((FRw.nj f16 (by decide)).trans ((FRw.nj f12 (by decide)).trans e9)))))))))))))))
                    exact ⟨(-2), rfl, ⟨by omega, by omega⟩, g507, (FR.w (FR.up (FR.w (FR.w (FR.up (FR.up (FR.up (FR.up (FR.up (FR.w (FR.w (FR.w (FR.w (FR.w (FR.w (FR.w (FR.w FR.rf f4 rfl) f8 rfl) f12 rfl) f16 rfl) f20 rfl) f24 rfl) f28 rfl) f32 rfl) f49 sb_Wsgn_Wlaw) f217 sb_Wlw_Wlaw) f233 sb_Wat_Wlaw) f412 sb_Wlw_Wlaw) f426 sb_Wsgn_Wlaw) f433 rfl) f438 rfl) f454 sb_Wtr_Wlaw) f508 rfl), (by omega), (by omega), (by omega), (by omega)⟩
              · intro h447; exfalso; omega
          · intro h440
            refine wp_al1 jF_240_23 rfl rfl (pc2 := 24) ?_
            refine wp_gr (b := 119) jF_240_24 kd117 (by decide) (c := 219) rfl rfl rfl (pc2 := 27) ?_
            refine wp_ic jF_240_27 rfl (pc2 := 28) ?_
            refine wp_du2 jF_240_28 rfl rfl (pc2 := 29) ?_
            have b514 := GI.b hg 119 1 kd119 (lo := (-2147483648)) (hi := 2147483647) rfl
            refine wp_iald (n := 6) (e := (σ.1 119 1)) jF_240_29 kd119 (by decide) rfl rfl (by omega) (by omega) ((FRw.na f438 (by decide)).trans ((FRw.na f433 (by decide)).trans ((FR.at f426 119 1 rfl).trans ((FR.at f412 119 1 rfl).trans ((FR.at f233 119 1 rfl).trans ((FR.at f217 119 1 rfl).trans ((FR.at f49 119 1 rfl).trans ((FRw.na f32 (by decide)).trans ((FRw.na f28 (by decide)).trans ((FRw.na f24 (by decide)).trans ((FRw.na f20 (by decide)).trans ((FRw.na f16 (by decide)).trans ((FRw.na f12 (by decide)).trans ((FRw.na f8 (by decide)).trans (FRw.na f4 (by decide)))))))))))))))) rfl (pc2 := 30) ?_
            refine wp_ic jF_240_30 rfl (pc2 := 31) ?_
            refine wp_any2 (pc2 := 32) jF_240_31 rfl rfl ?_
            intro z515 h516
            refine wp_iast (n := 6) jF_240_32 kd119 (by decide) rfl rfl (by omega) (by omega) rfl (pc2 := 33) g437 (lo := (-2147483648)) (hi := 2147483647) rfl (by omega) (by omega) ?_
            intro τ517 g518 f519 e520
            refine wp_al1 jF_240_33 rfl rfl (pc2 := 34) ?_
            refine wp_gi jF_240_34 kd117 (by decide) rfl ((FRw.na f519 (by decide)).trans ((FRw.nj f438 (by decide)).trans (FRw.nj f433 (by decide)))) rfl (pc2 := 37) ?_
            refine wp_z_ne jF_240_37 (m_rgb b430 rfl) rfl (pc2 := 40) ?_ ?_
            · intro h521
              refine wp_ic jF_240_44 rfl (pc2 := 45) ?_
              refine wp_ri jF_240_45 rfl ?_
              show WP 251 40 [(0, .ref 117), (1, iV other)] [iV 0] _ _ _ _
              refine wp_z_ne jF_251_40 (m_rgl rfl) rfl (pc2 := 43) ?_ ?_
              · intro h522; exfalso; omega
              · intro h522
                refine wp_ic jF_251_43 rfl (pc2 := 44) ?_
                refine wp_ri jF_251_44 rfl ?_
                have q523 : (l0 τ517) = (l0 σ) := ((l0_wr f519 (by decide)).trans ((l0_wr f438 (by decide)).trans ((l0_wr f433 (by decide)).trans ((l0_fr f426 rfl (fun _ => rfl)).trans ((l0_fr f412 rfl (fun _ => rfl)).trans ((l0_fr f233 rfl (fun _ => rfl)).trans ((l0_fr f217 rfl (fun _ => rfl)).trans ((l0_fr f49 rfl (fun _ => rfl)).trans ((l0_wr f32 (by decide)).trans ((l0_wr f28 (by decide)).trans ((l0_wr f24 (by decide)).trans ((l0_wr f20 (by decide)).trans ((l0_wr f16 (by decide)).trans ((l0_wr f12 (by decide)).trans ((l0_wr f8 (by decide)).trans (l0_wr f4 (by decide)))))))))))))))))
                have q524 : (l1 τ517) = (l1 σ) := ((l1_wr f519 (by decide)).trans ((l1_wr f438 (by decide)).trans ((l1_wr f433 (by decide)).trans ((l1_fr f426 rfl (fun _ => rfl)).trans ((l1_fr f412 rfl (fun _ => rfl)).trans ((l1_fr f233 rfl (fun _ => rfl)).trans ((l1_fr f217 rfl (fun _ => rfl)).trans ((l1_fr f49 rfl (fun _ => rfl)).trans ((l1_wr f32 (by decide)).trans ((l1_wr f28 (by decide)).trans ((l1_wr f24 (by decide)).trans ((l1_wr f20 (by decide)).trans ((l1_wr f16 (by decide)).trans ((l1_wr f12 (by decide)).trans ((l1_wr f8 (by decide)).trans (l1_wr f4 (by decide)))))))))))))))))
                have q525 : (kp τ517) = (kp σ) := ((kp_wr f519 (by decide)).trans ((kp_wr f438 (by decide)).trans ((kp_wr f433 (by decide)).trans ((kp_fr f426 (fun _ => rfl) (fun _ => rfl)).trans ((kp_fr f412 (fun _ => rfl) (fun _ => rfl)).trans ((kp_fr f233 (fun _ => rfl) (fun _ => rfl)).trans ((kp_fr f217 (fun _ => rfl) (fun _ => rfl)).trans ((kp_fr f49 (fun _ => rfl) (fun _ => rfl)).trans ((kp_wr f32 (by decide)).trans ((kp_wr f28 (by decide)).trans ((kp_wr f24 (by decide)).trans ((kp_wr f20 (by decide)).trans ((kp_wr f16 (by decide)).trans ((kp_wr f12 (by decide)).trans ((kp_wr f8 (by decide)).trans (kp_wr f4 (by decide)))))))))))))))))
                have q526 : (τ517.1 117 1) = 0 := ((FRw.na f519 (by decide)).trans ((FRw.nj f438 (by decide)).trans ((FRw.nj f433 (by decide)).trans ((FR.at f426 117 1 rfl).trans ((FR.at f412 117 1 rfl).trans ((FR.at f233 117 1 rfl).trans ((FR.at f217 117 1 rfl).trans ((FR.at f49 117 1 rfl).trans ((FRw.nj f32 (by decide)).trans ((FRw.nj f28 (by decide)).trans ((FRw.nj f24 (by decide)).trans ((FRw.nj f20 (by decide)).trans ((FRw.nj f16 (by decide)).trans ((FRw.nj f12 (by decide)).trans e9))))))))))))))
                exact ⟨(-1), rfl, ⟨by omega, by omega⟩, g518, (FR.w (FR.w (FR.w (FR.up (FR.up (FR.up (FR.up (FR.up (FR.w (FR.w (FR.w (FR.w (FR.w (FR.w (FR.w (FR.w FR.rf f4 rfl) f8 rfl) f12 rfl) f16 rfl) f20 rfl) f24 rfl) f28 rfl) f32 rfl) f49 sb_Wsgn_Wlaw) f217 sb_Wlw_Wlaw) f233 sb_Wat_Wlaw) f412 sb_Wlw_Wlaw) f426 sb_Wsgn_Wlaw) f433 rfl) f438 rfl) f519 rfl), (by omega), (by omega), (by omega), (by omega)⟩
            · intro h521
              refine wp_ic jF_240_40 rfl (pc2 := 41) ?_
              refine wp_go jF_240_41 ?_
              refine wp_ri jF_240_45 rfl ?_
              show WP 251 40 [(0, .ref 117), (1, iV other)] [iV 1] _ _ _ _
              refine wp_z_ne jF_251_40 (m_rgl rfl) rfl (pc2 := 43) ?_ ?_
              · intro h527
                refine wp_al1 jF_251_45 rfl rfl (pc2 := 46) ?_
                refine wp_cV (as := []) (rest := []) (a := 117) (mx := 2) (ci := 12) jF_251_46 kd117 (by decide) rfl rfl rfl rfl rfl (by omega) (by omega) rfl (pc2 := 49) ?_
                have q528 : (rl τ517) = (rl τ410) := ((rl_wr f519 (by decide)).trans ((rl_wr f438 (by decide)).trans ((rl_wr f433 (by decide)).trans (rl_fr f426 rfl (fun _ => rfl)))))
                have q529 : (τ517.1 117 44) = (τ410.1 117 44) := ((FRw.na f519 (by decide)).trans ((FRw.nj f438 (by decide)).trans ((FRw.nj f433 (by decide)).trans (FR.at f426 117 44 rfl))))
                refine wp_use (m_257 τ517 g518   _ _ (by omega) (by omega)) ?_
                rintro _ τ532 ⟨rfl, g533, f534, p530, p531⟩
                show WP 251 49 [(0, .ref 117), (1, iV other)] [] _ _ _ _
                refine wp_il1 jF_251_49 rfl rfl (pc2 := 50) ?_
                refine wp_z_ne jF_251_50 ⟨by omega, by omega⟩ rfl (pc2 := 53) ?_ ?_
                · intro h535
                  refine wp_il1 jF_251_73 rfl rfl (pc2 := 74) ?_
                  refine wp_z_ne jF_251_74 ⟨by omega, by omega⟩ rfl (pc2 := 77) ?_ ?_
                  · intro h536
                    refine wp_al1 jF_251_81 rfl rfl (pc2 := 82) ?_
                    refine wp_il1 jF_251_82 rfl rfl (pc2 := 83) ?_
                    refine wp_z_eq jF_251_83 ⟨by omega, by omega⟩ rfl (pc2 := 86) ?_ ?_
                    · intro h537; exfalso; omega
                    · intro h537
                      refine wp_ic jF_251_86 rfl (pc2 := 87) ?_
                      refine wp_go jF_251_87 ?_
                      refine wp_cV (as := [iV 1]) (rest := []) (a := 117) (mx := 3) (ci := 12) jF_251_91 kd117 (by decide) rfl rfl rfl rfl rfl (by omega) (by omega) rfl (pc2 := 94) ?_
                      have q538 : (l0 τ532) = (l0 σ) := ((l0_fr f534 rfl (fun _ => rfl)).trans ((l0_wr f519 (by decide)).trans ((l0_wr f438 (by decide)).trans ((l0_wr f433 (by decide)).trans ((l0_fr f426 rfl (fun _ => rfl)).trans ((l0_fr f412 rfl (fun _ => rfl)).trans ((l0_fr f233 rfl (fun _ => rfl)).trans ((l0_fr f217 rfl (fun _ => rfl)).trans ((l0_fr f49 rfl (fun _ => rfl)).trans ((l0_wr f32 (by decide)).trans ((l0_wr f28 (by decide)).trans ((l0_wr f24 (by decide)).trans ((l0_wr f20 (by decide)).trans ((l0_wr f16 (by decide)).trans ((l0_wr f12 (by decide)).trans ((l0_wr f8 (by decide)).trans (l0_wr f4 (by decide))))))))))))))))))
                      have b539 := GI.b g533 117 49 kd117 (lo := 0) (hi := 61) rfl
                      have b540 := GI.b hg 148 0 kd148 (lo := 0) (hi := 60) rfl
                      have q541 : (τ532.1 148 0) = (σ.1 148 0) := ((FR.at f534 148 0 rfl).trans ((FRw.na f519 (by decide)).trans ((FRw.na f438 (by decide)).trans ((FRw.na f433 (by decide)).trans ((FR.at f426 148 0 rfl).trans ((FR.at f412 148 0 rfl).trans ((FR.at f233 148 0 rfl).trans ((FR.at f217 148 0 rfl).trans ((FR.at f49 148 0 rfl).trans ((FRw.na f32 (by decide)).trans ((FRw.na f28 (by decide)).trans ((FRw.na f24 (by decide)).trans ((FRw.na f20 (by decide)).trans ((FRw.na f16 (by decide)).trans ((FRw.na f12 (by decide)).trans ((FRw.na f8 (by decide)).trans (FRw.na f4 (by decide))))))))))))))))))
                      refine wp_use (m_263_1 τ532 g533  (by omega) _ _ (by omega) (by omega)) ?_
                      rintro _ τ546 ⟨rfl, g547, f548, p542, p543, p544, p545⟩
                      show WP 251 94 [(0, .ref 117), (1, iV other)] [] _ _ _ _
                      refine wp_al1 jF_251_94 rfl rfl (pc2 := 95) ?_
                      have b549 := GI.b g411 117 45 kd117 (lo := (-2147483648)) (hi := 2147483647) rfl
                      refine wp_gi jF_251_95 kd117 (by decide) rfl ((FR.at f548 117 45 rfl).trans ((FR.at f534 117 45 rfl).trans ((FRw.na f519 (by decide)).trans ((FRw.nj f438 (by decide)).trans ((FRw.nj f433 (by decide)).trans (FR.at f426 117 45 rfl)))))) rfl (pc2 := 98) ?_
                      refine wp_ri jF_251_98 rfl ?_
                      have q550 : (kp τ546) = (kp σ) := ((kp_fr f548 (fun _ => rfl) (fun _ => rfl)).trans ((kp_fr f534 (fun _ => rfl) (fun _ => rfl)).trans ((kp_wr f519 (by decide)).trans ((kp_wr f438 (by decide)).trans ((kp_wr f433 (by decide)).trans ((kp_fr f426 (fun _ => rfl) (fun _ => rfl)).trans ((kp_fr f412 (fun _ => rfl) (fun _ => rfl)).trans ((kp_fr f233 (fun _ => rfl) (fun _ => rfl)).trans ((kp_fr f217 (fun _ => rfl) (fun _ => rfl)).trans ((kp_fr f49 (fun _ => rfl) (fun _ => rfl)).trans ((kp_wr f32 (by decide)).trans ((kp_wr f28 (by decide)).trans ((kp_wr f24 (by decide)).trans ((kp_wr f20 (by decide)).trans ((kp_wr f16 (by decide)).trans ((kp_wr f12 (by decide)).trans ((kp_wr f8 (by decide)).trans (kp_wr f4 (by decide)))))))))))))))))))
                      have q551 : (τ546.1 117 1) = 0 := ((FR.at f548 117 1 rfl).trans ((FR.at f534 117 1 rfl).trans ((FRw.na f519 (by decide)).trans ((FRw.nj f438 (by decide)).trans ((FRw.nj f433 (by decide)).trans ((FR.at f426 117 1 rfl).trans ((FR.at f412 117 1 rfl).trans ((FR.at f233 117 1 rfl).trans ((FR.at f217 117 1 rfl).trans ((FR.at f49 117 1 rfl).trans ((FRw.nj f32 (by decide)).trans ((FRw.nj f28 (by decide)).trans ((FRw.nj f24 (by decide)).trans ((FRw.nj f20 (by decide)).trans ((FRw.nj f16 (by decide)).trans ((FRw.nj f12 (by decide)).trans e9))))))))))))))))
                      exact ⟨(τ410.1 117 45), rfl, ⟨by omega, by omega⟩, g547, (FR.up (FR.up (FR.w (FR.w (FR.w (FR.up (FR.up (FR.up (FR.up (FR.up (FR.w (FR.w (FR.w (FR.w (FR.w (FR.w (FR.w (FR.w FR.rf f4 rfl) f8 rfl) f12 rfl) f16 rfl) f20 rfl) f24 rfl) f28 rfl) f32 rfl) f49 sb_Wsgn_Wlaw) f217 sb_Wlw_Wlaw) f233 sb_Wat_Wlaw) f412 sb_Wlw_Wlaw) f426 sb_Wsgn_Wlaw) f433 rfl) f438 rfl) f519 rfl) f534 sb_Wtr_Wlaw) f548 sb_Wla_Wlaw), (by omega), (by omega), (by omega), (by omega)⟩
                  · intro h536; exfalso; omega
                · intro h535
                  refine wp_al1 jF_251_53 rfl rfl (pc2 := 54) ?_
                  refine wp_cV (as := []) (rest := []) (a := 117) (mx := 6) (ci := 12) jF_251_54 kd117 (by decide) rfl rfl rfl rfl rfl (by omega) (by omega) rfl (pc2 := 57) ?_
                  have b552 := GI.b hg 143 4 kd143 (lo := 0) (hi := 16) rfl
                  have q553 : (τ532.1 143 4) = (σ.1 143 4) := ((FR.at f534 143 4 rfl).trans ((FRw.na f519 (by decide)).trans ((FRw.na f438 (by decide)).trans ((FRw.na f433 (by decide)).trans ((FR.at f426 143 4 rfl).trans ((FR.at f412 143 4 rfl).trans ((FR.at f233 143 4 rfl).trans ((FR.at f217 143 4 rfl).trans ((FR.at f49 143 4 rfl).trans ((FRw.na f32 (by decide)).trans ((FRw.na f28 (by decide)).trans ((FRw.na f24 (by decide)).trans ((FRw.na f20 (by decide)).trans ((FRw.na f16 (by decide)).trans ((FRw.na f12 (by decide)).trans ((FRw.na f8 (by decide)).trans (FRw.na f4 (by decide))))))))))))))))))
                  refine wp_use (m_258 τ532 g533  (by omega) (by omega) _ _ (by omega) (by omega)) ?_
                  rintro _ _ ⟨z556, rfl, h557, rfl⟩
                  show WP 251 57 [(0, .ref 117), (1, iV other)] [iV z556] _ _ _ _
                  refine wp_z_ne jF_251_57 (m_rgb h557 rfl) rfl (pc2 := 60) ?_ ?_
                  · intro h558
                    refine wp_il1 jF_251_73 rfl rfl (pc2 := 74) ?_
                    refine wp_z_ne jF_251_74 ⟨by omega, by omega⟩ rfl (pc2 := 77) ?_ ?_
                    · intro h559; exfalso; omega
                    · intro h559
                      refine wp_al1 jF_251_77 rfl rfl (pc2 := 78) ?_
                      refine wp_cV (as := []) (rest := []) (a := 117) (mx := 2) (ci := 12) jF_251_78 kd117 (by decide) rfl rfl rfl rfl rfl (by omega) (by omega) rfl (pc2 := 81) ?_
                      have q560 : (l0 τ532) = (l0 σ) := ((l0_fr f534 rfl (fun _ => rfl)).trans ((l0_wr f519 (by decide)).trans ((l0_wr f438 (by decide)).trans ((l0_wr f433 (by decide)).trans ((l0_fr f426 rfl (fun _ => rfl)).trans ((l0_fr f412 rfl (fun _ => rfl)).trans ((l0_fr f233 rfl (fun _ => rfl)).trans ((l0_fr f217 rfl (fun _ => rfl)).trans ((l0_fr f49 rfl (fun _ => rfl)).trans ((l0_wr f32 (by decide)).trans ((l0_wr f28 (by decide)).trans ((l0_wr f24 (by decide)).trans ((l0_wr f20 (by decide)).trans ((l0_wr f16 (by decide)).trans ((l0_wr f12 (by decide)).trans ((l0_wr f8 (by decide)).trans (l0_wr f4 (by decide))))))))))))))))))
                      have q561 : (kp τ532) = (kp σ) := ((kp_fr f534 (fun _ => rfl) (fun _ => rfl)).trans ((kp_wr f519 (by decide)).trans ((kp_wr f438 (by decide)).trans ((kp_wr f433 (by decide)).trans ((kp_fr f426 (fun _ => rfl) (fun _ => rfl)).trans ((kp_fr f412 (fun _ => rfl) (fun _ => rfl)).trans ((kp_fr f233 (fun _ => rfl) (fun _ => rfl)).trans ((kp_fr f217 (fun _ => rfl) (fun _ => rfl)).trans ((kp_fr f49 (fun _ => rfl) (fun _ => rfl)).trans ((kp_wr f32 (by decide)).trans ((kp_wr f28 (by decide)).trans ((kp_wr f24 (by decide)).trans ((kp_wr f20 (by decide)).trans ((kp_wr f16 (by decide)).trans ((kp_wr f12 (by decide)).trans ((kp_wr f8 (by decide)).trans (kp_wr f4 (by decide))))))))))))))))))
                      refine wp_use (m_262 τ532 g533  (by omega) (by omega) _ _ (by omega) (by omega)) ?_
                      rintro _ τ563 ⟨rfl, g564, f565, p562⟩
                      show WP 251 81 [(0, .ref 117), (1, iV other)] [] _ _ _ _
                      refine wp_al1 jF_251_81 rfl rfl (pc2 := 82) ?_
                      refine wp_il1 jF_251_82 rfl rfl (pc2 := 83) ?_
                      refine wp_z_eq jF_251_83 ⟨by omega, by omega⟩ rfl (pc2 := 86) ?_ ?_
                      · intro h566
                        refine wp_ic jF_251_90 rfl (pc2 := 91) ?_
                        refine wp_cV (as := [iV 0]) (rest := []) (a := 117) (mx := 3) (ci := 12) jF_251_91 kd117 (by decide) rfl rfl rfl rfl rfl (by omega) (by omega) rfl (pc2 := 94) ?_
                        have q567 : (tl τ563) = (tl τ532) := (tl_fr f565 rfl (fun _ => rfl))
                        have q568 : (l1 τ563) = (l1 σ) := ((l1_fr f565 rfl (fun _ => rfl)).trans ((l1_fr f534 rfl (fun _ => rfl)).trans ((l1_wr f519 (by decide)).trans ((l1_wr f438 (by decide)).trans ((l1_wr f433 (by decide)).trans ((l1_fr f426 rfl (fun _ => rfl)).trans ((l1_fr f412 rfl (fun _ => rfl)).trans ((l1_fr f233 rfl (fun _ => rfl)).trans ((l1_fr f217 rfl (fun _ => rfl)).trans ((l1_fr f49 rfl (fun _ => rfl)).trans ((l1_wr f32 (by decide)).trans ((l1_wr f28 (by decide)).trans ((l1_wr f24 (by decide)).trans ((l1_wr f20 (by decide)).trans ((l1_wr f16 (by decide)).trans ((l1_wr f12 (by decide)).trans ((l1_wr f8 (by decide)).trans (l1_wr f4 (by decide)))))))))))))))))))
                        have b569 := GI.b g533 117 49 kd117 (lo := 0) (hi := 61) rfl
                        have q570 : (τ563.1 117 49) = (τ532.1 117 49) := (FR.at f565 117 49 rfl)
                        have b571 := GI.b hg 148 1 kd148 (lo := 0) (hi := 60) rfl
                        have q572 : (τ563.1 148 1) = (σ.1 148 1) := ((FR.at f565 148 1 rfl).trans ((FR.at f534 148 1 rfl).trans ((FRw.na f519 (by decide)).trans ((FRw.na f438 (by decide)).trans ((FRw.na f433 (by decide)).trans ((FR.at f426 148 1 rfl).trans ((FR.at f412 148 1 rfl).trans ((FR.at f233 148 1 rfl).trans ((FR.at f217 148 1 rfl).trans ((FR.at f49 148 1 rfl).trans ((FRw.na f32 (by decide)).trans ((FRw.na f28 (by decide)).trans ((FRw.na f24 (by decide)).trans ((FRw.na f20 (by decide)).trans ((FRw.na f16 (by decide)).trans ((FRw.na f12 (by decide)).trans ((FRw.na f8 (by decide)).trans (FRw.na f4 (by decide)))))))))))))))))))
                        refine wp_use (m_263_0 τ563 g564  (by omega) _ _ (by omega) (by omega)) ?_
                        rintro _ τ577 ⟨rfl, g578, f579, p573, p574, p575, p576⟩
                        show WP 251 94 [(0, .ref 117), (1, iV other)] [] _ _ _ _
                        refine wp_al1 jF_251_94 rfl rfl (pc2 := 95) ?_
                        have b580 := GI.b g411 117 45 kd117 (lo := (-2147483648)) (hi := 2147483647) rfl
                        refine wp_gi jF_251_95 kd117 (by decide) rfl ((FR.at f579 117 45 rfl).trans ((FR.at f565 117 45 rfl).trans ((FR.at f534 117 45 rfl).trans ((FRw.na f519 (by decide)).trans ((FRw.nj f438 (by decide)).trans ((FRw.nj f433 (by decide)).trans (FR.at f426 117 45 rfl))))))) rfl (pc2 := 98) ?_
                        refine wp_ri jF_251_98 rfl ?_
                        have q581 : (kp τ577) = (kp τ563) := (kp_fr f579 (fun _ => rfl) (fun _ => rfl))
                        have q582 : (τ577.1 117 1) = 0 := ((FR.at f579 117 1 rfl).trans ((FR.at f565 117 1 rfl).trans ((FR.at f534 117 1 rfl).trans ((FRw.na f519 (by decide)).trans ((FRw.nj f438 (by decide)).trans ((FRw.nj f433 (by decide)).trans ((FR.at f426 117 1 rfl).trans ((FR.at f412 117 1 rfl).trans ((FR.at f233 117 1 rfl).trans ((FR.at f217 117 1 rfl).trans ((FR.at f49 117 1 rfl).trans ((FRw.nj f32 (by decide)).trans ((FRw.nj f28 (by decide)).trans ((FRw.nj f24 (by decide)).trans ((FRw.nj f20 (by decide)).trans ((FRw.nj f16 (by decide)).trans ((FRw.nj f12 (by decide)).trans e9)))))))))))))))))
                        exact ⟨(τ410.1 117 45), rfl, ⟨by omega, by omega⟩, g578, (FR.up (FR.up (FR.up (FR.w (FR.w (FR.w (FR.up (FR.up (FR.up (FR.up (FR.up (FR.w (FR.w (FR.w (FR.w (FR.w (FR.w (FR.w (FR.w FR.rf f4 rfl) f8 rfl) f12 rfl) f16 rfl) f20 rfl) f24 rfl) f28 rfl) f32 rfl) f49 sb_Wsgn_Wlaw) f217 sb_Wlw_Wlaw) f233 sb_Wat_Wlaw) f412 sb_Wlw_Wlaw) f426 sb_Wsgn_Wlaw) f433 rfl) f438 rfl) f519 rfl) f534 sb_Wtr_Wlaw) f565 sb_Wkeep_Wlaw) f579 sb_Wla_Wlaw), (by omega), (by omega), (by omega), (by omega)⟩
                      · intro h566; exfalso; omega
                  · intro h558
                    refine wp_al1 jF_251_60 rfl rfl (pc2 := 61) ?_
                    refine wp_gr (b := 119) jF_251_61 kd117 (by decide) (c := 219) rfl rfl rfl (pc2 := 64) ?_
                    refine wp_ic jF_251_64 rfl (pc2 := 65) ?_
                    refine wp_du2 jF_251_65 rfl rfl (pc2 := 66) ?_
                    refine wp_iald (n := 6) (e := z515) jF_251_66 kd119 (by decide) rfl rfl (by omega) (by omega) ((FR.at f534 119 1 rfl).trans e520) rfl (pc2 := 67) ?_
                    refine wp_ic jF_251_67 rfl (pc2 := 68) ?_
                    refine wp_any2 (pc2 := 69) jF_251_68 rfl rfl ?_
                    intro z583 h584
                    refine wp_iast (n := 6) jF_251_69 kd119 (by decide) rfl rfl (by omega) (by omega) rfl (pc2 := 70) g533 (lo := (-2147483648)) (hi := 2147483647) rfl (by omega) (by omega) ?_
                    intro τ585 g586 f587 e588
                    refine wp_bi jF_251_70 (by decide) rfl (pc2 := 72) ?_
                    refine wp_ri jF_251_72 rfl ?_
                    have q589 : (l0 τ585) = (l0 σ) := ((l0_wr f587 (by decide)).trans ((l0_fr f534 rfl (fun _ => rfl)).trans ((l0_wr f519 (by decide)).trans ((l0_wr f438 (by decide)).trans ((l0_wr f433 (by decide)).trans ((l0_fr f426 rfl (fun _ => rfl)).trans ((l0_fr f412 rfl (fun _ => rfl)).trans ((l0_fr f233 rfl (fun _ => rfl)).trans ((l0_fr f217 rfl (fun _ => rfl)).trans ((l0_fr f49 rfl (fun _ => rfl)).trans ((l0_wr f32 (by decide)).trans ((l0_wr f28 (by decide)).trans ((l0_wr f24 (by decide)).trans ((l0_wr f20 (by decide)).trans ((l0_wr f16 (by decide)).trans ((l0_wr f12 (by decide)).trans ((l0_wr f8 (by decide)).trans (l0_wr f4 (by decide)))))))))))))))))))
                    have q590 : (l1 τ585) = (l1 σ) := ((l1_wr f587 (by decide)).trans ((l1_fr f534 rfl (fun _ => rfl)).trans ((l1_wr f519 (by decide)).trans ((l1_wr f438 (by decide)).trans ((l1_wr f433 (by decide)).trans ((l1_fr f426 rfl (fun _ => rfl)).trans ((l1_fr f412 rfl (fun _ => rfl)).trans ((l1_fr f233 rfl (fun _ => rfl)).trans ((l1_fr f217 rfl (fun _ => rfl)).trans ((l1_fr f49 rfl (fun _ => rfl)).trans ((l1_wr f32 (by decide)).trans ((l1_wr f28 (by decide)).trans ((l1_wr f24 (by decide)).trans ((l1_wr f20 (by decide)).trans ((l1_wr f16 (by decide)).trans ((l1_wr f12 (by decide)).trans ((l1_wr f8 (by decide)).trans (l1_wr f4 (by decide)))))))))))))))))))
                    have q591 : (kp τ585) = (kp σ) := ((kp_wr f587 (by decide)).trans ((kp_fr f534 (fun _ => rfl) (fun _ => rfl)).trans ((kp_wr f519 (by decide)).trans ((kp_wr f438 (by decide)).trans ((kp_wr f433 (by decide)).trans ((kp_fr f426 (fun _ => rfl) (fun _ => rfl)).trans ((kp_fr f412 (fun _ => rfl) (fun _ => rfl)).trans ((kp_fr f233 (fun _ => rfl) (fun _ => rfl)).trans ((kp_fr f217 (fun _ => rfl) (fun _ => rfl)).trans ((kp_fr f49 (fun _ => rfl) (fun _ => rfl)).trans ((kp_wr f32 (by decide)).trans ((kp_wr f28 (by decide)).trans ((kp_wr f24 (by decide)).trans ((kp_wr f20 (by decide)).trans ((kp_wr f16 (by decide)).trans ((kp_wr f12 (by decide)).trans ((kp_wr f8 (by decide)).trans (kp_wr f4 (by decide)))))))))))))))))))
                    have q592 : (τ585.1 117 1) = 0 := ((FRw.na f587 (by decide)).trans ((FR.at f534 117 1 rfl).trans ((FRw.na f519 (by decide)).trans ((FRw.nj f438 (by decide)).trans ((FRw.nj f433 (by decide)).trans ((FR.at f426 117 1 rfl).trans ((FR.at f412 117 1 rfl).trans ((FR.at f233 117 1 rfl).trans ((FR.at f217 117 1 rfl).trans ((FR.at f49 117 1 rfl).trans ((FRw.nj f32 (by decide)).trans ((FRw.nj f28 (by decide)).trans ((FRw.nj f24 (by decide)).trans ((FRw.nj f20 (by decide)).trans ((FRw.nj f16 (by decide)).trans ((FRw.nj f12 (by decide)).trans e9))))))))))))))))
                    exact ⟨(-2), rfl, ⟨by omega, by omega⟩, g586, (FR.w (FR.up (FR.w (FR.w (FR.w (FR.up (FR.up (FR.up (FR.up (FR.up (FR.w (FR.w (FR.w (FR.w (FR.w (FR.w (FR.w (FR.w FR.rf f4 rfl) f8 rfl) f12 rfl) f16 rfl) f20 rfl) f24 rfl) f28 rfl) f32 rfl) f49 sb_Wsgn_Wlaw) f217 sb_Wlw_Wlaw) f233 sb_Wat_Wlaw) f412 sb_Wlw_Wlaw) f426 sb_Wsgn_Wlaw) f433 rfl) f438 rfl) f519 rfl) f534 sb_Wtr_Wlaw) f587 rfl), (by omega), (by omega), (by omega), (by omega)⟩
              · intro h527; exfalso; omega
        · intro h429
          replace p418 := p418 (by omega)
          clear p419
          replace p422 := p422 (by omega)
          replace p423 := p423 (by omega)
          replace p407 := p407 (by omega)
          replace p408 := p408 (by omega)
          replace p409 := p409 (by omega)
          clear p417
          have q593 : (rl τ424) = (rl τ410) := (rl_fr f426 rfl (fun _ => rfl))
          have b594 := GI.b g425 117 2 kd117 (lo := 0) (hi := 1601) rfl
          have b595 := GI.b g425 117 5 kd117 (lo := (-2147483648)) (hi := 2147483647) rfl
          exact ih221 () τ424 ⟨g425, (FR.up (FR.up (FR.up f217 f233 sb_Wat_Wlw) f412 sb_Wlw_Wlw) f426 sb_Wsgn_Wlw), (by omega), (by omega), (by omega)⟩ (by show Int.toNat (1700 - (τ424.1 117 2)) < Int.toNat (1700 - (τ215.1 117 2)); omega)
