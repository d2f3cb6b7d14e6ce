set_option maxHeartbeats 4000000 in
set_option maxRecDepth 20000 in
/-- M.law -/
theorem m_251 (σ : jM) (hg : GI σ) (other : Int) (hl_other : 0 ≤ other) (hu_other : other ≤ 1) (pre0 : (σ.1 143 3) ≤ 16) (pre1 : (σ.1 143 4) ≤ 8) (pre2 : (σ.1 143 5) ≤ 10) (pre3 : (kp σ) = 1) (pre4 : (l0 σ) = 22) (pre5 : (l1 σ) = 22) (fr lo : Nat) (hfr : 6 ≤ fr) (hlo : 131 ≤ lo) : WP 251 0 (lv_args 0 [.ref 117, iV other]) [] fr lo σ (fun v τ => ∃ z : Int, v = some (iV z) ∧ ((-2147483648) ≤ z ∧ z ≤ 2147483647) ∧ GI τ ∧ FR Wlaw σ τ ∧ ((kp τ) = 1) ∧ ((l0 τ) = 22) ∧ ((l1 τ) = 22)) := by
  show WP 251 0 [(0, .ref 117), (1, iV other)] [] _ _ _ _
  refine wp_al1 jF_251_0 rfl rfl (pc2 := 1) ?_
  refine wp_cV (as := []) (rest := []) (a := 117) (mx := 1) (ci := 12) jF_251_1 kd117 (by decide) rfl rfl rfl rfl rfl (by omega) (by omega) rfl (pc2 := 4) ?_
  show WP 215 0 [(0, .ref 117)] [] _ _ _ _
  refine wp_al1 jF_215_0 rfl rfl (pc2 := 1) ?_
  refine wp_al1 jF_215_1 rfl rfl (pc2 := 2) ?_
  have b1 := GI.b hg 117 1 kd117 (lo := 0) (hi := 1600) rfl
  refine wp_gi jF_215_2 kd117 (by decide) rfl rfl rfl (pc2 := 5) ?_
  refine wp_pi jF_215_5 kd117 (by decide) rfl rfl rfl (pc2 := 8) hg (lo := 0) (hi := 1600) rfl (by omega) (by omega) ?_
  intro τ2 g3 f4 e5
  refine wp_al1 jF_215_8 rfl rfl (pc2 := 9) ?_
  refine wp_ic jF_215_9 rfl (pc2 := 10) ?_
  refine wp_pi jF_215_10 kd117 (by decide) rfl rfl rfl (pc2 := 13) g3 (lo := 0) (hi := 1600) rfl (by omega) (by omega) ?_
  intro τ6 g7 f8 e9
  refine wp_al1 jF_215_13 rfl rfl (pc2 := 14) ?_
  refine wp_ic jF_215_14 rfl (pc2 := 15) ?_
  refine wp_pi jF_215_15 kd117 (by decide) rfl rfl rfl (pc2 := 18) g7 (lo := 0) (hi := 1601) rfl (by omega) (by omega) ?_
  intro τ10 g11 f12 e13
  refine wp_al1 jF_215_18 rfl rfl (pc2 := 19) ?_
  refine wp_ic jF_215_19 rfl (pc2 := 20) ?_
  refine wp_pi jF_215_20 kd117 (by decide) rfl rfl rfl (pc2 := 23) g11 (lo := (-2147483648)) (hi := 2147483647) rfl (by omega) (by omega) ?_
  intro τ14 g15 f16 e17
  refine wp_al1 jF_215_23 rfl rfl (pc2 := 24) ?_
  refine wp_ic jF_215_24 rfl (pc2 := 25) ?_
  refine wp_pi jF_215_25 kd117 (by decide) rfl rfl rfl (pc2 := 28) g15 (lo := (-2147483648)) (hi := 2147483647) rfl (by omega) (by omega) ?_
  intro τ18 g19 f20 e21
  refine wp_al1 jF_215_28 rfl rfl (pc2 := 29) ?_
  refine wp_ic jF_215_29 rfl (pc2 := 30) ?_
  refine wp_pi jF_215_30 kd117 (by decide) rfl rfl rfl (pc2 := 33) g19 (lo := (-2147483648)) (hi := 2147483647) rfl (by omega) (by omega) ?_
  intro τ22 g23 f24 e25
  refine wp_rv jF_215_33 ?_
  show WP 251 4 [(0, .ref 117), (1, iV other)] [] _ _ _ _
  refine wp_al1 jF_251_4 rfl rfl (pc2 := 5) ?_
  refine wp_ic jF_251_5 rfl (pc2 := 6) ?_
  refine wp_pi jF_251_6 kd117 (by decide) rfl rfl rfl (pc2 := 9) g23 (lo := 0) (hi := 60) rfl (by omega) (by omega) ?_
  intro τ26 g27 f28 e29
  refine wp_al1 jF_251_9 rfl rfl (pc2 := 10) ?_
  refine wp_ic jF_251_10 rfl (pc2 := 11) ?_
  refine wp_pi jF_251_11 kd117 (by decide) rfl rfl rfl (pc2 := 14) g27 (lo := (-2147483648)) (hi := 2147483647) rfl (by omega) (by omega) ?_
  intro τ30 g31 f32 e33
  refine wp_al1 jF_251_14 rfl rfl (pc2 := 15) ?_
  refine wp_cV (as := []) (rest := []) (a := 117) (mx := 2) (ci := 12) jF_251_15 kd117 (by decide) rfl rfl rfl rfl rfl (by omega) (by omega) rfl (pc2 := 18) ?_
  have q34 : (ch τ30) = (ch τ10) := ((ch_wr f32 (by decide)).trans ((ch_wr f28 (by decide)).trans ((ch_wr f24 (by decide)).trans ((ch_wr f20 (by decide)).trans (ch_wr f16 (by decide))))))
  have q35 : (nb τ30) = (nb τ10) := ((nb_wr f32 (by decide)).trans ((nb_wr f28 (by decide)).trans ((nb_wr f24 (by decide)).trans ((nb_wr f20 (by decide)).trans (nb_wr f16 (by decide))))))
  have q36 : (τ30.1 117 2) = 0 := ((FRw.nj f32 (by decide)).trans ((FRw.nj f28 (by decide)).trans ((FRw.nj f24 (by decide)).trans ((FRw.nj f20 (by decide)).trans ((FRw.nj f16 (by decide)).trans e13)))))
  have q37 : (τ30.1 117 44) = 0 := ((FRw.nj f32 (by decide)).trans e29)
  have q38 : (τ30.1 117 5) = 0 := ((FRw.nj f32 (by decide)).trans ((FRw.nj f28 (by decide)).trans ((FRw.nj f24 (by decide)).trans e21)))
  refine wp_use (m_252 τ30 g31   _ _ (by omega) (by omega)) ?_
  rintro _ τ47 ⟨z50, rfl, h51, g48, f49, p39, p40, p41, p42, p43, p44, p45, p46⟩
  clear p40
  show WP 251 18 [(0, .ref 117), (1, iV other)] [iV z50] _ _ _ _
  refine wp_z_eq jF_251_18 (m_rgb h51 rfl) rfl (pc2 := 21) ?_ ?_
  · intro h52
    clear p41
    replace p42 := p42 (by omega)
    clear p45
    clear p46
    refine wp_al1 jF_251_36 rfl rfl (pc2 := 37) ?_
    refine wp_cV (as := []) (rest := []) (a := 117) (mx := 1) (ci := 12) jF_251_37 kd117 (by decide) rfl rfl rfl rfl rfl (by omega) (by omega) rfl (pc2 := 40) ?_
    show WP 240 0 [(0, .ref 117)] [] _ _ _ _
    refine wp_al1 jF_240_0 rfl rfl (pc2 := 1) ?_
    refine wp_al1 jF_240_1 rfl rfl (pc2 := 2) ?_
    have b53 := GI.b g48 117 5 kd117 (lo := (-2147483648)) (hi := 2147483647) rfl
    refine wp_gi jF_240_2 kd117 (by decide) rfl rfl rfl (pc2 := 5) ?_
    refine wp_pi jF_240_5 kd117 (by decide) rfl rfl rfl (pc2 := 8) g48 (lo := (-2147483648)) (hi := 2147483647) rfl (by omega) (by omega) ?_
    intro τ54 g55 f56 e57
    refine wp_al1 jF_240_8 rfl rfl (pc2 := 9) ?_
    refine wp_al1 jF_240_9 rfl rfl (pc2 := 10) ?_
    have b58 := GI.b g48 117 6 kd117 (lo := (-2147483648)) (hi := 2147483647) rfl
    refine wp_gi jF_240_10 kd117 (by decide) rfl (FRw.nj f56 (by decide)) rfl (pc2 := 13) ?_
    refine wp_pi jF_240_13 kd117 (by decide) rfl rfl rfl (pc2 := 16) g55 (lo := (-2147483648)) (hi := 2147483647) rfl (by omega) (by omega) ?_
    intro τ59 g60 f61 e62
    refine wp_al1 jF_240_16 rfl rfl (pc2 := 17) ?_
    refine wp_gi jF_240_17 kd117 (by decide) rfl ((FRw.nj f61 (by decide)).trans (FRw.nj f56 (by decide))) rfl (pc2 := 20) ?_
    refine wp_z_eq jF_240_20 (m_rgb b53 rfl) rfl (pc2 := 23) ?_ ?_
    · intro h63
      refine wp_al1 jF_240_33 rfl rfl (pc2 := 34) ?_
      refine wp_gi jF_240_34 kd117 (by decide) rfl ((FRw.nj f61 (by decide)).trans (FRw.nj f56 (by decide))) rfl (pc2 := 37) ?_
      refine wp_z_ne jF_240_37 (m_rgb b53 rfl) rfl (pc2 := 40) ?_ ?_
      · intro h64
        refine wp_ic jF_240_44 rfl (pc2 := 45) ?_
        refine wp_ri jF_240_45 rfl ?_
        show WP 251 40 [(0, .ref 117), (1, iV other)] [iV 0] _ _ _ _
        refine wp_z_ne jF_251_40 (m_rgl rfl) rfl (pc2 := 43) ?_ ?_
        · intro h65; exfalso; omega
        · intro h65
          refine wp_ic jF_251_43 rfl (pc2 := 44) ?_
          refine wp_ri jF_251_44 rfl ?_
          have q66 : (l0 τ59) = (l0 σ) := ((l0_wr f61 (by decide)).trans ((l0_wr f56 (by decide)).trans ((l0_fr f49 rfl (fun _ => rfl)).trans ((l0_wr f32 (by decide)).trans ((l0_wr f28 (by decide)).trans ((l0_wr f24 (by decide)).trans ((l0_wr f20 (by decide)).trans ((l0_wr f16 (by decide)).trans ((l0_wr f12 (by decide)).trans ((l0_wr f8 (by decide)).trans (l0_wr f4 (by decide))))))))))))
          have q67 : (l1 τ59) = (l1 σ) := ((l1_wr f61 (by decide)).trans ((l1_wr f56 (by decide)).trans ((l1_fr f49 rfl (fun _ => rfl)).trans ((l1_wr f32 (by decide)).trans ((l1_wr f28 (by decide)).trans ((l1_wr f24 (by decide)).trans ((l1_wr f20 (by decide)).trans ((l1_wr f16 (by decide)).trans ((l1_wr f12 (by decide)).trans ((l1_wr f8 (by decide)).trans (l1_wr f4 (by decide))))))))))))
          have q68 : (kp τ59) = (kp σ) := ((kp_wr f61 (by decide)).trans ((kp_wr f56 (by decide)).trans ((kp_fr f49 (fun _ => rfl) (fun _ => rfl)).trans ((kp_wr f32 (by decide)).trans ((kp_wr f28 (by decide)).trans ((kp_wr f24 (by decide)).trans ((kp_wr f20 (by decide)).trans ((kp_wr f16 (by decide)).trans ((kp_wr f12 (by decide)).trans ((kp_wr f8 (by decide)).trans (kp_wr f4 (by decide))))))))))))
          exact ⟨(-1), rfl, ⟨by omega, by omega⟩, g60, (FR.w (FR.w (FR.up (FR.w (FR.w (FR.w (FR.w (FR.w (FR.w (FR.w (FR.w FR.rf f4 rfl) f8 rfl) f12 rfl) f16 rfl) f20 rfl) f24 rfl) f28 rfl) f32 rfl) f49 sb_Wsgn_Wlaw) f56 rfl) f61 rfl), (by omega), (by omega), (by omega)⟩
      · intro h64
        refine wp_ic jF_240_40 rfl (pc2 := 41) ?_
        refine wp_go jF_240_41 ?_
        refine wp_ri jF_240_45 rfl ?_
        show WP 251 40 [(0, .ref 117), (1, iV other)] [iV 1] _ _ _ _
        refine wp_z_ne jF_251_40 (m_rgl rfl) rfl (pc2 := 43) ?_ ?_
        · intro h69
          refine wp_al1 jF_251_45 rfl rfl (pc2 := 46) ?_
          refine wp_cV (as := []) (rest := []) (a := 117) (mx := 2) (ci := 12) jF_251_46 kd117 (by decide) rfl rfl rfl rfl rfl (by omega) (by omega) rfl (pc2 := 49) ?_
          have q70 : (rl τ59) = (rl τ26) := ((rl_wr f61 (by decide)).trans ((rl_wr f56 (by decide)).trans ((rl_fr f49 rfl (fun _ => rfl)).trans (rl_wr f32 (by decide)))))
          have q71 : (τ59.1 117 44) = 0 := ((FRw.nj f61 (by decide)).trans ((FRw.nj f56 (by decide)).trans ((FR.at f49 117 44 rfl).trans ((FRw.nj f32 (by decide)).trans e29))))
          refine wp_use (m_257 τ59 g60   _ _ (by omega) (by omega)) ?_
          rintro _ τ74 ⟨rfl, g75, f76, p72, p73⟩
          show WP 251 49 [(0, .ref 117), (1, iV other)] [] _ _ _ _
          refine wp_il1 jF_251_49 rfl rfl (pc2 := 50) ?_
          refine wp_z_ne jF_251_50 ⟨by omega, by omega⟩ rfl (pc2 := 53) ?_ ?_
          · intro h77
            refine wp_il1 jF_251_73 rfl rfl (pc2 := 74) ?_
            refine wp_z_ne jF_251_74 ⟨by omega, by omega⟩ rfl (pc2 := 77) ?_ ?_
            · intro h78
              refine wp_al1 jF_251_81 rfl rfl (pc2 := 82) ?_
              refine wp_il1 jF_251_82 rfl rfl (pc2 := 83) ?_
              refine wp_z_eq jF_251_83 ⟨by omega, by omega⟩ rfl (pc2 := 86) ?_ ?_
              · intro h79; exfalso; omega
              · intro h79
                refine wp_ic jF_251_86 rfl (pc2 := 87) ?_
                refine wp_go jF_251_87 ?_
                refine wp_cV (as := [iV 1]) (rest := []) (a := 117) (mx := 3) (ci := 12) jF_251_91 kd117 (by decide) rfl rfl rfl rfl rfl (by omega) (by omega) rfl (pc2 := 94) ?_
                have q80 : (l0 τ74) = (l0 σ) := ((l0_fr f76 rfl (fun _ => rfl)).trans ((l0_wr f61 (by decide)).trans ((l0_wr f56 (by decide)).trans ((l0_fr f49 rfl (fun _ => rfl)).trans ((l0_wr f32 (by decide)).trans ((l0_wr f28 (by decide)).trans ((l0_wr f24 (by decide)).trans ((l0_wr f20 (by decide)).trans ((l0_wr f16 (by decide)).trans ((l0_wr f12 (by decide)).trans ((l0_wr f8 (by decide)).trans (l0_wr f4 (by decide)))))))))))))
                have b81 := GI.b g75 117 49 kd117 (lo := 0) (hi := 61) rfl
                have b82 := GI.b hg 148 0 kd148 (lo := 0) (hi := 60) rfl
                have q83 : (τ74.1 148 0) = (σ.1 148 0) := ((FR.at f76 148 0 rfl).trans ((FRw.na f61 (by decide)).trans ((FRw.na f56 (by decide)).trans ((FR.at f49 148 0 rfl).trans ((FRw.na f32 (by decide)).trans ((FRw.na f28 (by decide)).trans ((FRw.na f24 (by decide)).trans ((FRw.na f20 (by decide)).trans ((FRw.na f16 (by decide)).trans ((FRw.na f12 (by decide)).trans ((FRw.na f8 (by decide)).trans (FRw.na f4 (by decide)))))))))))))
                refine wp_use (m_263_1 τ74 g75  (by omega) _ _ (by omega) (by omega)) ?_
                rintro _ τ88 ⟨rfl, g89, f90, p84, p85, p86, p87⟩
                show WP 251 94 [(0, .ref 117), (1, iV other)] [] _ _ _ _
                refine wp_al1 jF_251_94 rfl rfl (pc2 := 95) ?_
                refine wp_gi jF_251_95 kd117 (by decide) rfl ((FR.at f90 117 45 rfl).trans ((FR.at f76 117 45 rfl).trans ((FRw.nj f61 (by decide)).trans ((FRw.nj f56 (by decide)).trans ((FR.at f49 117 45 rfl).trans e33))))) rfl (pc2 := 98) ?_
                refine wp_ri jF_251_98 rfl ?_
                have q91 : (kp τ88) = (kp σ) := ((kp_fr f90 (fun _ => rfl) (fun _ => rfl)).trans ((kp_fr f76 (fun _ => rfl) (fun _ => rfl)).trans ((kp_wr f61 (by decide)).trans ((kp_wr f56 (by decide)).trans ((kp_fr f49 (fun _ => rfl) (fun _ => rfl)).trans ((kp_wr f32 (by decide)).trans ((kp_wr f28 (by decide)).trans ((kp_wr f24 (by decide)).trans ((kp_wr f20 (by decide)).trans ((kp_wr f16 (by decide)).trans ((kp_wr f12 (by decide)).trans ((kp_wr f8 (by decide)).trans (kp_wr f4 (by decide))))))))))))))
                exact ⟨0, rfl, ⟨by omega, by omega⟩, g89, (FR.up (FR.up (FR.w (FR.w (FR.up (FR.w (FR.w (FR.w (FR.w (FR.w (FR.w (FR.w (FR.w FR.rf f4 rfl) f8 rfl) f12 rfl) f16 rfl) f20 rfl) f24 rfl) f28 rfl) f32 rfl) f49 sb_Wsgn_Wlaw) f56 rfl) f61 rfl) f76 sb_Wtr_Wlaw) f90 sb_Wla_Wlaw), (by omega), (by omega), (by omega)⟩
            · intro h78; exfalso; omega
          · intro h77
            refine wp_al1 jF_251_53 rfl rfl (pc2 := 54) ?_
            refine wp_cV (as := []) (rest := []) (a := 117) (mx := 6) (ci := 12) jF_251_54 kd117 (by decide) rfl rfl rfl rfl rfl (by omega) (by omega) rfl (pc2 := 57) ?_
            have b92 := GI.b hg 143 4 kd143 (lo := 0) (hi := 16) rfl
            have q93 : (τ74.1 143 4) = (σ.1 143 4) := ((FR.at f76 143 4 rfl).trans ((FRw.na f61 (by decide)).trans ((FRw.na f56 (by decide)).trans ((FR.at f49 143 4 rfl).trans ((FRw.na f32 (by decide)).trans ((FRw.na f28 (by decide)).trans ((FRw.na f24 (by decide)).trans ((FRw.na f20 (by decide)).trans ((FRw.na f16 (by decide)).trans ((FRw.na f12 (by decide)).trans ((FRw.na f8 (by decide)).trans (FRw.na f4 (by decide)))))))))))))
            refine wp_use (m_258 τ74 g75  (by omega) (by omega) _ _ (by omega) (by omega)) ?_
            rintro _ _ ⟨z96, rfl, h97, rfl⟩
            show WP 251 57 [(0, .ref 117), (1, iV other)] [iV z96] _ _ _ _
            refine wp_z_ne jF_251_57 (m_rgb h97 rfl) rfl (pc2 := 60) ?_ ?_
            · intro h98
              refine wp_il1 jF_251_73 rfl rfl (pc2 := 74) ?_
              refine wp_z_ne jF_251_74 ⟨by omega, by omega⟩ rfl (pc2 := 77) ?_ ?_
              · intro h99; exfalso; omega
              · intro h99
                refine wp_al1 jF_251_77 rfl rfl (pc2 := 78) ?_
                refine wp_cV (as := []) (rest := []) (a := 117) (mx := 2) (ci := 12) jF_251_78 kd117 (by decide) rfl rfl rfl rfl rfl (by omega) (by omega) rfl (pc2 := 81) ?_
                have q100 : (l0 τ74) = (l0 σ) := ((l0_fr f76 rfl (fun _ => rfl)).trans ((l0_wr f61 (by decide)).trans ((l0_wr f56 (by decide)).trans ((l0_fr f49 rfl (fun _ => rfl)).trans ((l0_wr f32 (by decide)).trans ((l0_wr f28 (by decide)).trans ((l0_wr f24 (by decide)).trans ((l0_wr f20 (by decide)).trans ((l0_wr f16 (by decide)).trans ((l0_wr f12 (by decide)).trans ((l0_wr f8 (by decide)).trans (l0_wr f4 (by decide)))))))))))))
                have q101 : (kp τ74) = (kp σ) := ((kp_fr f76 (fun _ => rfl) (fun _ => rfl)).trans ((kp_wr f61 (by decide)).trans ((kp_wr f56 (by decide)).trans ((kp_fr f49 (fun _ => rfl) (fun _ => rfl)).trans ((kp_wr f32 (by decide)).trans ((kp_wr f28 (by decide)).trans ((kp_wr f24 (by decide)).trans ((kp_wr f20 (by decide)).trans ((kp_wr f16 (by decide)).trans ((kp_wr f12 (by decide)).trans ((kp_wr f8 (by decide)).trans (kp_wr f4 (by decide)))))))))))))
                refine wp_use (m_262 τ74 g75  (by omega) (by omega) _ _ (by omega) (by omega)) ?_
                rintro _ τ103 ⟨rfl, g104, f105, p102⟩
                show WP 251 81 [(0, .ref 117), (1, iV other)] [] _ _ _ _
                refine wp_al1 jF_251_81 rfl rfl (pc2 := 82) ?_
                refine wp_il1 jF_251_82 rfl rfl (pc2 := 83) ?_
                refine wp_z_eq jF_251_83 ⟨by omega, by omega⟩ rfl (pc2 := 86) ?_ ?_
                · intro h106
                  refine wp_ic jF_251_90 rfl (pc2 := 91) ?_
                  refine wp_cV (as := [iV 0]) (rest := []) (a := 117) (mx := 3) (ci := 12) jF_251_91 kd117 (by decide) rfl rfl rfl rfl rfl (by omega) (by omega) rfl (pc2 := 94) ?_
                  have q107 : (tl τ103) = (tl τ74) := (tl_fr f105 rfl (fun _ => rfl))
                  have q108 : (l1 τ103) = (l1 σ) := ((l1_fr f105 rfl (fun _ => rfl)).trans ((l1_fr f76 rfl (fun _ => rfl)).trans ((l1_wr f61 (by decide)).trans ((l1_wr f56 (by decide)).trans ((l1_fr f49 rfl (fun _ => rfl)).trans ((l1_wr f32 (by decide)).trans ((l1_wr f28 (by decide)).trans ((l1_wr f24 (by decide)).trans ((l1_wr f20 (by decide)).trans ((l1_wr f16 (by decide)).trans ((l1_wr f12 (by decide)).trans ((l1_wr f8 (by decide)).trans (l1_wr f4 (by decide))))))))))))))
                  have b109 := GI.b g75 117 49 kd117 (lo := 0) (hi := 61) rfl
                  have q110 : (τ103.1 117 49) = (τ74.1 117 49) := (FR.at f105 117 49 rfl)
                  have b111 := GI.b hg 148 1 kd148 (lo := 0) (hi := 60) rfl
                  have q112 : (τ103.1 148 1) = (σ.1 148 1) := ((FR.at f105 148 1 rfl).trans ((FR.at f76 148 1 rfl).trans ((FRw.na f61 (by decide)).trans ((FRw.na f56 (by decide)).trans ((FR.at f49 148 1 rfl).trans ((FRw.na f32 (by decide)).trans ((FRw.na f28 (by decide)).trans ((FRw.na f24 (by decide)).trans ((FRw.na f20 (by decide)).trans ((FRw.na f16 (by decide)).trans ((FRw.na f12 (by decide)).trans ((FRw.na f8 (by decide)).trans (FRw.na f4 (by decide))))))))))))))
                  refine wp_use (m_263_0 τ103 g104  (by omega) _ _ (by omega) (by omega)) ?_
                  rintro _ τ117 ⟨rfl, g118, f119, p113, p114, p115, p116⟩
                  show WP 251 94 [(0, .ref 117), (1, iV other)] [] _ _ _ _
                  refine wp_al1 jF_251_94 rfl rfl (pc2 := 95) ?_
                  refine wp_gi jF_251_95 kd117 (by decide) rfl ((FR.at f119 117 45 rfl).trans ((FR.at f105 117 45 rfl).trans ((FR.at f76 117 45 rfl).trans ((FRw.nj f61 (by decide)).trans ((FRw.nj f56 (by decide)).trans ((FR.at f49 117 45 rfl).trans e33)))))) rfl (pc2 := 98) ?_
                  refine wp_ri jF_251_98 rfl ?_
                  have q120 : (kp τ117) = (kp τ103) := (kp_fr f119 (fun _ => rfl) (fun _ => rfl))
                  exact ⟨0, rfl, ⟨by omega, by omega⟩, g118, (FR.up (FR.up (FR.up (FR.w (FR.w (FR.up (FR.w (FR.w (FR.w (FR.w (FR.w (FR.w (FR.w (FR.w FR.rf f4 rfl) f8 rfl) f12 rfl) f16 rfl) f20 rfl) f24 rfl) f28 rfl) f32 rfl) f49 sb_Wsgn_Wlaw) f56 rfl) f61 rfl) f76 sb_Wtr_Wlaw) f105 sb_Wkeep_Wlaw) f119 sb_Wla_Wlaw), (by omega), (by omega), (by omega)⟩
                · intro h106; exfalso; omega
            · intro h98
              refine wp_al1 jF_251_60 rfl rfl (pc2 := 61) ?_
              refine wp_gr (b := 119) jF_251_61 kd117 (by decide) (c := 219) rfl rfl rfl (pc2 := 64) ?_
              refine wp_ic jF_251_64 rfl (pc2 := 65) ?_
              refine wp_du2 jF_251_65 rfl rfl (pc2 := 66) ?_
              have b121 := GI.b hg 119 1 kd119 (lo := (-2147483648)) (hi := 2147483647) rfl
              refine wp_iald (n := 6) (e := (σ.1 119 1)) jF_251_66 kd119 (by decide) rfl rfl (by omega) (by omega) ((FR.at f76 119 1 rfl).trans ((FRw.na f61 (by decide)).trans ((FRw.na f56 (by decide)).trans ((FR.at f49 119 1 rfl).trans ((FRw.na f32 (by decide)).trans ((FRw.na f28 (by decide)).trans ((FRw.na f24 (by decide)).trans ((FRw.na f20 (by decide)).trans ((FRw.na f16 (by decide)).trans ((FRw.na f12 (by decide)).trans ((FRw.na f8 (by decide)).trans (FRw.na f4 (by decide))))))))))))) rfl (pc2 := 67) ?_
              refine wp_ic jF_251_67 rfl (pc2 := 68) ?_
              refine wp_any2 (pc2 := 69) jF_251_68 rfl rfl ?_
              intro z122 h123
              refine wp_iast (n := 6) jF_251_69 kd119 (by decide) rfl rfl (by omega) (by omega) rfl (pc2 := 70) g75 (lo := (-2147483648)) (hi := 2147483647) rfl (by omega) (by omega) ?_
              intro τ124 g125 f126 e127
              refine wp_bi jF_251_70 (by decide) rfl (pc2 := 72) ?_
              refine wp_ri jF_251_72 rfl ?_
              have q128 : (l0 τ124) = (l0 σ) := ((l0_wr f126 (by decide)).trans ((l0_fr f76 rfl (fun _ => rfl)).trans ((l0_wr f61 (by decide)).trans ((l0_wr f56 (by decide)).trans ((l0_fr f49 rfl (fun _ => rfl)).trans ((l0_wr f32 (by decide)).trans ((l0_wr f28 (by decide)).trans ((l0_wr f24 (by decide)).trans ((l0_wr f20 (by decide)).trans ((l0_wr f16 (by decide)).trans ((l0_wr f12 (by decide)).trans ((l0_wr f8 (by decide)).trans (l0_wr f4 (by decide))))))))))))))
              have q129 : (l1 τ124) = (l1 σ) := ((l1_wr f126 (by decide)).trans ((l1_fr f76 rfl (fun _ => rfl)).trans ((l1_wr f61 (by decide)).trans ((l1_wr f56 (by decide)).trans ((l1_fr f49 rfl (fun _ => rfl)).trans ((l1_wr f32 (by decide)).trans ((l1_wr f28 (by decide)).trans ((l1_wr f24 (by decide)).trans ((l1_wr f20 (by decide)).trans ((l1_wr f16 (by decide)).trans ((l1_wr f12 (by decide)).trans ((l1_wr f8 (by decide)).trans (l1_wr f4 (by decide))))))))))))))
              have q130 : (kp τ124) = (kp σ) := ((kp_wr f126 (by decide)).trans ((kp_fr f76 (fun _ => rfl) (fun _ => rfl)).trans ((kp_wr f61 (by decide)).trans ((kp_wr f56 (by decide)).trans ((kp_fr f49 (fun _ => rfl) (fun _ => rfl)).trans ((kp_wr f32 (by decide)).trans ((kp_wr f28 (by decide)).trans ((kp_wr f24 (by decide)).trans ((kp_wr f20 (by decide)).trans ((kp_wr f16 (by decide)).trans ((kp_wr f12 (by decide)).trans ((kp_wr f8 (by decide)).trans (kp_wr f4 (by decide))))))))))))))
              exact ⟨(-2), rfl, ⟨by omega, by omega⟩, g125, (FR.w (FR.up (FR.w (FR.w (FR.up (FR.w (FR.w (FR.w (FR.w (FR.w (FR.w (FR.w (FR.w FR.rf f4 rfl) f8 rfl) f12 rfl) f16 rfl) f20 rfl) f24 rfl) f28 rfl) f32 rfl) f49 sb_Wsgn_Wlaw) f56 rfl) f61 rfl) f76 sb_Wtr_Wlaw) f126 rfl), (by omega), (by omega), (by omega)⟩
        · intro h69; exfalso; omega
    · intro h63
      refine wp_al1 jF_240_23 rfl rfl (pc2 := 24) ?_
      refine wp_gr (b := 119) jF_240_24 kd117 (by decide) (c := 219) rfl rfl rfl (pc2 := 27) ?_
      refine wp_ic jF_240_27 rfl (pc2 := 28) ?_
      refine wp_du2 jF_240_28 rfl rfl (pc2 := 29) ?_
      have b131 := GI.b hg 119 1 kd119 (lo := (-2147483648)) (hi := 2147483647) rfl
      refine wp_iald (n := 6) (e := (σ.1 119 1)) jF_240_29 kd119 (by decide) rfl rfl (by omega) (by omega) ((FRw.na f61 (by decide)).trans ((FRw.na f56 (by decide)).trans ((FR.at f49 119 1 rfl).trans ((FRw.na f32 (by decide)).trans ((FRw.na f28 (by decide)).trans ((FRw.na f24 (by decide)).trans ((FRw.na f20 (by decide)).trans ((FRw.na f16 (by decide)).trans ((FRw.na f12 (by decide)).trans ((FRw.na f8 (by decide)).trans (FRw.na f4 (by decide)))))))))))) rfl (pc2 := 30) ?_
      refine wp_ic jF_240_30 rfl (pc2 := 31) ?_
      refine wp_any2 (pc2 := 32) jF_240_31 rfl rfl ?_
      intro z132 h133
      refine wp_iast (n := 6) jF_240_32 kd119 (by decide) rfl rfl (by omega) (by omega) rfl (pc2 := 33) g60 (lo := (-2147483648)) (hi := 2147483647) rfl (by omega) (by omega) ?_
      intro τ134 g135 f136 e137
      refine wp_al1 jF_240_33 rfl rfl (pc2 := 34) ?_
      refine wp_gi jF_240_34 kd117 (by decide) rfl ((FRw.na f136 (by decide)).trans ((FRw.nj f61 (by decide)).trans (FRw.nj f56 (by decide)))) rfl (pc2 := 37) ?_
      refine wp_z_ne jF_240_37 (m_rgb b53 rfl) rfl (pc2 := 40) ?_ ?_
      · intro h138
        refine wp_ic jF_240_44 rfl (pc2 := 45) ?_
        refine wp_ri jF_240_45 rfl ?_
        show WP 251 40 [(0, .ref 117), (1, iV other)] [iV 0] _ _ _ _
        refine wp_z_ne jF_251_40 (m_rgl rfl) rfl (pc2 := 43) ?_ ?_
        · intro h139; exfalso; omega
        · intro h139
          refine wp_ic jF_251_43 rfl (pc2 := 44) ?_
          refine wp_ri jF_251_44 rfl ?_
          have q140 : (l0 τ134) = (l0 σ) := ((l0_wr f136 (by decide)).trans ((l0_wr f61 (by decide)).trans ((l0_wr f56 (by decide)).trans ((l0_fr f49 rfl (fun _ => rfl)).trans ((l0_wr f32 (by decide)).trans ((l0_wr f28 (by decide)).trans ((l0_wr f24 (by decide)).trans ((l0_wr f20 (by decide)).trans ((l0_wr f16 (by decide)).trans ((l0_wr f12 (by decide)).trans ((l0_wr f8 (by decide)).trans (l0_wr f4 (by decide)))))))))))))
          have q141 : (l1 τ134) = (l1 σ) := ((l1_wr f136 (by decide)).trans ((l1_wr f61 (by decide)).trans ((l1_wr f56 (by decide)).trans ((l1_fr f49 rfl (fun _ => rfl)).trans ((l1_wr f32 (by decide)).trans ((l1_wr f28 (by decide)).trans ((l1_wr f24 (by decide)).trans ((l1_wr f20 (by decide)).trans ((l1_wr f16 (by decide)).trans ((l1_wr f12 (by decide)).trans ((l1_wr f8 (by decide)).trans (l1_wr f4 (by decide)))))))))))))
          have q142 : (kp τ134) = (kp σ) := ((kp_wr f136 (by decide)).trans ((kp_wr f61 (by decide)).trans ((kp_wr f56 (by decide)).trans ((kp_fr f49 (fun _ => rfl) (fun _ => rfl)).trans ((kp_wr f32 (by decide)).trans ((kp_wr f28 (by decide)).trans ((kp_wr f24 (by decide)).trans ((kp_wr f20 (by decide)).trans ((kp_wr f16 (by decide)).trans ((kp_wr f12 (by decide)).trans ((kp_wr f8 (by decide)).trans (kp_wr f4 (by decide)))))))))))))
          exact ⟨(-1), rfl, ⟨by omega, by omega⟩, g135, (FR.w (FR.w (FR.w (FR.up (FR.w (FR.w (FR.w (FR.w (FR.w (FR.w (FR.w (FR.w FR.rf f4 rfl) f8 rfl) f12 rfl) f16 rfl) f20 rfl) f24 rfl) f28 rfl) f32 rfl) f49 sb_Wsgn_Wlaw) f56 rfl) f61 rfl) f136 rfl), (by omega), (by omega), (by omega)⟩
      · intro h138
        refine wp_ic jF_240_40 rfl (pc2 := 41) ?_
        refine wp_go jF_240_41 ?_
        refine wp_ri jF_240_45 rfl ?_
        show WP 251 40 [(0, .ref 117), (1, iV other)] [iV 1] _ _ _ _
        refine wp_z_ne jF_251_40 (m_rgl rfl) rfl (pc2 := 43) ?_ ?_
        · intro h143
          refine wp_al1 jF_251_45 rfl rfl (pc2 := 46) ?_
          refine wp_cV (as := []) (rest := []) (a := 117) (mx := 2) (ci := 12) jF_251_46 kd117 (by decide) rfl rfl rfl rfl rfl (by omega) (by omega) rfl (pc2 := 49) ?_
          have q144 : (rl τ134) = (rl τ26) := ((rl_wr f136 (by decide)).trans ((rl_wr f61 (by decide)).trans ((rl_wr f56 (by decide)).trans ((rl_fr f49 rfl (fun _ => rfl)).trans (rl_wr f32 (by decide))))))
          have q145 : (τ134.1 117 44) = 0 := ((FRw.na f136 (by decide)).trans ((FRw.nj f61 (by decide)).trans ((FRw.nj f56 (by decide)).trans ((FR.at f49 117 44 rfl).trans ((FRw.nj f32 (by decide)).trans e29)))))
          refine wp_use (m_257 τ134 g135   _ _ (by omega) (by omega)) ?_
          rintro _ τ148 ⟨rfl, g149, f150, p146, p147⟩
          show WP 251 49 [(0, .ref 117), (1, iV other)] [] _ _ _ _
          refine wp_il1 jF_251_49 rfl rfl (pc2 := 50) ?_
          refine wp_z_ne jF_251_50 ⟨by omega, by omega⟩ rfl (pc2 := 53) ?_ ?_
          · intro h151
            refine wp_il1 jF_251_73 rfl rfl (pc2 := 74) ?_
            refine wp_z_ne jF_251_74 ⟨by omega, by omega⟩ rfl (pc2 := 77) ?_ ?_
            · intro h152
              refine wp_al1 jF_251_81 rfl rfl (pc2 := 82) ?_
              refine wp_il1 jF_251_82 rfl rfl (pc2 := 83) ?_
              refine wp_z_eq jF_251_83 ⟨by omega, by omega⟩ rfl (pc2 := 86) ?_ ?_
              · intro h153; exfalso; omega
              · intro h153
                refine wp_ic jF_251_86 rfl (pc2 := 87) ?_
                refine wp_go jF_251_87 ?_
                refine wp_cV (as := [iV 1]) (rest := []) (a := 117) (mx := 3) (ci := 12) jF_251_91 kd117 (by decide) rfl rfl rfl rfl rfl (by omega) (by omega) rfl (pc2 := 94) ?_
                have q154 : (l0 τ148) = (l0 σ) := ((l0_fr f150 rfl (fun _ => rfl)).trans ((l0_wr f136 (by decide)).trans ((l0_wr f61 (by decide)).trans ((l0_wr f56 (by decide)).trans ((l0_fr f49 rfl (fun _ => rfl)).trans ((l0_wr f32 (by decide)).trans ((l0_wr f28 (by decide)).trans ((l0_wr f24 (by decide)).trans ((l0_wr f20 (by decide)).trans ((l0_wr f16 (by decide)).trans ((l0_wr f12 (by decide)).trans ((l0_wr f8 (by decide)).trans (l0_wr f4 (by decide))))))))))))))
                have b155 := GI.b g149 117 49 kd117 (lo := 0) (hi := 61) rfl
                have b156 := GI.b hg 148 0 kd148 (lo := 0) (hi := 60) rfl
                have q157 : (τ148.1 148 0) = (σ.1 148 0) := ((FR.at f150 148 0 rfl).trans ((FRw.na f136 (by decide)).trans ((FRw.na f61 (by decide)).trans ((FRw.na f56 (by decide)).trans ((FR.at f49 148 0 rfl).trans ((FRw.na f32 (by decide)).trans ((FRw.na f28 (by decide)).trans ((FRw.na f24 (by decide)).trans ((FRw.na f20 (by decide)).trans ((FRw.na f16 (by decide)).trans ((FRw.na f12 (by decide)).trans ((FRw.na f8 (by decide)).trans (FRw.na f4 (by decide))))))))))))))
                refine wp_use (m_263_1 τ148 g149  (by omega) _ _ (by omega) (by omega)) ?_
                rintro _ τ162 ⟨rfl, g163, f164, p158, p159, p160, p161⟩
                show WP 251 94 [(0, .ref 117), (1, iV other)] [] _ _ _ _
                refine wp_al1 jF_251_94 rfl rfl (pc2 := 95) ?_
                refine wp_gi jF_251_95 kd117 (by decide) rfl ((FR.at f164 117 45 rfl).trans ((FR.at f150 117 45 rfl).trans ((FRw.na f136 (by decide)).trans ((FRw.nj f61 (by decide)).trans ((FRw.nj f56 (by decide)).trans ((FR.at f49 117 45 rfl).trans e33)))))) rfl (pc2 := 98) ?_
                refine wp_ri jF_251_98 rfl ?_
                have q165 : (kp τ162) = (kp σ) := ((kp_fr f164 (fun _ => rfl) (fun _ => rfl)).trans ((kp_fr f150 (fun _ => rfl) (fun _ => rfl)).trans ((kp_wr f136 (by decide)).trans ((kp_wr f61 (by decide)).trans ((kp_wr f56 (by decide)).trans ((kp_fr f49 (fun _ => rfl) (fun _ => rfl)).trans ((kp_wr f32 (by decide)).trans ((kp_wr f28 (by decide)).trans ((kp_wr f24 (by decide)).trans ((kp_wr f20 (by decide)).trans ((kp_wr f16 (by decide)).trans ((kp_wr f12 (by decide)).trans ((kp_wr f8 (by decide)).trans (kp_wr f4 (by decide)))))))))))))))
                exact ⟨0, rfl, ⟨by omega, by omega⟩, g163, (FR.up (FR.up (FR.w (FR.w (FR.w (FR.up (FR.w (FR.w (FR.w (FR.w (FR.w (FR.w (FR.w (FR.w FR.rf f4 rfl) f8 rfl) f12 rfl) f16 rfl) f20 rfl) f24 rfl) f28 rfl) f32 rfl) f49 sb_Wsgn_Wlaw) f56 rfl) f61 rfl) f136 rfl) f150 sb_Wtr_Wlaw) f164 sb_Wla_Wlaw), (by omega), (by omega), (by omega)⟩
            · intro h152; exfalso; omega
          · intro h151
            refine wp_al1 jF_251_53 rfl rfl (pc2 := 54) ?_
            refine wp_cV (as := []) (rest := []) (a := 117) (mx := 6) (ci := 12) jF_251_54 kd117 (by decide) rfl rfl rfl rfl rfl (by omega) (by omega) rfl (pc2 := 57) ?_
            have b166 := GI.b hg 143 4 kd143 (lo := 0) (hi := 16) rfl
            have q167 : (τ148.1 143 4) = (σ.1 143 4) := ((FR.at f150 143 4 rfl).trans ((FRw.na f136 (by decide)).trans ((FRw.na f61 (by decide)).trans ((FRw.na f56 (by decide)).trans ((FR.at f49 143 4 rfl).trans ((FRw.na f32 (by decide)).trans ((FRw.na f28 (by decide)).trans ((FRw.na f24 (by decide)).trans ((FRw.na f20 (by decide)).trans ((FRw.na f16 (by decide)).trans ((FRw.na f12 (by decide)).trans ((FRw.na f8 (by decide)).trans (FRw.na f4 (by decide))))))))))))))
            refine wp_use (m_258 τ148 g149  (by omega) (by omega) _ _ (by omega) (by omega)) ?_
            rintro _ _ ⟨z170, rfl, h171, rfl⟩
            show WP 251 57 [(0, .ref 117), (1, iV other)] [iV z170] _ _ _ _
            refine wp_z_ne jF_251_57 (m_rgb h171 rfl) rfl (pc2 := 60) ?_ ?_
            · intro h172
              refine wp_il1 jF_251_73 rfl rfl (pc2 := 74) ?_
              refine wp_z_ne jF_251_74 ⟨by omega, by omega⟩ rfl (pc2 := 77) ?_ ?_
              · intro h173; exfalso; omega
              · intro h173
                refine wp_al1 jF_251_77 rfl rfl (pc2 := 78) ?_
                refine wp_cV (as := []) (rest := []) (a := 117) (mx := 2) (ci := 12) jF_251_78 kd117 (by decide) rfl rfl rfl rfl rfl (by omega) (by omega) rfl (pc2 := 81) ?_
                have q174 : (l0 τ148) = (l0 σ) := ((l0_fr f150 rfl (fun _ => rfl)).trans ((l0_wr f136 (by decide)).trans ((l0_wr f61 (by decide)).trans ((l0_wr f56 (by decide)).trans ((l0_fr f49 rfl (fun _ => rfl)).trans ((l0_wr f32 (by decide)).trans ((l0_wr f28 (by decide)).trans ((l0_wr f24 (by decide)).trans ((l0_wr f20 (by decide)).trans ((l0_wr f16 (by decide)).trans ((l0_wr f12 (by decide)).trans ((l0_wr f8 (by decide)).trans (l0_wr f4 (by decide))))))))))))))
                have q175 : (kp τ148) = (kp σ) := ((kp_fr f150 (fun _ => rfl) (fun _ => rfl)).trans ((kp_wr f136 (by decide)).trans ((kp_wr f61 (by decide)).trans ((kp_wr f56 (by decide)).trans ((kp_fr f49 (fun _ => rfl) (fun _ => rfl)).trans ((kp_wr f32 (by decide)).trans ((kp_wr f28 (by decide)).trans ((kp_wr f24 (by decide)).trans ((kp_wr f20 (by decide)).trans ((kp_wr f16 (by decide)).trans ((kp_wr f12 (by decide)).trans ((kp_wr f8 (by decide)).trans (kp_wr f4 (by decide))))))))))))))
                refine wp_use (m_262 τ148 g149  (by omega) (by omega) _ _ (by omega) (by omega)) ?_
                rintro _ τ177 ⟨rfl, g178, f179, p176⟩
                show WP 251 81 [(0, .ref 117), (1, iV other)] [] _ _ _ _
                refine wp_al1 jF_251_81 rfl rfl (pc2 := 82) ?_
                refine wp_il1 jF_251_82 rfl rfl (pc2 := 83) ?_
                refine wp_z_eq jF_251_83 ⟨by omega, by omega⟩ rfl (pc2 := 86) ?_ ?_
                · intro h180
                  refine wp_ic jF_251_90 rfl (pc2 := 91) ?_
                  refine wp_cV (as := [iV 0]) (rest := []) (a := 117) (mx := 3) (ci := 12) jF_251_91 kd117 (by decide) rfl rfl rfl rfl rfl (by omega) (by omega) rfl (pc2 := 94) ?_
                  have q181 : (tl τ177) = (tl τ148) := (tl_fr f179 rfl (fun _ => rfl))
                  have q182 : (l1 τ177) = (l1 σ) := ((l1_fr f179 rfl (fun _ => rfl)).trans ((l1_fr f150 rfl (fun _ => rfl)).trans ((l1_wr f136 (by decide)).trans ((l1_wr f61 (by decide)).trans ((l1_wr f56 (by decide)).trans ((l1_fr f49 rfl (fun _ => rfl)).trans ((l1_wr f32 (by decide)).trans ((l1_wr f28 (by decide)).trans ((l1_wr f24 (by decide)).trans ((l1_wr f20 (by decide)).trans ((l1_wr f16 (by decide)).trans ((l1_wr f12 (by decide)).trans ((l1_wr f8 (by decide)).trans (l1_wr f4 (by decide)))))))))))))))
                  have b183 := GI.b g149 117 49 kd117 (lo := 0) (hi := 61) rfl
                  have q184 : (τ177.1 117 49) = (τ148.1 117 49) := (FR.at f179 117 49 rfl)
                  have b185 := GI.b hg 148 1 kd148 (lo := 0) (hi := 60) rfl
                  have q186 : (τ177.1 148 1) = (σ.1 148 1) := ((FR.at f179 148 1 rfl).trans ((FR.at f150 148 1 rfl).trans ((FRw.na f136 (by decide)).trans ((FRw.na f61 (by decide)).trans ((FRw.na f56 (by decide)).trans ((FR.at f49 148 1 rfl).trans ((FRw.na f32 (by decide)).trans ((FRw.na f28 (by decide)).trans ((FRw.na f24 (by decide)).trans ((FRw.na f20 (by decide)).trans ((FRw.na f16 (by decide)).trans ((FRw.na f12 (by decide)).trans ((FRw.na f8 (by decide)).trans (FRw.na f4 (by decide)))))))))))))))
                  refine wp_use (m_263_0 τ177 g178  (by omega) _ _ (by omega) (by omega)) ?_
                  rintro _ τ191 ⟨rfl, g192, f193, p187, p188, p189, p190⟩
                  show WP 251 94 [(0, .ref 117), (1, iV other)] [] _ _ _ _
                  refine wp_al1 jF_251_94 rfl rfl (pc2 := 95) ?_
                  refine wp_gi jF_251_95 kd117 (by decide) rfl ((FR.at f193 117 45 rfl).trans ((FR.at f179 117 45 rfl).trans ((FR.at f150 117 45 rfl).trans ((FRw.na f136 (by decide)).trans ((FRw.nj f61 (by decide)).trans ((FRw.nj f56 (by decide)).trans ((FR.at f49 117 45 rfl).trans e33))))))) rfl (pc2 := 98) ?_
                  refine wp_ri jF_251_98 rfl ?_
                  have q194 : (kp τ191) = (kp τ177) := (kp_fr f193 (fun _ => rfl) (fun _ => rfl))
                  exact ⟨0, rfl, ⟨by omega, by omega⟩, g192, (FR.up (FR.up (FR.up (FR.w (FR.w (FR.w (FR.up (FR.w (FR.w (FR.w (FR.w (FR.w (FR.w (FR.w (FR.w FR.rf f4 rfl) f8 rfl) f12 rfl) f16 rfl) f20 rfl) f24 rfl) f28 rfl) f32 rfl) f49 sb_Wsgn_Wlaw) f56 rfl) f61 rfl) f136 rfl) f150 sb_Wtr_Wlaw) f179 sb_Wkeep_Wlaw) f193 sb_Wla_Wlaw), (by omega), (by omega), (by omega)⟩
                · intro h180; exfalso; omega
            · intro h172
              refine wp_al1 jF_251_60 rfl rfl (pc2 := 61) ?_
              refine wp_gr (b := 119) jF_251_61 kd117 (by decide) (c := 219) rfl rfl rfl (pc2 := 64) ?_
              refine wp_ic jF_251_64 rfl (pc2 := 65) ?_
              refine wp_du2 jF_251_65 rfl rfl (pc2 := 66) ?_
              refine wp_iald (n := 6) (e := z132) jF_251_66 kd119 (by decide) rfl rfl (by omega) (by omega) ((FR.at f150 119 1 rfl).trans e137) rfl (pc2 := 67) ?_
              refine wp_ic jF_251_67 rfl (pc2 := 68) ?_
              refine wp_any2 (pc2 := 69) jF_251_68 rfl rfl ?_
              intro z195 h196
              refine wp_iast (n := 6) jF_251_69 kd119 (by decide) rfl rfl (by omega) (by omega) rfl (pc2 := 70) g149 (lo := (-2147483648)) (hi := 2147483647) rfl (by omega) (by omega) ?_
              intro τ197 g198 f199 e200
              refine wp_bi jF_251_70 (by decide) rfl (pc2 := 72) ?_
              refine wp_ri jF_251_72 rfl ?_
              have q201 : (l0 τ197) = (l0 σ) := ((l0_wr f199 (by decide)).trans ((l0_fr f150 rfl (fun _ => rfl)).trans ((l0_wr f136 (by decide)).trans ((l0_wr f61 (by decide)).trans ((l0_wr f56 (by decide)).trans ((l0_fr f49 rfl (fun _ => rfl)).trans ((l0_wr f32 (by decide)).trans ((l0_wr f28 (by decide)).trans ((l0_wr f24 (by decide)).trans ((l0_wr f20 (by decide)).trans ((l0_wr f16 (by decide)).trans ((l0_wr f12 (by decide)).trans ((l0_wr f8 (by decide)).trans (l0_wr f4 (by decide)))))))))))))))
              have q202 : (l1 τ197) = (l1 σ) := ((l1_wr f199 (by decide)).trans ((l1_fr f150 rfl (fun _ => rfl)).trans ((l1_wr f136 (by decide)).trans ((l1_wr f61 (by decide)).trans ((l1_wr f56 (by decide)).trans ((l1_fr f49 rfl (fun _ => rfl)).trans ((l1_wr f32 (by decide)).trans ((l1_wr f28 (by decide)).trans ((l1_wr f24 (by decide)).trans ((l1_wr f20 (by decide)).trans ((l1_wr f16 (by decide)).trans ((l1_wr f12 (by decide)).trans ((l1_wr f8 (by decide)).trans (l1_wr f4 (by decide)))))))))))))))
              have q203 : (kp τ197) = (kp σ) := ((kp_wr f199 (by decide)).trans ((kp_fr f150 (fun _ => rfl) (fun _ => rfl)).trans ((kp_wr f136 (by decide)).trans ((kp_wr f61 (by decide)).trans ((kp_wr f56 (by decide)).trans ((kp_fr f49 (fun _ => rfl) (fun _ => rfl)).trans ((kp_wr f32 (by decide)).trans ((kp_wr f28 (by decide)).trans ((kp_wr f24 (by decide)).trans ((kp_wr f20 (by decide)).trans ((kp_wr f16 (by decide)).trans ((kp_wr f12 (by decide)).trans ((kp_wr f8 (by decide)).trans (kp_wr f4 (by decide)))))))))))))))
              exact ⟨(-2), rfl, ⟨by omega, by omega⟩, g198, (FR.w (FR.up (FR.w (FR.w (FR.w (FR.up (FR.w (FR.w (FR.w (FR.w (FR.w (FR.w (FR.w (FR.w FR.rf f4 rfl) f8 rfl) f12 rfl) f16 rfl) f20 rfl) f24 rfl) f28 rfl) f32 rfl) f49 sb_Wsgn_Wlaw) f56 rfl) f61 rfl) f136 rfl) f150 sb_Wtr_Wlaw) f199 rfl), (by omega), (by omega), (by omega)⟩
        · intro h143; exfalso; omega
  · intro h52
    replace p41 := p41 (by omega)
    clear p42
    replace p45 := p45 (by omega)
    replace p46 := p46 (by omega)
    have b204 := GI.b g48 117 2 kd117 (lo := 0) (hi := 1601) rfl
    refine wp_loop (α := Unit) (fun a => [(0, .ref 117), (1, iV other)]) (fun a τ => GI τ ∧ FR Wlw τ47 τ ∧ ((τ.1 117 5) = 0) ∧ ((rl τ) = 22) ∧ ((τ47.1 117 2) ≤ (τ.1 117 2))) (fun a τ => Int.toNat (1700 - (τ.1 117 2))) () τ47 ?_ ?_
    · skip
      have q205 : (rl τ47) = (rl τ26) := ((rl_fr f49 rfl (fun _ => rfl)).trans (rl_wr f32 (by decide)))
      have b206 := GI.b g48 117 5 kd117 (lo := (-2147483648)) (hi := 2147483647) rfl
      exact ⟨g48, FR.rf, (by omega), (by have e : rl τ26 = 22 := rl_0 e29; omega), (by omega)⟩
    · rintro ⟨⟩ τ207 ⟨g208, f209, p210, p211, p212⟩ ih213
      have b214 := GI.b g208 117 2 kd117 (lo := 0) (hi := 1601) rfl
      have b215 := GI.b g208 117 5 kd117 (lo := (-2147483648)) (hi := 2147483647) rfl
      show WP 251 21 [(0, .ref 117), (1, iV other)] [] _ _ _ _
      show WP 251 21 [(0, .ref 117), (1, iV other)] [] _ _ _ _
      refine wp_al1 jF_251_21 rfl rfl (pc2 := 22) ?_
      refine wp_cV (as := []) (rest := []) (a := 117) (mx := 1) (ci := 12) jF_251_22 kd117 (by decide) rfl rfl rfl rfl rfl (by omega) (by omega) rfl (pc2 := 25) ?_
      have q216 : (τ207.1 117 3) = (σ.1 117 1) := ((FR.at f209 117 3 rfl).trans ((FR.at f49 117 3 rfl).trans ((FRw.nj f32 (by decide)).trans ((FRw.nj f28 (by decide)).trans ((FRw.nj f24 (by decide)).trans ((FRw.nj f20 (by decide)).trans ((FRw.nj f16 (by decide)).trans ((FRw.nj f12 (by decide)).trans ((FRw.nj f8 (by decide)).trans e5)))))))))
      refine wp_use (m_216 τ207 g208   _ _ (by omega) (by omega)) ?_
      rintro _ τ223 ⟨z226, rfl, h227, g224, f225, p217, p218, p219, p220, p221, p222⟩
      have b228 := GI.b hg 118 (τ223.1 117 2).toNat kd118 (lo := 0) (hi := 255) rfl
      have q229 : (τ207.1 118 (τ223.1 117 2).toNat) = (σ.1 118 (τ223.1 117 2).toNat) := ((FR.at f209 118 (τ223.1 117 2).toNat rfl).trans ((FR.at f49 118 (τ223.1 117 2).toNat rfl).trans ((FRw.na f32 (by decide)).trans ((FRw.na f28 (by decide)).trans ((FRw.na f24 (by decide)).trans ((FRw.na f20 (by decide)).trans ((FRw.na f16 (by decide)).trans ((FRw.na f12 (by decide)).trans ((FRw.na f8 (by decide)).trans (FRw.na f4 (by decide)))))))))))
      show WP 251 25 [(0, .ref 117), (1, iV other)] [iV z226] _ _ _ _
      refine wp_ic jF_251_25 rfl (pc2 := 26) ?_
      refine wp_i_eq jF_251_26 (m_rgb h227 rfl) (m_rgl rfl) rfl (pc2 := 29) ?_ ?_
      · intro h230
        clear p217
        clear p222
        refine wp_al1 jF_251_36 rfl rfl (pc2 := 37) ?_
        refine wp_cV (as := []) (rest := []) (a := 117) (mx := 1) (ci := 12) jF_251_37 kd117 (by decide) rfl rfl rfl rfl rfl (by omega) (by omega) rfl (pc2 := 40) ?_
        show WP 240 0 [(0, .ref 117)] [] _ _ _ _
        refine wp_al1 jF_240_0 rfl rfl (pc2 := 1) ?_
        refine wp_al1 jF_240_1 rfl rfl (pc2 := 2) ?_
        refine wp_gi jF_240_2 kd117 (by decide) rfl (FR.at f225 117 5 rfl) rfl (pc2 := 5) ?_
        refine wp_pi jF_240_5 kd117 (by decide) rfl rfl rfl (pc2 := 8) g224 (lo := (-2147483648)) (hi := 2147483647) rfl (by omega) (by omega) ?_
        intro τ231 g232 f233 e234
        refine wp_al1 jF_240_8 rfl rfl (pc2 := 9) ?_
        refine wp_al1 jF_240_9 rfl rfl (pc2 := 10) ?_
        have b235 := GI.b g208 117 6 kd117 (lo := (-2147483648)) (hi := 2147483647) rfl
        refine wp_gi jF_240_10 kd117 (by decide) rfl ((FRw.nj f233 (by decide)).trans (FR.at f225 117 6 rfl)) rfl (pc2 := 13) ?_
        refine wp_pi jF_240_13 kd117 (by decide) rfl rfl rfl (pc2 := 16) g232 (lo := (-2147483648)) (hi := 2147483647) rfl (by omega) (by omega) ?_
        intro τ236 g237 f238 e239
        refine wp_al1 jF_240_16 rfl rfl (pc2 := 17) ?_
        refine wp_gi jF_240_17 kd117 (by decide) rfl ((FRw.nj f238 (by decide)).trans ((FRw.nj f233 (by decide)).trans (FR.at f225 117 5 rfl))) rfl (pc2 := 20) ?_
        refine wp_z_eq jF_240_20 (m_rgb b215 rfl) rfl (pc2 := 23) ?_ ?_
        · intro h240
          refine wp_al1 jF_240_33 rfl rfl (pc2 := 34) ?_
          refine wp_gi jF_240_34 kd117 (by decide) rfl ((FRw.nj f238 (by decide)).trans ((FRw.nj f233 (by decide)).trans (FR.at f225 117 5 rfl))) rfl (pc2 := 37) ?_
          refine wp_z_ne jF_240_37 (m_rgb b215 rfl) rfl (pc2 := 40) ?_ ?_
          · intro h241
            refine wp_ic jF_240_44 rfl (pc2 := 45) ?_
            refine wp_ri jF_240_45 rfl ?_
            show WP 251 40 [(0, .ref 117), (1, iV other)] [iV 0] _ _ _ _
            refine wp_z_ne jF_251_40 (m_rgl rfl) rfl (pc2 := 43) ?_ ?_
            · intro h242; exfalso; omega
            · intro h242
              refine wp_ic jF_251_43 rfl (pc2 := 44) ?_
              refine wp_ri jF_251_44 rfl ?_
              have q243 : (l0 τ236) = (l0 σ) := ((l0_wr f238 (by decide)).trans ((l0_wr f233 (by decide)).trans ((l0_fr f225 rfl (fun _ => rfl)).trans ((l0_fr f209 rfl (fun _ => rfl)).trans ((l0_fr f49 rfl (fun _ => rfl)).trans ((l0_wr f32 (by decide)).trans ((l0_wr f28 (by decide)).trans ((l0_wr f24 (by decide)).trans ((l0_wr f20 (by decide)).trans ((l0_wr f16 (by decide)).trans ((l0_wr f12 (by decide)).trans ((l0_wr f8 (by decide)).trans (l0_wr f4 (by decide))))))))))))))
              have q244 : (l1 τ236) = (l1 σ) := ((l1_wr f238 (by decide)).trans ((l1_wr f233 (by decide)).trans ((l1_fr f225 rfl (fun _ => rfl)).trans ((l1_fr f209 rfl (fun _ => rfl)).trans ((l1_fr f49 rfl (fun _ => rfl)).trans ((l1_wr f32 (by decide)).trans ((l1_wr f28 (by decide)).trans ((l1_wr f24 (by decide)).trans ((l1_wr f20 (by decide)).trans ((l1_wr f16 (by decide)).trans ((l1_wr f12 (by decide)).trans ((l1_wr f8 (by decide)).trans (l1_wr f4 (by decide))))))))))))))
              have q245 : (kp τ236) = (kp σ) := ((kp_wr f238 (by decide)).trans ((kp_wr f233 (by decide)).trans ((kp_fr f225 (fun _ => rfl) (fun _ => rfl)).trans ((kp_fr f209 (fun _ => rfl) (fun _ => rfl)).trans ((kp_fr f49 (fun _ => rfl) (fun _ => rfl)).trans ((kp_wr f32 (by decide)).trans ((kp_wr f28 (by decide)).trans ((kp_wr f24 (by decide)).trans ((kp_wr f20 (by decide)).trans ((kp_wr f16 (by decide)).trans ((kp_wr f12 (by decide)).trans ((kp_wr f8 (by decide)).trans (kp_wr f4 (by decide))))))))))))))
              exact ⟨(-1), rfl, ⟨by omega, by omega⟩, g237, (FR.w (FR.w (FR.up (FR.up (FR.up (FR.w (FR.w (FR.w (FR.w (FR.w (FR.w (FR.w (FR.w FR.rf f4 rfl) f8 rfl) f12 rfl) f16 rfl) f20 rfl) f24 rfl) f28 rfl) f32 rfl) f49 sb_Wsgn_Wlaw) f209 sb_Wlw_Wlaw) f225 sb_Wat_Wlaw) f233 rfl) f238 rfl), (by omega), (by omega), (by omega)⟩
          · intro h241
            refine wp_ic jF_240_40 rfl (pc2 := 41) ?_
            refine wp_go jF_240_41 ?_
            refine wp_ri jF_240_45 rfl ?_
            show WP 251 40 [(0, .ref 117), (1, iV other)] [iV 1] _ _ _ _
            refine wp_z_ne jF_251_40 (m_rgl rfl) rfl (pc2 := 43) ?_ ?_
            · intro h246
              refine wp_al1 jF_251_45 rfl rfl (pc2 := 46) ?_
              refine wp_cV (as := []) (rest := []) (a := 117) (mx := 2) (ci := 12) jF_251_46 kd117 (by decide) rfl rfl rfl rfl rfl (by omega) (by omega) rfl (pc2 := 49) ?_
              have q247 : (rl τ236) = (rl τ207) := ((rl_wr f238 (by decide)).trans ((rl_wr f233 (by decide)).trans (rl_fr f225 rfl (fun _ => rfl))))
              have b248 := GI.b g208 117 44 kd117 (lo := 0) (hi := 60) rfl
              have q249 : (τ236.1 117 44) = (τ207.1 117 44) := ((FRw.nj f238 (by decide)).trans ((FRw.nj f233 (by decide)).trans (FR.at f225 117 44 rfl)))
              refine wp_use (m_257 τ236 g237   _ _ (by omega) (by omega)) ?_
              rintro _ τ252 ⟨rfl, g253, f254, p250, p251⟩
              show WP 251 49 [(0, .ref 117), (1, iV other)] [] _ _ _ _
              refine wp_il1 jF_251_49 rfl rfl (pc2 := 50) ?_
              refine wp_z_ne jF_251_50 ⟨by omega, by omega⟩ rfl (pc2 := 53) ?_ ?_
              · intro h255
                refine wp_il1 jF_251_73 rfl rfl (pc2 := 74) ?_
                refine wp_z_ne jF_251_74 ⟨by omega, by omega⟩ rfl (pc2 := 77) ?_ ?_
                · intro h256
                  refine wp_al1 jF_251_81 rfl rfl (pc2 := 82) ?_
                  refine wp_il1 jF_251_82 rfl rfl (pc2 := 83) ?_
                  refine wp_z_eq jF_251_83 ⟨by omega, by omega⟩ rfl (pc2 := 86) ?_ ?_
                  · intro h257; exfalso; omega
                  · intro h257
                    refine wp_ic jF_251_86 rfl (pc2 := 87) ?_
                    refine wp_go jF_251_87 ?_
                    refine wp_cV (as := [iV 1]) (rest := []) (a := 117) (mx := 3) (ci := 12) jF_251_91 kd117 (by decide) rfl rfl rfl rfl rfl (by omega) (by omega) rfl (pc2 := 94) ?_
                    have q258 : (l0 τ252) = (l0 σ) := ((l0_fr f254 rfl (fun _ => rfl)).trans ((l0_wr f238 (by decide)).trans ((l0_wr f233 (by decide)).trans ((l0_fr f225 rfl (fun _ => rfl)).trans ((l0_fr f209 rfl (fun _ => rfl)).trans ((l0_fr f49 rfl (fun _ => rfl)).trans ((l0_wr f32 (by decide)).trans ((l0_wr f28 (by decide)).trans ((l0_wr f24 (by decide)).trans ((l0_wr f20 (by decide)).trans ((l0_wr f16 (by decide)).trans ((l0_wr f12 (by decide)).trans ((l0_wr f8 (by decide)).trans (l0_wr f4 (by decide)))))))))))))))
                    have b259 := GI.b g253 117 49 kd117 (lo := 0) (hi := 61) rfl
                    have b260 := GI.b hg 148 0 kd148 (lo := 0) (hi := 60) rfl
                    have q261 : (τ252.1 148 0) = (σ.1 148 0) := ((FR.at f254 148 0 rfl).trans ((FRw.na f238 (by decide)).trans ((FRw.na f233 (by decide)).trans ((FR.at f225 148 0 rfl).trans ((FR.at f209 148 0 rfl).trans ((FR.at f49 148 0 rfl).trans ((FRw.na f32 (by decide)).trans ((FRw.na f28 (by decide)).trans ((FRw.na f24 (by decide)).trans ((FRw.na f20 (by decide)).trans ((FRw.na f16 (by decide)).trans ((FRw.na f12 (by decide)).trans ((FRw.na f8 (by decide)).trans (FRw.na f4 (by decide)))))))))))))))
                    refine wp_use (m_263_1 τ252 g253  (by omega) _ _ (by omega) (by omega)) ?_
                    rintro _ τ266 ⟨rfl, g267, f268, p262, p263, p264, p265⟩
                    show WP 251 94 [(0, .ref 117), (1, iV other)] [] _ _ _ _
                    refine wp_al1 jF_251_94 rfl rfl (pc2 := 95) ?_
                    have b269 := GI.b g208 117 45 kd117 (lo := (-2147483648)) (hi := 2147483647) rfl
                    refine wp_gi jF_251_95 kd117 (by decide) rfl ((FR.at f268 117 45 rfl).trans ((FR.at f254 117 45 rfl).trans ((FRw.nj f238 (by decide)).trans ((FRw.nj f233 (by decide)).trans (FR.at f225 117 45 rfl))))) rfl (pc2 := 98) ?_
                    refine wp_ri jF_251_98 rfl ?_
                    have q270 : (kp τ266) = (kp σ) := ((kp_fr f268 (fun _ => rfl) (fun _ => rfl)).trans ((kp_fr f254 (fun _ => rfl) (fun _ => rfl)).trans ((kp_wr f238 (by decide)).trans ((kp_wr f233 (by decide)).trans ((kp_fr f225 (fun _ => rfl) (fun _ => rfl)).trans ((kp_fr f209 (fun _ => rfl) (fun _ => rfl)).trans ((kp_fr f49 (fun _ => rfl) (fun _ => rfl)).trans ((kp_wr f32 (by decide)).trans ((kp_wr f28 (by decide)).trans ((kp_wr f24 (by decide)).trans ((kp_wr f20 (by decide)).trans ((kp_wr f16 (by decide)).trans ((kp_wr f12 (by decide)).trans ((kp_wr f8 (by decide)).trans (kp_wr f4 (by decide))))))))))))))))
                    exact ⟨(τ207.1 117 45), rfl, ⟨by omega, by omega⟩, g267, (FR.up (FR.up (FR.w (FR.w (FR.up (FR.up (FR.up (FR.w (FR.w (FR.w (FR.w (FR.w (FR.w (FR.w (FR.w FR.rf f4 rfl) f8 rfl) f12 rfl) f16 rfl) f20 rfl) f24 rfl) f28 rfl) f32 rfl) f49 sb_Wsgn_Wlaw) f209 sb_Wlw_Wlaw) f225 sb_Wat_Wlaw) f233 rfl) f238 rfl) f254 sb_Wtr_Wlaw) f268 sb_Wla_Wlaw), (by omega), (by omega), (by omega)⟩
                · intro h256; exfalso; omega
              · intro h255
                refine wp_al1 jF_251_53 rfl rfl (pc2 := 54) ?_
                refine wp_cV (as := []) (rest := []) (a := 117) (mx := 6) (ci := 12) jF_251_54 kd117 (by decide) rfl rfl rfl rfl rfl (by omega) (by omega) rfl (pc2 := 57) ?_
                have b271 := GI.b hg 143 4 kd143 (lo := 0) (hi := 16) rfl
                have q272 : (τ252.1 143 4) = (σ.1 143 4) := ((FR.at f254 143 4 rfl).trans ((FRw.na f238 (by decide)).trans ((FRw.na f233 (by decide)).trans ((FR.at f225 143 4 rfl).trans ((FR.at f209 143 4 rfl).trans ((FR.at f49 143 4 rfl).trans ((FRw.na f32 (by decide)).trans ((FRw.na f28 (by decide)).trans ((FRw.na f24 (by decide)).trans ((FRw.na f20 (by decide)).trans ((FRw.na f16 (by decide)).trans ((FRw.na f12 (by decide)).trans ((FRw.na f8 (by decide)).trans (FRw.na f4 (by decide)))))))))))))))
                refine wp_use (m_258 τ252 g253  (by omega) (by omega) _ _ (by omega) (by omega)) ?_
                rintro _ _ ⟨z275, rfl, h276, rfl⟩
                show WP 251 57 [(0, .ref 117), (1, iV other)] [iV z275] _ _ _ _
                refine wp_z_ne jF_251_57 (m_rgb h276 rfl) rfl (pc2 := 60) ?_ ?_
                · intro h277
                  refine wp_il1 jF_251_73 rfl rfl (pc2 := 74) ?_
                  refine wp_z_ne jF_251_74 ⟨by omega, by omega⟩ rfl (pc2 := 77) ?_ ?_
                  · intro h278; exfalso; omega
                  · intro h278
                    refine wp_al1 jF_251_77 rfl rfl (pc2 := 78) ?_
                    refine wp_cV (as := []) (rest := []) (a := 117) (mx := 2) (ci := 12) jF_251_78 kd117 (by decide) rfl rfl rfl rfl rfl (by omega) (by omega) rfl (pc2 := 81) ?_
                    have q279 : (l0 τ252) = (l0 σ) := ((l0_fr f254 rfl (fun _ => rfl)).trans ((l0_wr f238 (by decide)).trans ((l0_wr f233 (by decide)).trans ((l0_fr f225 rfl (fun _ => rfl)).trans ((l0_fr f209 rfl (fun _ => rfl)).trans ((l0_fr f49 rfl (fun _ => rfl)).trans ((l0_wr f32 (by decide)).trans ((l0_wr f28 (by decide)).trans ((l0_wr f24 (by decide)).trans ((l0_wr f20 (by decide)).trans ((l0_wr f16 (by decide)).trans ((l0_wr f12 (by decide)).trans ((l0_wr f8 (by decide)).trans (l0_wr f4 (by decide)))))))))))))))
                    have q280 : (kp τ252) = (kp σ) := ((kp_fr f254 (fun _ => rfl) (fun _ => rfl)).trans ((kp_wr f238 (by decide)).trans ((kp_wr f233 (by decide)).trans ((kp_fr f225 (fun _ => rfl) (fun _ => rfl)).trans ((kp_fr f209 (fun _ => rfl) (fun _ => rfl)).trans ((kp_fr f49 (fun _ => rfl) (fun _ => rfl)).trans ((kp_wr f32 (by decide)).trans ((kp_wr f28 (by decide)).trans ((kp_wr f24 (by decide)).trans ((kp_wr f20 (by decide)).trans ((kp_wr f16 (by decide)).trans ((kp_wr f12 (by decide)).trans ((kp_wr f8 (by decide)).trans (kp_wr f4 (by decide)))))))))))))))
                    refine wp_use (m_262 τ252 g253  (by omega) (by omega) _ _ (by omega) (by omega)) ?_
                    rintro _ τ282 ⟨rfl, g283, f284, p281⟩
                    show WP 251 81 [(0, .ref 117), (1, iV other)] [] _ _ _ _
                    refine wp_al1 jF_251_81 rfl rfl (pc2 := 82) ?_
                    refine wp_il1 jF_251_82 rfl rfl (pc2 := 83) ?_
                    refine wp_z_eq jF_251_83 ⟨by omega, by omega⟩ rfl (pc2 := 86) ?_ ?_
                    · intro h285
                      refine wp_ic jF_251_90 rfl (pc2 := 91) ?_
                      refine wp_cV (as := [iV 0]) (rest := []) (a := 117) (mx := 3) (ci := 12) jF_251_91 kd117 (by decide) rfl rfl rfl rfl rfl (by omega) (by omega) rfl (pc2 := 94) ?_
                      have q286 : (tl τ282) = (tl τ252) := (tl_fr f284 rfl (fun _ => rfl))
                      have q287 : (l1 τ282) = (l1 σ) := ((l1_fr f284 rfl (fun _ => rfl)).trans ((l1_fr f254 rfl (fun _ => rfl)).trans ((l1_wr f238 (by decide)).trans ((l1_wr f233 (by decide)).trans ((l1_fr f225 rfl (fun _ => rfl)).trans ((l1_fr f209 rfl (fun _ => rfl)).trans ((l1_fr f49 rfl (fun _ => rfl)).trans ((l1_wr f32 (by decide)).trans ((l1_wr f28 (by decide)).trans ((l1_wr f24 (by decide)).trans ((l1_wr f20 (by decide)).trans ((l1_wr f16 (by decide)).trans ((l1_wr f12 (by decide)).trans ((l1_wr f8 (by decide)).trans (l1_wr f4 (by decide))))))))))))))))
                      have b288 := GI.b g253 117 49 kd117 (lo := 0) (hi := 61) rfl
                      have q289 : (τ282.1 117 49) = (τ252.1 117 49) := (FR.at f284 117 49 rfl)
                      have b290 := GI.b hg 148 1 kd148 (lo := 0) (hi := 60) rfl
                      have q291 : (τ282.1 148 1) = (σ.1 148 1) := ((FR.at f284 148 1 rfl).trans ((FR.at f254 148 1 rfl).trans ((FRw.na f238 (by decide)).trans ((FRw.na f233 (by decide)).trans ((FR.at f225 148 1 rfl).trans ((FR.at f209 148 1 rfl).trans ((FR.at f49 148 1 rfl).trans ((FRw.na f32 (by decide)).trans ((FRw.na f28 (by decide)).trans ((FRw.na f24 (by decide)).trans ((FRw.na f20 (by decide)).trans ((FRw.na f16 (by decide)).trans ((FRw.na f12 (by decide)).trans ((FRw.na f8 (by decide)).trans (FRw.na f4 (by decide))))))))))))))))
                      refine wp_use (m_263_0 τ282 g283  (by omega) _ _ (by omega) (by omega)) ?_
                      rintro _ τ296 ⟨rfl, g297, f298, p292, p293, p294, p295⟩
                      show WP 251 94 [(0, .ref 117), (1, iV other)] [] _ _ _ _
                      refine wp_al1 jF_251_94 rfl rfl (pc2 := 95) ?_
                      have b299 := GI.b g208 117 45 kd117 (lo := (-2147483648)) (hi := 2147483647) rfl
                      refine wp_gi jF_251_95 kd117 (by decide) rfl ((FR.at f298 117 45 rfl).trans ((FR.at f284 117 45 rfl).trans ((FR.at f254 117 45 rfl).trans ((FRw.nj f238 (by decide)).trans ((FRw.nj f233 (by decide)).trans (FR.at f225 117 45 rfl)))))) rfl (pc2 := 98) ?_
                      refine wp_ri jF_251_98 rfl ?_
                      have q300 : (kp τ296) = (kp τ282) := (kp_fr f298 (fun _ => rfl) (fun _ => rfl))
                      exact ⟨(τ207.1 117 45), rfl, ⟨by omega, by omega⟩, g297, (FR.up (FR.up (FR.up (FR.w (FR.w (FR.up (FR.up (FR.up (FR.w (FR.w (FR.w (FR.w (FR.w (FR.w (FR.w (FR.w FR.rf f4 rfl) f8 rfl) f12 rfl) f16 rfl) f20 rfl) f24 rfl) f28 rfl) f32 rfl) f49 sb_Wsgn_Wlaw) f209 sb_Wlw_Wlaw) f225 sb_Wat_Wlaw) f233 rfl) f238 rfl) f254 sb_Wtr_Wlaw) f284 sb_Wkeep_Wlaw) f298 sb_Wla_Wlaw), (by omega), (by omega), (by omega)⟩
                    · intro h285; exfalso; omega
                · intro h277
                  refine wp_al1 jF_251_60 rfl rfl (pc2 := 61) ?_
                  refine wp_gr (b := 119) jF_251_61 kd117 (by decide) (c := 219) rfl rfl rfl (pc2 := 64) ?_
                  refine wp_ic jF_251_64 rfl (pc2 := 65) ?_
                  refine wp_du2 jF_251_65 rfl rfl (pc2 := 66) ?_
                  have b301 := GI.b hg 119 1 kd119 (lo := (-2147483648)) (hi := 2147483647) rfl
                  refine wp_iald (n := 6) (e := (σ.1 119 1)) jF_251_66 kd119 (by decide) rfl rfl (by omega) (by omega) ((FR.at f254 119 1 rfl).trans ((FRw.na f238 (by decide)).trans ((FRw.na f233 (by decide)).trans ((FR.at f225 119 1 rfl).trans ((FR.at f209 119 1 rfl).trans ((FR.at f49 119 1 rfl).trans ((FRw.na f32 (by decide)).trans ((FRw.na f28 (by decide)).trans ((FRw.na f24 (by decide)).trans ((FRw.na f20 (by decide)).trans ((FRw.na f16 (by decide)).trans ((FRw.na f12 (by decide)).trans ((FRw.na f8 (by decide)).trans (FRw.na f4 (by decide))))))))))))))) rfl (pc2 := 67) ?_
                  refine wp_ic jF_251_67 rfl (pc2 := 68) ?_
                  refine wp_any2 (pc2 := 69) jF_251_68 rfl rfl ?_
                  intro z302 h303
                  refine wp_iast (n := 6) jF_251_69 kd119 (by decide) rfl rfl (by omega) (by omega) rfl (pc2 := 70) g253 (lo := (-2147483648)) (hi := 2147483647) rfl (by omega) (by omega) ?_
                  intro τ304 g305 f306 e307
                  refine wp_bi jF_251_70 (by decide) rfl (pc2 := 72) ?_
                  refine wp_ri jF_251_72 rfl ?_
                  have q308 : (l0 τ304) = (l0 σ) := ((l0_wr f306 (by decide)).trans ((l0_fr f254 rfl (fun _ => rfl)).trans ((l0_wr f238 (by decide)).trans ((l0_wr f233 (by decide)).trans ((l0_fr f225 rfl (fun _ => rfl)).trans ((l0_fr f209 rfl (fun _ => rfl)).trans ((l0_fr f49 rfl (fun _ => rfl)).trans ((l0_wr f32 (by decide)).trans ((l0_wr f28 (by decide)).trans ((l0_wr f24 (by decide)).trans ((l0_wr f20 (by decide)).trans ((l0_wr f16 (by decide)).trans ((l0_wr f12 (by decide)).trans ((l0_wr f8 (by decide)).trans (l0_wr f4 (by decide))))))))))))))))
                  have q309 : (l1 τ304) = (l1 σ) := ((l1_wr f306 (by decide)).trans ((l1_fr f254 rfl (fun _ => rfl)).trans ((l1_wr f238 (by decide)).trans ((l1_wr f233 (by decide)).trans ((l1_fr f225 rfl (fun _ => rfl)).trans ((l1_fr f209 rfl (fun _ => rfl)).trans ((l1_fr f49 rfl (fun _ => rfl)).trans ((l1_wr f32 (by decide)).trans ((l1_wr f28 (by decide)).trans ((l1_wr f24 (by decide)).trans ((l1_wr f20 (by decide)).trans ((l1_wr f16 (by decide)).trans ((l1_wr f12 (by decide)).trans ((l1_wr f8 (by decide)).trans (l1_wr f4 (by decide))))))))))))))))
                  have q310 : (kp τ304) = (kp σ) := ((kp_wr f306 (by decide)).trans ((kp_fr f254 (fun _ => rfl) (fun _ => rfl)).trans ((kp_wr f238 (by decide)).trans ((kp_wr f233 (by decide)).trans ((kp_fr f225 (fun _ => rfl) (fun _ => rfl)).trans ((kp_fr f209 (fun _ => rfl) (fun _ => rfl)).trans ((kp_fr f49 (fun _ => rfl) (fun _ => rfl)).trans ((kp_wr f32 (by decide)).trans ((kp_wr f28 (by decide)).trans ((kp_wr f24 (by decide)).trans ((kp_wr f20 (by decide)).trans ((kp_wr f16 (by decide)).trans ((kp_wr f12 (by decide)).trans ((kp_wr f8 (by decide)).trans (kp_wr f4 (by decide))))))))))))))))
                  exact ⟨(-2), rfl, ⟨by omega, by omega⟩, g305, (FR.w (FR.up (FR.w (FR.w (FR.up (FR.up (FR.up (FR.w (FR.w (FR.w (FR.w (FR.w (FR.w (FR.w (FR.w FR.rf f4 rfl) f8 rfl) f12 rfl) f16 rfl) f20 rfl) f24 rfl) f28 rfl) f32 rfl) f49 sb_Wsgn_Wlaw) f209 sb_Wlw_Wlaw) f225 sb_Wat_Wlaw) f233 rfl) f238 rfl) f254 sb_Wtr_Wlaw) f306 rfl), (by omega), (by omega), (by omega)⟩
            · intro h246; exfalso; omega
        · intro h240
          refine wp_al1 jF_240_23 rfl rfl (pc2 := 24) ?_
          refine wp_gr (b := 119) jF_240_24 kd117 (by decide) (c := 219) rfl rfl rfl (pc2 := 27) ?_
          refine wp_ic jF_240_27 rfl (pc2 := 28) ?_
          refine wp_du2 jF_240_28 rfl rfl (pc2 := 29) ?_
          have b311 := GI.b hg 119 1 kd119 (lo := (-2147483648)) (hi := 2147483647) rfl
          refine wp_iald (n := 6) (e := (σ.1 119 1)) jF_240_29 kd119 (by decide) rfl rfl (by omega) (by omega) ((FRw.na f238 (by decide)).trans ((FRw.na f233 (by decide)).trans ((FR.at f225 119 1 rfl).trans ((FR.at f209 119 1 rfl).trans ((FR.at f49 119 1 rfl).trans ((FRw.na f32 (by decide)).trans ((FRw.na f28 (by decide)).trans ((FRw.na f24 (by decide)).trans ((FRw.na f20 (by decide)).trans ((FRw.na f16 (by decide)).trans ((FRw.na f12 (by decide)).trans ((FRw.na f8 (by decide)).trans (FRw.na f4 (by decide)))))))))))))) rfl (pc2 := 30) ?_
          refine wp_ic jF_240_30 rfl (pc2 := 31) ?_
          refine wp_any2 (pc2 := 32) jF_240_31 rfl rfl ?_
          intro z312 h313
          refine wp_iast (n := 6) jF_240_32 kd119 (by decide) rfl rfl (by omega) (by omega) rfl (pc2 := 33) g237 (lo := (-2147483648)) (hi := 2147483647) rfl (by omega) (by omega) ?_
          intro τ314 g315 f316 e317
          refine wp_al1 jF_240_33 rfl rfl (pc2 := 34) ?_
          refine wp_gi jF_240_34 kd117 (by decide) rfl ((FRw.na f316 (by decide)).trans ((FRw.nj f238 (by decide)).trans ((FRw.nj f233 (by decide)).trans (FR.at f225 117 5 rfl)))) rfl (pc2 := 37) ?_
          refine wp_z_ne jF_240_37 (m_rgb b215 rfl) rfl (pc2 := 40) ?_ ?_
          · intro h318
            refine wp_ic jF_240_44 rfl (pc2 := 45) ?_
            refine wp_ri jF_240_45 rfl ?_
            show WP 251 40 [(0, .ref 117), (1, iV other)] [iV 0] _ _ _ _
            refine wp_z_ne jF_251_40 (m_rgl rfl) rfl (pc2 := 43) ?_ ?_
            · intro h319; exfalso; omega
            · intro h319
              refine wp_ic jF_251_43 rfl (pc2 := 44) ?_
              refine wp_ri jF_251_44 rfl ?_
              have q320 : (l0 τ314) = (l0 σ) := ((l0_wr f316 (by decide)).trans ((l0_wr f238 (by decide)).trans ((l0_wr f233 (by decide)).trans ((l0_fr f225 rfl (fun _ => rfl)).trans ((l0_fr f209 rfl (fun _ => rfl)).trans ((l0_fr f49 rfl (fun _ => rfl)).trans ((l0_wr f32 (by decide)).trans ((l0_wr f28 (by decide)).trans ((l0_wr f24 (by decide)).trans ((l0_wr f20 (by decide)).trans ((l0_wr f16 (by decide)).trans ((l0_wr f12 (by decide)).trans ((l0_wr f8 (by decide)).trans (l0_wr f4 (by decide)))))))))))))))
              have q321 : (l1 τ314) = (l1 σ) := ((l1_wr f316 (by decide)).trans ((l1_wr f238 (by decide)).trans ((l1_wr f233 (by decide)).trans ((l1_fr f225 rfl (fun _ => rfl)).trans ((l1_fr f209 rfl (fun _ => rfl)).trans ((l1_fr f49 rfl (fun _ => rfl)).trans ((l1_wr f32 (by decide)).trans ((l1_wr f28 (by decide)).trans ((l1_wr f24 (by decide)).trans ((l1_wr f20 (by decide)).trans ((l1_wr f16 (by decide)).trans ((l1_wr f12 (by decide)).trans ((l1_wr f8 (by decide)).trans (l1_wr f4 (by decide)))))))))))))))
              have q322 : (kp τ314) = (kp σ) := ((kp_wr f316 (by decide)).trans ((kp_wr f238 (by decide)).trans ((kp_wr f233 (by decide)).trans ((kp_fr f225 (fun _ => rfl) (fun _ => rfl)).trans ((kp_fr f209 (fun _ => rfl) (fun _ => rfl)).trans ((kp_fr f49 (fun _ => rfl) (fun _ => rfl)).trans ((kp_wr f32 (by decide)).trans ((kp_wr f28 (by decide)).trans ((kp_wr f24 (by decide)).trans ((kp_wr f20 (by decide)).trans ((kp_wr f16 (by decide)).trans ((kp_wr f12 (by decide)).trans ((kp_wr f8 (by decide)).trans (kp_wr f4 (by decide)))))))))))))))
              exact ⟨(-1), rfl, ⟨by omega, by omega⟩, g315, (FR.w (FR.w (FR.w (FR.up (FR.up (FR.up (FR.w (FR.w (FR.w (FR.w (FR.w (FR.w (FR.w (FR.w FR.rf f4 rfl) f8 rfl) f12 rfl) f16 rfl) f20 rfl) f24 rfl) f28 rfl) f32 rfl) f49 sb_Wsgn_Wlaw) f209 sb_Wlw_Wlaw) f225 sb_Wat_Wlaw) f233 rfl) f238 rfl) f316 rfl), (by omega), (by omega), (by omega)⟩
          · intro h318
            refine wp_ic jF_240_40 rfl (pc2 := 41) ?_
            refine wp_go jF_240_41 ?_
            refine wp_ri jF_240_45 rfl ?_
            show WP 251 40 [(0, .ref 117), (1, iV other)] [iV 1] _ _ _ _
            refine wp_z_ne jF_251_40 (m_rgl rfl) rfl (pc2 := 43) ?_ ?_
            · intro h323
              refine wp_al1 jF_251_45 rfl rfl (pc2 := 46) ?_
              refine wp_cV (as := []) (rest := []) (a := 117) (mx := 2) (ci := 12) jF_251_46 kd117 (by decide) rfl rfl rfl rfl rfl (by omega) (by omega) rfl (pc2 := 49) ?_
              have q324 : (rl τ314) = (rl τ207) := ((rl_wr f316 (by decide)).trans ((rl_wr f238 (by decide)).trans ((rl_wr f233 (by decide)).trans (rl_fr f225 rfl (fun _ => rfl)))))
              have b325 := GI.b g208 117 44 kd117 (lo := 0) (hi := 60) rfl
              have q326 : (τ314.1 117 44) = (τ207.1 117 44) := ((FRw.na f316 (by decide)).trans ((FRw.nj f238 (by decide)).trans ((FRw.nj f233 (by decide)).trans (FR.at f225 117 44 rfl))))
              refine wp_use (m_257 τ314 g315   _ _ (by omega) (by omega)) ?_
              rintro _ τ329 ⟨rfl, g330, f331, p327, p328⟩
              show WP 251 49 [(0, .ref 117), (1, iV other)] [] _ _ _ _
              refine wp_il1 jF_251_49 rfl rfl (pc2 := 50) ?_
              refine wp_z_ne jF_251_50 ⟨by omega, by omega⟩ rfl (pc2 := 53) ?_ ?_
              · intro h332
                refine wp_il1 jF_251_73 rfl rfl (pc2 := 74) ?_
                refine wp_z_ne jF_251_74 ⟨by omega, by omega⟩ rfl (pc2 := 77) ?_ ?_
                · intro h333
                  refine wp_al1 jF_251_81 rfl rfl (pc2 := 82) ?_
                  refine wp_il1 jF_251_82 rfl rfl (pc2 := 83) ?_
                  refine wp_z_eq jF_251_83 ⟨by omega, by omega⟩ rfl (pc2 := 86) ?_ ?_
                  · intro h334; exfalso; omega
                  · intro h334
                    refine wp_ic jF_251_86 rfl (pc2 := 87) ?_
                    refine wp_go jF_251_87 ?_
                    refine wp_cV (as := [iV 1]) (rest := []) (a := 117) (mx := 3) (ci := 12) jF_251_91 kd117 (by decide) rfl rfl rfl rfl rfl (by omega) (by omega) rfl (pc2 := 94) ?_
                    have q335 : (l0 τ329) = (l0 σ) := ((l0_fr f331 rfl (fun _ => rfl)).trans ((l0_wr f316 (by decide)).trans ((l0_wr f238 (by decide)).trans ((l0_wr f233 (by decide)).trans ((l0_fr f225 rfl (fun _ => rfl)).trans ((l0_fr f209 rfl (fun _ => rfl)).trans ((l0_fr f49 rfl (fun _ => rfl)).trans ((l0_wr f32 (by decide)).trans ((l0_wr f28 (by decide)).trans ((l0_wr f24 (by decide)).trans ((l0_wr f20 (by decide)).trans ((l0_wr f16 (by decide)).trans ((l0_wr f12 (by decide)).trans ((l0_wr f8 (by decide)).trans (l0_wr f4 (by decide))))))))))))))))
                    have b336 := GI.b g330 117 49 kd117 (lo := 0) (hi := 61) rfl
                    have b337 := GI.b hg 148 0 kd148 (lo := 0) (hi := 60) rfl
                    have q338 : (τ329.1 148 0) = (σ.1 148 0) := ((FR.at f331 148 0 rfl).trans ((FRw.na f316 (by decide)).trans ((FRw.na f238 (by decide)).trans ((FRw.na f233 (by decide)).trans ((FR.at f225 148 0 rfl).trans ((FR.at f209 148 0 rfl).trans ((FR.at f49 148 0 rfl).trans ((FRw.na f32 (by decide)).trans ((FRw.na f28 (by decide)).trans ((FRw.na f24 (by decide)).trans ((FRw.na f20 (by decide)).trans ((FRw.na f16 (by decide)).trans ((FRw.na f12 (by decide)).trans ((FRw.na f8 (by decide)).trans (FRw.na f4 (by decide))))))))))))))))
                    refine wp_use (m_263_1 τ329 g330  (by omega) _ _ (by omega) (by omega)) ?_
                    rintro _ τ343 ⟨rfl, g344, f345, p339, p340, p341, p342⟩
                    show WP 251 94 [(0, .ref 117), (1, iV other)] [] _ _ _ _
                    refine wp_al1 jF_251_94 rfl rfl (pc2 := 95) ?_
                    have b346 := GI.b g208 117 45 kd117 (lo := (-2147483648)) (hi := 2147483647) rfl
                    refine wp_gi jF_251_95 kd117 (by decide) rfl ((FR.at f345 117 45 rfl).trans ((FR.at f331 117 45 rfl).trans ((FRw.na f316 (by decide)).trans ((FRw.nj f238 (by decide)).trans ((FRw.nj f233 (by decide)).trans (FR.at f225 117 45 rfl)))))) rfl (pc2 := 98) ?_
                    refine wp_ri jF_251_98 rfl ?_
                    have q347 : (kp τ343) = (kp σ) := ((kp_fr f345 (fun _ => rfl) (fun _ => rfl)).trans ((kp_fr f331 (fun _ => rfl) (fun _ => rfl)).trans ((kp_wr f316 (by decide)).trans ((kp_wr f238 (by decide)).trans ((kp_wr f233 (by decide)).trans ((kp_fr f225 (fun _ => rfl) (fun _ => rfl)).trans ((kp_fr f209 (fun _ => rfl) (fun _ => rfl)).trans ((kp_fr f49 (fun _ => rfl) (fun _ => rfl)).trans ((kp_wr f32 (by decide)).trans ((kp_wr f28 (by decide)).trans ((kp_wr f24 (by decide)).trans ((kp_wr f20 (by decide)).trans ((kp_wr f16 (by decide)).trans ((kp_wr f12 (by decide)).trans ((kp_wr f8 (by decide)).trans (kp_wr f4 (by decide)))))))))))))))))
                    exact ⟨(τ207.1 117 45), rfl, ⟨by omega, by omega⟩, g344, (FR.up (FR.up (FR.w (FR.w (FR.w (FR.up (FR.up (FR.up (FR.w (FR.w (FR.w (FR.w (FR.w (FR.w (FR.w (FR.w FR.rf f4 rfl) f8 rfl) f12 rfl) f16 rfl) f20 rfl) f24 rfl) f28 rfl) f32 rfl) f49 sb_Wsgn_Wlaw) f209 sb_Wlw_Wlaw) f225 sb_Wat_Wlaw) f233 rfl) f238 rfl) f316 rfl) f331 sb_Wtr_Wlaw) f345 sb_Wla_Wlaw), (by omega), (by omega), (by omega)⟩
                · intro h333; exfalso; omega
              · intro h332
                refine wp_al1 jF_251_53 rfl rfl (pc2 := 54) ?_
                refine wp_cV (as := []) (rest := []) (a := 117) (mx := 6) (ci := 12) jF_251_54 kd117 (by decide) rfl rfl rfl rfl rfl (by omega) (by omega) rfl (pc2 := 57) ?_
                have b348 := GI.b hg 143 4 kd143 (lo := 0) (hi := 16) rfl
                have q349 : (τ329.1 143 4) = (σ.1 143 4) := ((FR.at f331 143 4 rfl).trans ((FRw.na f316 (by decide)).trans ((FRw.na f238 (by decide)).trans ((FRw.na f233 (by decide)).trans ((FR.at f225 143 4 rfl).trans ((FR.at f209 143 4 rfl).trans ((FR.at f49 143 4 rfl).trans ((FRw.na f32 (by decide)).trans ((FRw.na f28 (by decide)).trans ((FRw.na f24 (by decide)).trans ((FRw.na f20 (by decide)).trans ((FRw.na f16 (by decide)).trans ((FRw.na f12 (by decide)).trans ((FRw.na f8 (by decide)).trans (FRw.na f4 (by decide))))))))))))))))
                refine wp_use (m_258 τ329 g330  (by omega) (by omega) _ _ (by omega) (by omega)) ?_
                rintro _ _ ⟨z352, rfl, h353, rfl⟩
                show WP 251 57 [(0, .ref 117), (1, iV other)] [iV z352] _ _ _ _
                refine wp_z_ne jF_251_57 (m_rgb h353 rfl) rfl (pc2 := 60) ?_ ?_
                · intro h354
                  refine wp_il1 jF_251_73 rfl rfl (pc2 := 74) ?_
                  refine wp_z_ne jF_251_74 ⟨by omega, by omega⟩ rfl (pc2 := 77) ?_ ?_
                  · intro h355; exfalso; omega
                  · intro h355
                    refine wp_al1 jF_251_77 rfl rfl (pc2 := 78) ?_
                    refine wp_cV (as := []) (rest := []) (a := 117) (mx := 2) (ci := 12) jF_251_78 kd117 (by decide) rfl rfl rfl rfl rfl (by omega) (by omega) rfl (pc2 := 81) ?_
                    have q356 : (l0 τ329) = (l0 σ) := ((l0_fr f331 rfl (fun _ => rfl)).trans ((l0_wr f316 (by decide)).trans ((l0_wr f238 (by decide)).trans ((l0_wr f233 (by decide)).trans ((l0_fr f225 rfl (fun _ => rfl)).trans ((l0_fr f209 rfl (fun _ => rfl)).trans ((l0_fr f49 rfl (fun _ => rfl)).trans ((l0_wr f32 (by decide)).trans ((l0_wr f28 (by decide)).trans ((l0_wr f24 (by decide)).trans ((l0_wr f20 (by decide)).trans ((l0_wr f16 (by decide)).trans ((l0_wr f12 (by decide)).trans ((l0_wr f8 (by decide)).trans (l0_wr f4 (by decide))))))))))))))))
                    have q357 : (kp τ329) = (kp σ) := ((kp_fr f331 (fun _ => rfl) (fun _ => rfl)).trans ((kp_wr f316 (by decide)).trans ((kp_wr f238 (by decide)).trans ((kp_wr f233 (by decide)).trans ((kp_fr f225 (fun _ => rfl) (fun _ => rfl)).trans ((kp_fr f209 (fun _ => rfl) (fun _ => rfl)).trans ((kp_fr f49 (fun _ => rfl) (fun _ => rfl)).trans ((kp_wr f32 (by decide)).trans ((kp_wr f28 (by decide)).trans ((kp_wr f24 (by decide)).trans ((kp_wr f20 (by decide)).trans ((kp_wr f16 (by decide)).trans ((kp_wr f12 (by decide)).trans ((kp_wr f8 (by decide)).trans (kp_wr f4 (by decide))))))))))))))))
                    refine wp_use (m_262 τ329 g330  (by omega) (by omega) _ _ (by omega) (by omega)) ?_
                    rintro _ τ359 ⟨rfl, g360, f361, p358⟩
                    show WP 251 81 [(0, .ref 117), (1, iV other)] [] _ _ _ _
                    refine wp_al1 jF_251_81 rfl rfl (pc2 := 82) ?_
                    refine wp_il1 jF_251_82 rfl rfl (pc2 := 83) ?_
                    refine wp_z_eq jF_251_83 ⟨by omega, by omega⟩ rfl (pc2 := 86) ?_ ?_
                    · intro h362
                      refine wp_ic jF_251_90 rfl (pc2 := 91) ?_
                      refine wp_cV (as := [iV 0]) (rest := []) (a := 117) (mx := 3) (ci := 12) jF_251_91 kd117 (by decide) rfl rfl rfl rfl rfl (by omega) (by omega) rfl (pc2 := 94) ?_
                      have q363 : (tl τ359) = (tl τ329) := (tl_fr f361 rfl (fun _ => rfl))
                      have q364 : (l1 τ359) = (l1 σ) := ((l1_fr f361 rfl (fun _ => rfl)).trans ((l1_fr f331 rfl (fun _ => rfl)).trans ((l1_wr f316 (by decide)).trans ((l1_wr f238 (by decide)).trans ((l1_wr f233 (by decide)).trans ((l1_fr f225 rfl (fun _ => rfl)).trans ((l1_fr f209 rfl (fun _ => rfl)).trans ((l1_fr f49 rfl (fun _ => rfl)).trans ((l1_wr f32 (by decide)).trans ((l1_wr f28 (by decide)).trans ((l1_wr f24 (by decide)).trans ((l1_wr f20 (by decide)).trans ((l1_wr f16 (by decide)).trans ((l1_wr f12 (by decide)).trans ((l1_wr f8 (by decide)).trans (l1_wr f4 (by decide)))))))))))))))))
                      have b365 := GI.b g330 117 49 kd117 (lo := 0) (hi := 61) rfl
                      have q366 : (τ359.1 117 49) = (τ329.1 117 49) := (FR.at f361 117 49 rfl)
                      have b367 := GI.b hg 148 1 kd148 (lo := 0) (hi := 60) rfl
                      have q368 : (τ359.1 148 1) = (σ.1 148 1) := ((FR.at f361 148 1 rfl).trans ((FR.at f331 148 1 rfl).trans ((FRw.na f316 (by decide)).trans ((FRw.na f238 (by decide)).trans ((FRw.na f233 (by decide)).trans ((FR.at f225 148 1 rfl).trans ((FR.at f209 148 1 rfl).trans ((FR.at f49 148 1 rfl).trans ((FRw.na f32 (by decide)).trans ((FRw.na f28 (by decide)).trans ((FRw.na f24 (by decide)).trans ((FRw.na f20 (by decide)).trans ((FRw.na f16 (by decide)).trans ((FRw.na f12 (by decide)).trans ((FRw.na f8 (by decide)).trans (FRw.na f4 (by decide)))))))))))))))))
                      refine wp_use (m_263_0 τ359 g360  (by omega) _ _ (by omega) (by omega)) ?_
                      rintro _ τ373 ⟨rfl, g374, f375, p369, p370, p371, p372⟩
                      show WP 251 94 [(0, .ref 117), (1, iV other)] [] _ _ _ _
                      refine wp_al1 jF_251_94 rfl rfl (pc2 := 95) ?_
                      have b376 := GI.b g208 117 45 kd117 (lo := (-2147483648)) (hi := 2147483647) rfl
                      refine wp_gi jF_251_95 kd117 (by decide) rfl ((FR.at f375 117 45 rfl).trans ((FR.at f361 117 45 rfl).trans ((FR.at f331 117 45 rfl).trans ((FRw.na f316 (by decide)).trans ((FRw.nj f238 (by decide)).trans ((FRw.nj f233 (by decide)).trans (FR.at f225 117 45 rfl))))))) rfl (pc2 := 98) ?_
                      refine wp_ri jF_251_98 rfl ?_
                      have q377 : (kp τ373) = (kp τ359) := (kp_fr f375 (fun _ => rfl) (fun _ => rfl))
                      exact ⟨(τ207.1 117 45), rfl, ⟨by omega, by omega⟩, g374, (FR.up (FR.up (FR.up (FR.w (FR.w (FR.w (FR.up (FR.up (FR.up (FR.w (FR.w (FR.w (FR.w (FR.w (FR.w (FR.w (FR.w FR.rf f4 rfl) f8 rfl) f12 rfl) f16 rfl) f20 rfl) f24 rfl) f28 rfl) f32 rfl) f49 sb_Wsgn_Wlaw) f209 sb_Wlw_Wlaw) f225 sb_Wat_Wlaw) f233 rfl) f238 rfl) f316 rfl) f331 sb_Wtr_Wlaw) f361 sb_Wkeep_Wlaw) f375 sb_Wla_Wlaw), (by omega), (by omega), (by omega)⟩
                    · intro h362; exfalso; omega
                · intro h354
                  refine wp_al1 jF_251_60 rfl rfl (pc2 := 61) ?_
                  refine wp_gr (b := 119) jF_251_61 kd117 (by decide) (c := 219) rfl rfl rfl (pc2 := 64) ?_
                  refine wp_ic jF_251_64 rfl (pc2 := 65) ?_
                  refine wp_du2 jF_251_65 rfl rfl (pc2 := 66) ?_
                  refine wp_iald (n := 6) (e := z312) jF_251_66 kd119 (by decide) rfl rfl (by omega) (by omega) ((FR.at f331 119 1 rfl).trans e317) rfl (pc2 := 67) ?_
                  refine wp_ic jF_251_67 rfl (pc2 := 68) ?_
                  refine wp_any2 (pc2 := 69) jF_251_68 rfl rfl ?_
                  intro z378 h379
                  refine wp_iast (n := 6) jF_251_69 kd119 (by decide) rfl rfl (by omega) (by omega) rfl (pc2 := 70) g330 (lo := (-2147483648)) (hi := 2147483647) rfl (by omega) (by omega) ?_
                  intro τ380 g381 f382 e383
                  refine wp_bi jF_251_70 (by decide) rfl (pc2 := 72) ?_
                  refine wp_ri jF_251_72 rfl ?_
                  have q384 : (l0 τ380) = (l0 σ) := ((l0_wr f382 (by decide)).trans ((l0_fr f331 rfl (fun _ => rfl)).trans ((l0_wr f316 (by decide)).trans ((l0_wr f238 (by decide)).trans ((l0_wr f233 (by decide)).trans ((l0_fr f225 rfl (fun _ => rfl)).trans ((l0_fr f209 rfl (fun _ => rfl)).trans ((l0_fr f49 rfl (fun _ => rfl)).trans ((l0_wr f32 (by decide)).trans ((l0_wr f28 (by decide)).trans ((l0_wr f24 (by decide)).trans ((l0_wr f20 (by decide)).trans ((l0_wr f16 (by decide)).trans ((l0_wr f12 (by decide)).trans ((l0_wr f8 (by decide)).trans (l0_wr f4 (by decide)))))))))))))))))
                  have q385 : (l1 τ380) = (l1 σ) := ((l1_wr f382 (by decide)).trans ((l1_fr f331 rfl (fun _ => rfl)).trans ((l1_wr f316 (by decide)).trans ((l1_wr f238 (by decide)).trans ((l1_wr f233 (by decide)).trans ((l1_fr f225 rfl (fun _ => rfl)).trans ((l1_fr f209 rfl (fun _ => rfl)).trans ((l1_fr f49 rfl (fun _ => rfl)).trans ((l1_wr f32 (by decide)).trans ((l1_wr f28 (by decide)).trans ((l1_wr f24 (by decide)).trans ((l1_wr f20 (by decide)).trans ((l1_wr f16 (by decide)).trans ((l1_wr f12 (by decide)).trans ((l1_wr f8 (by decide)).trans (l1_wr f4 (by decide)))))))))))))))))
                  have q386 : (kp τ380) = (kp σ) := ((kp_wr f382 (by decide)).trans ((kp_fr f331 (fun _ => rfl) (fun _ => rfl)).trans ((kp_wr f316 (by decide)).trans ((kp_wr f238 (by decide)).trans ((kp_wr f233 (by decide)).trans ((kp_fr f225 (fun _ => rfl) (fun _ => rfl)).trans ((kp_fr f209 (fun _ => rfl) (fun _ => rfl)).trans ((kp_fr f49 (fun _ => rfl) (fun _ => rfl)).trans ((kp_wr f32 (by decide)).trans ((kp_wr f28 (by decide)).trans ((kp_wr f24 (by decide)).trans ((kp_wr f20 (by decide)).trans ((kp_wr f16 (by decide)).trans ((kp_wr f12 (by decide)).trans ((kp_wr f8 (by decide)).trans (kp_wr f4 (by decide)))))))))))))))))
                  exact ⟨(-2), rfl, ⟨by omega, by omega⟩, g381, (FR.w (FR.up (FR.w (FR.w (FR.w (FR.up (FR.up (FR.up (FR.w (FR.w (FR.w (FR.w (FR.w (FR.w (FR.w (FR.w FR.rf f4 rfl) f8 rfl) f12 rfl) f16 rfl) f20 rfl) f24 rfl) f28 rfl) f32 rfl) f49 sb_Wsgn_Wlaw) f209 sb_Wlw_Wlaw) f225 sb_Wat_Wlaw) f233 rfl) f238 rfl) f316 rfl) f331 sb_Wtr_Wlaw) f382 rfl), (by omega), (by omega), (by omega)⟩
            · intro h323; exfalso; omega
      · intro h230
        replace p217 := p217 (by omega)
        replace p222 := p222 (by omega)
        refine wp_al1 jF_251_29 rfl rfl (pc2 := 30) ?_
        refine wp_cV (as := []) (rest := []) (a := 117) (mx := 3) (ci := 12) jF_251_30 kd117 (by decide) rfl rfl rfl rfl rfl (by omega) (by omega) rfl (pc2 := 33) ?_
        have b387 := GI.b g224 117 2 kd117 (lo := 0) (hi := 1601) rfl
        have q388 : (τ223.1 117 5) = (τ207.1 117 5) := (FR.at f225 117 5 rfl)
        refine wp_use (m_253 τ223 g224   _ _ (by omega) (by omega)) ?_
        rintro _ τ394 ⟨rfl, g395, f396, p389, p390, p391, p392, p393⟩
        clear p390
        show WP 251 33 [(0, .ref 117), (1, iV other)] [] _ _ _ _
        refine wp_go jF_251_33 ?_
        refine wp_al1 jF_251_14 rfl rfl (pc2 := 15) ?_
        refine wp_cV (as := []) (rest := []) (a := 117) (mx := 2) (ci := 12) jF_251_15 kd117 (by decide) rfl rfl rfl rfl rfl (by omega) (by omega) rfl (pc2 := 18) ?_
        have b397 := GI.b g395 117 2 kd117 (lo := 0) (hi := 1601) rfl
        have b398 := GI.b g395 117 44 kd117 (lo := 0) (hi := 60) rfl
        have b399 := GI.b g395 117 5 kd117 (lo := (-2147483648)) (hi := 2147483647) rfl
        refine wp_use (m_252 τ394 g395   _ _ (by omega) (by omega)) ?_
        rintro _ τ408 ⟨z411, rfl, h412, g409, f410, p400, p401, p402, p403, p404, p405, p406, p407⟩
        show WP 251 18 [(0, .ref 117), (1, iV other)] [iV z411] _ _ _ _
        refine wp_z_eq jF_251_18 (m_rgb h412 rfl) rfl (pc2 := 21) ?_ ?_
        · intro h413
          clear p402
          replace p403 := p403 (by omega)
          clear p406
          clear p407
          refine wp_al1 jF_251_36 rfl rfl (pc2 := 37) ?_
          refine wp_cV (as := []) (rest := []) (a := 117) (mx := 1) (ci := 12) jF_251_37 kd117 (by decide) rfl rfl rfl rfl rfl (by omega) (by omega) rfl (pc2 := 40) ?_
          show WP 240 0 [(0, .ref 117)] [] _ _ _ _
          refine wp_al1 jF_240_0 rfl rfl (pc2 := 1) ?_
          refine wp_al1 jF_240_1 rfl rfl (pc2 := 2) ?_
          have b414 := GI.b g409 117 5 kd117 (lo := (-2147483648)) (hi := 2147483647) rfl
          refine wp_gi jF_240_2 kd117 (by decide) rfl rfl rfl (pc2 := 5) ?_
          refine wp_pi jF_240_5 kd117 (by decide) rfl rfl rfl (pc2 := 8) g409 (lo := (-2147483648)) (hi := 2147483647) rfl (by omega) (by omega) ?_
          intro τ415 g416 f417 e418
          refine wp_al1 jF_240_8 rfl rfl (pc2 := 9) ?_
          refine wp_al1 jF_240_9 rfl rfl (pc2 := 10) ?_
          have b419 := GI.b g409 117 6 kd117 (lo := (-2147483648)) (hi := 2147483647) rfl
          refine wp_gi jF_240_10 kd117 (by decide) rfl (FRw.nj f417 (by decide)) rfl (pc2 := 13) ?_
          refine wp_pi jF_240_13 kd117 (by decide) rfl rfl rfl (pc2 := 16) g416 (lo := (-2147483648)) (hi := 2147483647) rfl (by omega) (by omega) ?_
          intro τ420 g421 f422 e423
          refine wp_al1 jF_240_16 rfl rfl (pc2 := 17) ?_
          refine wp_gi jF_240_17 kd117 (by decide) rfl ((FRw.nj f422 (by decide)).trans (FRw.nj f417 (by decide))) rfl (pc2 := 20) ?_
          refine wp_z_eq jF_240_20 (m_rgb b414 rfl) rfl (pc2 := 23) ?_ ?_
          · intro h424
            refine wp_al1 jF_240_33 rfl rfl (pc2 := 34) ?_
            refine wp_gi jF_240_34 kd117 (by decide) rfl ((FRw.nj f422 (by decide)).trans (FRw.nj f417 (by decide))) rfl (pc2 := 37) ?_
            refine wp_z_ne jF_240_37 (m_rgb b414 rfl) rfl (pc2 := 40) ?_ ?_
            · intro h425
              refine wp_ic jF_240_44 rfl (pc2 := 45) ?_
              refine wp_ri jF_240_45 rfl ?_
              show WP 251 40 [(0, .ref 117), (1, iV other)] [iV 0] _ _ _ _
              refine wp_z_ne jF_251_40 (m_rgl rfl) rfl (pc2 := 43) ?_ ?_
              · intro h426; exfalso; omega
              · intro h426
                refine wp_ic jF_251_43 rfl (pc2 := 44) ?_
                refine wp_ri jF_251_44 rfl ?_
                have q427 : (l0 τ420) = (l0 σ) := ((l0_wr f422 (by decide)).trans ((l0_wr f417 (by decide)).trans ((l0_fr f410 rfl (fun _ => rfl)).trans ((l0_fr f396 rfl (fun _ => rfl)).trans ((l0_fr f225 rfl (fun _ => rfl)).trans ((l0_fr f209 rfl (fun _ => rfl)).trans ((l0_fr f49 rfl (fun _ => rfl)).trans ((l0_wr f32 (by decide)).trans ((l0_wr f28 (by decide)).trans ((l0_wr f24 (by decide)).trans ((l0_wr f20 (by decide)).trans ((l0_wr f16 (by decide)).trans ((l0_wr f12 (by decide)).trans ((l0_wr f8 (by decide)).trans (l0_wr f4 (by decide))))))))))))))))
                have q428 : (l1 τ420) = (l1 σ) := ((l1_wr f422 (by decide)).trans ((l1_wr f417 (by decide)).trans ((l1_fr f410 rfl (fun _ => rfl)).trans ((l1_fr f396 rfl (fun _ => rfl)).trans ((l1_fr f225 rfl (fun _ => rfl)).trans ((l1_fr f209 rfl (fun _ => rfl)).trans ((l1_fr f49 rfl (fun _ => rfl)).trans ((l1_wr f32 (by decide)).trans ((l1_wr f28 (by decide)).trans ((l1_wr f24 (by decide)).trans ((l1_wr f20 (by decide)).trans ((l1_wr f16 (by decide)).trans ((l1_wr f12 (by decide)).trans ((l1_wr f8 (by decide)).trans (l1_wr f4 (by decide))))))))))))))))
                have q429 : (kp τ420) = (kp σ) := ((kp_wr f422 (by decide)).trans ((kp_wr f417 (by decide)).trans ((kp_fr f410 (fun _ => rfl) (fun _ => rfl)).trans ((kp_fr f396 (fun _ => rfl) (fun _ => rfl)).trans ((kp_fr f225 (fun _ => rfl) (fun _ => rfl)).trans ((kp_fr f209 (fun _ => rfl) (fun _ => rfl)).trans ((kp_fr f49 (fun _ => rfl) (fun _ => rfl)).trans ((kp_wr f32 (by decide)).trans ((kp_wr f28 (by decide)).trans ((kp_wr f24 (by decide)).trans ((kp_wr f20 (by decide)).trans ((kp_wr f16 (by decide)).trans ((kp_wr f12 (by decide)).trans ((kp_wr f8 (by decide)).trans (kp_wr f4 (by decide))))))))))))))))
                exact ⟨(-1), rfl, ⟨by omega, by omega⟩, g421, (FR.w (FR.w (FR.up (FR.up (FR.up (FR.up (FR.up (FR.w (FR.w (FR.w (FR.w (FR.w (FR.w (FR.w (FR.w FR.rf f4 rfl) f8 rfl) f12 rfl) f16 rfl) f20 rfl) f24 rfl) f28 rfl) f32 rfl) f49 sb_Wsgn_Wlaw) f209 sb_Wlw_Wlaw) f225 sb_Wat_Wlaw) f396 sb_Wlw_Wlaw) f410 sb_Wsgn_Wlaw) f417 rfl) f422 rfl), (by omega), (by omega), (by omega)⟩
            · intro h425
              refine wp_ic jF_240_40 rfl (pc2 := 41) ?_
              refine wp_go jF_240_41 ?_
              refine wp_ri jF_240_45 rfl ?_
              show WP 251 40 [(0, .ref 117), (1, iV other)] [iV 1] _ _ _ _
              refine wp_z_ne jF_251_40 (m_rgl rfl) rfl (pc2 := 43) ?_ ?_
              · intro h430
                refine wp_al1 jF_251_45 rfl rfl (pc2 := 46) ?_
                refine wp_cV (as := []) (rest := []) (a := 117) (mx := 2) (ci := 12) jF_251_46 kd117 (by decide) rfl rfl rfl rfl rfl (by omega) (by omega) rfl (pc2 := 49) ?_
                have q431 : (rl τ420) = (rl τ394) := ((rl_wr f422 (by decide)).trans ((rl_wr f417 (by decide)).trans (rl_fr f410 rfl (fun _ => rfl))))
                have q432 : (τ420.1 117 44) = (τ394.1 117 44) := ((FRw.nj f422 (by decide)).trans ((FRw.nj f417 (by decide)).trans (FR.at f410 117 44 rfl)))
                refine wp_use (m_257 τ420 g421   _ _ (by omega) (by omega)) ?_
                rintro _ τ435 ⟨rfl, g436, f437, p433, p434⟩
                show WP 251 49 [(0, .ref 117), (1, iV other)] [] _ _ _ _
                refine wp_il1 jF_251_49 rfl rfl (pc2 := 50) ?_
                refine wp_z_ne jF_251_50 ⟨by omega, by omega⟩ rfl (pc2 := 53) ?_ ?_
                · intro h438
                  refine wp_il1 jF_251_73 rfl rfl (pc2 := 74) ?_
                  refine wp_z_ne jF_251_74 ⟨by omega, by omega⟩ rfl (pc2 := 77) ?_ ?_
                  · intro h439
                    refine wp_al1 jF_251_81 rfl rfl (pc2 := 82) ?_
                    refine wp_il1 jF_251_82 rfl rfl (pc2 := 83) ?_
                    refine wp_z_eq jF_251_83 ⟨by omega, by omega⟩ rfl (pc2 := 86) ?_ ?_
                    · intro h440; exfalso; omega
                    · intro h440
                      refine wp_ic jF_251_86 rfl (pc2 := 87) ?_
                      refine wp_go jF_251_87 ?_
                      refine wp_cV (as := [iV 1]) (rest := []) (a := 117) (mx := 3) (ci := 12) jF_251_91 kd117 (by decide) rfl rfl rfl rfl rfl (by omega) (by omega) rfl (pc2 := 94) ?_
                      have q441 : (l0 τ435) = (l0 σ) := ((l0_fr f437 rfl (fun _ => rfl)).trans ((l0_wr f422 (by decide)).trans ((l0_wr f417 (by decide)).trans ((l0_fr f410 rfl (fun _ => rfl)).trans ((l0_fr f396 rfl (fun _ => rfl)).trans ((l0_fr f225 rfl (fun _ => rfl)).trans ((l0_fr f209 rfl (fun _ => rfl)).trans ((l0_fr f49 rfl (fun _ => rfl)).trans ((l0_wr f32 (by decide)).trans ((l0_wr f28 (by decide)).trans ((l0_wr f24 (by decide)).trans ((l0_wr f20 (by decide)).trans ((l0_wr f16 (by decide)).trans ((l0_wr f12 (by decide)).trans ((l0_wr f8 (by decide)).trans (l0_wr f4 (by decide)))))))))))))))))
                      have b442 := GI.b g436 117 49 kd117 (lo := 0) (hi := 61) rfl
                      have b443 := GI.b hg 148 0 kd148 (lo := 0) (hi := 60) rfl
                      have q444 : (τ435.1 148 0) = (σ.1 148 0) := ((FR.at f437 148 0 rfl).trans ((FRw.na f422 (by decide)).trans ((FRw.na f417 (by decide)).trans ((FR.at f410 148 0 rfl).trans ((FR.at f396 148 0 rfl).trans ((FR.at f225 148 0 rfl).trans ((FR.at f209 148 0 rfl).trans ((FR.at f49 148 0 rfl).trans ((FRw.na f32 (by decide)).trans ((FRw.na f28 (by decide)).trans ((FRw.na f24 (by decide)).trans ((FRw.na f20 (by decide)).trans ((FRw.na f16 (by decide)).trans ((FRw.na f12 (by decide)).trans ((FRw.na f8 (by decide)).trans (FRw.na f4 (by decide)))))))))))))))))
                      refine wp_use (m_263_1 τ435 g436  (by omega) _ _ (by omega) (by omega)) ?_
                      rintro _ τ449 ⟨rfl, g450, f451, p445, p446, p447, p448⟩
                      show WP 251 94 [(0, .ref 117), (1, iV other)] [] _ _ _ _
                      refine wp_al1 jF_251_94 rfl rfl (pc2 := 95) ?_
                      have b452 := GI.b g395 117 45 kd117 (lo := (-2147483648)) (hi := 2147483647) rfl
                      refine wp_gi jF_251_95 kd117 (by decide) rfl ((FR.at f451 117 45 rfl).trans ((FR.at f437 117 45 rfl).trans ((FRw.nj f422 (by decide)).trans ((FRw.nj f417 (by decide)).trans (FR.at f410 117 45 rfl))))) rfl (pc2 := 98) ?_
                      refine wp_ri jF_251_98 rfl ?_
                      have q453 : (kp τ449) = (kp σ) := ((kp_fr f451 (fun _ => rfl) (fun _ => rfl)).trans ((kp_fr f437 (fun _ => rfl) (fun _ => rfl)).trans ((kp_wr f422 (by decide)).trans ((kp_wr f417 (by decide)).trans ((kp_fr f410 (fun _ => rfl) (fun _ => rfl)).trans ((kp_fr f396 (fun _ => rfl) (fun _ => rfl)).trans ((kp_fr f225 (fun _ => rfl) (fun _ => rfl)).trans ((kp_fr f209 (fun _ => rfl) (fun _ => rfl)).trans ((kp_fr f49 (fun _ => rfl) (fun _ => rfl)).trans ((kp_wr f32 (by decide)).trans ((kp_wr f28 (by decide)).trans ((kp_wr f24 (by decide)).trans ((kp_wr f20 (by decide)).trans ((kp_wr f16 (by decide)).trans ((kp_wr f12 (by decide)).trans ((kp_wr f8 (by decide)).trans (kp_wr f4 (by decide))))))))))))))))))
                      exact ⟨(τ394.1 117 45), rfl, ⟨by omega, by omega⟩, g450, (FR.up (FR.up (FR.w (FR.w (FR.up (FR.up (FR.up (FR.up (FR.up (FR.w (FR.w (FR.w (FR.w (FR.w (FR.w (FR.w (FR.w FR.rf f4 rfl) f8 rfl) f12 rfl) f16 rfl) f20 rfl) f24 rfl) f28 rfl) f32 rfl) f49 sb_Wsgn_Wlaw) f209 sb_Wlw_Wlaw) f225 sb_Wat_Wlaw) f396 sb_Wlw_Wlaw) f410 sb_Wsgn_Wlaw) f417 rfl) f422 rfl) f437 sb_Wtr_Wlaw) f451 sb_Wla_Wlaw), (by omega), (by omega), (by omega)⟩
                  · intro h439; exfalso; omega
                · intro h438
                  refine wp_al1 jF_251_53 rfl rfl (pc2 := 54) ?_
                  refine wp_cV (as := []) (rest := []) (a := 117) (mx := 6) (ci := 12) jF_251_54 kd117 (by decide) rfl rfl rfl rfl rfl (by omega) (by omega) rfl (pc2 := 57) ?_
                  have b454 := GI.b hg 143 4 kd143 (lo := 0) (hi := 16) rfl
                  have q455 : (τ435.1 143 4) = (σ.1 143 4) := ((FR.at f437 143 4 rfl).trans ((FRw.na f422 (by decide)).trans ((FRw.na f417 (by decide)).trans ((FR.at f410 143 4 rfl).trans ((FR.at f396 143 4 rfl).trans ((FR.at f225 143 4 rfl).trans ((FR.at f209 143 4 rfl).trans ((FR.at f49 143 4 rfl).trans ((FRw.na f32 (by decide)).trans ((FRw.na f28 (by decide)).trans ((FRw.na f24 (by decide)).trans ((FRw.na f20 (by decide)).trans ((FRw.na f16 (by decide)).trans ((FRw.na f12 (by decide)).trans ((FRw.na f8 (by decide)).trans (FRw.na f4 (by decide)))))))))))))))))
                  refine wp_use (m_258 τ435 g436  (by omega) (by omega) _ _ (by omega) (by omega)) ?_
                  rintro _ _ ⟨z458, rfl, h459, rfl⟩
                  show WP 251 57 [(0, .ref 117), (1, iV other)] [iV z458] _ _ _ _
                  refine wp_z_ne jF_251_57 (m_rgb h459 rfl) rfl (pc2 := 60) ?_ ?_
                  · intro h460
                    refine wp_il1 jF_251_73 rfl rfl (pc2 := 74) ?_
                    refine wp_z_ne jF_251_74 ⟨by omega, by omega⟩ rfl (pc2 := 77) ?_ ?_
                    · intro h461; exfalso; omega
                    · intro h461
                      refine wp_al1 jF_251_77 rfl rfl (pc2 := 78) ?_
                      refine wp_cV (as := []) (rest := []) (a := 117) (mx := 2) (ci := 12) jF_251_78 kd117 (by decide) rfl rfl rfl rfl rfl (by omega) (by omega) rfl (pc2 := 81) ?_
                      have q462 : (l0 τ435) = (l0 σ) := ((l0_fr f437 rfl (fun _ => rfl)).trans ((l0_wr f422 (by decide)).trans ((l0_wr f417 (by decide)).trans ((l0_fr f410 rfl (fun _ => rfl)).trans ((l0_fr f396 rfl (fun _ => rfl)).trans ((l0_fr f225 rfl (fun _ => rfl)).trans ((l0_fr f209 rfl (fun _ => rfl)).trans ((l0_fr f49 rfl (fun _ => rfl)).trans ((l0_wr f32 (by decide)).trans ((l0_wr f28 (by decide)).trans ((l0_wr f24 (by decide)).trans ((l0_wr f20 (by decide)).trans ((l0_wr f16 (by decide)).trans ((l0_wr f12 (by decide)).trans ((l0_wr f8 (by decide)).trans (l0_wr f4 (by decide)))))))))))))))))
                      have q463 : (kp τ435) = (kp σ) := ((kp_fr f437 (fun _ => rfl) (fun _ => rfl)).trans ((kp_wr f422 (by decide)).trans ((kp_wr f417 (by decide)).trans ((kp_fr f410 (fun _ => rfl) (fun _ => rfl)).trans ((kp_fr f396 (fun _ => rfl) (fun _ => rfl)).trans ((kp_fr f225 (fun _ => rfl) (fun _ => rfl)).trans ((kp_fr f209 (fun _ => rfl) (fun _ => rfl)).trans ((kp_fr f49 (fun _ => rfl) (fun _ => rfl)).trans ((kp_wr f32 (by decide)).trans ((kp_wr f28 (by decide)).trans ((kp_wr f24 (by decide)).trans ((kp_wr f20 (by decide)).trans ((kp_wr f16 (by decide)).trans ((kp_wr f12 (by decide)).trans ((kp_wr f8 (by decide)).trans (kp_wr f4 (by decide)))))))))))))))))
                      refine wp_use (m_262 τ435 g436  (by omega) (by omega) _ _ (by omega) (by omega)) ?_
                      rintro _ τ465 ⟨rfl, g466, f467, p464⟩
                      show WP 251 81 [(0, .ref 117), (1, iV other)] [] _ _ _ _
                      refine wp_al1 jF_251_81 rfl rfl (pc2 := 82) ?_
                      refine wp_il1 jF_251_82 rfl rfl (pc2 := 83) ?_
                      refine wp_z_eq jF_251_83 ⟨by omega, by omega⟩ rfl (pc2 := 86) ?_ ?_
                      · intro h468
                        refine wp_ic jF_251_90 rfl (pc2 := 91) ?_
                        refine wp_cV (as := [iV 0]) (rest := []) (a := 117) (mx := 3) (ci := 12) jF_251_91 kd117 (by decide) rfl rfl rfl rfl rfl (by omega) (by omega) rfl (pc2 := 94) ?_
                        have q469 : (tl τ465) = (tl τ435) := (tl_fr f467 rfl (fun _ => rfl))
                        have q470 : (l1 τ465) = (l1 σ) := ((l1_fr f467 rfl (fun _ => rfl)).trans ((l1_fr f437 rfl (fun _ => rfl)).trans ((l1_wr f422 (by decide)).trans ((l1_wr f417 (by decide)).trans ((l1_fr f410 rfl (fun _ => rfl)).trans ((l1_fr f396 rfl (fun _ => rfl)).trans ((l1_fr f225 rfl (fun _ => rfl)).trans ((l1_fr f209 rfl (fun _ => rfl)).trans ((l1_fr f49 rfl (fun _ => rfl)).trans ((l1_wr f32 (by decide)).trans ((l1_wr f28 (by decide)).trans ((l1_wr f24 (by decide)).trans ((l1_wr f20 (by decide)).trans ((l1_wr f16 (by decide)).trans ((l1_wr f12 (by decide)).trans ((l1_wr f8 (by decide)).trans (l1_wr f4 (by decide))))))))))))))))))
                        have b471 := GI.b g436 117 49 kd117 (lo := 0) (hi := 61) rfl
                        have q472 : (τ465.1 117 49) = (τ435.1 117 49) := (FR.at f467 117 49 rfl)
                        have b473 := GI.b hg 148 1 kd148 (lo := 0) (hi := 60) rfl
                        have q474 : (τ465.1 148 1) = (σ.1 148 1) := ((FR.at f467 148 1 rfl).trans ((FR.at f437 148 1 rfl).trans ((FRw.na f422 (by decide)).trans ((FRw.na f417 (by decide)).trans ((FR.at f410 148 1 rfl).trans ((FR.at f396 148 1 rfl).trans ((FR.at f225 148 1 rfl).trans ((FR.at f209 148 1 rfl).trans ((FR.at f49 148 1 rfl).trans ((FRw.na f32 (by decide)).trans ((FRw.na f28 (by decide)).trans ((FRw.na f24 (by decide)).trans ((FRw.na f20 (by decide)).trans ((FRw.na f16 (by decide)).trans ((FRw.na f12 (by decide)).trans ((FRw.na f8 (by decide)).trans (FRw.na f4 (by decide))))))))))))))))))
                        refine wp_use (m_263_0 τ465 g466  (by omega) _ _ (by omega) (by omega)) ?_
                        rintro _ τ479 ⟨rfl, g480, f481, p475, p476, p477, p478⟩
                        show WP 251 94 [(0, .ref 117), (1, iV other)] [] _ _ _ _
                        refine wp_al1 jF_251_94 rfl rfl (pc2 := 95) ?_
                        have b482 := GI.b g395 117 45 kd117 (lo := (-2147483648)) (hi := 2147483647) rfl
                        refine wp_gi jF_251_95 kd117 (by decide) rfl ((FR.at f481 117 45 rfl).trans ((FR.at f467 117 45 rfl).trans ((FR.at f437 117 45 rfl).trans ((FRw.nj f422 (by decide)).trans ((FRw.nj f417 (by decide)).trans (FR.at f410 117 45 rfl)))))) rfl (pc2 := 98) ?_
                        refine wp_ri jF_251_98 rfl ?_
                        have q483 : (kp τ479) = (kp τ465) := (kp_fr f481 (fun _ => rfl) (fun _ => rfl))
                        exact ⟨(τ394.1 117 45), rfl, ⟨by omega, by omega⟩, g480, (FR.up (FR.up (FR.up (FR.w (FR.w (FR.up (FR.up (FR.up (FR.up (FR.up (FR.w (FR.w (FR.w (FR.w (FR.w (FR.w (FR.w (FR.w FR.rf f4 rfl) f8 rfl) f12 rfl) f16 rfl) f20 rfl) f24 rfl) f28 rfl) f32 rfl) f49 sb_Wsgn_Wlaw) f209 sb_Wlw_Wlaw) f225 sb_Wat_Wlaw) f396 sb_Wlw_Wlaw) f410 sb_Wsgn_Wlaw) f417 rfl) f422 rfl) f437 sb_Wtr_Wlaw) f467 sb_Wkeep_Wlaw) f481 sb_Wla_Wlaw), (by omega), (by omega), (by omega)⟩
                      · intro h468; exfalso; omega
                  · intro h460
                    refine wp_al1 jF_251_60 rfl rfl (pc2 := 61) ?_
                    refine wp_gr (b := 119) jF_251_61 kd117 (by decide) (c := 219) rfl rfl rfl (pc2 := 64) ?_
                    refine wp_ic jF_251_64 rfl (pc2 := 65) ?_
                    refine wp_du2 jF_251_65 rfl rfl (pc2 := 66) ?_
                    have b484 := GI.b hg 119 1 kd119 (lo := (-2147483648)) (hi := 2147483647) rfl
                    refine wp_iald (n := 6) (e := (σ.1 119 1)) jF_251_66 kd119 (by decide) rfl rfl (by omega) (by omega) ((FR.at f437 119 1 rfl).trans ((FRw.na f422 (by decide)).trans ((FRw.na f417 (by decide)).trans ((FR.at f410 119 1 rfl).trans ((FR.at f396 119 1 rfl).trans ((FR.at f225 119 1 rfl).trans ((FR.at f209 119 1 rfl).trans ((FR.at f49 119 1 rfl).trans ((FRw.na f32 (by decide)).trans ((FRw.na f28 (by decide)).trans ((FRw.na f24 (by decide)).trans ((FRw.na f20 (by decide)).trans ((FRw.na f16 (by decide)).trans ((FRw.na f12 (by decide)).trans ((FRw.na f8 (by decide)).trans (FRw.na f4 (by decide))))))))))))))))) rfl (pc2 := 67) ?_
                    refine wp_ic jF_251_67 rfl (pc2 := 68) ?_
                    refine wp_any2 (pc2 := 69) jF_251_68 rfl rfl ?_
                    intro z485 h486
                    refine wp_iast (n := 6) jF_251_69 kd119 (by decide) rfl rfl (by omega) (by omega) rfl (pc2 := 70) g436 (lo := (-2147483648)) (hi := 2147483647) rfl (by omega) (by omega) ?_
                    intro τ487 g488 f489 e490
                    refine wp_bi jF_251_70 (by decide) rfl (pc2 := 72) ?_
                    refine wp_ri jF_251_72 rfl ?_
                    have q491 : (l0 τ487) = (l0 σ) := ((l0_wr f489 (by decide)).trans ((l0_fr f437 rfl (fun _ => rfl)).trans ((l0_wr f422 (by decide)).trans ((l0_wr f417 (by decide)).trans ((l0_fr f410 rfl (fun _ => rfl)).trans ((l0_fr f396 rfl (fun _ => rfl)).trans ((l0_fr f225 rfl (fun _ => rfl)).trans ((l0_fr f209 rfl (fun _ => rfl)).trans ((l0_fr f49 rfl (fun _ => rfl)).trans ((l0_wr f32 (by decide)).trans ((l0_wr f28 (by decide)).trans ((l0_wr f24 (by decide)).trans ((l0_wr f20 (by decide)).trans ((l0_wr f16 (by decide)).trans ((l0_wr f12 (by decide)).trans ((l0_wr f8 (by decide)).trans (l0_wr f4 (by decide))))))))))))))))))
                    have q492 : (l1 τ487) = (l1 σ) := ((l1_wr f489 (by decide)).trans ((l1_fr f437 rfl (fun _ => rfl)).trans ((l1_wr f422 (by decide)).trans ((l1_wr f417 (by decide)).trans ((l1_fr f410 rfl (fun _ => rfl)).trans ((l1_fr f396 rfl (fun _ => rfl)).trans ((l1_fr f225 rfl (fun _ => rfl)).trans ((l1_fr f209 rfl (fun _ => rfl)).trans ((l1_fr f49 rfl (fun _ => rfl)).trans ((l1_wr f32 (by decide)).trans ((l1_wr f28 (by decide)).trans ((l1_wr f24 (by decide)).trans ((l1_wr f20 (by decide)).trans ((l1_wr f16 (by decide)).trans ((l1_wr f12 (by decide)).trans ((l1_wr f8 (by decide)).trans (l1_wr f4 (by decide))))))))))))))))))
                    have q493 : (kp τ487) = (kp σ) := ((kp_wr f489 (by decide)).trans ((kp_fr f437 (fun _ => rfl) (fun _ => rfl)).trans ((kp_wr f422 (by decide)).trans ((kp_wr f417 (by decide)).trans ((kp_fr f410 (fun _ => rfl) (fun _ => rfl)).trans ((kp_fr f396 (fun _ => rfl) (fun _ => rfl)).trans ((kp_fr f225 (fun _ => rfl) (fun _ => rfl)).trans ((kp_fr f209 (fun _ => rfl) (fun _ => rfl)).trans ((kp_fr f49 (fun _ => rfl) (fun _ => rfl)).trans ((kp_wr f32 (by decide)).trans ((kp_wr f28 (by decide)).trans ((kp_wr f24 (by decide)).trans ((kp_wr f20 (by decide)).trans ((kp_wr f16 (by decide)).trans ((kp_wr f12 (by decide)).trans ((kp_wr f8 (by decide)).trans (kp_wr f4 (by decide))))))))))))))))))
                    exact ⟨(-2), rfl, ⟨by omega, by omega⟩, g488, (FR.w (FR.up (FR.w (FR.w (FR.up (FR.up (FR.up (FR.up (FR.up (FR.w (FR.w (FR.w (FR.w (FR.w (FR.w (FR.w (FR.w FR.rf f4 rfl) f8 rfl) f12 rfl) f16 rfl) f20 rfl) f24 rfl) f28 rfl) f32 rfl) f49 sb_Wsgn_Wlaw) f209 sb_Wlw_Wlaw) f225 sb_Wat_Wlaw) f396 sb_Wlw_Wlaw) f410 sb_Wsgn_Wlaw) f417 rfl) f422 rfl) f437 sb_Wtr_Wlaw) f489 rfl), (by omega), (by omega), (by omega)⟩
              · intro h430; exfalso; omega
          · intro h424
            refine wp_al1 jF_240_23 rfl rfl (pc2 := 24) ?_
            refine wp_gr (b := 119) jF_240_24 kd117 (by decide) (c := 219) rfl rfl rfl (pc2 := 27) ?_
            refine wp_ic jF_240_27 rfl (pc2 := 28) ?_
            refine wp_du2 jF_240_28 rfl rfl (pc2 := 29) ?_
            have b494 := GI.b hg 119 1 kd119 (lo := (-2147483648)) (hi := 2147483647) rfl
            refine wp_iald (n := 6) (e := (σ.1 119 1)) jF_240_29 kd119 (by decide) rfl rfl (by omega) (by omega) ((FRw.na f422 (by decide)).trans ((FRw.na f417 (by decide)).trans ((FR.at f410 119 1 rfl).trans ((FR.at f396 119 1 rfl).trans ((FR.at f225 119 1 rfl).trans ((FR.at f209 119 1 rfl).trans ((FR.at f49 119 1 rfl).trans ((FRw.na f32 (by decide)).trans ((FRw.na f28 (by decide)).trans ((FRw.na f24 (by decide)).trans ((FRw.na f20 (by decide)).trans ((FRw.na f16 (by decide)).trans ((FRw.na f12 (by decide)).trans ((FRw.na f8 (by decide)).trans (FRw.na f4 (by decide)))))))))))))))) rfl (pc2 := 30) ?_
            refine wp_ic jF_240_30 rfl (pc2 := 31) ?_
            refine wp_any2 (pc2 := 32) jF_240_31 rfl rfl ?_
            intro z495 h496
            refine wp_iast (n := 6) jF_240_32 kd119 (by decide) rfl rfl (by omega) (by omega) rfl (pc2 := 33) g421 (lo := (-2147483648)) (hi := 2147483647) rfl (by omega) (by omega) ?_
            intro τ497 g498 f499 e500
            refine wp_al1 jF_240_33 rfl rfl (pc2 := 34) ?_
            refine wp_gi jF_240_34 kd117 (by decide) rfl ((FRw.na f499 (by decide)).trans ((FRw.nj f422 (by decide)).trans (FRw.nj f417 (by decide)))) rfl (pc2 := 37) ?_
            refine wp_z_ne jF_240_37 (m_rgb b414 rfl) rfl (pc2 := 40) ?_ ?_
            · intro h501
              refine wp_ic jF_240_44 rfl (pc2 := 45) ?_
              refine wp_ri jF_240_45 rfl ?_
              show WP 251 40 [(0, .ref 117), (1, iV other)] [iV 0] _ _ _ _
              refine wp_z_ne jF_251_40 (m_rgl rfl) rfl (pc2 := 43) ?_ ?_
              · intro h502; exfalso; omega
              · intro h502
                refine wp_ic jF_251_43 rfl (pc2 := 44) ?_
                refine wp_ri jF_251_44 rfl ?_
                have q503 : (l0 τ497) = (l0 σ) := ((l0_wr f499 (by decide)).trans ((l0_wr f422 (by decide)).trans ((l0_wr f417 (by decide)).trans ((l0_fr f410 rfl (fun _ => rfl)).trans ((l0_fr f396 rfl (fun _ => rfl)).trans ((l0_fr f225 rfl (fun _ => rfl)).trans ((l0_fr f209 rfl (fun _ => rfl)).trans ((l0_fr f49 rfl (fun _ => rfl)).trans ((l0_wr f32 (by decide)).trans ((l0_wr f28 (by decide)).trans ((l0_wr f24 (by decide)).trans ((l0_wr f20 (by decide)).trans ((l0_wr f16 (by decide)).trans ((l0_wr f12 (by decide)).trans ((l0_wr f8 (by decide)).trans (l0_wr f4 (by decide)))))))))))))))))
                have q504 : (l1 τ497) = (l1 σ) := ((l1_wr f499 (by decide)).trans ((l1_wr f422 (by decide)).trans ((l1_wr f417 (by decide)).trans ((l1_fr f410 rfl (fun _ => rfl)).trans ((l1_fr f396 rfl (fun _ => rfl)).trans ((l1_fr f225 rfl (fun _ => rfl)).trans ((l1_fr f209 rfl (fun _ => rfl)).trans ((l1_fr f49 rfl (fun _ => rfl)).trans ((l1_wr f32 (by decide)).trans ((l1_wr f28 (by decide)).trans ((l1_wr f24 (by decide)).trans ((l1_wr f20 (by decide)).trans ((l1_wr f16 (by decide)).trans ((l1_wr f12 (by decide)).trans ((l1_wr f8 (by decide)).trans (l1_wr f4 (by decide)))))))))))))))))
                have q505 : (kp τ497) = (kp σ) := ((kp_wr f499 (by decide)).trans ((kp_wr f422 (by decide)).trans ((kp_wr f417 (by decide)).trans ((kp_fr f410 (fun _ => rfl) (fun _ => rfl)).trans ((kp_fr f396 (fun _ => rfl) (fun _ => rfl)).trans ((kp_fr f225 (fun _ => rfl) (fun _ => rfl)).trans ((kp_fr f209 (fun _ => rfl) (fun _ => rfl)).trans ((kp_fr f49 (fun _ => rfl) (fun _ => rfl)).trans ((kp_wr f32 (by decide)).trans ((kp_wr f28 (by decide)).trans ((kp_wr f24 (by decide)).trans ((kp_wr f20 (by decide)).trans ((kp_wr f16 (by decide)).trans ((kp_wr f12 (by decide)).trans ((kp_wr f8 (by decide)).trans (kp_wr f4 (by decide)))))))))))))))))
                exact ⟨(-1), rfl, ⟨by omega, by omega⟩, g498, (FR.w (FR.w (FR.w (FR.up (FR.up (FR.up (FR.up (FR.up (FR.w (FR.w (FR.w (FR.w (FR.w (FR.w (FR.w (FR.w FR.rf f4 rfl) f8 rfl) f12 rfl) f16 rfl) f20 rfl) f24 rfl) f28 rfl) f32 rfl) f49 sb_Wsgn_Wlaw) f209 sb_Wlw_Wlaw) f225 sb_Wat_Wlaw) f396 sb_Wlw_Wlaw) f410 sb_Wsgn_Wlaw) f417 rfl) f422 rfl) f499 rfl), (by omega), (by omega), (by omega)⟩
            · intro h501
              refine wp_ic jF_240_40 rfl (pc2 := 41) ?_
              refine wp_go jF_240_41 ?_
              refine wp_ri jF_240_45 rfl ?_
              show WP 251 40 [(0, .ref 117), (1, iV other)] [iV 1] _ _ _ _
              refine wp_z_ne jF_251_40 (m_rgl rfl) rfl (pc2 := 43) ?_ ?_
              · intro h506
                refine wp_al1 jF_251_45 rfl rfl (pc2 := 46) ?_
                refine wp_cV (as := []) (rest := []) (a := 117) (mx := 2) (ci := 12) jF_251_46 kd117 (by decide) rfl rfl rfl rfl rfl (by omega) (by omega) rfl (pc2 := 49) ?_
                have q507 : (rl τ497) = (rl τ394) := ((rl_wr f499 (by decide)).trans ((rl_wr f422 (by decide)).trans ((rl_wr f417 (by decide)).trans (rl_fr f410 rfl (fun _ => rfl)))))
                have q508 : (τ497.1 117 44) = (τ394.1 117 44) := ((FRw.na f499 (by decide)).trans ((FRw.nj f422 (by decide)).trans ((FRw.nj f417 (by decide)).trans (FR.at f410 117 44 rfl))))
                refine wp_use (m_257 τ497 g498   _ _ (by omega) (by omega)) ?_
                rintro _ τ511 ⟨rfl, g512, f513, p509, p510⟩
                show WP 251 49 [(0, .ref 117), (1, iV other)] [] _ _ _ _
                refine wp_il1 jF_251_49 rfl rfl (pc2 := 50) ?_
                refine wp_z_ne jF_251_50 ⟨by omega, by omega⟩ rfl (pc2 := 53) ?_ ?_
                · intro h514
                  refine wp_il1 jF_251_73 rfl rfl (pc2 := 74) ?_
                  refine wp_z_ne jF_251_74 ⟨by omega, by omega⟩ rfl (pc2 := 77) ?_ ?_
                  · intro h515
                    refine wp_al1 jF_251_81 rfl rfl (pc2 := 82) ?_
                    refine wp_il1 jF_251_82 rfl rfl (pc2 := 83) ?_
                    refine wp_z_eq jF_251_83 ⟨by omega, by omega⟩ rfl (pc2 := 86) ?_ ?_
                    · intro h516; exfalso; omega
                    · intro h516
                      refine wp_ic jF_251_86 rfl (pc2 := 87) ?_
                      refine wp_go jF_251_87 ?_
                      refine wp_cV (as := [iV 1]) (rest := []) (a := 117) (mx := 3) (ci := 12) jF_251_91 kd117 (by decide) rfl rfl rfl rfl rfl (by omega) (by omega) rfl (pc2 := 94) ?_
                      have q517 : (l0 τ511) = (l0 σ) := ((l0_fr f513 rfl (fun _ => rfl)).trans ((l0_wr f499 (by decide)).trans ((l0_wr f422 (by decide)).trans ((l0_wr f417 (by decide)).trans ((l0_fr f410 rfl (fun _ => rfl)).trans ((l0_fr f396 rfl (fun _ => rfl)).trans ((l0_fr f225 rfl (fun _ => rfl)).trans ((l0_fr f209 rfl (fun _ => rfl)).trans ((l0_fr f49 rfl (fun _ => rfl)).trans ((l0_wr f32 (by decide)).trans ((l0_wr f28 (by decide)).trans ((l0_wr f24 (by decide)).trans ((l0_wr f20 (by decide)).trans ((l0_wr f16 (by decide)).trans ((l0_wr f12 (by decide)).trans ((l0_wr f8 (by decide)).trans (l0_wr f4 (by decide))))))))))))))))))
                      have b518 := GI.b g512 117 49 kd117 (lo := 0) (hi := 61) rfl
                      have b519 := GI.b hg 148 0 kd148 (lo := 0) (hi := 60) rfl
                      have q520 : (τ511.1 148 0) = (σ.1 148 0) := ((FR.at f513 148 0 rfl).trans ((FRw.na f499 (by decide)).trans ((FRw.na f422 (by decide)).trans ((FRw.na f417 (by decide)).trans ((FR.at f410 148 0 rfl).trans ((FR.at f396 148 0 rfl).trans ((FR.at f225 148 0 rfl).trans ((FR.at f209 148 0 rfl).trans ((FR.at f49 148 0 rfl).trans ((FRw.na f32 (by decide)).trans ((FRw.na f28 (by decide)).trans ((FRw.na f24 (by decide)).trans ((FRw.na f20 (by decide)).trans ((FRw.na f16 (by decide)).trans ((FRw.na f12 (by decide)).trans ((FRw.na f8 (by decide)).trans (FRw.na f4 (by decide))))))))))))))))))
                      refine wp_use (m_263_1 τ511 g512  (by omega) _ _ (by omega) (by omega)) ?_
                      rintro _ τ525 ⟨rfl, g526, f527, p521, p522, p523, p524⟩
                      show WP 251 94 [(0, .ref 117), (1, iV other)] [] _ _ _ _
                      refine wp_al1 jF_251_94 rfl rfl (pc2 := 95) ?_
                      have b528 := GI.b g395 117 45 kd117 (lo := (-2147483648)) (hi := 2147483647) rfl
                      refine wp_gi jF_251_95 kd117 (by decide) rfl ((FR.at f527 117 45 rfl).trans ((FR.at f513 117 45 rfl).trans ((FRw.na f499 (by decide)).trans ((FRw.nj f422 (by decide)).trans ((FRw.nj f417 (by decide)).trans (FR.at f410 117 45 rfl)))))) rfl (pc2 := 98) ?_
                      refine wp_ri jF_251_98 rfl ?_
                      have q529 : (kp τ525) = (kp σ) := ((kp_fr f527 (fun _ => rfl) (fun _ => rfl)).trans ((kp_fr f513 (fun _ => rfl) (fun _ => rfl)).trans ((kp_wr f499 (by decide)).trans ((kp_wr f422 (by decide)).trans ((kp_wr f417 (by decide)).trans ((kp_fr f410 (fun _ => rfl) (fun _ => rfl)).trans ((kp_fr f396 (fun _ => rfl) (fun _ => rfl)).trans ((kp_fr f225 (fun _ => rfl) (fun _ => rfl)).trans ((kp_fr f209 (fun _ => rfl) (fun _ => rfl)).trans ((kp_fr f49 (fun _ => rfl) (fun _ => rfl)).trans ((kp_wr f32 (by decide)).trans ((kp_wr f28 (by decide)).trans ((kp_wr f24 (by decide)).trans ((kp_wr f20 (by decide)).trans ((kp_wr f16 (by decide)).trans ((kp_wr f12 (by decide)).trans ((kp_wr f8 (by decide)).trans (kp_wr f4 (by decide)))))))))))))))))))
                      exact ⟨(τ394.1 117 45), rfl, ⟨by omega, by omega⟩, g526, (FR.up (FR.up (FR.w (FR.w (FR.w (FR.up (FR.up (FR.up (FR.up (FR.up (FR.w (FR.w (FR.w (FR.w (FR.w (FR.w (FR.w (FR.w FR.rf f4 rfl) f8 rfl) f12 rfl) f16 rfl) f20 rfl) f24 rfl) f28 rfl) f32 rfl) f49 sb_Wsgn_Wlaw) f209 sb_Wlw_Wlaw) f225 sb_Wat_Wlaw) f396 sb_Wlw_Wlaw) f410 sb_Wsgn_Wlaw) f417 rfl) f422 rfl) f499 rfl) f513 sb_Wtr_Wlaw) f527 sb_Wla_Wlaw), (by omega), (by omega), (by omega)⟩
                  · intro h515; exfalso; omega
                · intro h514
                  refine wp_al1 jF_251_53 rfl rfl (pc2 := 54) ?_
                  refine wp_cV (as := []) (rest := []) (a := 117) (mx := 6) (ci := 12) jF_251_54 kd117 (by decide) rfl rfl rfl rfl rfl (by omega) (by omega) rfl (pc2 := 57) ?_
                  have b530 := GI.b hg 143 4 kd143 (lo := 0) (hi := 16) rfl
                  have q531 : (τ511.1 143 4) = (σ.1 143 4) := ((FR.at f513 143 4 rfl).trans ((FRw.na f499 (by decide)).trans ((FRw.na f422 (by decide)).trans ((FRw.na f417 (by decide)).trans ((FR.at f410 143 4 rfl).trans ((FR.at f396 143 4 rfl).trans ((FR.at f225 143 4 rfl).trans ((FR.at f209 143 4 rfl).trans ((FR.at f49 143 4 rfl).trans ((FRw.na f32 (by decide)).trans ((FRw.na f28 (by decide)).trans ((FRw.na f24 (by decide)).trans ((FRw.na f20 (by decide)).trans ((FRw.na f16 (by decide)).trans ((FRw.na f12 (by decide)).trans ((FRw.na f8 (by decide)).trans (FRw.na f4 (by decide))))))))))))))))))
                  refine wp_use (m_258 τ511 g512  (by omega) (by omega) _ _ (by omega) (by omega)) ?_
                  rintro _ _ ⟨z534, rfl, h535, rfl⟩
                  show WP 251 57 [(0, .ref 117), (1, iV other)] [iV z534] _ _ _ _
                  refine wp_z_ne jF_251_57 (m_rgb h535 rfl) rfl (pc2 := 60) ?_ ?_
                  · intro h536
                    refine wp_il1 jF_251_73 rfl rfl (pc2 := 74) ?_
                    refine wp_z_ne jF_251_74 ⟨by omega, by omega⟩ rfl (pc2 := 77) ?_ ?_
                    · intro h537; exfalso; omega
                    · intro h537
                      refine wp_al1 jF_251_77 rfl rfl (pc2 := 78) ?_
                      refine wp_cV (as := []) (rest := []) (a := 117) (mx := 2) (ci := 12) jF_251_78 kd117 (by decide) rfl rfl rfl rfl rfl (by omega) (by omega) rfl (pc2 := 81) ?_
                      have q538 : (l0 τ511) = (l0 σ) := ((l0_fr f513 rfl (fun _ => rfl)).trans ((l0_wr f499 (by decide)).trans ((l0_wr f422 (by decide)).trans ((l0_wr f417 (by decide)).trans ((l0_fr f410 rfl (fun _ => rfl)).trans ((l0_fr f396 rfl (fun _ => rfl)).trans ((l0_fr f225 rfl (fun _ => rfl)).trans ((l0_fr f209 rfl (fun _ => rfl)).trans ((l0_fr f49 rfl (fun _ => rfl)).trans ((l0_wr f32 (by decide)).trans ((l0_wr f28 (by decide)).trans ((l0_wr f24 (by decide)).trans ((l0_wr f20 (by decide)).trans ((l0_wr f16 (by decide)).trans ((l0_wr f12 (by decide)).trans ((l0_wr f8 (by decide)).trans (l0_wr f4 (by decide))))))))))))))))))
                      have q539 : (kp τ511) = (kp σ) := ((kp_fr f513 (fun _ => rfl) (fun _ => rfl)).trans ((kp_wr f499 (by decide)).trans ((kp_wr f422 (by decide)).trans ((kp_wr f417 (by decide)).trans ((kp_fr f410 (fun _ => rfl) (fun _ => rfl)).trans ((kp_fr f396 (fun _ => rfl) (fun _ => rfl)).trans ((kp_fr f225 (fun _ => rfl) (fun _ => rfl)).trans ((kp_fr f209 (fun _ => rfl) (fun _ => rfl)).trans ((kp_fr f49 (fun _ => rfl) (fun _ => rfl)).trans ((kp_wr f32 (by decide)).trans ((kp_wr f28 (by decide)).trans ((kp_wr f24 (by decide)).trans ((kp_wr f20 (by decide)).trans ((kp_wr f16 (by decide)).trans ((kp_wr f12 (by decide)).trans ((kp_wr f8 (by decide)).trans (kp_wr f4 (by decide))))))))))))))))))
                      refine wp_use (m_262 τ511 g512  (by omega) (by omega) _ _ (by omega) (by omega)) ?_
                      rintro _ τ541 ⟨rfl, g542, f543, p540⟩
                      show WP 251 81 [(0, .ref 117), (1, iV other)] [] _ _ _ _
                      refine wp_al1 jF_251_81 rfl rfl (pc2 := 82) ?_
                      refine wp_il1 jF_251_82 rfl rfl (pc2 := 83) ?_
                      refine wp_z_eq jF_251_83 ⟨by omega, by omega⟩ rfl (pc2 := 86) ?_ ?_
                      · intro h544
                        refine wp_ic jF_251_90 rfl (pc2 := 91) ?_
                        refine wp_cV (as := [iV 0]) (rest := []) (a := 117) (mx := 3) (ci := 12) jF_251_91 kd117 (by decide) rfl rfl rfl rfl rfl (by omega) (by omega) rfl (pc2 := 94) ?_
                        have q545 : (tl τ541) = (tl τ511) := (tl_fr f543 rfl (fun _ => rfl))
                        have q546 : (l1 τ541) = (l1 σ) := ((l1_fr f543 rfl (fun _ => rfl)).trans ((l1_fr f513 rfl (fun _ => rfl)).trans ((l1_wr f499 (by decide)).trans ((l1_wr f422 (by decide)).trans ((l1_wr f417 (by decide)).trans ((l1_fr f410 rfl (fun _ => rfl)).trans ((l1_fr f396 rfl (fun _ => rfl)).trans ((l1_fr f225 rfl (fun _ => rfl)).trans ((l1_fr f209 rfl (fun _ => rfl)).trans ((l1_fr f49 rfl (fun _ => rfl)).trans ((l1_wr f32 (by decide)).trans ((l1_wr f28 (by decide)).trans ((l1_wr f24 (by decide)).trans ((l1_wr f20 (by decide)).trans ((l1_wr f16 (by decide)).trans ((l1_wr f12 (by decide)).trans ((l1_wr f8 (by decide)).trans (l1_wr f4 (by decide)))))))))))))))))))
                        have b547 := GI.b g512 117 49 kd117 (lo := 0) (hi := 61) rfl
                        have q548 : (τ541.1 117 49) = (τ511.1 117 49) := (FR.at f543 117 49 rfl)
                        have b549 := GI.b hg 148 1 kd148 (lo := 0) (hi := 60) rfl
                        have q550 : (τ541.1 148 1) = (σ.1 148 1) := ((FR.at f543 148 1 rfl).trans ((FR.at f513 148 1 rfl).trans ((FRw.na f499 (by decide)).trans ((FRw.na f422 (by decide)).trans ((FRw.na f417 (by decide)).trans ((FR.at f410 148 1 rfl).trans ((FR.at f396 148 1 rfl).trans ((FR.at f225 148 1 rfl).trans ((FR.at f209 148 1 rfl).trans ((FR.at f49 148 1 rfl).trans ((FRw.na f32 (by decide)).trans ((FRw.na f28 (by decide)).trans ((FRw.na f24 (by decide)).trans ((FRw.na f20 (by decide)).trans ((FRw.na f16 (by decide)).trans ((FRw.na f12 (by decide)).trans ((FRw.na f8 (by decide)).trans (FRw.na f4 (by decide)))))))))))))))))))
                        refine wp_use (m_263_0 τ541 g542  (by omega) _ _ (by omega) (by omega)) ?_
                        rintro _ τ555 ⟨rfl, g556, f557, p551, p552, p553, p554⟩
                        show WP 251 94 [(0, .ref 117), (1, iV other)] [] _ _ _ _
                        refine wp_al1 jF_251_94 rfl rfl (pc2 := 95) ?_
                        have b558 := GI.b g395 117 45 kd117 (lo := (-2147483648)) (hi := 2147483647) rfl
                        refine wp_gi jF_251_95 kd117 (by decide) rfl ((FR.at f557 117 45 rfl).trans ((FR.at f543 117 45 rfl).trans ((FR.at f513 117 45 rfl).trans ((FRw.na f499 (by decide)).trans ((FRw.nj f422 (by decide)).trans ((FRw.nj f417 (by decide)).trans (FR.at f410 117 45 rfl))))))) rfl (pc2 := 98) ?_
                        refine wp_ri jF_251_98 rfl ?_
                        have q559 : (kp τ555) = (kp τ541) := (kp_fr f557 (fun _ => rfl) (fun _ => rfl))
                        exact ⟨(τ394.1 117 45), rfl, ⟨by omega, by omega⟩, g556, (FR.up (FR.up (FR.up (FR.w (FR.w (FR.w (FR.up (FR.up (FR.up (FR.up (FR.up (FR.w (FR.w (FR.w (FR.w (FR.w (FR.w (FR.w (FR.w FR.rf f4 rfl) f8 rfl) f12 rfl) f16 rfl) f20 rfl) f24 rfl) f28 rfl) f32 rfl) f49 sb_Wsgn_Wlaw) f209 sb_Wlw_Wlaw) f225 sb_Wat_Wlaw) f396 sb_Wlw_Wlaw) f410 sb_Wsgn_Wlaw) f417 rfl) f422 rfl) f499 rfl) f513 sb_Wtr_Wlaw) f543 sb_Wkeep_Wlaw) f557 sb_Wla_Wlaw), (by omega), (by omega), (by omega)⟩
                      · intro h544; exfalso; omega
                  · intro h536
                    refine wp_al1 jF_251_60 rfl rfl (pc2 := 61) ?_
                    refine wp_gr (b := 119) jF_251_61 kd117 (by decide) (c := 219) rfl rfl rfl (pc2 := 64) ?_
                    refine wp_ic jF_251_64 rfl (pc2 := 65) ?_
                    refine wp_du2 jF_251_65 rfl rfl (pc2 := 66) ?_
                    refine wp_iald (n := 6) (e := z495) jF_251_66 kd119 (by decide) rfl rfl (by omega) (by omega) ((FR.at f513 119 1 rfl).trans e500) rfl (pc2 := 67) ?_
                    refine wp_ic jF_251_67 rfl (pc2 := 68) ?_
                    refine wp_any2 (pc2 := 69) jF_251_68 rfl rfl ?_
                    intro z560 h561
                    refine wp_iast (n := 6) jF_251_69 kd119 (by decide) rfl rfl (by omega) (by omega) rfl (pc2 := 70) g512 (lo := (-2147483648)) (hi := 2147483647) rfl (by omega) (by omega) ?_
                    intro τ562 g563 f564 e565
                    refine wp_bi jF_251_70 (by decide) rfl (pc2 := 72) ?_
                    refine wp_ri jF_251_72 rfl ?_
                    have q566 : (l0 τ562) = (l0 σ) := ((l0_wr f564 (by decide)).trans ((l0_fr f513 rfl (fun _ => rfl)).trans ((l0_wr f499 (by decide)).trans ((l0_wr f422 (by decide)).trans ((l0_wr f417 (by decide)).trans ((l0_fr f410 rfl (fun _ => rfl)).trans ((l0_fr f396 rfl (fun _ => rfl)).trans ((l0_fr f225 rfl (fun _ => rfl)).trans ((l0_fr f209 rfl (fun _ => rfl)).trans ((l0_fr f49 rfl (fun _ => rfl)).trans ((l0_wr f32 (by decide)).trans ((l0_wr f28 (by decide)).trans ((l0_wr f24 (by decide)).trans ((l0_wr f20 (by decide)).trans ((l0_wr f16 (by decide)).trans ((l0_wr f12 (by decide)).trans ((l0_wr f8 (by decide)).trans (l0_wr f4 (by decide)))))))))))))))))))
                    have q567 : (l1 τ562) = (l1 σ) := ((l1_wr f564 (by decide)).trans ((l1_fr f513 rfl (fun _ => rfl)).trans ((l1_wr f499 (by decide)).trans ((l1_wr f422 (by decide)).trans ((l1_wr f417 (by decide)).trans ((l1_fr f410 rfl (fun _ => rfl)).trans ((l1_fr f396 rfl (fun _ => rfl)).trans ((l1_fr f225 rfl (fun _ => rfl)).trans ((l1_fr f209 rfl (fun _ => rfl)).trans ((l1_fr f49 rfl (fun _ => rfl)).trans ((l1_wr f32 (by decide)).trans ((l1_wr f28 (by decide)).trans ((l1_wr f24 (by decide)).trans ((l1_wr f20 (by decide)).trans ((l1_wr f16 (by decide)).trans ((l1_wr f12 (by decide)).trans ((l1_wr f8 (by decide)).trans (l1_wr f4 (by decide)))))))))))))))))))
                    have q568 : (kp τ562) = (kp σ) := ((kp_wr f564 (by decide)).trans ((kp_fr f513 (fun _ => rfl) (fun _ => rfl)).trans ((kp_wr f499 (by decide)).trans ((kp_wr f422 (by decide)).trans ((kp_wr f417 (by decide)).trans ((kp_fr f410 (fun _ => rfl) (fun _ => rfl)).trans ((kp_fr f396 (fun _ => rfl) (fun _ => rfl)).trans ((kp_fr f225 (fun _ => rfl) (fun _ => rfl)).trans ((kp_fr f209 (fun _ => rfl) (fun _ => rfl)).trans ((kp_fr f49 (fun _ => rfl) (fun _ => rfl)).trans ((kp_wr f32 (by decide)).trans ((kp_wr f28 (by decide)).trans ((kp_wr f24 (by decide)).trans ((kp_wr f20 (by decide)).trans ((kp_wr f16 (by decide)).trans ((kp_wr f12 (by decide)).trans ((kp_wr f8 (by decide)).trans (kp_wr f4 (by decide)))))))))))))))))))
                    exact ⟨(-2), rfl, ⟨by omega, by omega⟩, g563, (FR.w (FR.up (FR.w (FR.w (FR.w (FR.up (FR.up (FR.up (FR.up (FR.up (FR.w (FR.w (FR.w (FR.w (FR.w (FR.w (FR.w (FR.w FR.rf f4 rfl) f8 rfl) f12 rfl) f16 rfl) f20 rfl) f24 rfl) f28 rfl) f32 rfl) f49 sb_Wsgn_Wlaw) f209 sb_Wlw_Wlaw) f225 sb_Wat_Wlaw) f396 sb_Wlw_Wlaw) f410 sb_Wsgn_Wlaw) f417 rfl) f422 rfl) f499 rfl) f513 sb_Wtr_Wlaw) f564 rfl), (by omega), (by omega), (by omega)⟩
              · intro h506; exfalso; omega
        · intro h413
          replace p402 := p402 (by omega)
          clear p403
          replace p406 := p406 (by omega)
          replace p407 := p407 (by omega)
          replace p391 := p391 (by omega)
          replace p392 := p392 (by omega)
          replace p393 := p393 (by omega)
          clear p401
          have q569 : (rl τ408) = (rl τ394) := (rl_fr f410 rfl (fun _ => rfl))
          have b570 := GI.b g409 117 2 kd117 (lo := 0) (hi := 1601) rfl
          have b571 := GI.b g409 117 5 kd117 (lo := (-2147483648)) (hi := 2147483647) rfl
          exact ih213 () τ408 ⟨g409, (FR.up (FR.up (FR.up f209 f225 sb_Wat_Wlw) f396 sb_Wlw_Wlw) f410 sb_Wsgn_Wlw), (by omega), (by omega), (by omega)⟩ (by show Int.toNat (1700 - (τ408.1 117 2)) < Int.toNat (1700 - (τ207.1 117 2)); omega)
