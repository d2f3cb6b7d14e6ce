set_option maxHeartbeats 4000000 in
set_option maxRecDepth 20000 in
/-- TongueReader.takesLike -/
theorem m_47_r12_20 (σ : jM) (hg : GI σ)   (fr lo : Nat) (hfr : 4 ≤ fr) (hlo : 84 ≤ lo) : WP 47 0 (lv_args 0 [.ref 12, .ref 20]) [] fr lo σ (fun v τ => ∃ z : Int, v = some (iV z) ∧ (0 ≤ z ∧ z ≤ 1) ∧ GI τ ∧ FR WR20 σ τ ∧ ((τ.1 33 5) = (σ.1 33 5)) ∧ ((τ.1 39 5) = (σ.1 39 5))) := by
  show WP 47 0 [(0, .ref 12), (1, .ref 20)] [] _ _ _ _
  refine wp_al1 jF_47_0 rfl rfl (pc2 := 1) ?_
  refine wp_al1 jF_47_1 rfl rfl (pc2 := 2) ?_
  refine wp_cV (as := [.ref 20]) (rest := []) (a := 12) (mx := 2) (ci := 9) jF_47_2 kd12 (by decide) rfl rfl rfl rfl rfl (by omega) (by omega) rfl (pc2 := 5) ?_
  refine wp_use (m_48_r12_20 σ hg   _ _ (by omega) (by omega)) ?_
  rintro _ τ1 ⟨z4, rfl, h5, g2, f3⟩
  show WP 47 5 [(0, .ref 12), (1, .ref 20)] [iV z4] _ _ _ _
  refine wp_z_ne jF_47_5 (m_rgb h5 rfl) rfl (pc2 := 8) ?_ ?_
  · intro h6
    refine wp_al1 jF_47_10 rfl rfl (pc2 := 11) ?_
    refine wp_gr (b := 10) jF_47_11 kd12 (by decide) (c := 110) rfl rfl rfl (pc2 := 14) ?_
    have b7 := GI.b g2 10 7 kd10 (lo := (-2147483648)) (hi := 2147483647) rfl
    refine wp_gi jF_47_14 kd10 (by decide) rfl rfl rfl (pc2 := 17) ?_
    refine wp_is1 (lv2 := [(0, .ref 12), (1, .ref 20), (2, iV (τ1.1 10 7))]) jF_47_17 rfl rfl rfl (pc2 := 18) ?_
    refine wp_al1 jF_47_18 rfl rfl (pc2 := 19) ?_
    refine wp_gr (b := 10) jF_47_19 kd12 (by decide) (c := 110) rfl rfl rfl (pc2 := 22) ?_
    refine wp_al1 jF_47_22 rfl rfl (pc2 := 23) ?_
    refine wp_gr (b := 13) jF_47_23 kd12 (by decide) (c := 113) rfl rfl rfl (pc2 := 26) ?_
    refine wp_cV (as := [.ref 13]) (rest := []) (a := 10) (mx := 2) (ci := 6) jF_47_26 kd10 (by decide) rfl rfl rfl rfl rfl (by omega) (by omega) rfl (pc2 := 29) ?_
    refine wp_use (m_49_r10_13 τ1 g2   _ _ (by omega) (by omega)) ?_
    rintro _ τ8 ⟨z11, rfl, h12, g9, f10⟩
    show WP 47 29 [(0, .ref 12), (1, .ref 20), (2, iV (τ1.1 10 7))] [iV z11] _ _ _ _
    refine wp_z_ne jF_47_29 (m_rgb h12 rfl) rfl (pc2 := 32) ?_ ?_
    · intro h13
      refine wp_al1 jF_47_34 rfl rfl (pc2 := 35) ?_
      refine wp_al1 jF_47_35 rfl rfl (pc2 := 36) ?_
      refine wp_gr (b := 10) jF_47_36 kd12 (by decide) (c := 110) rfl rfl rfl (pc2 := 39) ?_
      have b14 := GI.b g9 10 7 kd10 (lo := (-2147483648)) (hi := 2147483647) rfl
      refine wp_gi jF_47_39 kd10 (by decide) rfl rfl rfl (pc2 := 42) ?_
      refine wp_cV (as := [iV (τ8.1 10 7)]) (rest := []) (a := 20) (mx := 3) (ci := 8) jF_47_42 kd20 (by decide) rfl rfl rfl rfl rfl (by omega) (by omega) rfl (pc2 := 45) ?_
      refine wp_use (m_50_r20 τ8 g9 (τ8.1 10 7) (by omega) (by omega)  _ _ (by omega) (by omega)) ?_
      rintro _ _ ⟨z17, rfl, h18, rfl⟩
      show WP 47 45 [(0, .ref 12), (1, .ref 20), (2, iV (τ1.1 10 7))] [iV z17] _ _ _ _
      refine wp_is1 (lv2 := [(0, .ref 12), (1, .ref 20), (2, iV (τ1.1 10 7)), (3, iV z17)]) jF_47_45 rfl rfl rfl (pc2 := 46) ?_
      refine wp_il1 jF_47_46 rfl rfl (pc2 := 47) ?_
      refine wp_ic jF_47_47 rfl (pc2 := 48) ?_
      refine wp_i_eq jF_47_48 (m_rgb h18 rfl) (m_rgl rfl) rfl (pc2 := 51) ?_ ?_
      · intro h19
        refine wp_al1 jF_47_59 rfl rfl (pc2 := 60) ?_
        refine wp_gr (b := 10) jF_47_60 kd12 (by decide) (c := 110) rfl rfl rfl (pc2 := 63) ?_
        refine wp_ic jF_47_63 rfl (pc2 := 64) ?_
        refine wp_al1 jF_47_64 rfl rfl (pc2 := 65) ?_
        refine wp_gr (b := 10) jF_47_65 kd12 (by decide) (c := 110) rfl rfl rfl (pc2 := 68) ?_
        have b20 := GI.b g9 10 5 kd10 (lo := 0) (hi := 1600) rfl
        refine wp_gi jF_47_68 kd10 (by decide) rfl rfl rfl (pc2 := 71) ?_
        refine wp_cV (as := [iV 3, iV (τ8.1 10 5)]) (rest := []) (a := 10) (mx := 3) (ci := 6) jF_47_71 kd10 (by decide) rfl rfl rfl rfl rfl (by omega) (by omega) rfl (pc2 := 74) ?_
        refine wp_use (m_42_r10 τ8 g9 3 (by omega) (by omega) (τ8.1 10 5) (by omega) (by omega)  _ _ (by omega) (by omega)) ?_
        rintro _ τ21 ⟨z24, rfl, h25, g22, f23⟩
        show WP 47 74 [(0, .ref 12), (1, .ref 20), (2, iV (τ1.1 10 7)), (3, iV z17)] [iV z24] _ _ _ _
        refine wp_ri jF_47_74 (m_fitb (by omega) (by omega)) ?_
        have b26 := GI.b hg 33 5 kd33 (lo := 0) (hi := 16) rfl
        have q27 : (τ21.1 33 5) = (σ.1 33 5) := ((FR.at f23 33 5 rfl).trans ((FR.at f10 33 5 rfl).trans (FR.at f3 33 5 rfl)))
        have b28 := GI.b hg 39 5 kd39 (lo := 0) (hi := 16) rfl
        have q29 : (τ21.1 39 5) = (σ.1 39 5) := ((FR.at f23 39 5 rfl).trans ((FR.at f10 39 5 rfl).trans (FR.at f3 39 5 rfl)))
        exact ⟨z24, rfl, ⟨by omega, by omega⟩, g22, (FR.up (FR.up (FR.up FR.rf f3 sb_Wtp_WR20) f10 sb_Wtp_WR20) f23 sb_Wtp_WR20), (by omega), (by omega)⟩
      · intro h19
        refine wp_al1 jF_47_51 rfl rfl (pc2 := 52) ?_
        refine wp_il1 jF_47_52 rfl rfl (pc2 := 53) ?_
        refine wp_cV (as := [iV z17]) (rest := []) (a := 20) (mx := 2) (ci := 8) jF_47_53 kd20 (by decide) rfl rfl rfl rfl rfl (by omega) (by omega) rfl (pc2 := 56) ?_
        refine wp_use (m_51_r20 τ8 g9 z17 (by omega) (by omega)  _ _ (by omega) (by omega)) ?_
        rintro _ _ ⟨z32, rfl, h33, rfl⟩
        show WP 47 56 [(0, .ref 12), (1, .ref 20), (2, iV (τ1.1 10 7)), (3, iV z17)] [iV z32] _ _ _ _
        refine wp_z_eq jF_47_56 (m_rgb h33 rfl) rfl (pc2 := 59) ?_ ?_
        · intro h34
          refine wp_al1 jF_47_75 rfl rfl (pc2 := 76) ?_
          refine wp_il1 jF_47_76 rfl rfl (pc2 := 77) ?_
          refine wp_il1 jF_47_77 rfl rfl (pc2 := 78) ?_
          refine wp_cV (as := [iV (τ1.1 10 7), iV z17]) (rest := []) (a := 20) (mx := 3) (ci := 8) jF_47_78 kd20 (by decide) rfl rfl rfl rfl rfl (by omega) (by omega) rfl (pc2 := 81) ?_
          have b35 := GI.b hg 33 5 kd33 (lo := 0) (hi := 16) rfl
          have q36 : (τ8.1 33 5) = (σ.1 33 5) := ((FR.at f10 33 5 rfl).trans (FR.at f3 33 5 rfl))
          have b37 := GI.b hg 39 5 kd39 (lo := 0) (hi := 16) rfl
          have q38 : (τ8.1 39 5) = (σ.1 39 5) := ((FR.at f10 39 5 rfl).trans (FR.at f3 39 5 rfl))
          refine wp_use (m_52_r20 τ8 g9 (τ1.1 10 7) (by omega) (by omega) z17 (by omega) (by omega)  _ _ (by omega) (by omega)) ?_
          rintro _ τ41 ⟨rfl, g42, f43, p39, p40⟩
          show WP 47 81 [(0, .ref 12), (1, .ref 20), (2, iV (τ1.1 10 7)), (3, iV z17)] [] _ _ _ _
          refine wp_ic jF_47_81 rfl (pc2 := 82) ?_
          refine wp_ri jF_47_82 rfl ?_
          have b44 := GI.b g42 33 5 kd33 (lo := 0) (hi := 16) rfl
          have b45 := GI.b g42 39 5 kd39 (lo := 0) (hi := 16) rfl
          exact ⟨1, rfl, ⟨by omega, by omega⟩, g42, (FR.up (FR.up (FR.up FR.rf f3 sb_Wtp_WR20) f10 sb_Wtp_WR20) f43 sb_WG20_WR20), (by omega), (by omega)⟩
        · intro h34
          refine wp_al1 jF_47_59 rfl rfl (pc2 := 60) ?_
          refine wp_gr (b := 10) jF_47_60 kd12 (by decide) (c := 110) rfl rfl rfl (pc2 := 63) ?_
          refine wp_ic jF_47_63 rfl (pc2 := 64) ?_
          refine wp_al1 jF_47_64 rfl rfl (pc2 := 65) ?_
          refine wp_gr (b := 10) jF_47_65 kd12 (by decide) (c := 110) rfl rfl rfl (pc2 := 68) ?_
          have b46 := GI.b g9 10 5 kd10 (lo := 0) (hi := 1600) rfl
          refine wp_gi jF_47_68 kd10 (by decide) rfl rfl rfl (pc2 := 71) ?_
          refine wp_cV (as := [iV 3, iV (τ8.1 10 5)]) (rest := []) (a := 10) (mx := 3) (ci := 6) jF_47_71 kd10 (by decide) rfl rfl rfl rfl rfl (by omega) (by omega) rfl (pc2 := 74) ?_
          refine wp_use (m_42_r10 τ8 g9 3 (by omega) (by omega) (τ8.1 10 5) (by omega) (by omega)  _ _ (by omega) (by omega)) ?_
          rintro _ τ47 ⟨z50, rfl, h51, g48, f49⟩
          show WP 47 74 [(0, .ref 12), (1, .ref 20), (2, iV (τ1.1 10 7)), (3, iV z17)] [iV z50] _ _ _ _
          refine wp_ri jF_47_74 (m_fitb (by omega) (by omega)) ?_
          have b52 := GI.b hg 33 5 kd33 (lo := 0) (hi := 16) rfl
          have q53 : (τ47.1 33 5) = (σ.1 33 5) := ((FR.at f49 33 5 rfl).trans ((FR.at f10 33 5 rfl).trans (FR.at f3 33 5 rfl)))
          have b54 := GI.b hg 39 5 kd39 (lo := 0) (hi := 16) rfl
          have q55 : (τ47.1 39 5) = (σ.1 39 5) := ((FR.at f49 39 5 rfl).trans ((FR.at f10 39 5 rfl).trans (FR.at f3 39 5 rfl)))
          exact ⟨z50, rfl, ⟨by omega, by omega⟩, g48, (FR.up (FR.up (FR.up FR.rf f3 sb_Wtp_WR20) f10 sb_Wtp_WR20) f49 sb_Wtp_WR20), (by omega), (by omega)⟩
    · intro h13
      refine wp_ic jF_47_32 rfl (pc2 := 33) ?_
      refine wp_ri jF_47_33 rfl ?_
      have b56 := GI.b hg 33 5 kd33 (lo := 0) (hi := 16) rfl
      have q57 : (τ8.1 33 5) = (σ.1 33 5) := ((FR.at f10 33 5 rfl).trans (FR.at f3 33 5 rfl))
      have b58 := GI.b hg 39 5 kd39 (lo := 0) (hi := 16) rfl
      have q59 : (τ8.1 39 5) = (σ.1 39 5) := ((FR.at f10 39 5 rfl).trans (FR.at f3 39 5 rfl))
      exact ⟨0, rfl, ⟨by omega, by omega⟩, g9, (FR.up (FR.up FR.rf f3 sb_Wtp_WR20) f10 sb_Wtp_WR20), (by omega), (by omega)⟩
  · intro h6
    refine wp_ic jF_47_8 rfl (pc2 := 9) ?_
    refine wp_ri jF_47_9 rfl ?_
    have b60 := GI.b hg 33 5 kd33 (lo := 0) (hi := 16) rfl
    have q61 : (τ1.1 33 5) = (σ.1 33 5) := (FR.at f3 33 5 rfl)
    have b62 := GI.b hg 39 5 kd39 (lo := 0) (hi := 16) rfl
    have q63 : (τ1.1 39 5) = (σ.1 39 5) := (FR.at f3 39 5 rfl)
    exact ⟨0, rfl, ⟨by omega, by omega⟩, g2, (FR.up FR.rf f3 sb_Wtp_WR20), (by omega), (by omega)⟩
set_option maxHeartbeats 4000000 in
set_option maxRecDepth 20000 in
/-- TongueReader.takesLimit -/
theorem m_53_r12_20 (σ : jM) (hg : GI σ)   (fr lo : Nat) (hfr : 2 ≤ fr) (hlo : 44 ≤ lo) : WP 53 0 (lv_args 0 [.ref 12, .ref 20]) [] fr lo σ (fun v τ => ∃ z : Int, v = some (iV z) ∧ (0 ≤ z ∧ z ≤ 1) ∧ GI τ ∧ FR WR20 σ τ ∧ ((τ.1 33 5) = (σ.1 33 5)) ∧ ((τ.1 39 5) = (σ.1 39 5))) := by
  show WP 53 0 [(0, .ref 12), (1, .ref 20)] [] _ _ _ _
  refine wp_al1 jF_53_0 rfl rfl (pc2 := 1) ?_
  refine wp_gr (b := 10) jF_53_1 kd12 (by decide) (c := 110) rfl rfl rfl (pc2 := 4) ?_
  refine wp_ic jF_53_4 rfl (pc2 := 5) ?_
  refine wp_bi jF_53_5 (by decide) rfl (pc2 := 7) ?_
  refine wp_cV (as := [iV 1, iV 40]) (rest := []) (a := 10) (mx := 3) (ci := 6) jF_53_7 kd10 (by decide) rfl rfl rfl rfl rfl (by omega) (by omega) rfl (pc2 := 10) ?_
  refine wp_use (m_54_r10 σ hg 1 (by omega) (by omega) 40 (by omega) (by omega)  _ _ (by omega) (by omega)) ?_
  rintro _ τ2 ⟨z5, rfl, h6, g3, f4, p1⟩
  show WP 53 10 [(0, .ref 12), (1, .ref 20)] [iV z5] _ _ _ _
  refine wp_z_ne jF_53_10 (m_rgb h6 rfl) rfl (pc2 := 13) ?_ ?_
  · intro h7
    replace p1 := p1 (by omega)
    refine wp_al1 jF_53_15 rfl rfl (pc2 := 16) ?_
    refine wp_al1 jF_53_16 rfl rfl (pc2 := 17) ?_
    refine wp_gr (b := 10) jF_53_17 kd12 (by decide) (c := 110) rfl rfl rfl (pc2 := 20) ?_
    have b8 := GI.b g3 10 8 kd10 (lo := (-2147483648)) (hi := 2147483647) rfl
    refine wp_gi jF_53_20 kd10 (by decide) rfl rfl rfl (pc2 := 23) ?_
    refine wp_pi jF_53_23 kd20 (by decide) rfl rfl rfl (pc2 := 26) g3 (lo := (-2147483648)) (hi := 2147483647) rfl (by omega) (by omega) ?_
    intro τ9 g10 f11 e12
    refine wp_ic jF_53_26 rfl (pc2 := 27) ?_
    refine wp_ri jF_53_27 rfl ?_
    have b13 := GI.b hg 33 5 kd33 (lo := 0) (hi := 16) rfl
    have q14 : (τ9.1 33 5) = (σ.1 33 5) := ((FRw.na f11 (by decide)).trans (FR.at f4 33 5 rfl))
    have b15 := GI.b hg 39 5 kd39 (lo := 0) (hi := 16) rfl
    have q16 : (τ9.1 39 5) = (σ.1 39 5) := ((FRw.na f11 (by decide)).trans (FR.at f4 39 5 rfl))
    exact ⟨1, rfl, ⟨by omega, by omega⟩, g10, (FR.w (FR.up FR.rf f4 sb_Wtp_WR20) f11 rfl), (by omega), (by omega)⟩
  · intro h7
    clear p1
    refine wp_ic jF_53_13 rfl (pc2 := 14) ?_
    refine wp_ri jF_53_14 rfl ?_
    have b17 := GI.b hg 33 5 kd33 (lo := 0) (hi := 16) rfl
    have q18 : (τ2.1 33 5) = (σ.1 33 5) := (FR.at f4 33 5 rfl)
    have b19 := GI.b hg 39 5 kd39 (lo := 0) (hi := 16) rfl
    have q20 : (τ2.1 39 5) = (σ.1 39 5) := (FR.at f4 39 5 rfl)
    exact ⟨0, rfl, ⟨by omega, by omega⟩, g3, (FR.up FR.rf f4 sb_Wtp_WR20), (by omega), (by omega)⟩
set_option maxHeartbeats 4000000 in
set_option maxRecDepth 20000 in
/-- TongueReader.takesParty -/
theorem m_55_r12_20 (σ : jM) (hg : GI σ)   (fr lo : Nat) (hfr : 4 ≤ fr) (hlo : 84 ≤ lo) : WP 55 0 (lv_args 0 [.ref 12, .ref 20]) [] fr lo σ (fun v τ => ∃ z : Int, v = some (iV z) ∧ (0 ≤ z ∧ z ≤ 1) ∧ GI τ ∧ FR WR20 σ τ ∧ ((τ.1 33 5) = (σ.1 33 5)) ∧ ((τ.1 39 5) = (σ.1 39 5))) := by
  show WP 55 0 [(0, .ref 12), (1, .ref 20)] [] _ _ _ _
  refine wp_al1 jF_55_0 rfl rfl (pc2 := 1) ?_
  refine wp_al1 jF_55_1 rfl rfl (pc2 := 2) ?_
  refine wp_cV (as := [.ref 20]) (rest := []) (a := 12) (mx := 2) (ci := 9) jF_55_2 kd12 (by decide) rfl rfl rfl rfl rfl (by omega) (by omega) rfl (pc2 := 5) ?_
  refine wp_use (m_48_r12_20 σ hg   _ _ (by omega) (by omega)) ?_
  rintro _ τ1 ⟨z4, rfl, h5, g2, f3⟩
  show WP 55 5 [(0, .ref 12), (1, .ref 20)] [iV z4] _ _ _ _
  refine wp_z_ne jF_55_5 (m_rgb h5 rfl) rfl (pc2 := 8) ?_ ?_
  · intro h6
    refine wp_al1 jF_55_10 rfl rfl (pc2 := 11) ?_
    refine wp_gr (b := 10) jF_55_11 kd12 (by decide) (c := 110) rfl rfl rfl (pc2 := 14) ?_
    have b7 := GI.b g2 10 7 kd10 (lo := (-2147483648)) (hi := 2147483647) rfl
    refine wp_gi jF_55_14 kd10 (by decide) rfl rfl rfl (pc2 := 17) ?_
    refine wp_is1 (lv2 := [(0, .ref 12), (1, .ref 20), (2, iV (τ1.1 10 7))]) jF_55_17 rfl rfl rfl (pc2 := 18) ?_
    refine wp_al1 jF_55_18 rfl rfl (pc2 := 19) ?_
    refine wp_gr (b := 10) jF_55_19 kd12 (by decide) (c := 110) rfl rfl rfl (pc2 := 22) ?_
    refine wp_al1 jF_55_22 rfl rfl (pc2 := 23) ?_
    refine wp_gr (b := 13) jF_55_23 kd12 (by decide) (c := 113) rfl rfl rfl (pc2 := 26) ?_
    refine wp_bi jF_55_26 (by decide) rfl (pc2 := 28) ?_
    refine wp_cV (as := [.ref 13, iV 9]) (rest := []) (a := 10) (mx := 3) (ci := 6) jF_55_28 kd10 (by decide) rfl rfl rfl rfl rfl (by omega) (by omega) rfl (pc2 := 31) ?_
    refine wp_use (m_56_r10_13 τ1 g2 9 (by omega) (by omega)  _ _ (by omega) (by omega)) ?_
    rintro _ τ8 ⟨z11, rfl, h12, g9, f10⟩
    show WP 55 31 [(0, .ref 12), (1, .ref 20), (2, iV (τ1.1 10 7))] [iV z11] _ _ _ _
    refine wp_z_eq jF_55_31 (m_rgb h12 rfl) rfl (pc2 := 34) ?_ ?_
    · intro h13
      refine wp_ic jF_55_47 rfl (pc2 := 48) ?_
      refine wp_ri jF_55_48 rfl ?_
      have b14 := GI.b hg 33 5 kd33 (lo := 0) (hi := 16) rfl
      have q15 : (τ8.1 33 5) = (σ.1 33 5) := ((FR.at f10 33 5 rfl).trans (FR.at f3 33 5 rfl))
      have b16 := GI.b hg 39 5 kd39 (lo := 0) (hi := 16) rfl
      have q17 : (τ8.1 39 5) = (σ.1 39 5) := ((FR.at f10 39 5 rfl).trans (FR.at f3 39 5 rfl))
      exact ⟨0, rfl, ⟨by omega, by omega⟩, g9, (FR.up (FR.up FR.rf f3 sb_Wtp_WR20) f10 sb_Wtp_WR20), (by omega), (by omega)⟩
    · intro h13
      refine wp_al1 jF_55_34 rfl rfl (pc2 := 35) ?_
      refine wp_gr (b := 10) jF_55_35 kd12 (by decide) (c := 110) rfl rfl rfl (pc2 := 38) ?_
      refine wp_ic jF_55_38 rfl (pc2 := 39) ?_
      refine wp_bi jF_55_39 (by decide) rfl (pc2 := 41) ?_
      refine wp_cV (as := [iV 1, iV 9]) (rest := []) (a := 10) (mx := 3) (ci := 6) jF_55_41 kd10 (by decide) rfl rfl rfl rfl rfl (by omega) (by omega) rfl (pc2 := 44) ?_
      refine wp_use (m_54_r10 τ8 g9 1 (by omega) (by omega) 9 (by omega) (by omega)  _ _ (by omega) (by omega)) ?_
      rintro _ τ19 ⟨z22, rfl, h23, g20, f21, p18⟩
      show WP 55 44 [(0, .ref 12), (1, .ref 20), (2, iV (τ1.1 10 7))] [iV z22] _ _ _ _
      refine wp_z_ne jF_55_44 (m_rgb h23 rfl) rfl (pc2 := 47) ?_ ?_
      · intro h24
        replace p18 := p18 (by omega)
        refine wp_al1 jF_55_49 rfl rfl (pc2 := 50) ?_
        refine wp_il1 jF_55_50 rfl rfl (pc2 := 51) ?_
        refine wp_al1 jF_55_51 rfl rfl (pc2 := 52) ?_
        refine wp_gr (b := 10) jF_55_52 kd12 (by decide) (c := 110) rfl rfl rfl (pc2 := 55) ?_
        have b25 := GI.b g20 10 8 kd10 (lo := (-2147483648)) (hi := 2147483647) rfl
        refine wp_gi jF_55_55 kd10 (by decide) rfl rfl rfl (pc2 := 58) ?_
        refine wp_cV (as := [iV (τ1.1 10 7), iV (τ19.1 10 8)]) (rest := []) (a := 20) (mx := 3) (ci := 8) jF_55_58 kd20 (by decide) rfl rfl rfl rfl rfl (by omega) (by omega) rfl (pc2 := 61) ?_
        have b26 := GI.b hg 33 5 kd33 (lo := 0) (hi := 16) rfl
        have q27 : (τ19.1 33 5) = (σ.1 33 5) := ((FR.at f21 33 5 rfl).trans ((FR.at f10 33 5 rfl).trans (FR.at f3 33 5 rfl)))
        have b28 := GI.b hg 39 5 kd39 (lo := 0) (hi := 16) rfl
        have q29 : (τ19.1 39 5) = (σ.1 39 5) := ((FR.at f21 39 5 rfl).trans ((FR.at f10 39 5 rfl).trans (FR.at f3 39 5 rfl)))
        refine wp_use (m_57_r20 τ19 g20 (τ1.1 10 7) (by omega) (by omega) (τ19.1 10 8) (by omega) (by omega)  _ _ (by omega) (by omega)) ?_
        rintro _ τ32 ⟨rfl, g33, f34, p30, p31⟩
        show WP 55 61 [(0, .ref 12), (1, .ref 20), (2, iV (τ1.1 10 7))] [] _ _ _ _
        refine wp_ic jF_55_61 rfl (pc2 := 62) ?_
        refine wp_ri jF_55_62 rfl ?_
        have b35 := GI.b g33 33 5 kd33 (lo := 0) (hi := 16) rfl
        have b36 := GI.b g33 39 5 kd39 (lo := 0) (hi := 16) rfl
        exact ⟨1, rfl, ⟨by omega, by omega⟩, g33, (FR.up (FR.up (FR.up (FR.up FR.rf f3 sb_Wtp_WR20) f10 sb_Wtp_WR20) f21 sb_Wtp_WR20) f34 sb_WG20_WR20), (by omega), (by omega)⟩
      · intro h24
        clear p18
        refine wp_ic jF_55_47 rfl (pc2 := 48) ?_
        refine wp_ri jF_55_48 rfl ?_
        have b37 := GI.b hg 33 5 kd33 (lo := 0) (hi := 16) rfl
        have q38 : (τ19.1 33 5) = (σ.1 33 5) := ((FR.at f21 33 5 rfl).trans ((FR.at f10 33 5 rfl).trans (FR.at f3 33 5 rfl)))
        have b39 := GI.b hg 39 5 kd39 (lo := 0) (hi := 16) rfl
        have q40 : (τ19.1 39 5) = (σ.1 39 5) := ((FR.at f21 39 5 rfl).trans ((FR.at f10 39 5 rfl).trans (FR.at f3 39 5 rfl)))
        exact ⟨0, rfl, ⟨by omega, by omega⟩, g20, (FR.up (FR.up (FR.up FR.rf f3 sb_Wtp_WR20) f10 sb_Wtp_WR20) f21 sb_Wtp_WR20), (by omega), (by omega)⟩
  · intro h6
    refine wp_ic jF_55_8 rfl (pc2 := 9) ?_
    refine wp_ri jF_55_9 rfl ?_
    have b41 := GI.b hg 33 5 kd33 (lo := 0) (hi := 16) rfl
    have q42 : (τ1.1 33 5) = (σ.1 33 5) := (FR.at f3 33 5 rfl)
    have b43 := GI.b hg 39 5 kd39 (lo := 0) (hi := 16) rfl
    have q44 : (τ1.1 39 5) = (σ.1 39 5) := (FR.at f3 39 5 rfl)
    exact ⟨0, rfl, ⟨by omega, by omega⟩, g2, (FR.up FR.rf f3 sb_Wtp_WR20), (by omega), (by omega)⟩
set_option maxHeartbeats 4000000 in
set_option maxRecDepth 20000 in
/-- TongueReader.takesWisher -/
theorem m_58_r12_20 (σ : jM) (hg : GI σ)   (fr lo : Nat) (hfr : 3 ≤ fr) (hlo : 63 ≤ lo) : WP 58 0 (lv_args 0 [.ref 12, .ref 20]) [] fr lo σ (fun v τ => ∃ z : Int, v = some (iV z) ∧ (0 ≤ z ∧ z ≤ 1) ∧ GI τ ∧ FR WR20 σ τ ∧ ((τ.1 33 5) = (σ.1 33 5)) ∧ ((τ.1 39 5) = (σ.1 39 5))) := by
  show WP 58 0 [(0, .ref 12), (1, .ref 20)] [] _ _ _ _
  refine wp_al1 jF_58_0 rfl rfl (pc2 := 1) ?_
  refine wp_gr (b := 10) jF_58_1 kd12 (by decide) (c := 110) rfl rfl rfl (pc2 := 4) ?_
  refine wp_al1 jF_58_4 rfl rfl (pc2 := 5) ?_
  refine wp_gr (b := 13) jF_58_5 kd12 (by decide) (c := 113) rfl rfl rfl (pc2 := 8) ?_
  refine wp_cV (as := [.ref 13]) (rest := []) (a := 10) (mx := 2) (ci := 6) jF_58_8 kd10 (by decide) rfl rfl rfl rfl rfl (by omega) (by omega) rfl (pc2 := 11) ?_
  refine wp_use (m_49_r10_13 σ hg   _ _ (by omega) (by omega)) ?_
  rintro _ τ1 ⟨z4, rfl, h5, g2, f3⟩
  show WP 58 11 [(0, .ref 12), (1, .ref 20)] [iV z4] _ _ _ _
  refine wp_z_ne jF_58_11 (m_rgb h5 rfl) rfl (pc2 := 14) ?_ ?_
  · intro h6
    refine wp_al1 jF_58_16 rfl rfl (pc2 := 17) ?_
    refine wp_al1 jF_58_17 rfl rfl (pc2 := 18) ?_
    refine wp_gr (b := 10) jF_58_18 kd12 (by decide) (c := 110) rfl rfl rfl (pc2 := 21) ?_
    have b7 := GI.b g2 10 7 kd10 (lo := (-2147483648)) (hi := 2147483647) rfl
    refine wp_gi jF_58_21 kd10 (by decide) rfl rfl rfl (pc2 := 24) ?_
    refine wp_cV (as := [iV (τ1.1 10 7)]) (rest := []) (a := 20) (mx := 3) (ci := 8) jF_58_24 kd20 (by decide) rfl rfl rfl rfl rfl (by omega) (by omega) rfl (pc2 := 27) ?_
    refine wp_use (m_50_r20 τ1 g2 (τ1.1 10 7) (by omega) (by omega)  _ _ (by omega) (by omega)) ?_
    rintro _ _ ⟨z10, rfl, h11, rfl⟩
    show WP 58 27 [(0, .ref 12), (1, .ref 20)] [iV z10] _ _ _ _
    refine wp_is1 (lv2 := [(0, .ref 12), (1, .ref 20), (2, iV z10)]) jF_58_27 rfl rfl rfl (pc2 := 28) ?_
    refine wp_al1 jF_58_28 rfl rfl (pc2 := 29) ?_
    refine wp_il1 jF_58_29 rfl rfl (pc2 := 30) ?_
    refine wp_cV (as := [iV z10]) (rest := []) (a := 20) (mx := 2) (ci := 8) jF_58_30 kd20 (by decide) rfl rfl rfl rfl rfl (by omega) (by omega) rfl (pc2 := 33) ?_
    refine wp_use (m_51_r20 τ1 g2 z10 (by omega) (by omega)  _ _ (by omega) (by omega)) ?_
    rintro _ _ ⟨z14, rfl, h15, rfl⟩
    show WP 58 33 [(0, .ref 12), (1, .ref 20), (2, iV z10)] [iV z14] _ _ _ _
    refine wp_z_ne jF_58_33 (m_rgb h15 rfl) rfl (pc2 := 36) ?_ ?_
    · intro h16
      refine wp_al1 jF_58_52 rfl rfl (pc2 := 53) ?_
      refine wp_gr (b := 27) jF_58_53 kd20 (by decide) (c := 10) rfl rfl rfl (pc2 := 56) ?_
      refine wp_il1 jF_58_56 rfl rfl (pc2 := 57) ?_
      refine wp_bi jF_58_57 (by decide) rfl (pc2 := 59) ?_
      refine wp_sub jF_58_59 rfl (pc2 := 60) ?_
      refine wp_cV (as := [iV (z10 - 20)]) (rest := []) (a := 27) (mx := 2) (ci := 7) jF_58_60 kd27 (by decide) rfl rfl rfl rfl rfl (by omega) (by omega) rfl (pc2 := 63) ?_
      have b17 := GI.b hg 27 5 kd27 (lo := 0) (hi := 16) rfl
      have q18 : (τ1.1 27 5) = (σ.1 27 5) := (FR.at f3 27 5 rfl)
      refine wp_use (m_59_r27 τ1 g2 (z10 - 20) (by omega) (by omega)  _ _ (by omega) (by omega)) ?_
      rintro _ τ20 ⟨rfl, g21, f22, p19⟩
      show WP 58 63 [(0, .ref 12), (1, .ref 20), (2, iV z10)] [] _ _ _ _
      refine wp_ic jF_58_63 rfl (pc2 := 64) ?_
      refine wp_ri jF_58_64 rfl ?_
      have b23 := GI.b hg 33 5 kd33 (lo := 0) (hi := 16) rfl
      have q24 : (τ20.1 33 5) = (σ.1 33 5) := ((FR.at f22 33 5 rfl).trans (FR.at f3 33 5 rfl))
      have b25 := GI.b hg 39 5 kd39 (lo := 0) (hi := 16) rfl
      have q26 : (τ20.1 39 5) = (σ.1 39 5) := ((FR.at f22 39 5 rfl).trans (FR.at f3 39 5 rfl))
      exact ⟨1, rfl, ⟨by omega, by omega⟩, g21, (FR.up (FR.up FR.rf f3 sb_Wtp_WR20) f22 sb_WT27_WR20), (by omega), (by omega)⟩
    · intro h16
      refine wp_al1 jF_58_36 rfl rfl (pc2 := 37) ?_
      refine wp_gr (b := 10) jF_58_37 kd12 (by decide) (c := 110) rfl rfl rfl (pc2 := 40) ?_
      refine wp_ic jF_58_40 rfl (pc2 := 41) ?_
      refine wp_al1 jF_58_41 rfl rfl (pc2 := 42) ?_
      refine wp_gr (b := 10) jF_58_42 kd12 (by decide) (c := 110) rfl rfl rfl (pc2 := 45) ?_
      have b27 := GI.b g2 10 5 kd10 (lo := 0) (hi := 1600) rfl
      refine wp_gi jF_58_45 kd10 (by decide) rfl rfl rfl (pc2 := 48) ?_
      refine wp_cV (as := [iV 3, iV (τ1.1 10 5)]) (rest := []) (a := 10) (mx := 3) (ci := 6) jF_58_48 kd10 (by decide) rfl rfl rfl rfl rfl (by omega) (by omega) rfl (pc2 := 51) ?_
      refine wp_use (m_42_r10 τ1 g2 3 (by omega) (by omega) (τ1.1 10 5) (by omega) (by omega)  _ _ (by omega) (by omega)) ?_
      rintro _ τ28 ⟨z31, rfl, h32, g29, f30⟩
      show WP 58 51 [(0, .ref 12), (1, .ref 20), (2, iV z10)] [iV z31] _ _ _ _
      refine wp_ri jF_58_51 (m_fitb (by omega) (by omega)) ?_
      have b33 := GI.b hg 33 5 kd33 (lo := 0) (hi := 16) rfl
      have q34 : (τ28.1 33 5) = (σ.1 33 5) := ((FR.at f30 33 5 rfl).trans (FR.at f3 33 5 rfl))
      have b35 := GI.b hg 39 5 kd39 (lo := 0) (hi := 16) rfl
      have q36 : (τ28.1 39 5) = (σ.1 39 5) := ((FR.at f30 39 5 rfl).trans (FR.at f3 39 5 rfl))
      exact ⟨z31, rfl, ⟨by omega, by omega⟩, g29, (FR.up (FR.up FR.rf f3 sb_Wtp_WR20) f30 sb_Wtp_WR20), (by omega), (by omega)⟩
  · intro h6
    refine wp_ic jF_58_14 rfl (pc2 := 15) ?_
    refine wp_ri jF_58_15 rfl ?_
    have b37 := GI.b hg 33 5 kd33 (lo := 0) (hi := 16) rfl
    have q38 : (τ1.1 33 5) = (σ.1 33 5) := (FR.at f3 33 5 rfl)
    have b39 := GI.b hg 39 5 kd39 (lo := 0) (hi := 16) rfl
    have q40 : (τ1.1 39 5) = (σ.1 39 5) := (FR.at f3 39 5 rfl)
    exact ⟨0, rfl, ⟨by omega, by omega⟩, g2, (FR.up FR.rf f3 sb_Wtp_WR20), (by omega), (by omega)⟩
set_option maxHeartbeats 4000000 in
set_option maxRecDepth 20000 in
/-- TongueReader.takesOne -/
theorem m_62_r12_20_27 (σ : jM) (hg : GI σ) (sort : Int) (hl_sort : 0 ≤ sort) (hu_sort : sort ≤ 2)  (fr lo : Nat) (hfr : 3 ≤ fr) (hlo : 63 ≤ lo) : WP 62 0 (lv_args 0 [.ref 12, .ref 20, .ref 27, iV sort]) [] fr lo σ (fun v τ => ∃ z : Int, v = some (iV z) ∧ (0 ≤ z ∧ z ≤ 1) ∧ GI τ ∧ FR WQ27 σ τ ∧ ((τ.1 27 5) = (σ.1 27 5))) := by
  show WP 62 0 [(0, .ref 12), (1, .ref 20), (2, .ref 27), (3, iV sort)] [] _ _ _ _
  refine wp_al1 jF_62_0 rfl rfl (pc2 := 1) ?_
  refine wp_gr (b := 10) jF_62_1 kd12 (by decide) (c := 110) rfl rfl rfl (pc2 := 4) ?_
  refine wp_cV (as := []) (rest := []) (a := 10) (mx := 2) (ci := 6) jF_62_4 kd10 (by decide) rfl rfl rfl rfl rfl (by omega) (by omega) rfl (pc2 := 7) ?_
  have b1 := GI.b hg 10 1 kd10 (lo := 0) (hi := 1600) rfl
  refine wp_use (m_37_r10 σ hg   _ _ (by omega) (by omega)) ?_
  rintro _ τ3 ⟨z6, rfl, h7, g4, f5, p2⟩
  show WP 62 7 [(0, .ref 12), (1, .ref 20), (2, .ref 27), (3, iV sort)] [iV z6] _ _ _ _
  refine wp_z_eq jF_62_7 (m_rgb h7 rfl) rfl (pc2 := 10) ?_ ?_
  · intro h8
    clear p2
    refine wp_al1 jF_62_41 rfl rfl (pc2 := 42) ?_
    refine wp_gr (b := 10) jF_62_42 kd12 (by decide) (c := 110) rfl rfl rfl (pc2 := 45) ?_
    refine wp_al1 jF_62_45 rfl rfl (pc2 := 46) ?_
    refine wp_gr (b := 13) jF_62_46 kd12 (by decide) (c := 113) rfl rfl rfl (pc2 := 49) ?_
    refine wp_cV (as := [.ref 13]) (rest := []) (a := 10) (mx := 2) (ci := 6) jF_62_49 kd10 (by decide) rfl rfl rfl rfl rfl (by omega) (by omega) rfl (pc2 := 52) ?_
    refine wp_use (m_49_r10_13 τ3 g4   _ _ (by omega) (by omega)) ?_
    rintro _ τ9 ⟨z12, rfl, h13, g10, f11⟩
    show WP 62 52 [(0, .ref 12), (1, .ref 20), (2, .ref 27), (3, iV sort)] [iV z12] _ _ _ _
    refine wp_z_ne jF_62_52 (m_rgb h13 rfl) rfl (pc2 := 55) ?_ ?_
    · intro h14
      refine wp_al1 jF_62_57 rfl rfl (pc2 := 58) ?_
      refine wp_al1 jF_62_58 rfl rfl (pc2 := 59) ?_
      refine wp_gr (b := 10) jF_62_59 kd12 (by decide) (c := 110) rfl rfl rfl (pc2 := 62) ?_
      have b15 := GI.b g10 10 7 kd10 (lo := (-2147483648)) (hi := 2147483647) rfl
      refine wp_gi jF_62_62 kd10 (by decide) rfl rfl rfl (pc2 := 65) ?_
      refine wp_cV (as := [iV (τ9.1 10 7)]) (rest := []) (a := 20) (mx := 3) (ci := 8) jF_62_65 kd20 (by decide) rfl rfl rfl rfl rfl (by omega) (by omega) rfl (pc2 := 68) ?_
      refine wp_use (m_50_r20 τ9 g10 (τ9.1 10 7) (by omega) (by omega)  _ _ (by omega) (by omega)) ?_
      rintro _ _ ⟨z18, rfl, h19, rfl⟩
      show WP 62 68 [(0, .ref 12), (1, .ref 20), (2, .ref 27), (3, iV sort)] [iV z18] _ _ _ _
      refine wp_is2 (lv2 := [(0, .ref 12), (1, .ref 20), (2, .ref 27), (3, iV sort), (4, iV z18)]) jF_62_68 rfl rfl rfl (pc2 := 70) ?_
      refine wp_il1 jF_62_70 rfl rfl (pc2 := 71) ?_
      refine wp_ic jF_62_71 rfl (pc2 := 72) ?_
      refine wp_mul jF_62_72 rfl (pc2 := 73) ?_
      refine wp_is2 (lv2 := [(0, .ref 12), (1, .ref 20), (2, .ref 27), (3, iV sort), (4, iV z18), (5, iV (sort * 4))]) jF_62_73 rfl rfl rfl (pc2 := 75) ?_
      refine wp_il2 jF_62_75 rfl rfl (pc2 := 77) ?_
      refine wp_il2 jF_62_77 rfl rfl (pc2 := 79) ?_
      refine wp_i_lt jF_62_79 (m_rgb h19 rfl) ⟨by omega, by omega⟩ rfl (pc2 := 82) ?_ ?_
      · intro h20
        refine wp_al1 jF_62_91 rfl rfl (pc2 := 92) ?_
        refine wp_gr (b := 10) jF_62_92 kd12 (by decide) (c := 110) rfl rfl rfl (pc2 := 95) ?_
        refine wp_ic jF_62_95 rfl (pc2 := 96) ?_
        refine wp_al1 jF_62_96 rfl rfl (pc2 := 97) ?_
        refine wp_gr (b := 10) jF_62_97 kd12 (by decide) (c := 110) rfl rfl rfl (pc2 := 100) ?_
        have b21 := GI.b g10 10 5 kd10 (lo := 0) (hi := 1600) rfl
        refine wp_gi jF_62_100 kd10 (by decide) rfl rfl rfl (pc2 := 103) ?_
        refine wp_cV (as := [iV 3, iV (τ9.1 10 5)]) (rest := []) (a := 10) (mx := 3) (ci := 6) jF_62_103 kd10 (by decide) rfl rfl rfl rfl rfl (by omega) (by omega) rfl (pc2 := 106) ?_
        refine wp_use (m_42_r10 τ9 g10 3 (by omega) (by omega) (τ9.1 10 5) (by omega) (by omega)  _ _ (by omega) (by omega)) ?_
        rintro _ τ22 ⟨z25, rfl, h26, g23, f24⟩
        show WP 62 106 [(0, .ref 12), (1, .ref 20), (2, .ref 27), (3, iV sort), (4, iV z18), (5, iV (sort * 4))] [iV z25] _ _ _ _
        refine wp_ri jF_62_106 (m_fitb (by omega) (by omega)) ?_
        have b27 := GI.b hg 27 5 kd27 (lo := 0) (hi := 16) rfl
        have q28 : (τ22.1 27 5) = (σ.1 27 5) := ((FR.at f24 27 5 rfl).trans ((FR.at f11 27 5 rfl).trans (FR.at f5 27 5 rfl)))
        exact ⟨z25, rfl, ⟨by omega, by omega⟩, g23, (FR.up (FR.up (FR.up FR.rf f5 sb_Wtp_WQ27) f11 sb_Wtp_WQ27) f24 sb_Wtp_WQ27), (by omega)⟩
      · intro h20
        refine wp_il2 jF_62_82 rfl rfl (pc2 := 84) ?_
        refine wp_il2 jF_62_84 rfl rfl (pc2 := 86) ?_
        refine wp_ic jF_62_86 rfl (pc2 := 87) ?_
        refine wp_add jF_62_87 rfl (pc2 := 88) ?_
        refine wp_i_lt jF_62_88 ⟨by omega, by omega⟩ ⟨by omega, by omega⟩ rfl (pc2 := 91) ?_ ?_
        · intro h29
          refine wp_al1 jF_62_107 rfl rfl (pc2 := 108) ?_
          refine wp_il1 jF_62_108 rfl rfl (pc2 := 109) ?_
          refine wp_il2 jF_62_109 rfl rfl (pc2 := 111) ?_
          refine wp_cV (as := [iV sort, iV z18]) (rest := []) (a := 27) (mx := 4) (ci := 7) jF_62_111 kd27 (by decide) rfl rfl rfl rfl rfl (by omega) (by omega) rfl (pc2 := 114) ?_
          have b30 := GI.b hg 27 5 kd27 (lo := 0) (hi := 16) rfl
          have q31 : (τ9.1 27 5) = (σ.1 27 5) := ((FR.at f11 27 5 rfl).trans (FR.at f5 27 5 rfl))
          refine wp_use (m_63_r27 τ9 g10 sort (by omega) (by omega) z18 (by omega) (by omega)  _ _ (by omega) (by omega)) ?_
          rintro _ τ33 ⟨rfl, g34, f35, p32⟩
          show WP 62 114 [(0, .ref 12), (1, .ref 20), (2, .ref 27), (3, iV sort), (4, iV z18), (5, iV (sort * 4))] [] _ _ _ _
          refine wp_ic jF_62_114 rfl (pc2 := 115) ?_
          refine wp_ri jF_62_115 rfl ?_
          have b36 := GI.b g34 27 5 kd27 (lo := 0) (hi := 16) rfl
          exact ⟨1, rfl, ⟨by omega, by omega⟩, g34, (FR.up (FR.up (FR.up FR.rf f5 sb_Wtp_WQ27) f11 sb_Wtp_WQ27) f35 sb_WT27_WQ27), (by omega)⟩
        · intro h29
          refine wp_al1 jF_62_91 rfl rfl (pc2 := 92) ?_
          refine wp_gr (b := 10) jF_62_92 kd12 (by decide) (c := 110) rfl rfl rfl (pc2 := 95) ?_
          refine wp_ic jF_62_95 rfl (pc2 := 96) ?_
          refine wp_al1 jF_62_96 rfl rfl (pc2 := 97) ?_
          refine wp_gr (b := 10) jF_62_97 kd12 (by decide) (c := 110) rfl rfl rfl (pc2 := 100) ?_
          have b37 := GI.b g10 10 5 kd10 (lo := 0) (hi := 1600) rfl
          refine wp_gi jF_62_100 kd10 (by decide) rfl rfl rfl (pc2 := 103) ?_
          refine wp_cV (as := [iV 3, iV (τ9.1 10 5)]) (rest := []) (a := 10) (mx := 3) (ci := 6) jF_62_103 kd10 (by decide) rfl rfl rfl rfl rfl (by omega) (by omega) rfl (pc2 := 106) ?_
          refine wp_use (m_42_r10 τ9 g10 3 (by omega) (by omega) (τ9.1 10 5) (by omega) (by omega)  _ _ (by omega) (by omega)) ?_
          rintro _ τ38 ⟨z41, rfl, h42, g39, f40⟩
          show WP 62 106 [(0, .ref 12), (1, .ref 20), (2, .ref 27), (3, iV sort), (4, iV z18), (5, iV (sort * 4))] [iV z41] _ _ _ _
          refine wp_ri jF_62_106 (m_fitb (by omega) (by omega)) ?_
          have b43 := GI.b hg 27 5 kd27 (lo := 0) (hi := 16) rfl
          have q44 : (τ38.1 27 5) = (σ.1 27 5) := ((FR.at f40 27 5 rfl).trans ((FR.at f11 27 5 rfl).trans (FR.at f5 27 5 rfl)))
          exact ⟨z41, rfl, ⟨by omega, by omega⟩, g39, (FR.up (FR.up (FR.up FR.rf f5 sb_Wtp_WQ27) f11 sb_Wtp_WQ27) f40 sb_Wtp_WQ27), (by omega)⟩
    · intro h14
      refine wp_ic jF_62_55 rfl (pc2 := 56) ?_
      refine wp_ri jF_62_56 rfl ?_
      have b45 := GI.b hg 27 5 kd27 (lo := 0) (hi := 16) rfl
      have q46 : (τ9.1 27 5) = (σ.1 27 5) := ((FR.at f11 27 5 rfl).trans (FR.at f5 27 5 rfl))
      exact ⟨0, rfl, ⟨by omega, by omega⟩, g10, (FR.up (FR.up FR.rf f5 sb_Wtp_WQ27) f11 sb_Wtp_WQ27), (by omega)⟩
  · intro h8
    replace p2 := p2 (by omega)
    refine wp_al1 jF_62_10 rfl rfl (pc2 := 11) ?_
    refine wp_gr (b := 10) jF_62_11 kd12 (by decide) (c := 110) rfl rfl rfl (pc2 := 14) ?_
    refine wp_al1 jF_62_14 rfl rfl (pc2 := 15) ?_
    refine wp_gr (b := 13) jF_62_15 kd12 (by decide) (c := 113) rfl rfl rfl (pc2 := 18) ?_
    refine wp_cV (as := [.ref 13]) (rest := []) (a := 10) (mx := 3) (ci := 6) jF_62_18 kd10 (by decide) rfl rfl rfl rfl rfl (by omega) (by omega) rfl (pc2 := 21) ?_
    refine wp_use (m_41_r10_13 τ3 g4   _ _ (by omega) (by omega)) ?_
    rintro _ _ ⟨z49, rfl, h50, rfl⟩
    show WP 62 21 [(0, .ref 12), (1, .ref 20), (2, .ref 27), (3, iV sort)] [iV z49] _ _ _ _
    refine wp_bi jF_62_21 (by decide) rfl (pc2 := 23) ?_
    refine wp_i_ne jF_62_23 (m_rgb h50 rfl) (m_rgl rfl) rfl (pc2 := 26) ?_ ?_
    · intro h51
      refine wp_al1 jF_62_41 rfl rfl (pc2 := 42) ?_
      refine wp_gr (b := 10) jF_62_42 kd12 (by decide) (c := 110) rfl rfl rfl (pc2 := 45) ?_
      refine wp_al1 jF_62_45 rfl rfl (pc2 := 46) ?_
      refine wp_gr (b := 13) jF_62_46 kd12 (by decide) (c := 113) rfl rfl rfl (pc2 := 49) ?_
      refine wp_cV (as := [.ref 13]) (rest := []) (a := 10) (mx := 2) (ci := 6) jF_62_49 kd10 (by decide) rfl rfl rfl rfl rfl (by omega) (by omega) rfl (pc2 := 52) ?_
      refine wp_use (m_49_r10_13 τ3 g4   _ _ (by omega) (by omega)) ?_
      rintro _ τ52 ⟨z55, rfl, h56, g53, f54⟩
      show WP 62 52 [(0, .ref 12), (1, .ref 20), (2, .ref 27), (3, iV sort)] [iV z55] _ _ _ _
      refine wp_z_ne jF_62_52 (m_rgb h56 rfl) rfl (pc2 := 55) ?_ ?_
      · intro h57
        refine wp_al1 jF_62_57 rfl rfl (pc2 := 58) ?_
        refine wp_al1 jF_62_58 rfl rfl (pc2 := 59) ?_
        refine wp_gr (b := 10) jF_62_59 kd12 (by decide) (c := 110) rfl rfl rfl (pc2 := 62) ?_
        have b58 := GI.b g53 10 7 kd10 (lo := (-2147483648)) (hi := 2147483647) rfl
        refine wp_gi jF_62_62 kd10 (by decide) rfl rfl rfl (pc2 := 65) ?_
        refine wp_cV (as := [iV (τ52.1 10 7)]) (rest := []) (a := 20) (mx := 3) (ci := 8) jF_62_65 kd20 (by decide) rfl rfl rfl rfl rfl (by omega) (by omega) rfl (pc2 := 68) ?_
        refine wp_use (m_50_r20 τ52 g53 (τ52.1 10 7) (by omega) (by omega)  _ _ (by omega) (by omega)) ?_
        rintro _ _ ⟨z61, rfl, h62, rfl⟩
        show WP 62 68 [(0, .ref 12), (1, .ref 20), (2, .ref 27), (3, iV sort)] [iV z61] _ _ _ _
        refine wp_is2 (lv2 := [(0, .ref 12), (1, .ref 20), (2, .ref 27), (3, iV sort), (4, iV z61)]) jF_62_68 rfl rfl rfl (pc2 := 70) ?_
        refine wp_il1 jF_62_70 rfl rfl (pc2 := 71) ?_
        refine wp_ic jF_62_71 rfl (pc2 := 72) ?_
        refine wp_mul jF_62_72 rfl (pc2 := 73) ?_
        refine wp_is2 (lv2 := [(0, .ref 12), (1, .ref 20), (2, .ref 27), (3, iV sort), (4, iV z61), (5, iV (sort * 4))]) jF_62_73 rfl rfl rfl (pc2 := 75) ?_
        refine wp_il2 jF_62_75 rfl rfl (pc2 := 77) ?_
        refine wp_il2 jF_62_77 rfl rfl (pc2 := 79) ?_
        refine wp_i_lt jF_62_79 (m_rgb h62 rfl) ⟨by omega, by omega⟩ rfl (pc2 := 82) ?_ ?_
        · intro h63
          refine wp_al1 jF_62_91 rfl rfl (pc2 := 92) ?_
          refine wp_gr (b := 10) jF_62_92 kd12 (by decide) (c := 110) rfl rfl rfl (pc2 := 95) ?_
          refine wp_ic jF_62_95 rfl (pc2 := 96) ?_
          refine wp_al1 jF_62_96 rfl rfl (pc2 := 97) ?_
          refine wp_gr (b := 10) jF_62_97 kd12 (by decide) (c := 110) rfl rfl rfl (pc2 := 100) ?_
          have b64 := GI.b g53 10 5 kd10 (lo := 0) (hi := 1600) rfl
          refine wp_gi jF_62_100 kd10 (by decide) rfl rfl rfl (pc2 := 103) ?_
          refine wp_cV (as := [iV 3, iV (τ52.1 10 5)]) (rest := []) (a := 10) (mx := 3) (ci := 6) jF_62_103 kd10 (by decide) rfl rfl rfl rfl rfl (by omega) (by omega) rfl (pc2 := 106) ?_
          refine wp_use (m_42_r10 τ52 g53 3 (by omega) (by omega) (τ52.1 10 5) (by omega) (by omega)  _ _ (by omega) (by omega)) ?_
          rintro _ τ65 ⟨z68, rfl, h69, g66, f67⟩
          show WP 62 106 [(0, .ref 12), (1, .ref 20), (2, .ref 27), (3, iV sort), (4, iV z61), (5, iV (sort * 4))] [iV z68] _ _ _ _
          refine wp_ri jF_62_106 (m_fitb (by omega) (by omega)) ?_
          have b70 := GI.b hg 27 5 kd27 (lo := 0) (hi := 16) rfl
          have q71 : (τ65.1 27 5) = (σ.1 27 5) := ((FR.at f67 27 5 rfl).trans ((FR.at f54 27 5 rfl).trans (FR.at f5 27 5 rfl)))
          exact ⟨z68, rfl, ⟨by omega, by omega⟩, g66, (FR.up (FR.up (FR.up FR.rf f5 sb_Wtp_WQ27) f54 sb_Wtp_WQ27) f67 sb_Wtp_WQ27), (by omega)⟩
        · intro h63
          refine wp_il2 jF_62_82 rfl rfl (pc2 := 84) ?_
          refine wp_il2 jF_62_84 rfl rfl (pc2 := 86) ?_
          refine wp_ic jF_62_86 rfl (pc2 := 87) ?_
          refine wp_add jF_62_87 rfl (pc2 := 88) ?_
          refine wp_i_lt jF_62_88 ⟨by omega, by omega⟩ ⟨by omega, by omega⟩ rfl (pc2 := 91) ?_ ?_
          · intro h72
            refine wp_al1 jF_62_107 rfl rfl (pc2 := 108) ?_
            refine wp_il1 jF_62_108 rfl rfl (pc2 := 109) ?_
            refine wp_il2 jF_62_109 rfl rfl (pc2 := 111) ?_
            refine wp_cV (as := [iV sort, iV z61]) (rest := []) (a := 27) (mx := 4) (ci := 7) jF_62_111 kd27 (by decide) rfl rfl rfl rfl rfl (by omega) (by omega) rfl (pc2 := 114) ?_
            have b73 := GI.b hg 27 5 kd27 (lo := 0) (hi := 16) rfl
            have q74 : (τ52.1 27 5) = (σ.1 27 5) := ((FR.at f54 27 5 rfl).trans (FR.at f5 27 5 rfl))
            refine wp_use (m_63_r27 τ52 g53 sort (by omega) (by omega) z61 (by omega) (by omega)  _ _ (by omega) (by omega)) ?_
            rintro _ τ76 ⟨rfl, g77, f78, p75⟩
            show WP 62 114 [(0, .ref 12), (1, .ref 20), (2, .ref 27), (3, iV sort), (4, iV z61), (5, iV (sort * 4))] [] _ _ _ _
            refine wp_ic jF_62_114 rfl (pc2 := 115) ?_
            refine wp_ri jF_62_115 rfl ?_
            have b79 := GI.b g77 27 5 kd27 (lo := 0) (hi := 16) rfl
            exact ⟨1, rfl, ⟨by omega, by omega⟩, g77, (FR.up (FR.up (FR.up FR.rf f5 sb_Wtp_WQ27) f54 sb_Wtp_WQ27) f78 sb_WT27_WQ27), (by omega)⟩
          · intro h72
            refine wp_al1 jF_62_91 rfl rfl (pc2 := 92) ?_
            refine wp_gr (b := 10) jF_62_92 kd12 (by decide) (c := 110) rfl rfl rfl (pc2 := 95) ?_
            refine wp_ic jF_62_95 rfl (pc2 := 96) ?_
            refine wp_al1 jF_62_96 rfl rfl (pc2 := 97) ?_
            refine wp_gr (b := 10) jF_62_97 kd12 (by decide) (c := 110) rfl rfl rfl (pc2 := 100) ?_
            have b80 := GI.b g53 10 5 kd10 (lo := 0) (hi := 1600) rfl
            refine wp_gi jF_62_100 kd10 (by decide) rfl rfl rfl (pc2 := 103) ?_
            refine wp_cV (as := [iV 3, iV (τ52.1 10 5)]) (rest := []) (a := 10) (mx := 3) (ci := 6) jF_62_103 kd10 (by decide) rfl rfl rfl rfl rfl (by omega) (by omega) rfl (pc2 := 106) ?_
            refine wp_use (m_42_r10 τ52 g53 3 (by omega) (by omega) (τ52.1 10 5) (by omega) (by omega)  _ _ (by omega) (by omega)) ?_
            rintro _ τ81 ⟨z84, rfl, h85, g82, f83⟩
            show WP 62 106 [(0, .ref 12), (1, .ref 20), (2, .ref 27), (3, iV sort), (4, iV z61), (5, iV (sort * 4))] [iV z84] _ _ _ _
            refine wp_ri jF_62_106 (m_fitb (by omega) (by omega)) ?_
            have b86 := GI.b hg 27 5 kd27 (lo := 0) (hi := 16) rfl
            have q87 : (τ81.1 27 5) = (σ.1 27 5) := ((FR.at f83 27 5 rfl).trans ((FR.at f54 27 5 rfl).trans (FR.at f5 27 5 rfl)))
            exact ⟨z84, rfl, ⟨by omega, by omega⟩, g82, (FR.up (FR.up (FR.up FR.rf f5 sb_Wtp_WQ27) f54 sb_Wtp_WQ27) f83 sb_Wtp_WQ27), (by omega)⟩
      · intro h57
        refine wp_ic jF_62_55 rfl (pc2 := 56) ?_
        refine wp_ri jF_62_56 rfl ?_
        have b88 := GI.b hg 27 5 kd27 (lo := 0) (hi := 16) rfl
        have q89 : (τ52.1 27 5) = (σ.1 27 5) := ((FR.at f54 27 5 rfl).trans (FR.at f5 27 5 rfl))
        exact ⟨0, rfl, ⟨by omega, by omega⟩, g53, (FR.up (FR.up FR.rf f5 sb_Wtp_WQ27) f54 sb_Wtp_WQ27), (by omega)⟩
    · intro h51
      refine wp_al1 jF_62_26 rfl rfl (pc2 := 27) ?_
      refine wp_gr (b := 10) jF_62_27 kd12 (by decide) (c := 110) rfl rfl rfl (pc2 := 30) ?_
      refine wp_cV (as := []) (rest := []) (a := 10) (mx := 1) (ci := 6) jF_62_30 kd10 (by decide) rfl rfl rfl rfl rfl (by omega) (by omega) rfl (pc2 := 33) ?_
      have b90 := GI.b g4 10 5 kd10 (lo := 0) (hi := 1600) rfl
      have b91 := GI.b g4 10 6 kd10 (lo := 0) (hi := 1600) rfl
      refine wp_use (m_45_r10 τ3 g4  (by omega) _ _ (by omega) (by omega)) ?_
      rintro _ τ92 ⟨rfl, g93, f94⟩
      show WP 62 33 [(0, .ref 12), (1, .ref 20), (2, .ref 27), (3, iV sort)] [] _ _ _ _
      refine wp_al1 jF_62_33 rfl rfl (pc2 := 34) ?_
      refine wp_il1 jF_62_34 rfl rfl (pc2 := 35) ?_
      refine wp_ic jF_62_35 rfl (pc2 := 36) ?_
      refine wp_cV (as := [iV sort, iV (-1)]) (rest := []) (a := 27) (mx := 4) (ci := 7) jF_62_36 kd27 (by decide) rfl rfl rfl rfl rfl (by omega) (by omega) rfl (pc2 := 39) ?_
      have b95 := GI.b hg 27 5 kd27 (lo := 0) (hi := 16) rfl
      have q96 : (τ92.1 27 5) = (σ.1 27 5) := ((FR.at f94 27 5 rfl).trans (FR.at f5 27 5 rfl))
      refine wp_use (m_63_r27 τ92 g93 sort (by omega) (by omega) (-1) (by omega) (by omega)  _ _ (by omega) (by omega)) ?_
      rintro _ τ98 ⟨rfl, g99, f100, p97⟩
      show WP 62 39 [(0, .ref 12), (1, .ref 20), (2, .ref 27), (3, iV sort)] [] _ _ _ _
      refine wp_ic jF_62_39 rfl (pc2 := 40) ?_
      refine wp_ri jF_62_40 rfl ?_
      have b101 := GI.b g99 27 5 kd27 (lo := 0) (hi := 16) rfl
      exact ⟨1, rfl, ⟨by omega, by omega⟩, g99, (FR.up (FR.up (FR.up FR.rf f5 sb_Wtp_WQ27) f94 sb_Wtp_WQ27) f100 sb_WT27_WQ27), (by omega)⟩
set_option maxHeartbeats 4000000 in
set_option maxRecDepth 20000 in
/-- TongueReader.takesCases -/
theorem m_60_r12_20_27 (σ : jM) (hg : GI σ)   (fr lo : Nat) (hfr : 4 ≤ fr) (hlo : 88 ≤ lo) : WP 60 0 (lv_args 0 [.ref 12, .ref 20, .ref 27]) [] fr lo σ (fun v τ => ∃ z : Int, v = some (iV z) ∧ (0 ≤ z ∧ z ≤ 1) ∧ GI τ ∧ FR WQ27 σ τ ∧ ((τ.1 27 5) = (σ.1 27 5))) := by
  show WP 60 0 [(0, .ref 12), (1, .ref 20), (2, .ref 27)] [] _ _ _ _
  refine wp_al1 jF_60_0 rfl rfl (pc2 := 1) ?_
  refine wp_gr (b := 10) jF_60_1 kd12 (by decide) (c := 110) rfl rfl rfl (pc2 := 4) ?_
  refine wp_cV (as := []) (rest := []) (a := 10) (mx := 2) (ci := 6) jF_60_4 kd10 (by decide) rfl rfl rfl rfl rfl (by omega) (by omega) rfl (pc2 := 7) ?_
  have b1 := GI.b hg 10 1 kd10 (lo := 0) (hi := 1600) rfl
  refine wp_use (m_37_r10 σ hg   _ _ (by omega) (by omega)) ?_
  rintro _ τ3 ⟨z6, rfl, h7, g4, f5, p2⟩
  show WP 60 7 [(0, .ref 12), (1, .ref 20), (2, .ref 27)] [iV z6] _ _ _ _
  refine wp_z_eq jF_60_7 (m_rgb h7 rfl) rfl (pc2 := 10) ?_ ?_
  · intro h8
    clear p2
    refine wp_ic jF_60_24 rfl (pc2 := 25) ?_
    refine wp_is1 (lv2 := [(0, .ref 12), (1, .ref 20), (2, .ref 27), (3, iV (-1))]) jF_60_25 rfl rfl rfl (pc2 := 26) ?_
    refine wp_il1 jF_60_26 rfl rfl (pc2 := 27) ?_
    refine wp_bi jF_60_27 (by decide) rfl (pc2 := 29) ?_
    refine wp_i_eq jF_60_29 (m_rgl rfl) (m_rgl rfl) rfl (pc2 := 32) ?_ ?_
    · intro h9; exfalso; omega
    · intro h9
      refine wp_il1 jF_60_32 rfl rfl (pc2 := 33) ?_
      refine wp_bi jF_60_33 (by decide) rfl (pc2 := 35) ?_
      refine wp_i_eq jF_60_35 (m_rgl rfl) (m_rgl rfl) rfl (pc2 := 38) ?_ ?_
      · intro h10; exfalso; omega
      · intro h10
        refine wp_al1 jF_60_38 rfl rfl (pc2 := 39) ?_
        refine wp_gr (b := 10) jF_60_39 kd12 (by decide) (c := 110) rfl rfl rfl (pc2 := 42) ?_
        refine wp_ic jF_60_42 rfl (pc2 := 43) ?_
        refine wp_al1 jF_60_43 rfl rfl (pc2 := 44) ?_
        refine wp_gr (b := 10) jF_60_44 kd12 (by decide) (c := 110) rfl rfl rfl (pc2 := 47) ?_
        have b11 := GI.b g4 10 2 kd10 (lo := 0) (hi := 1600) rfl
        refine wp_gi jF_60_47 kd10 (by decide) rfl rfl rfl (pc2 := 50) ?_
        refine wp_cV (as := [iV 1, iV (τ3.1 10 2)]) (rest := []) (a := 10) (mx := 3) (ci := 6) jF_60_50 kd10 (by decide) rfl rfl rfl rfl rfl (by omega) (by omega) rfl (pc2 := 53) ?_
        refine wp_use (m_42_r10 τ3 g4 1 (by omega) (by omega) (τ3.1 10 2) (by omega) (by omega)  _ _ (by omega) (by omega)) ?_
        rintro _ τ12 ⟨z15, rfl, h16, g13, f14⟩
        show WP 60 53 [(0, .ref 12), (1, .ref 20), (2, .ref 27), (3, iV (-1))] [iV z15] _ _ _ _
        refine wp_ri jF_60_53 (m_fitb (by omega) (by omega)) ?_
        have b17 := GI.b hg 27 5 kd27 (lo := 0) (hi := 16) rfl
        have q18 : (τ12.1 27 5) = (σ.1 27 5) := ((FR.at f14 27 5 rfl).trans (FR.at f5 27 5 rfl))
        exact ⟨z15, rfl, ⟨by omega, by omega⟩, g13, (FR.up (FR.up FR.rf f5 sb_Wtp_WQ27) f14 sb_Wtp_WQ27), (by omega)⟩
  · intro h8
    replace p2 := p2 (by omega)
    refine wp_al1 jF_60_10 rfl rfl (pc2 := 11) ?_
    refine wp_gr (b := 10) jF_60_11 kd12 (by decide) (c := 110) rfl rfl rfl (pc2 := 14) ?_
    refine wp_al1 jF_60_14 rfl rfl (pc2 := 15) ?_
    refine wp_gr (b := 13) jF_60_15 kd12 (by decide) (c := 113) rfl rfl rfl (pc2 := 18) ?_
    refine wp_cV (as := [.ref 13]) (rest := []) (a := 10) (mx := 3) (ci := 6) jF_60_18 kd10 (by decide) rfl rfl rfl rfl rfl (by omega) (by omega) rfl (pc2 := 21) ?_
    refine wp_use (m_41_r10_13 τ3 g4   _ _ (by omega) (by omega)) ?_
    rintro _ _ ⟨z21, rfl, h22, rfl⟩
    show WP 60 21 [(0, .ref 12), (1, .ref 20), (2, .ref 27)] [iV z21] _ _ _ _
    refine wp_go jF_60_21 ?_
    refine wp_is1 (lv2 := [(0, .ref 12), (1, .ref 20), (2, .ref 27), (3, iV z21)]) jF_60_25 rfl rfl rfl (pc2 := 26) ?_
    refine wp_il1 jF_60_26 rfl rfl (pc2 := 27) ?_
    refine wp_bi jF_60_27 (by decide) rfl (pc2 := 29) ?_
    refine wp_i_eq jF_60_29 (m_rgb h22 rfl) (m_rgl rfl) rfl (pc2 := 32) ?_ ?_
    · intro h23
      refine wp_al1 jF_60_54 rfl rfl (pc2 := 55) ?_
      refine wp_gr (b := 10) jF_60_55 kd12 (by decide) (c := 110) rfl rfl rfl (pc2 := 58) ?_
      refine wp_cV (as := []) (rest := []) (a := 10) (mx := 1) (ci := 6) jF_60_58 kd10 (by decide) rfl rfl rfl rfl rfl (by omega) (by omega) rfl (pc2 := 61) ?_
      have b24 := GI.b g4 10 5 kd10 (lo := 0) (hi := 1600) rfl
      have b25 := GI.b g4 10 6 kd10 (lo := 0) (hi := 1600) rfl
      refine wp_use (m_45_r10 τ3 g4  (by omega) _ _ (by omega) (by omega)) ?_
      rintro _ τ26 ⟨rfl, g27, f28⟩
      show WP 60 61 [(0, .ref 12), (1, .ref 20), (2, .ref 27), (3, iV z21)] [] _ _ _ _
      refine wp_al1 jF_60_61 rfl rfl (pc2 := 62) ?_
      refine wp_il1 jF_60_62 rfl rfl (pc2 := 63) ?_
      refine wp_bi jF_60_63 (by decide) rfl (pc2 := 65) ?_
      refine wp_i_ne jF_60_65 ⟨by omega, by omega⟩ (m_rgl rfl) rfl (pc2 := 68) ?_ ?_
      · intro h29; exfalso; omega
      · intro h29
        refine wp_ic jF_60_68 rfl (pc2 := 69) ?_
        refine wp_go jF_60_69 ?_
        refine wp_cV (as := [iV 1]) (rest := []) (a := 27) (mx := 2) (ci := 7) jF_60_73 kd27 (by decide) rfl rfl rfl rfl rfl (by omega) (by omega) rfl (pc2 := 76) ?_
        have b30 := GI.b hg 27 5 kd27 (lo := 0) (hi := 16) rfl
        have q31 : (τ26.1 27 5) = (σ.1 27 5) := ((FR.at f28 27 5 rfl).trans (FR.at f5 27 5 rfl))
        refine wp_use (m_61_r27 τ26 g27 1 (by omega) (by omega)  _ _ (by omega) (by omega)) ?_
        rintro _ τ33 ⟨rfl, g34, f35, p32⟩
        show WP 60 76 [(0, .ref 12), (1, .ref 20), (2, .ref 27), (3, iV z21)] [] _ _ _ _
        refine wp_ic jF_60_76 rfl (pc2 := 77) ?_
        refine wp_is2 (lv2 := [(0, .ref 12), (1, .ref 20), (2, .ref 27), (3, iV z21), (4, iV 0)]) jF_60_77 rfl rfl rfl (pc2 := 79) ?_
        refine wp_loop (α := Int) (fun a => [(0, .ref 12), (1, .ref 20), (2, .ref 27), (3, iV z21), (4, iV (a))]) (fun a τ => (0 ≤ a ∧ a ≤ 3) ∧ GI τ ∧ FR WQ27 τ33 τ ∧ ((τ.1 27 5) = (σ.1 27 5))) (fun a τ => Int.toNat (3 - (a))) (0) τ33 ?_ ?_
        · skip
          have b36 := GI.b g34 27 5 kd27 (lo := 0) (hi := 16) rfl
          exact ⟨⟨by omega, by omega⟩, g34, FR.rf, (by omega)⟩
        · rintro x37 τ39 ⟨h38, g40, f41, p42⟩ ih43
          have b44 := GI.b g40 27 5 kd27 (lo := 0) (hi := 16) rfl
          show WP 60 79 [(0, .ref 12), (1, .ref 20), (2, .ref 27), (3, iV z21), (4, iV x37)] [] _ _ _ _
          show WP 60 79 [(0, .ref 12), (1, .ref 20), (2, .ref 27), (3, iV z21), (4, iV x37)] [] _ _ _ _
          refine wp_il2 jF_60_79 rfl rfl (pc2 := 81) ?_
          refine wp_ic jF_60_81 rfl (pc2 := 82) ?_
          refine wp_i_ge jF_60_82 (m_rgb h38 rfl) (m_rgl rfl) rfl (pc2 := 85) ?_ ?_
          · intro h45
            refine wp_ic jF_60_104 rfl (pc2 := 105) ?_
            refine wp_ri jF_60_105 rfl ?_
            exact ⟨1, rfl, ⟨by omega, by omega⟩, g40, (FR.up (FR.up (FR.up (FR.up FR.rf f5 sb_Wtp_WQ27) f28 sb_Wtp_WQ27) f35 sb_WT27_WQ27) f41 sb_WQ27_WQ27), (by omega)⟩
          · intro h45
            refine wp_al1 jF_60_85 rfl rfl (pc2 := 86) ?_
            refine wp_al1 jF_60_86 rfl rfl (pc2 := 87) ?_
            refine wp_al1 jF_60_87 rfl rfl (pc2 := 88) ?_
            refine wp_il2 jF_60_88 rfl rfl (pc2 := 90) ?_
            refine wp_cV (as := [.ref 20, .ref 27, iV x37]) (rest := []) (a := 12) (mx := 6) (ci := 9) jF_60_90 kd12 (by decide) rfl rfl rfl rfl rfl (by omega) (by omega) rfl (pc2 := 93) ?_
            refine wp_use (m_62_r12_20_27 τ39 g40 x37 (by omega) (by omega)  _ _ (by omega) (by omega)) ?_
            rintro _ τ47 ⟨z50, rfl, h51, g48, f49, p46⟩
            show WP 60 93 [(0, .ref 12), (1, .ref 20), (2, .ref 27), (3, iV z21), (4, iV x37)] [iV z50] _ _ _ _
            refine wp_z_ne jF_60_93 (m_rgb h51 rfl) rfl (pc2 := 96) ?_ ?_
            · intro h52
              refine wp_inc (lv2 := [(0, .ref 12), (1, .ref 20), (2, .ref 27), (3, iV z21), (4, iV (x37 + 1))]) jF_60_98 rfl rfl rfl rfl (pc2 := 101) ?_
              refine wp_go jF_60_101 ?_
              have b53 := GI.b g48 27 5 kd27 (lo := 0) (hi := 16) rfl
              exact ih43 ((x37 + 1)) τ47 ⟨⟨by omega, by omega⟩, g48, (FR.up f41 f49 sb_WQ27_WQ27), (by omega)⟩ (by show Int.toNat (3 - (x37 + 1)) < Int.toNat (3 - x37); omega)
            · intro h52
              refine wp_ic jF_60_96 rfl (pc2 := 97) ?_
              refine wp_ri jF_60_97 rfl ?_
              have b54 := GI.b g48 27 5 kd27 (lo := 0) (hi := 16) rfl
              exact ⟨0, rfl, ⟨by omega, by omega⟩, g48, (FR.up (FR.up (FR.up (FR.up (FR.up FR.rf f5 sb_Wtp_WQ27) f28 sb_Wtp_WQ27) f35 sb_WT27_WQ27) f41 sb_WQ27_WQ27) f49 sb_WQ27_WQ27), (by omega)⟩
    · intro h23
      refine wp_il1 jF_60_32 rfl rfl (pc2 := 33) ?_
      refine wp_bi jF_60_33 (by decide) rfl (pc2 := 35) ?_
      refine wp_i_eq jF_60_35 (m_rgb h22 rfl) (m_rgl rfl) rfl (pc2 := 38) ?_ ?_
      · intro h55
        refine wp_al1 jF_60_54 rfl rfl (pc2 := 55) ?_
        refine wp_gr (b := 10) jF_60_55 kd12 (by decide) (c := 110) rfl rfl rfl (pc2 := 58) ?_
        refine wp_cV (as := []) (rest := []) (a := 10) (mx := 1) (ci := 6) jF_60_58 kd10 (by decide) rfl rfl rfl rfl rfl (by omega) (by omega) rfl (pc2 := 61) ?_
        have b56 := GI.b g4 10 5 kd10 (lo := 0) (hi := 1600) rfl
        have b57 := GI.b g4 10 6 kd10 (lo := 0) (hi := 1600) rfl
        refine wp_use (m_45_r10 τ3 g4  (by omega) _ _ (by omega) (by omega)) ?_
        rintro _ τ58 ⟨rfl, g59, f60⟩
        show WP 60 61 [(0, .ref 12), (1, .ref 20), (2, .ref 27), (3, iV z21)] [] _ _ _ _
        refine wp_al1 jF_60_61 rfl rfl (pc2 := 62) ?_
        refine wp_il1 jF_60_62 rfl rfl (pc2 := 63) ?_
        refine wp_bi jF_60_63 (by decide) rfl (pc2 := 65) ?_
        refine wp_i_ne jF_60_65 ⟨by omega, by omega⟩ (m_rgl rfl) rfl (pc2 := 68) ?_ ?_
        · intro h61
          refine wp_ic jF_60_72 rfl (pc2 := 73) ?_
          refine wp_cV (as := [iV 0]) (rest := []) (a := 27) (mx := 2) (ci := 7) jF_60_73 kd27 (by decide) rfl rfl rfl rfl rfl (by omega) (by omega) rfl (pc2 := 76) ?_
          have b62 := GI.b hg 27 5 kd27 (lo := 0) (hi := 16) rfl
          have q63 : (τ58.1 27 5) = (σ.1 27 5) := ((FR.at f60 27 5 rfl).trans (FR.at f5 27 5 rfl))
          refine wp_use (m_61_r27 τ58 g59 0 (by omega) (by omega)  _ _ (by omega) (by omega)) ?_
          rintro _ τ65 ⟨rfl, g66, f67, p64⟩
          show WP 60 76 [(0, .ref 12), (1, .ref 20), (2, .ref 27), (3, iV z21)] [] _ _ _ _
          refine wp_ic jF_60_76 rfl (pc2 := 77) ?_
          refine wp_is2 (lv2 := [(0, .ref 12), (1, .ref 20), (2, .ref 27), (3, iV z21), (4, iV 0)]) jF_60_77 rfl rfl rfl (pc2 := 79) ?_
          refine wp_loop (α := Int) (fun a => [(0, .ref 12), (1, .ref 20), (2, .ref 27), (3, iV z21), (4, iV (a))]) (fun a τ => (0 ≤ a ∧ a ≤ 3) ∧ GI τ ∧ FR WQ27 τ65 τ ∧ ((τ.1 27 5) = (σ.1 27 5))) (fun a τ => Int.toNat (3 - (a))) (0) τ65 ?_ ?_
          · skip
            have b68 := GI.b g66 27 5 kd27 (lo := 0) (hi := 16) rfl
            exact ⟨⟨by omega, by omega⟩, g66, FR.rf, (by omega)⟩
          · rintro x69 τ71 ⟨h70, g72, f73, p74⟩ ih75
            have b76 := GI.b g72 27 5 kd27 (lo := 0) (hi := 16) rfl
            show WP 60 79 [(0, .ref 12), (1, .ref 20), (2, .ref 27), (3, iV z21), (4, iV x69)] [] _ _ _ _
            show WP 60 79 [(0, .ref 12), (1, .ref 20), (2, .ref 27), (3, iV z21), (4, iV x69)] [] _ _ _ _
            refine wp_il2 jF_60_79 rfl rfl (pc2 := 81) ?_
            refine wp_ic jF_60_81 rfl (pc2 := 82) ?_
            refine wp_i_ge jF_60_82 (m_rgb h70 rfl) (m_rgl rfl) rfl (pc2 := 85) ?_ ?_
            · intro h77
              refine wp_ic jF_60_104 rfl (pc2 := 105) ?_
              refine wp_ri jF_60_105 rfl ?_
              exact ⟨1, rfl, ⟨by omega, by omega⟩, g72, (FR.up (FR.up (FR.up (FR.up FR.rf f5 sb_Wtp_WQ27) f60 sb_Wtp_WQ27) f67 sb_WT27_WQ27) f73 sb_WQ27_WQ27), (by omega)⟩
            · intro h77
              refine wp_al1 jF_60_85 rfl rfl (pc2 := 86) ?_
              refine wp_al1 jF_60_86 rfl rfl (pc2 := 87) ?_
              refine wp_al1 jF_60_87 rfl rfl (pc2 := 88) ?_
              refine wp_il2 jF_60_88 rfl rfl (pc2 := 90) ?_
              refine wp_cV (as := [.ref 20, .ref 27, iV x69]) (rest := []) (a := 12) (mx := 6) (ci := 9) jF_60_90 kd12 (by decide) rfl rfl rfl rfl rfl (by omega) (by omega) rfl (pc2 := 93) ?_
              refine wp_use (m_62_r12_20_27 τ71 g72 x69 (by omega) (by omega)  _ _ (by omega) (by omega)) ?_
              rintro _ τ79 ⟨z82, rfl, h83, g80, f81, p78⟩
              show WP 60 93 [(0, .ref 12), (1, .ref 20), (2, .ref 27), (3, iV z21), (4, iV x69)] [iV z82] _ _ _ _
              refine wp_z_ne jF_60_93 (m_rgb h83 rfl) rfl (pc2 := 96) ?_ ?_
              · intro h84
                refine wp_inc (lv2 := [(0, .ref 12), (1, .ref 20), (2, .ref 27), (3, iV z21), (4, iV (x69 + 1))]) jF_60_98 rfl rfl rfl rfl (pc2 := 101) ?_
                refine wp_go jF_60_101 ?_
                have b85 := GI.b g80 27 5 kd27 (lo := 0) (hi := 16) rfl
                exact ih75 ((x69 + 1)) τ79 ⟨⟨by omega, by omega⟩, g80, (FR.up f73 f81 sb_WQ27_WQ27), (by omega)⟩ (by show Int.toNat (3 - (x69 + 1)) < Int.toNat (3 - x69); omega)
              · intro h84
                refine wp_ic jF_60_96 rfl (pc2 := 97) ?_
                refine wp_ri jF_60_97 rfl ?_
                have b86 := GI.b g80 27 5 kd27 (lo := 0) (hi := 16) rfl
                exact ⟨0, rfl, ⟨by omega, by omega⟩, g80, (FR.up (FR.up (FR.up (FR.up (FR.up FR.rf f5 sb_Wtp_WQ27) f60 sb_Wtp_WQ27) f67 sb_WT27_WQ27) f73 sb_WQ27_WQ27) f81 sb_WQ27_WQ27), (by omega)⟩
        · intro h61; exfalso; omega
      · intro h55
        refine wp_al1 jF_60_38 rfl rfl (pc2 := 39) ?_
        refine wp_gr (b := 10) jF_60_39 kd12 (by decide) (c := 110) rfl rfl rfl (pc2 := 42) ?_
        refine wp_ic jF_60_42 rfl (pc2 := 43) ?_
        refine wp_al1 jF_60_43 rfl rfl (pc2 := 44) ?_
        refine wp_gr (b := 10) jF_60_44 kd12 (by decide) (c := 110) rfl rfl rfl (pc2 := 47) ?_
        have b87 := GI.b g4 10 2 kd10 (lo := 0) (hi := 1600) rfl
        refine wp_gi jF_60_47 kd10 (by decide) rfl rfl rfl (pc2 := 50) ?_
        refine wp_cV (as := [iV 1, iV (τ3.1 10 2)]) (rest := []) (a := 10) (mx := 3) (ci := 6) jF_60_50 kd10 (by decide) rfl rfl rfl rfl rfl (by omega) (by omega) rfl (pc2 := 53) ?_
        refine wp_use (m_42_r10 τ3 g4 1 (by omega) (by omega) (τ3.1 10 2) (by omega) (by omega)  _ _ (by omega) (by omega)) ?_
        rintro _ τ88 ⟨z91, rfl, h92, g89, f90⟩
        show WP 60 53 [(0, .ref 12), (1, .ref 20), (2, .ref 27), (3, iV z21)] [iV z91] _ _ _ _
        refine wp_ri jF_60_53 (m_fitb (by omega) (by omega)) ?_
        have b93 := GI.b hg 27 5 kd27 (lo := 0) (hi := 16) rfl
        have q94 : (τ88.1 27 5) = (σ.1 27 5) := ((FR.at f90 27 5 rfl).trans (FR.at f5 27 5 rfl))
        exact ⟨z91, rfl, ⟨by omega, by omega⟩, g89, (FR.up (FR.up FR.rf f5 sb_Wtp_WQ27) f90 sb_Wtp_WQ27), (by omega)⟩
set_option maxHeartbeats 4000000 in
set_option maxRecDepth 20000 in
/-- TongueReader.takesWorth -/
theorem m_64_r12_27 (σ : jM) (hg : GI σ)   (fr lo : Nat) (hfr : 3 ≤ fr) (hlo : 64 ≤ lo) : WP 64 0 (lv_args 0 [.ref 12, .ref 27]) [] fr lo σ (fun v τ => ∃ z : Int, v = some (iV z) ∧ (0 ≤ z ∧ z ≤ 1) ∧ GI τ ∧ FR WQ27 σ τ) := by
  show WP 64 0 [(0, .ref 12), (1, .ref 27)] [] _ _ _ _
  refine wp_al1 jF_64_0 rfl rfl (pc2 := 1) ?_
  refine wp_gr (b := 10) jF_64_1 kd12 (by decide) (c := 110) rfl rfl rfl (pc2 := 4) ?_
  refine wp_al1 jF_64_4 rfl rfl (pc2 := 5) ?_
  refine wp_gr (b := 13) jF_64_5 kd12 (by decide) (c := 113) rfl rfl rfl (pc2 := 8) ?_
  refine wp_bi jF_64_8 (by decide) rfl (pc2 := 10) ?_
  refine wp_cV (as := [.ref 13, iV 10]) (rest := []) (a := 10) (mx := 3) (ci := 6) jF_64_10 kd10 (by decide) rfl rfl rfl rfl rfl (by omega) (by omega) rfl (pc2 := 13) ?_
  refine wp_use (m_56_r10_13 σ hg 10 (by omega) (by omega)  _ _ (by omega) (by omega)) ?_
  rintro _ τ1 ⟨z4, rfl, h5, g2, f3⟩
  show WP 64 13 [(0, .ref 12), (1, .ref 27)] [iV z4] _ _ _ _
  refine wp_z_eq jF_64_13 (m_rgb h5 rfl) rfl (pc2 := 16) ?_ ?_
  · intro h6
    refine wp_ic jF_64_47 rfl (pc2 := 48) ?_
    refine wp_ri jF_64_48 rfl ?_
    exact ⟨0, rfl, ⟨by omega, by omega⟩, g2, (FR.up FR.rf f3 sb_Wtp_WQ27)⟩
  · intro h6
    refine wp_al1 jF_64_16 rfl rfl (pc2 := 17) ?_
    refine wp_gr (b := 10) jF_64_17 kd12 (by decide) (c := 110) rfl rfl rfl (pc2 := 20) ?_
    refine wp_ic jF_64_20 rfl (pc2 := 21) ?_
    refine wp_bi jF_64_21 (by decide) rfl (pc2 := 23) ?_
    refine wp_cV (as := [iV 1, iV 99]) (rest := []) (a := 10) (mx := 3) (ci := 6) jF_64_23 kd10 (by decide) rfl rfl rfl rfl rfl (by omega) (by omega) rfl (pc2 := 26) ?_
    refine wp_use (m_54_r10 τ1 g2 1 (by omega) (by omega) 99 (by omega) (by omega)  _ _ (by omega) (by omega)) ?_
    rintro _ τ8 ⟨z11, rfl, h12, g9, f10, p7⟩
    show WP 64 26 [(0, .ref 12), (1, .ref 27)] [iV z11] _ _ _ _
    refine wp_z_eq jF_64_26 (m_rgb h12 rfl) rfl (pc2 := 29) ?_ ?_
    · intro h13
      clear p7
      refine wp_ic jF_64_47 rfl (pc2 := 48) ?_
      refine wp_ri jF_64_48 rfl ?_
      exact ⟨0, rfl, ⟨by omega, by omega⟩, g9, (FR.up (FR.up FR.rf f3 sb_Wtp_WQ27) f10 sb_Wtp_WQ27)⟩
    · intro h13
      replace p7 := p7 (by omega)
      refine wp_al1 jF_64_29 rfl rfl (pc2 := 30) ?_
      refine wp_al1 jF_64_30 rfl rfl (pc2 := 31) ?_
      refine wp_gr (b := 10) jF_64_31 kd12 (by decide) (c := 110) rfl rfl rfl (pc2 := 34) ?_
      have b14 := GI.b g9 10 8 kd10 (lo := (-2147483648)) (hi := 2147483647) rfl
      refine wp_gi jF_64_34 kd10 (by decide) rfl rfl rfl (pc2 := 37) ?_
      refine wp_cV (as := [iV (τ8.1 10 8)]) (rest := []) (a := 27) (mx := 2) (ci := 7) jF_64_37 kd27 (by decide) rfl rfl rfl rfl rfl (by omega) (by omega) rfl (pc2 := 40) ?_
      have b15 := GI.b hg 27 5 kd27 (lo := 0) (hi := 16) rfl
      have q16 : (τ8.1 27 5) = (σ.1 27 5) := ((FR.at f10 27 5 rfl).trans (FR.at f3 27 5 rfl))
      refine wp_use (m_65_r27 τ8 g9 (τ8.1 10 8) (by omega) (by omega) (by omega) _ _ (by omega) (by omega)) ?_
      rintro _ τ18 ⟨z21, rfl, h22, g19, f20, p17⟩
      show WP 64 40 [(0, .ref 12), (1, .ref 27)] [iV z21] _ _ _ _
      refine wp_z_eq jF_64_40 (m_rgb h22 rfl) rfl (pc2 := 43) ?_ ?_
      · intro h23
        refine wp_ic jF_64_47 rfl (pc2 := 48) ?_
        refine wp_ri jF_64_48 rfl ?_
        exact ⟨0, rfl, ⟨by omega, by omega⟩, g19, (FR.up (FR.up (FR.up FR.rf f3 sb_Wtp_WQ27) f10 sb_Wtp_WQ27) f20 sb_WT27_WQ27)⟩
      · intro h23
        refine wp_ic jF_64_43 rfl (pc2 := 44) ?_
        refine wp_go jF_64_44 ?_
        refine wp_ri jF_64_48 rfl ?_
        exact ⟨1, rfl, ⟨by omega, by omega⟩, g19, (FR.up (FR.up (FR.up FR.rf f3 sb_Wtp_WQ27) f10 sb_Wtp_WQ27) f20 sb_WT27_WQ27)⟩
