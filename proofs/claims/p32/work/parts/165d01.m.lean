set_option maxHeartbeats 4000000 in
set_option maxRecDepth 20000 in
/-- Shorts.tell -/
theorem m_143_r93_20 (σ : jM) (hg : GI σ) (sen : Int) (hl_sen : (-2147483648) ≤ sen) (hu_sen : sen ≤ 2147483647) (what : Int) (hl_what : (-2147483648) ≤ what) (hu_what : what ≤ 2147483647)  (fr lo : Nat) (hfr : 3 ≤ fr) (hlo : 69 ≤ lo) : WP 143 0 (lv_args 0 [.ref 93, .ref 20, iV sen, iV what]) [] fr lo σ (fun v τ => ∃ z : Int, v = some (iV z) ∧ ((-2147483648) ≤ z ∧ z ≤ 2147483647) ∧ GI τ ∧ FR WS σ τ) := by
  show WP 143 0 [(0, .ref 93), (1, .ref 20), (2, iV sen), (3, iV what)] [] _ _ _ _
  refine wp_al1 jF_143_0 rfl rfl (pc2 := 1) ?_
  refine wp_al1 jF_143_1 rfl rfl (pc2 := 2) ?_
  refine wp_cV (as := [.ref 20]) (rest := []) (a := 93) (mx := 2) (ci := 5) jF_143_2 kd93 (by decide) rfl rfl rfl rfl rfl (by omega) (by omega) rfl (pc2 := 5) ?_
  refine wp_use (m_126_r93_20 σ hg   _ _ (by omega) (by omega)) ?_
  rintro _ τ1 ⟨rfl, g2, f3⟩
  show WP 143 5 [(0, .ref 93), (1, .ref 20), (2, iV sen), (3, iV what)] [] _ _ _ _
  refine wp_il1 jF_143_5 rfl rfl (pc2 := 6) ?_
  refine wp_z_lt jF_143_6 ⟨by omega, by omega⟩ rfl (pc2 := 9) ?_ ?_
  · intro h4
    refine wp_ic jF_143_17 rfl (pc2 := 18) ?_
    refine wp_ri jF_143_18 rfl ?_
    exact ⟨(-1), rfl, ⟨by omega, by omega⟩, g2, f3⟩
  · intro h4
    refine wp_il1 jF_143_9 rfl rfl (pc2 := 10) ?_
    refine wp_al1 jF_143_10 rfl rfl (pc2 := 11) ?_
    have b5 := GI.b g2 93 9 kd93 (lo := 0) (hi := 1752) rfl
    refine wp_gi jF_143_11 kd93 (by decide) rfl rfl rfl (pc2 := 14) ?_
    refine wp_i_lt jF_143_14 ⟨by omega, by omega⟩ (m_rgb b5 rfl) rfl (pc2 := 17) ?_ ?_
    · intro h6
      refine wp_il1 jF_143_19 rfl rfl (pc2 := 20) ?_
      rcases m_tsw what 0 2 with h7 | h7
      · refine wp_tswd (tgt := 81) jF_143_20 ⟨by omega, by omega⟩ h7 (by decide) ?_
        refine wp_ic jF_143_81 rfl (pc2 := 82) ?_
        refine wp_ri jF_143_82 rfl ?_
        exact ⟨(-1), rfl, ⟨by omega, by omega⟩, g2, f3⟩
      · have h7c : what = 0 ∨ what = 1 ∨ what = 2 := by omega
        rcases h7c with hh | hh | hh
        · refine wp_tswx (x := 0) (tgt := 48) jF_143_20 hh (by decide) ?_
          subst hh
          refine wp_al1 jF_143_48 rfl rfl (pc2 := 49) ?_
          refine wp_il1 jF_143_49 rfl rfl (pc2 := 50) ?_
          refine wp_cV (as := [iV sen]) (rest := []) (a := 93) (mx := 3) (ci := 5) jF_143_50 kd93 (by decide) rfl rfl rfl rfl rfl (by omega) (by omega) rfl (pc2 := 53) ?_
          refine wp_use (m_131_r93 τ1 g2 sen (by omega) (by omega)  _ _ (by omega) (by omega)) ?_
          rintro _ _ ⟨z10, rfl, h11, rfl⟩
          show WP 143 53 [(0, .ref 93), (1, .ref 20), (2, iV sen), (3, iV 0)] [iV z10] _ _ _ _
          refine wp_ri jF_143_53 rfl ?_
          exact ⟨z10, rfl, ⟨by omega, by omega⟩, g2, f3⟩
        · refine wp_tswx (x := 1) (tgt := 54) jF_143_20 hh (by decide) ?_
          subst hh
          refine wp_al1 jF_143_54 rfl rfl (pc2 := 55) ?_
          refine wp_gr (b := 95) jF_143_55 kd93 (by decide) (c := 195) rfl rfl rfl (pc2 := 58) ?_
          refine wp_il1 jF_143_58 rfl rfl (pc2 := 59) ?_
          refine wp_lald (n := 1752) jF_143_59 kd95 (by decide) rfl rfl (by omega) (by omega) rfl (pc2 := 60) ?_
          intro y12
          refine wp_cS (as := [.long y12]) (rest := []) (mx := 2) jF_143_60 rfl rfl rfl rfl (by omega) (by omega) rfl (pc2 := 63) ?_
          refine wp_use (m_96_r τ1 g2 y12  _ _ (by omega) (by omega)) ?_
          rintro _ _ ⟨z15, rfl, h16, rfl⟩
          show WP 143 63 [(0, .ref 93), (1, .ref 20), (2, iV sen), (3, iV 1)] [iV z15] _ _ _ _
          refine wp_ri jF_143_63 rfl ?_
          exact ⟨z15, rfl, ⟨by omega, by omega⟩, g2, f3⟩
        · refine wp_tswx (x := 2) (tgt := 64) jF_143_20 hh (by decide) ?_
          subst hh
          refine wp_al1 jF_143_64 rfl rfl (pc2 := 65) ?_
          refine wp_gr (b := 39) jF_143_65 kd20 (by decide) (c := 22) rfl rfl rfl (pc2 := 68) ?_
          refine wp_al1 jF_143_68 rfl rfl (pc2 := 69) ?_
          refine wp_gr (b := 95) jF_143_69 kd93 (by decide) (c := 195) rfl rfl rfl (pc2 := 72) ?_
          refine wp_il1 jF_143_72 rfl rfl (pc2 := 73) ?_
          refine wp_lald (n := 1752) jF_143_73 kd95 (by decide) rfl rfl (by omega) (by omega) rfl (pc2 := 74) ?_
          intro y17
          refine wp_cV (as := [.long y17]) (rest := []) (a := 39) (mx := 3) (ci := 7) jF_143_74 kd39 (by decide) rfl rfl rfl rfl rfl (by omega) (by omega) rfl (pc2 := 77) ?_
          refine wp_use (m_86_r39 τ1 g2 y17  _ _ (by omega) (by omega)) ?_
          rintro _ _ ⟨z20, rfl, h21, rfl⟩
          show WP 143 77 [(0, .ref 93), (1, .ref 20), (2, iV sen), (3, iV 2)] [iV z20] _ _ _ _
          refine wp_cS (as := [iV z20]) (rest := []) (mx := 1) jF_143_77 rfl rfl rfl rfl (by omega) (by omega) rfl (pc2 := 80) ?_
          show WP 98 0 [(0, iV z20)] [] _ _ _ _
          refine wp_il1 jF_98_0 rfl rfl (pc2 := 1) ?_
          refine wp_z_eq jF_98_1 (m_rgb h21 rfl) rfl (pc2 := 4) ?_ ?_
          · intro h22
            refine wp_ic jF_98_8 rfl (pc2 := 9) ?_
            refine wp_ri jF_98_9 rfl ?_
            show WP 143 80 [(0, .ref 93), (1, .ref 20), (2, iV sen), (3, iV 2)] [iV 0] _ _ _ _
            refine wp_ri jF_143_80 rfl ?_
            exact ⟨0, rfl, ⟨by omega, by omega⟩, g2, f3⟩
          · intro h22
            refine wp_ic jF_98_4 rfl (pc2 := 5) ?_
            refine wp_go jF_98_5 ?_
            refine wp_ri jF_98_9 rfl ?_
            show WP 143 80 [(0, .ref 93), (1, .ref 20), (2, iV sen), (3, iV 2)] [iV 1] _ _ _ _
            refine wp_ri jF_143_80 rfl ?_
            exact ⟨1, rfl, ⟨by omega, by omega⟩, g2, f3⟩
    · intro h6
      refine wp_ic jF_143_17 rfl (pc2 := 18) ?_
      refine wp_ri jF_143_18 rfl ?_
      exact ⟨(-1), rfl, ⟨by omega, by omega⟩, g2, f3⟩
set_option maxHeartbeats 4000000 in
set_option maxRecDepth 20000 in
/-- Shorts.fittingOnes -/
theorem m_165_r93_20 (σ : jM) (hg : GI σ) (what : Int) (hl_what : (-2147483648) ≤ what) (hu_what : what ≤ 2147483647)  (fr lo : Nat) (hfr : 3 ≤ fr) (hlo : 69 ≤ lo) : WP 165 0 (lv_args 0 [.ref 93, .ref 20, iV what]) [] fr lo σ (fun v τ => ∃ z : Int, v = some (iV z) ∧ ((-2147483648) ≤ z ∧ z ≤ 2147483647) ∧ GI τ ∧ FR WS σ τ) := by
  show WP 165 0 [(0, .ref 93), (1, .ref 20), (2, iV what)] [] _ _ _ _
  refine wp_al1 jF_165_0 rfl rfl (pc2 := 1) ?_
  refine wp_al1 jF_165_1 rfl rfl (pc2 := 2) ?_
  refine wp_cV (as := [.ref 20]) (rest := []) (a := 93) (mx := 2) (ci := 5) jF_165_2 kd93 (by decide) rfl rfl rfl rfl rfl (by omega) (by omega) rfl (pc2 := 5) ?_
  refine wp_use (m_126_r93_20 σ hg   _ _ (by omega) (by omega)) ?_
  rintro _ τ1 ⟨rfl, g2, f3⟩
  show WP 165 5 [(0, .ref 93), (1, .ref 20), (2, iV what)] [] _ _ _ _
  refine wp_il1 jF_165_5 rfl rfl (pc2 := 6) ?_
  rcases m_tsw what 0 2 with h4 | h4
  · refine wp_tswd (tgt := 64) jF_165_6 ⟨by omega, by omega⟩ h4 (by decide) ?_
    refine wp_ic jF_165_64 rfl (pc2 := 65) ?_
    refine wp_ri jF_165_65 rfl ?_
    exact ⟨(-1), rfl, ⟨by omega, by omega⟩, g2, f3⟩
  · have h4c : what = 0 ∨ what = 1 ∨ what = 2 := by omega
    rcases h4c with hh | hh | hh
    · refine wp_tswx (x := 0) (tgt := 32) jF_165_6 hh (by decide) ?_
      subst hh
      refine wp_al1 jF_165_32 rfl rfl (pc2 := 33) ?_
      have b5 := GI.b g2 93 11 kd93 (lo := (-2147483648)) (hi := 2147483647) rfl
      refine wp_gi jF_165_33 kd93 (by decide) rfl rfl rfl (pc2 := 36) ?_
      refine wp_ri jF_165_36 rfl ?_
      exact ⟨(τ1.1 93 11), rfl, ⟨by omega, by omega⟩, g2, f3⟩
    · refine wp_tswx (x := 1) (tgt := 37) jF_165_6 hh (by decide) ?_
      subst hh
      refine wp_al1 jF_165_37 rfl rfl (pc2 := 38) ?_
      have b6 := GI.b g2 93 11 kd93 (lo := (-2147483648)) (hi := 2147483647) rfl
      refine wp_gi jF_165_38 kd93 (by decide) rfl rfl rfl (pc2 := 41) ?_
      refine wp_z_ne jF_165_41 (m_rgb b6 rfl) rfl (pc2 := 44) ?_ ?_
      · intro h7
        refine wp_al1 jF_165_48 rfl rfl (pc2 := 49) ?_
        refine wp_glA jF_165_49 kd93 (by decide) rfl rfl (pc2 := 52) ?_
        intro y8
        refine wp_cS (as := [.long y8]) (rest := []) (mx := 2) jF_165_52 rfl rfl rfl rfl (by omega) (by omega) rfl (pc2 := 55) ?_
        refine wp_use (m_96_r τ1 g2 y8  _ _ (by omega) (by omega)) ?_
        rintro _ _ ⟨z11, rfl, h12, rfl⟩
        show WP 165 55 [(0, .ref 93), (1, .ref 20), (2, iV 1)] [iV z11] _ _ _ _
        refine wp_ri jF_165_55 rfl ?_
        exact ⟨z11, rfl, ⟨by omega, by omega⟩, g2, f3⟩
      · intro h7
        refine wp_ic jF_165_44 rfl (pc2 := 45) ?_
        refine wp_go jF_165_45 ?_
        refine wp_ri jF_165_55 rfl ?_
        exact ⟨0, rfl, ⟨by omega, by omega⟩, g2, f3⟩
    · refine wp_tswx (x := 2) (tgt := 56) jF_165_6 hh (by decide) ?_
      subst hh
      refine wp_al1 jF_165_56 rfl rfl (pc2 := 57) ?_
      refine wp_glA jF_165_57 kd93 (by decide) rfl rfl (pc2 := 60) ?_
      intro y13
      refine wp_cS (as := [.long y13]) (rest := []) (mx := 2) jF_165_60 rfl rfl rfl rfl (by omega) (by omega) rfl (pc2 := 63) ?_
      refine wp_use (m_96_r τ1 g2 y13  _ _ (by omega) (by omega)) ?_
      rintro _ _ ⟨z16, rfl, h17, rfl⟩
      show WP 165 63 [(0, .ref 93), (1, .ref 20), (2, iV 2)] [iV z16] _ _ _ _
      refine wp_ri jF_165_63 rfl ?_
      exact ⟨z16, rfl, ⟨by omega, by omega⟩, g2, f3⟩
set_option maxHeartbeats 4000000 in
set_option maxRecDepth 20000 in
/-- Shorts.gatherFitting -/
theorem m_132_r93_45 (σ : jM) (hg : GI σ)   (fr lo : Nat) (hfr : 1 ≤ fr) (hlo : 22 ≤ lo) : WP 132 0 (lv_args 0 [.ref 93, .ref 45]) [] fr lo σ (fun v τ => v = none ∧ GI τ ∧ FR WS σ τ) := by
  show WP 132 0 [(0, .ref 93), (1, .ref 45)] [] _ _ _ _
  refine wp_al1 jF_132_0 rfl rfl (pc2 := 1) ?_
  refine wp_ic jF_132_1 rfl (pc2 := 2) ?_
  refine wp_pi jF_132_2 kd93 (by decide) rfl rfl rfl (pc2 := 5) hg (lo := (-2147483648)) (hi := 2147483647) rfl (by omega) (by omega) ?_
  intro τ1 g2 f3 e4
  refine wp_al1 jF_132_5 rfl rfl (pc2 := 6) ?_
  refine wp_al1 jF_132_6 rfl rfl (pc2 := 7) ?_
  refine wp_glA jF_132_7 kd45 (by decide) rfl rfl (pc2 := 10) ?_
  intro y5
  refine wp_pl jF_132_10 kd93 (by decide) rfl rfl (pc2 := 13) g2 ?_
  intro τ6 g7 f8
  refine wp_al1 jF_132_13 rfl rfl (pc2 := 14) ?_
  refine wp_lc jF_132_14 rfl (pc2 := 15) ?_
  refine wp_pl jF_132_15 kd93 (by decide) rfl rfl (pc2 := 18) g7 ?_
  intro τ9 g10 f11
  refine wp_ic jF_132_18 rfl (pc2 := 19) ?_
  refine wp_is1 (lv2 := [(0, .ref 93), (1, .ref 45), (2, iV 0)]) jF_132_19 rfl rfl rfl (pc2 := 20) ?_
  refine wp_loop (α := Int) (fun a => [(0, .ref 93), (1, .ref 45), (2, iV (a))]) (fun a τ => (0 ≤ a ∧ a ≤ 1752) ∧ GI τ ∧ FR WS τ9 τ) (fun a τ => Int.toNat (1752 - (a))) (0) τ9 ?_ ?_
  · skip
    exact ⟨⟨by omega, by omega⟩, g10, FR.rf⟩
  · rintro x12 τ14 ⟨h13, g15, f16⟩ ih17
    show WP 132 20 [(0, .ref 93), (1, .ref 45), (2, iV x12)] [] _ _ _ _
    show WP 132 20 [(0, .ref 93), (1, .ref 45), (2, iV x12)] [] _ _ _ _
    refine wp_il1 jF_132_20 rfl rfl (pc2 := 21) ?_
    refine wp_al1 jF_132_21 rfl rfl (pc2 := 22) ?_
    have b18 := GI.b g15 93 9 kd93 (lo := 0) (hi := 1752) rfl
    refine wp_gi jF_132_22 kd93 (by decide) rfl rfl rfl (pc2 := 25) ?_
    refine wp_i_ge jF_132_25 (m_rgb h13 rfl) (m_rgb b18 rfl) rfl (pc2 := 28) ?_ ?_
    · intro h19
      refine wp_rv jF_132_90 ?_
      exact ⟨rfl, g15, (FR.up (FR.w (FR.w (FR.w FR.rf f3 rfl) f8 rfl) f11 rfl) f16 sb_WS_WS)⟩
    · intro h19
      refine wp_al1 jF_132_28 rfl rfl (pc2 := 29) ?_
      refine wp_gr (b := 64) jF_132_29 kd45 (by decide) (c := 22) rfl rfl rfl (pc2 := 32) ?_
      refine wp_al1 jF_132_32 rfl rfl (pc2 := 33) ?_
      refine wp_gr (b := 95) jF_132_33 kd93 (by decide) (c := 195) rfl rfl rfl (pc2 := 36) ?_
      refine wp_il1 jF_132_36 rfl rfl (pc2 := 37) ?_
      refine wp_lald (n := 1752) jF_132_37 kd95 (by decide) rfl rfl (by omega) (by omega) rfl (pc2 := 38) ?_
      intro y20
      refine wp_cV (as := [.long y20]) (rest := []) (a := 64) (mx := 3) (ci := 7) jF_132_38 kd64 (by decide) rfl rfl rfl rfl rfl (by omega) (by omega) rfl (pc2 := 41) ?_
      refine wp_use (m_86_r64 τ14 g15 y20  _ _ (by omega) (by omega)) ?_
      rintro _ _ ⟨z23, rfl, h24, rfl⟩
      show WP 132 41 [(0, .ref 93), (1, .ref 45), (2, iV x12)] [iV z23] _ _ _ _
      refine wp_z_eq jF_132_41 (m_rgb h24 rfl) rfl (pc2 := 44) ?_ ?_
      · intro h25
        refine wp_inc (lv2 := [(0, .ref 93), (1, .ref 45), (2, iV (x12 + 1))]) jF_132_84 rfl rfl rfl rfl (pc2 := 87) ?_
        refine wp_go jF_132_87 ?_
        exact ih17 ((x12 + 1)) τ14 ⟨⟨by omega, by omega⟩, g15, f16⟩ (by show Int.toNat (1752 - (x12 + 1)) < Int.toNat (1752 - x12); omega)
      · intro h25
        refine wp_al1 jF_132_44 rfl rfl (pc2 := 45) ?_
        refine wp_dup jF_132_45 rfl rfl (pc2 := 46) ?_
        have b26 := GI.b g15 93 11 kd93 (lo := (-2147483648)) (hi := 2147483647) rfl
        refine wp_gi jF_132_46 kd93 (by decide) rfl rfl rfl (pc2 := 49) ?_
        refine wp_ic jF_132_49 rfl (pc2 := 50) ?_
        refine wp_any2 (pc2 := 51) jF_132_50 rfl rfl ?_
        intro z27 h28
        refine wp_pi jF_132_51 kd93 (by decide) rfl rfl rfl (pc2 := 54) g15 (lo := (-2147483648)) (hi := 2147483647) rfl (by omega) (by omega) ?_
        intro τ29 g30 f31 e32
        refine wp_al1 jF_132_54 rfl rfl (pc2 := 55) ?_
        refine wp_dup jF_132_55 rfl rfl (pc2 := 56) ?_
        refine wp_glA jF_132_56 kd93 (by decide) rfl rfl (pc2 := 59) ?_
        intro y33
        refine wp_al1 jF_132_59 rfl rfl (pc2 := 60) ?_
        refine wp_gr (b := 95) jF_132_60 kd93 (by decide) (c := 195) rfl rfl rfl (pc2 := 63) ?_
        refine wp_il1 jF_132_63 rfl rfl (pc2 := 64) ?_
        refine wp_lald (n := 1752) jF_132_64 kd95 (by decide) rfl rfl (by omega) (by omega) rfl (pc2 := 65) ?_
        intro y34
        refine wp_lng (pc2 := 66) jF_132_65 rfl rfl ?_
        intro y35
        refine wp_pl jF_132_66 kd93 (by decide) rfl rfl (pc2 := 69) g30 ?_
        intro τ36 g37 f38
        refine wp_al1 jF_132_69 rfl rfl (pc2 := 70) ?_
        refine wp_dup jF_132_70 rfl rfl (pc2 := 71) ?_
        refine wp_glA jF_132_71 kd93 (by decide) rfl rfl (pc2 := 74) ?_
        intro y39
        refine wp_al1 jF_132_74 rfl rfl (pc2 := 75) ?_
        refine wp_gr (b := 95) jF_132_75 kd93 (by decide) (c := 195) rfl rfl rfl (pc2 := 78) ?_
        refine wp_il1 jF_132_78 rfl rfl (pc2 := 79) ?_
        refine wp_lald (n := 1752) jF_132_79 kd95 (by decide) rfl rfl (by omega) (by omega) rfl (pc2 := 80) ?_
        intro y40
        refine wp_lng (pc2 := 81) jF_132_80 rfl rfl ?_
        intro y41
        refine wp_pl jF_132_81 kd93 (by decide) rfl rfl (pc2 := 84) g37 ?_
        intro τ42 g43 f44
        refine wp_inc (lv2 := [(0, .ref 93), (1, .ref 45), (2, iV (x12 + 1))]) jF_132_84 rfl rfl rfl rfl (pc2 := 87) ?_
        refine wp_go jF_132_87 ?_
        exact ih17 ((x12 + 1)) τ42 ⟨⟨by omega, by omega⟩, g43, (FR.w (FR.w (FR.w f16 f31 rfl) f38 rfl) f44 rfl)⟩ (by show Int.toNat (1752 - (x12 + 1)) < Int.toNat (1752 - x12); omega)
set_option maxHeartbeats 4000000 in
set_option maxRecDepth 20000 in
/-- Shorts.prepare -/
theorem m_126_r93_45 (σ : jM) (hg : GI σ)   (fr lo : Nat) (hfr : 2 ≤ fr) (hlo : 48 ≤ lo) : WP 126 0 (lv_args 0 [.ref 93, .ref 45]) [] fr lo σ (fun v τ => v = none ∧ GI τ ∧ FR WS σ τ) := by
  show WP 126 0 [(0, .ref 93), (1, .ref 45)] [] _ _ _ _
  refine wp_al1 jF_126_0 rfl rfl (pc2 := 1) ?_
  have b1 := GI.b hg 93 14 kd93 (lo := 0) (hi := 1) rfl
  refine wp_gi jF_126_1 kd93 (by decide) rfl rfl rfl (pc2 := 4) ?_
  refine wp_z_eq jF_126_4 (m_rgb b1 rfl) rfl (pc2 := 7) ?_ ?_
  · intro h2
    refine wp_al1 jF_126_8 rfl rfl (pc2 := 9) ?_
    refine wp_ic jF_126_9 rfl (pc2 := 10) ?_
    refine wp_pi jF_126_10 kd93 (by decide) rfl rfl rfl (pc2 := 13) hg (lo := 0) (hi := 1) rfl (by omega) (by omega) ?_
    intro τ3 g4 f5 e6
    refine wp_al1 jF_126_13 rfl rfl (pc2 := 14) ?_
    refine wp_al1 jF_126_14 rfl rfl (pc2 := 15) ?_
    refine wp_cV (as := [.ref 45]) (rest := []) (a := 93) (mx := 3) (ci := 5) jF_126_15 kd93 (by decide) rfl rfl rfl rfl rfl (by omega) (by omega) rfl (pc2 := 18) ?_
    refine wp_use (m_127_r93_45 τ3 g4   _ _ (by omega) (by omega)) ?_
    rintro _ τ7 ⟨rfl, g8, f9⟩
    show WP 126 18 [(0, .ref 93), (1, .ref 45)] [] _ _ _ _
    refine wp_al1 jF_126_18 rfl rfl (pc2 := 19) ?_
    refine wp_cV (as := []) (rest := []) (a := 93) (mx := 3) (ci := 5) jF_126_19 kd93 (by decide) rfl rfl rfl rfl rfl (by omega) (by omega) rfl (pc2 := 22) ?_
    refine wp_use (m_128_r93 τ7 g8   _ _ (by omega) (by omega)) ?_
    rintro _ τ10 ⟨rfl, g11, f12⟩
    show WP 126 22 [(0, .ref 93), (1, .ref 45)] [] _ _ _ _
    refine wp_al1 jF_126_22 rfl rfl (pc2 := 23) ?_
    refine wp_cV (as := []) (rest := []) (a := 93) (mx := 4) (ci := 5) jF_126_23 kd93 (by decide) rfl rfl rfl rfl rfl (by omega) (by omega) rfl (pc2 := 26) ?_
    refine wp_use (m_129_r93 τ10 g11   _ _ (by omega) (by omega)) ?_
    rintro _ τ13 ⟨rfl, g14, f15⟩
    show WP 126 26 [(0, .ref 93), (1, .ref 45)] [] _ _ _ _
    refine wp_al1 jF_126_26 rfl rfl (pc2 := 27) ?_
    refine wp_al1 jF_126_27 rfl rfl (pc2 := 28) ?_
    refine wp_cV (as := [.ref 45]) (rest := []) (a := 93) (mx := 3) (ci := 5) jF_126_28 kd93 (by decide) rfl rfl rfl rfl rfl (by omega) (by omega) rfl (pc2 := 31) ?_
    refine wp_use (m_132_r93_45 τ13 g14   _ _ (by omega) (by omega)) ?_
    rintro _ τ16 ⟨rfl, g17, f18⟩
    show WP 126 31 [(0, .ref 93), (1, .ref 45)] [] _ _ _ _
    refine wp_rv jF_126_31 ?_
    exact ⟨rfl, g17, (FR.up (FR.up (FR.up (FR.up (FR.w FR.rf f5 rfl) f9 sb_WS_WS) f12 sb_WS_WS) f15 sb_WS_WS) f18 sb_WS_WS)⟩
  · intro h2
    refine wp_rv jF_126_7 ?_
    exact ⟨rfl, hg, FR.rf⟩
set_option maxHeartbeats 4000000 in
set_option maxRecDepth 20000 in
/-- Shorts.total -/
theorem m_141_r93_45 (σ : jM) (hg : GI σ)   (fr lo : Nat) (hfr : 3 ≤ fr) (hlo : 69 ≤ lo) : WP 141 0 (lv_args 0 [.ref 93, .ref 45]) [] fr lo σ (fun v τ => ∃ z : Int, v = some (iV z) ∧ ((-2147483648) ≤ z ∧ z ≤ 2147483647) ∧ GI τ ∧ FR WS σ τ) := by
  show WP 141 0 [(0, .ref 93), (1, .ref 45)] [] _ _ _ _
  refine wp_al1 jF_141_0 rfl rfl (pc2 := 1) ?_
  refine wp_al1 jF_141_1 rfl rfl (pc2 := 2) ?_
  refine wp_cV (as := [.ref 45]) (rest := []) (a := 93) (mx := 2) (ci := 5) jF_141_2 kd93 (by decide) rfl rfl rfl rfl rfl (by omega) (by omega) rfl (pc2 := 5) ?_
  refine wp_use (m_126_r93_45 σ hg   _ _ (by omega) (by omega)) ?_
  rintro _ τ1 ⟨rfl, g2, f3⟩
  show WP 141 5 [(0, .ref 93), (1, .ref 45)] [] _ _ _ _
  refine wp_al1 jF_141_5 rfl rfl (pc2 := 6) ?_
  have b4 := GI.b g2 93 9 kd93 (lo := 0) (hi := 1752) rfl
  refine wp_gi jF_141_6 kd93 (by decide) rfl rfl rfl (pc2 := 9) ?_
  refine wp_ri jF_141_9 rfl ?_
  exact ⟨(τ1.1 93 9), rfl, ⟨by omega, by omega⟩, g2, f3⟩
set_option maxHeartbeats 4000000 in
set_option maxRecDepth 20000 in
/-- Shorts.tell -/
theorem m_143_r93_45 (σ : jM) (hg : GI σ) (sen : Int) (hl_sen : (-2147483648) ≤ sen) (hu_sen : sen ≤ 2147483647) (what : Int) (hl_what : (-2147483648) ≤ what) (hu_what : what ≤ 2147483647)  (fr lo : Nat) (hfr : 3 ≤ fr) (hlo : 69 ≤ lo) : WP 143 0 (lv_args 0 [.ref 93, .ref 45, iV sen, iV what]) [] fr lo σ (fun v τ => ∃ z : Int, v = some (iV z) ∧ ((-2147483648) ≤ z ∧ z ≤ 2147483647) ∧ GI τ ∧ FR WS σ τ) := by
  show WP 143 0 [(0, .ref 93), (1, .ref 45), (2, iV sen), (3, iV what)] [] _ _ _ _
  refine wp_al1 jF_143_0 rfl rfl (pc2 := 1) ?_
  refine wp_al1 jF_143_1 rfl rfl (pc2 := 2) ?_
  refine wp_cV (as := [.ref 45]) (rest := []) (a := 93) (mx := 2) (ci := 5) jF_143_2 kd93 (by decide) rfl rfl rfl rfl rfl (by omega) (by omega) rfl (pc2 := 5) ?_
  refine wp_use (m_126_r93_45 σ hg   _ _ (by omega) (by omega)) ?_
  rintro _ τ1 ⟨rfl, g2, f3⟩
  show WP 143 5 [(0, .ref 93), (1, .ref 45), (2, iV sen), (3, iV what)] [] _ _ _ _
  refine wp_il1 jF_143_5 rfl rfl (pc2 := 6) ?_
  refine wp_z_lt jF_143_6 ⟨by omega, by omega⟩ rfl (pc2 := 9) ?_ ?_
  · intro h4
    refine wp_ic jF_143_17 rfl (pc2 := 18) ?_
    refine wp_ri jF_143_18 rfl ?_
    exact ⟨(-1), rfl, ⟨by omega, by omega⟩, g2, f3⟩
  · intro h4
    refine wp_il1 jF_143_9 rfl rfl (pc2 := 10) ?_
    refine wp_al1 jF_143_10 rfl rfl (pc2 := 11) ?_
    have b5 := GI.b g2 93 9 kd93 (lo := 0) (hi := 1752) rfl
    refine wp_gi jF_143_11 kd93 (by decide) rfl rfl rfl (pc2 := 14) ?_
    refine wp_i_lt jF_143_14 ⟨by omega, by omega⟩ (m_rgb b5 rfl) rfl (pc2 := 17) ?_ ?_
    · intro h6
      refine wp_il1 jF_143_19 rfl rfl (pc2 := 20) ?_
      rcases m_tsw what 0 2 with h7 | h7
      · refine wp_tswd (tgt := 81) jF_143_20 ⟨by omega, by omega⟩ h7 (by decide) ?_
        refine wp_ic jF_143_81 rfl (pc2 := 82) ?_
        refine wp_ri jF_143_82 rfl ?_
        exact ⟨(-1), rfl, ⟨by omega, by omega⟩, g2, f3⟩
      · have h7c : what = 0 ∨ what = 1 ∨ what = 2 := by omega
        rcases h7c with hh | hh | hh
        · refine wp_tswx (x := 0) (tgt := 48) jF_143_20 hh (by decide) ?_
          subst hh
          refine wp_al1 jF_143_48 rfl rfl (pc2 := 49) ?_
          refine wp_il1 jF_143_49 rfl rfl (pc2 := 50) ?_
          refine wp_cV (as := [iV sen]) (rest := []) (a := 93) (mx := 3) (ci := 5) jF_143_50 kd93 (by decide) rfl rfl rfl rfl rfl (by omega) (by omega) rfl (pc2 := 53) ?_
          refine wp_use (m_131_r93 τ1 g2 sen (by omega) (by omega)  _ _ (by omega) (by omega)) ?_
          rintro _ _ ⟨z10, rfl, h11, rfl⟩
          show WP 143 53 [(0, .ref 93), (1, .ref 45), (2, iV sen), (3, iV 0)] [iV z10] _ _ _ _
          refine wp_ri jF_143_53 rfl ?_
          exact ⟨z10, rfl, ⟨by omega, by omega⟩, g2, f3⟩
        · refine wp_tswx (x := 1) (tgt := 54) jF_143_20 hh (by decide) ?_
          subst hh
          refine wp_al1 jF_143_54 rfl rfl (pc2 := 55) ?_
          refine wp_gr (b := 95) jF_143_55 kd93 (by decide) (c := 195) rfl rfl rfl (pc2 := 58) ?_
          refine wp_il1 jF_143_58 rfl rfl (pc2 := 59) ?_
          refine wp_lald (n := 1752) jF_143_59 kd95 (by decide) rfl rfl (by omega) (by omega) rfl (pc2 := 60) ?_
          intro y12
          refine wp_cS (as := [.long y12]) (rest := []) (mx := 2) jF_143_60 rfl rfl rfl rfl (by omega) (by omega) rfl (pc2 := 63) ?_
          refine wp_use (m_96_r τ1 g2 y12  _ _ (by omega) (by omega)) ?_
          rintro _ _ ⟨z15, rfl, h16, rfl⟩
          show WP 143 63 [(0, .ref 93), (1, .ref 45), (2, iV sen), (3, iV 1)] [iV z15] _ _ _ _
          refine wp_ri jF_143_63 rfl ?_
          exact ⟨z15, rfl, ⟨by omega, by omega⟩, g2, f3⟩
        · refine wp_tswx (x := 2) (tgt := 64) jF_143_20 hh (by decide) ?_
          subst hh
          refine wp_al1 jF_143_64 rfl rfl (pc2 := 65) ?_
          refine wp_gr (b := 64) jF_143_65 kd45 (by decide) (c := 22) rfl rfl rfl (pc2 := 68) ?_
          refine wp_al1 jF_143_68 rfl rfl (pc2 := 69) ?_
          refine wp_gr (b := 95) jF_143_69 kd93 (by decide) (c := 195) rfl rfl rfl (pc2 := 72) ?_
          refine wp_il1 jF_143_72 rfl rfl (pc2 := 73) ?_
          refine wp_lald (n := 1752) jF_143_73 kd95 (by decide) rfl rfl (by omega) (by omega) rfl (pc2 := 74) ?_
          intro y17
          refine wp_cV (as := [.long y17]) (rest := []) (a := 64) (mx := 3) (ci := 7) jF_143_74 kd64 (by decide) rfl rfl rfl rfl rfl (by omega) (by omega) rfl (pc2 := 77) ?_
          refine wp_use (m_86_r64 τ1 g2 y17  _ _ (by omega) (by omega)) ?_
          rintro _ _ ⟨z20, rfl, h21, rfl⟩
          show WP 143 77 [(0, .ref 93), (1, .ref 45), (2, iV sen), (3, iV 2)] [iV z20] _ _ _ _
          refine wp_cS (as := [iV z20]) (rest := []) (mx := 1) jF_143_77 rfl rfl rfl rfl (by omega) (by omega) rfl (pc2 := 80) ?_
          show WP 98 0 [(0, iV z20)] [] _ _ _ _
          refine wp_il1 jF_98_0 rfl rfl (pc2 := 1) ?_
          refine wp_z_eq jF_98_1 (m_rgb h21 rfl) rfl (pc2 := 4) ?_ ?_
          · intro h22
            refine wp_ic jF_98_8 rfl (pc2 := 9) ?_
            refine wp_ri jF_98_9 rfl ?_
            show WP 143 80 [(0, .ref 93), (1, .ref 45), (2, iV sen), (3, iV 2)] [iV 0] _ _ _ _
            refine wp_ri jF_143_80 rfl ?_
            exact ⟨0, rfl, ⟨by omega, by omega⟩, g2, f3⟩
          · intro h22
            refine wp_ic jF_98_4 rfl (pc2 := 5) ?_
            refine wp_go jF_98_5 ?_
            refine wp_ri jF_98_9 rfl ?_
            show WP 143 80 [(0, .ref 93), (1, .ref 45), (2, iV sen), (3, iV 2)] [iV 1] _ _ _ _
            refine wp_ri jF_143_80 rfl ?_
            exact ⟨1, rfl, ⟨by omega, by omega⟩, g2, f3⟩
    · intro h6
      refine wp_ic jF_143_17 rfl (pc2 := 18) ?_
      refine wp_ri jF_143_18 rfl ?_
      exact ⟨(-1), rfl, ⟨by omega, by omega⟩, g2, f3⟩
set_option maxHeartbeats 4000000 in
set_option maxRecDepth 20000 in
/-- Shorts.fittingOnes -/
theorem m_165_r93_45 (σ : jM) (hg : GI σ) (what : Int) (hl_what : (-2147483648) ≤ what) (hu_what : what ≤ 2147483647)  (fr lo : Nat) (hfr : 3 ≤ fr) (hlo : 69 ≤ lo) : WP 165 0 (lv_args 0 [.ref 93, .ref 45, iV what]) [] fr lo σ (fun v τ => ∃ z : Int, v = some (iV z) ∧ ((-2147483648) ≤ z ∧ z ≤ 2147483647) ∧ GI τ ∧ FR WS σ τ) := by
  show WP 165 0 [(0, .ref 93), (1, .ref 45), (2, iV what)] [] _ _ _ _
  refine wp_al1 jF_165_0 rfl rfl (pc2 := 1) ?_
  refine wp_al1 jF_165_1 rfl rfl (pc2 := 2) ?_
  refine wp_cV (as := [.ref 45]) (rest := []) (a := 93) (mx := 2) (ci := 5) jF_165_2 kd93 (by decide) rfl rfl rfl rfl rfl (by omega) (by omega) rfl (pc2 := 5) ?_
  refine wp_use (m_126_r93_45 σ hg   _ _ (by omega) (by omega)) ?_
  rintro _ τ1 ⟨rfl, g2, f3⟩
  show WP 165 5 [(0, .ref 93), (1, .ref 45), (2, iV what)] [] _ _ _ _
  refine wp_il1 jF_165_5 rfl rfl (pc2 := 6) ?_
  rcases m_tsw what 0 2 with h4 | h4
  · refine wp_tswd (tgt := 64) jF_165_6 ⟨by omega, by omega⟩ h4 (by decide) ?_
    refine wp_ic jF_165_64 rfl (pc2 := 65) ?_
    refine wp_ri jF_165_65 rfl ?_
    exact ⟨(-1), rfl, ⟨by omega, by omega⟩, g2, f3⟩
  · have h4c : what = 0 ∨ what = 1 ∨ what = 2 := by omega
    rcases h4c with hh | hh | hh
    · refine wp_tswx (x := 0) (tgt := 32) jF_165_6 hh (by decide) ?_
      subst hh
      refine wp_al1 jF_165_32 rfl rfl (pc2 := 33) ?_
      have b5 := GI.b g2 93 11 kd93 (lo := (-2147483648)) (hi := 2147483647) rfl
      refine wp_gi jF_165_33 kd93 (by decide) rfl rfl rfl (pc2 := 36) ?_
      refine wp_ri jF_165_36 rfl ?_
      exact ⟨(τ1.1 93 11), rfl, ⟨by omega, by omega⟩, g2, f3⟩
    · refine wp_tswx (x := 1) (tgt := 37) jF_165_6 hh (by decide) ?_
      subst hh
      refine wp_al1 jF_165_37 rfl rfl (pc2 := 38) ?_
      have b6 := GI.b g2 93 11 kd93 (lo := (-2147483648)) (hi := 2147483647) rfl
      refine wp_gi jF_165_38 kd93 (by decide) rfl rfl rfl (pc2 := 41) ?_
      refine wp_z_ne jF_165_41 (m_rgb b6 rfl) rfl (pc2 := 44) ?_ ?_
      · intro h7
        refine wp_al1 jF_165_48 rfl rfl (pc2 := 49) ?_
        refine wp_glA jF_165_49 kd93 (by decide) rfl rfl (pc2 := 52) ?_
        intro y8
        refine wp_cS (as := [.long y8]) (rest := []) (mx := 2) jF_165_52 rfl rfl rfl rfl (by omega) (by omega) rfl (pc2 := 55) ?_
        refine wp_use (m_96_r τ1 g2 y8  _ _ (by omega) (by omega)) ?_
        rintro _ _ ⟨z11, rfl, h12, rfl⟩
        show WP 165 55 [(0, .ref 93), (1, .ref 45), (2, iV 1)] [iV z11] _ _ _ _
        refine wp_ri jF_165_55 rfl ?_
        exact ⟨z11, rfl, ⟨by omega, by omega⟩, g2, f3⟩
      · intro h7
        refine wp_ic jF_165_44 rfl (pc2 := 45) ?_
        refine wp_go jF_165_45 ?_
        refine wp_ri jF_165_55 rfl ?_
        exact ⟨0, rfl, ⟨by omega, by omega⟩, g2, f3⟩
    · refine wp_tswx (x := 2) (tgt := 56) jF_165_6 hh (by decide) ?_
      subst hh
      refine wp_al1 jF_165_56 rfl rfl (pc2 := 57) ?_
      refine wp_glA jF_165_57 kd93 (by decide) rfl rfl (pc2 := 60) ?_
      intro y13
      refine wp_cS (as := [.long y13]) (rest := []) (mx := 2) jF_165_60 rfl rfl rfl rfl (by omega) (by omega) rfl (pc2 := 63) ?_
      refine wp_use (m_96_r τ1 g2 y13  _ _ (by omega) (by omega)) ?_
      rintro _ _ ⟨z16, rfl, h17, rfl⟩
      show WP 165 63 [(0, .ref 93), (1, .ref 45), (2, iV 2)] [iV z16] _ _ _ _
      refine wp_ri jF_165_63 rfl ?_
      exact ⟨z16, rfl, ⟨by omega, by omega⟩, g2, f3⟩
set_option maxHeartbeats 4000000 in
set_option maxRecDepth 20000 in
/-- Shorts.note -/
theorem m_134_r93 (σ : jM) (hg : GI σ) (bs : Int) (hl_bs : 0 ≤ bs) (hu_bs : bs ≤ 4) (n0 : Int) (hl_n0 : (-2147483648) ≤ n0) (hu_n0 : n0 ≤ 2147483647) (n1 : Int) (hl_n1 : (-2147483648) ≤ n1) (hu_n1 : n1 ≤ 2147483647) (n2 : Int) (hl_n2 : (-2147483648) ≤ n2) (hu_n2 : n2 ≤ 2147483647) (n3 : Int) (hl_n3 : (-2147483648) ≤ n3) (hu_n3 : n3 ≤ 2147483647)  (fr lo : Nat) (hfr : 0 ≤ fr) (hlo : 0 ≤ lo) : WP 134 0 (lv_args 0 [.ref 93, iV bs, iV n0, iV n1, iV n2, iV n3]) [] fr lo σ (fun v τ => v = none ∧ GI τ ∧ FR WS σ τ) := by
  show WP 134 0 [(0, .ref 93), (1, iV bs), (2, iV n0), (3, iV n1), (4, iV n2), (5, iV n3)] [] _ _ _ _
  refine wp_al1 jF_134_0 rfl rfl (pc2 := 1) ?_
  refine wp_gr (b := 101) jF_134_1 kd93 (by decide) (c := 201) rfl rfl rfl (pc2 := 4) ?_
  refine wp_il1 jF_134_4 rfl rfl (pc2 := 5) ?_
  refine wp_il1 jF_134_5 rfl rfl (pc2 := 6) ?_
  refine wp_iast (n := 8) jF_134_6 kd101 (by decide) rfl rfl (by omega) (by omega) rfl (pc2 := 7) hg (lo := (-2147483648)) (hi := 2147483647) rfl (by omega) (by omega) ?_
  intro τ1 g2 f3 e4
  refine wp_al1 jF_134_7 rfl rfl (pc2 := 8) ?_
  refine wp_gr (b := 101) jF_134_8 kd93 (by decide) (c := 201) rfl rfl rfl (pc2 := 11) ?_
  refine wp_il1 jF_134_11 rfl rfl (pc2 := 12) ?_
  refine wp_ic jF_134_12 rfl (pc2 := 13) ?_
  refine wp_add jF_134_13 rfl (pc2 := 14) ?_
  refine wp_il1 jF_134_14 rfl rfl (pc2 := 15) ?_
  refine wp_iast (n := 8) jF_134_15 kd101 (by decide) rfl rfl (by omega) (by omega) rfl (pc2 := 16) g2 (lo := (-2147483648)) (hi := 2147483647) rfl (by omega) (by omega) ?_
  intro τ5 g6 f7 e8
  refine wp_al1 jF_134_16 rfl rfl (pc2 := 17) ?_
  refine wp_gr (b := 101) jF_134_17 kd93 (by decide) (c := 201) rfl rfl rfl (pc2 := 20) ?_
  refine wp_il1 jF_134_20 rfl rfl (pc2 := 21) ?_
  refine wp_ic jF_134_21 rfl (pc2 := 22) ?_
  refine wp_add jF_134_22 rfl (pc2 := 23) ?_
  refine wp_il2 jF_134_23 rfl rfl (pc2 := 25) ?_
  refine wp_iast (n := 8) jF_134_25 kd101 (by decide) rfl rfl (by omega) (by omega) rfl (pc2 := 26) g6 (lo := (-2147483648)) (hi := 2147483647) rfl (by omega) (by omega) ?_
  intro τ9 g10 f11 e12
  refine wp_al1 jF_134_26 rfl rfl (pc2 := 27) ?_
  refine wp_gr (b := 101) jF_134_27 kd93 (by decide) (c := 201) rfl rfl rfl (pc2 := 30) ?_
  refine wp_il1 jF_134_30 rfl rfl (pc2 := 31) ?_
  refine wp_ic jF_134_31 rfl (pc2 := 32) ?_
  refine wp_add jF_134_32 rfl (pc2 := 33) ?_
  refine wp_il2 jF_134_33 rfl rfl (pc2 := 35) ?_
  refine wp_iast (n := 8) jF_134_35 kd101 (by decide) rfl rfl (by omega) (by omega) rfl (pc2 := 36) g10 (lo := (-2147483648)) (hi := 2147483647) rfl (by omega) (by omega) ?_
  intro τ13 g14 f15 e16
  refine wp_rv jF_134_36 ?_
  exact ⟨rfl, g14, (FR.w (FR.w (FR.w (FR.w FR.rf f3 rfl) f7 rfl) f11 rfl) f15 rfl)⟩
