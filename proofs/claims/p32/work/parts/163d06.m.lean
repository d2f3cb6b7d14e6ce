set_option maxHeartbeats 4000000 in
set_option maxRecDepth 20000 in
/-- TongueReader.takesCases -/
theorem m_60_r12_45_64 (σ : jM) (hg : GI σ)   (fr lo : Nat) (hfr : 4 ≤ fr) (hlo : 88 ≤ lo) : WP 60 0 (lv_args 0 [.ref 12, .ref 45, .ref 64]) [] fr lo σ (fun v τ => ∃ z : Int, v = some (iV z) ∧ (0 ≤ z ∧ z ≤ 1) ∧ GI τ ∧ FR WQ64 σ τ ∧ ((τ.1 64 5) = (σ.1 64 5))) := by
  show WP 60 0 [(0, .ref 12), (1, .ref 45), (2, .ref 64)] [] _ _ _ _
  refine wp_al1 jF_60_0 rfl rfl (pc2 := 1) ?_
  refine wp_gr (b := 10) jF_60_1 kd12 (by decide) (c := 110) rfl rfl rfl (pc2 := 4) ?_
  refine wp_cV (as := []) (rest := []) (a := 10) (mx := 2) (ci := 6) jF_60_4 kd10 (by decide) rfl rfl rfl rfl rfl (by omega) (by omega) rfl (pc2 := 7) ?_
  have b1 := GI.b hg 10 1 kd10 (lo := 0) (hi := 1600) rfl
  refine wp_use (m_37_r10 σ hg   _ _ (by omega) (by omega)) ?_
  rintro _ τ3 ⟨z6, rfl, h7, g4, f5, p2⟩
  show WP 60 7 [(0, .ref 12), (1, .ref 45), (2, .ref 64)] [iV z6] _ _ _ _
  refine wp_z_eq jF_60_7 (m_rgb h7 rfl) rfl (pc2 := 10) ?_ ?_
  · intro h8
    clear p2
    refine wp_ic jF_60_24 rfl (pc2 := 25) ?_
    refine wp_is1 (lv2 := [(0, .ref 12), (1, .ref 45), (2, .ref 64), (3, iV (-1))]) jF_60_25 rfl rfl rfl (pc2 := 26) ?_
    refine wp_il1 jF_60_26 rfl rfl (pc2 := 27) ?_
    refine wp_bi jF_60_27 (by decide) rfl (pc2 := 29) ?_
    refine wp_i_eq jF_60_29 (m_rgl rfl) (m_rgl rfl) rfl (pc2 := 32) ?_ ?_
    · intro h9; exfalso; omega
    · intro h9
      refine wp_il1 jF_60_32 rfl rfl (pc2 := 33) ?_
      refine wp_bi jF_60_33 (by decide) rfl (pc2 := 35) ?_
      refine wp_i_eq jF_60_35 (m_rgl rfl) (m_rgl rfl) rfl (pc2 := 38) ?_ ?_
      · intro h10; exfalso; omega
      · intro h10
        refine wp_al1 jF_60_38 rfl rfl (pc2 := 39) ?_
        refine wp_gr (b := 10) jF_60_39 kd12 (by decide) (c := 110) rfl rfl rfl (pc2 := 42) ?_
        refine wp_ic jF_60_42 rfl (pc2 := 43) ?_
        refine wp_al1 jF_60_43 rfl rfl (pc2 := 44) ?_
        refine wp_gr (b := 10) jF_60_44 kd12 (by decide) (c := 110) rfl rfl rfl (pc2 := 47) ?_
        have b11 := GI.b g4 10 2 kd10 (lo := 0) (hi := 1600) rfl
        refine wp_gi jF_60_47 kd10 (by decide) rfl rfl rfl (pc2 := 50) ?_
        refine wp_cV (as := [iV 1, iV (τ3.1 10 2)]) (rest := []) (a := 10) (mx := 3) (ci := 6) jF_60_50 kd10 (by decide) rfl rfl rfl rfl rfl (by omega) (by omega) rfl (pc2 := 53) ?_
        refine wp_use (m_42_r10 τ3 g4 1 (by omega) (by omega) (τ3.1 10 2) (by omega) (by omega)  _ _ (by omega) (by omega)) ?_
        rintro _ τ12 ⟨z15, rfl, h16, g13, f14⟩
        show WP 60 53 [(0, .ref 12), (1, .ref 45), (2, .ref 64), (3, iV (-1))] [iV z15] _ _ _ _
        refine wp_ri jF_60_53 (m_fitb (by omega) (by omega)) ?_
        have b17 := GI.b hg 64 5 kd64 (lo := 0) (hi := 16) rfl
        have q18 : (τ12.1 64 5) = (σ.1 64 5) := ((FR.at f14 64 5 rfl).trans (FR.at f5 64 5 rfl))
        exact ⟨z15, rfl, ⟨by omega, by omega⟩, g13, (FR.up (FR.up FR.rf f5 sb_Wtp_WQ64) f14 sb_Wtp_WQ64), (by omega)⟩
  · intro h8
    replace p2 := p2 (by omega)
    refine wp_al1 jF_60_10 rfl rfl (pc2 := 11) ?_
    refine wp_gr (b := 10) jF_60_11 kd12 (by decide) (c := 110) rfl rfl rfl (pc2 := 14) ?_
    refine wp_al1 jF_60_14 rfl rfl (pc2 := 15) ?_
    refine wp_gr (b := 13) jF_60_15 kd12 (by decide) (c := 113) rfl rfl rfl (pc2 := 18) ?_
    refine wp_cV (as := [.ref 13]) (rest := []) (a := 10) (mx := 3) (ci := 6) jF_60_18 kd10 (by decide) rfl rfl rfl rfl rfl (by omega) (by omega) rfl (pc2 := 21) ?_
    refine wp_use (m_41_r10_13 τ3 g4   _ _ (by omega) (by omega)) ?_
    rintro _ _ ⟨z21, rfl, h22, rfl⟩
    show WP 60 21 [(0, .ref 12), (1, .ref 45), (2, .ref 64)] [iV z21] _ _ _ _
    refine wp_go jF_60_21 ?_
    refine wp_is1 (lv2 := [(0, .ref 12), (1, .ref 45), (2, .ref 64), (3, iV z21)]) jF_60_25 rfl rfl rfl (pc2 := 26) ?_
    refine wp_il1 jF_60_26 rfl rfl (pc2 := 27) ?_
    refine wp_bi jF_60_27 (by decide) rfl (pc2 := 29) ?_
    refine wp_i_eq jF_60_29 (m_rgb h22 rfl) (m_rgl rfl) rfl (pc2 := 32) ?_ ?_
    · intro h23
      refine wp_al1 jF_60_54 rfl rfl (pc2 := 55) ?_
      refine wp_gr (b := 10) jF_60_55 kd12 (by decide) (c := 110) rfl rfl rfl (pc2 := 58) ?_
      refine wp_cV (as := []) (rest := []) (a := 10) (mx := 1) (ci := 6) jF_60_58 kd10 (by decide) rfl rfl rfl rfl rfl (by omega) (by omega) rfl (pc2 := 61) ?_
      have b24 := GI.b g4 10 5 kd10 (lo := 0) (hi := 1600) rfl
      have b25 := GI.b g4 10 6 kd10 (lo := 0) (hi := 1600) rfl
      refine wp_use (m_45_r10 τ3 g4  (by omega) _ _ (by omega) (by omega)) ?_
      rintro _ τ26 ⟨rfl, g27, f28⟩
      show WP 60 61 [(0, .ref 12), (1, .ref 45), (2, .ref 64), (3, iV z21)] [] _ _ _ _
      refine wp_al1 jF_60_61 rfl rfl (pc2 := 62) ?_
      refine wp_il1 jF_60_62 rfl rfl (pc2 := 63) ?_
      refine wp_bi jF_60_63 (by decide) rfl (pc2 := 65) ?_
      refine wp_i_ne jF_60_65 ⟨by omega, by omega⟩ (m_rgl rfl) rfl (pc2 := 68) ?_ ?_
      · intro h29; exfalso; omega
      · intro h29
        refine wp_ic jF_60_68 rfl (pc2 := 69) ?_
        refine wp_go jF_60_69 ?_
        refine wp_cV (as := [iV 1]) (rest := []) (a := 64) (mx := 2) (ci := 7) jF_60_73 kd64 (by decide) rfl rfl rfl rfl rfl (by omega) (by omega) rfl (pc2 := 76) ?_
        have b30 := GI.b hg 64 5 kd64 (lo := 0) (hi := 16) rfl
        have q31 : (τ26.1 64 5) = (σ.1 64 5) := ((FR.at f28 64 5 rfl).trans (FR.at f5 64 5 rfl))
        refine wp_use (m_61_r64 τ26 g27 1 (by omega) (by omega)  _ _ (by omega) (by omega)) ?_
        rintro _ τ33 ⟨rfl, g34, f35, p32⟩
        show WP 60 76 [(0, .ref 12), (1, .ref 45), (2, .ref 64), (3, iV z21)] [] _ _ _ _
        refine wp_ic jF_60_76 rfl (pc2 := 77) ?_
        refine wp_is2 (lv2 := [(0, .ref 12), (1, .ref 45), (2, .ref 64), (3, iV z21), (4, iV 0)]) jF_60_77 rfl rfl rfl (pc2 := 79) ?_
        refine wp_loop (α := Int) (fun a => [(0, .ref 12), (1, .ref 45), (2, .ref 64), (3, iV z21), (4, iV (a))]) (fun a τ => (0 ≤ a ∧ a ≤ 3) ∧ GI τ ∧ FR WQ64 τ33 τ ∧ ((τ.1 64 5) = (σ.1 64 5))) (fun a τ => Int.toNat (3 - (a))) (0) τ33 ?_ ?_
        · skip
          have b36 := GI.b g34 64 5 kd64 (lo := 0) (hi := 16) rfl
          exact ⟨⟨by omega, by omega⟩, g34, FR.rf, (by omega)⟩
        · rintro x37 τ39 ⟨h38, g40, f41, p42⟩ ih43
          have b44 := GI.b g40 64 5 kd64 (lo := 0) (hi := 16) rfl
          show WP 60 79 [(0, .ref 12), (1, .ref 45), (2, .ref 64), (3, iV z21), (4, iV x37)] [] _ _ _ _
          show WP 60 79 [(0, .ref 12), (1, .ref 45), (2, .ref 64), (3, iV z21), (4, iV x37)] [] _ _ _ _
          refine wp_il2 jF_60_79 rfl rfl (pc2 := 81) ?_
          refine wp_ic jF_60_81 rfl (pc2 := 82) ?_
          refine wp_i_ge jF_60_82 (m_rgb h38 rfl) (m_rgl rfl) rfl (pc2 := 85) ?_ ?_
          · intro h45
            refine wp_ic jF_60_104 rfl (pc2 := 105) ?_
            refine wp_ri jF_60_105 rfl ?_
            exact ⟨1, rfl, ⟨by omega, by omega⟩, g40, (FR.up (FR.up (FR.up (FR.up FR.rf f5 sb_Wtp_WQ64) f28 sb_Wtp_WQ64) f35 sb_WT64_WQ64) f41 sb_WQ64_WQ64), (by omega)⟩
          · intro h45
            refine wp_al1 jF_60_85 rfl rfl (pc2 := 86) ?_
            refine wp_al1 jF_60_86 rfl rfl (pc2 := 87) ?_
            refine wp_al1 jF_60_87 rfl rfl (pc2 := 88) ?_
            refine wp_il2 jF_60_88 rfl rfl (pc2 := 90) ?_
            refine wp_cV (as := [.ref 45, .ref 64, iV x37]) (rest := []) (a := 12) (mx := 6) (ci := 9) jF_60_90 kd12 (by decide) rfl rfl rfl rfl rfl (by omega) (by omega) rfl (pc2 := 93) ?_
            refine wp_use (m_62_r12_45_64 τ39 g40 x37 (by omega) (by omega)  _ _ (by omega) (by omega)) ?_
            rintro _ τ47 ⟨z50, rfl, h51, g48, f49, p46⟩
            show WP 60 93 [(0, .ref 12), (1, .ref 45), (2, .ref 64), (3, iV z21), (4, iV x37)] [iV z50] _ _ _ _
            refine wp_z_ne jF_60_93 (m_rgb h51 rfl) rfl (pc2 := 96) ?_ ?_
            · intro h52
              refine wp_inc (lv2 := [(0, .ref 12), (1, .ref 45), (2, .ref 64), (3, iV z21), (4, iV (x37 + 1))]) jF_60_98 rfl rfl rfl rfl (pc2 := 101) ?_
              refine wp_go jF_60_101 ?_
              have b53 := GI.b g48 64 5 kd64 (lo := 0) (hi := 16) rfl
              exact ih43 ((x37 + 1)) τ47 ⟨⟨by omega, by omega⟩, g48, (FR.up f41 f49 sb_WQ64_WQ64), (by omega)⟩ (by show Int.toNat (3 - (x37 + 1)) < Int.toNat (3 - x37); omega)
            · intro h52
              refine wp_ic jF_60_96 rfl (pc2 := 97) ?_
              refine wp_ri jF_60_97 rfl ?_
              have b54 := GI.b g48 64 5 kd64 (lo := 0) (hi := 16) rfl
              exact ⟨0, rfl, ⟨by omega, by omega⟩, g48, (FR.up (FR.up (FR.up (FR.up (FR.up FR.rf f5 sb_Wtp_WQ64) f28 sb_Wtp_WQ64) f35 sb_WT64_WQ64) f41 sb_WQ64_WQ64) f49 sb_WQ64_WQ64), (by omega)⟩
    · intro h23
      refine wp_il1 jF_60_32 rfl rfl (pc2 := 33) ?_
      refine wp_bi jF_60_33 (by decide) rfl (pc2 := 35) ?_
      refine wp_i_eq jF_60_35 (m_rgb h22 rfl) (m_rgl rfl) rfl (pc2 := 38) ?_ ?_
      · intro h55
        refine wp_al1 jF_60_54 rfl rfl (pc2 := 55) ?_
        refine wp_gr (b := 10) jF_60_55 kd12 (by decide) (c := 110) rfl rfl rfl (pc2 := 58) ?_
        refine wp_cV (as := []) (rest := []) (a := 10) (mx := 1) (ci := 6) jF_60_58 kd10 (by decide) rfl rfl rfl rfl rfl (by omega) (by omega) rfl (pc2 := 61) ?_
        have b56 := GI.b g4 10 5 kd10 (lo := 0) (hi := 1600) rfl
        have b57 := GI.b g4 10 6 kd10 (lo := 0) (hi := 1600) rfl
        refine wp_use (m_45_r10 τ3 g4  (by omega) _ _ (by omega) (by omega)) ?_
        rintro _ τ58 ⟨rfl, g59, f60⟩
        show WP 60 61 [(0, .ref 12), (1, .ref 45), (2, .ref 64), (3, iV z21)] [] _ _ _ _
        refine wp_al1 jF_60_61 rfl rfl (pc2 := 62) ?_
        refine wp_il1 jF_60_62 rfl rfl (pc2 := 63) ?_
        refine wp_bi jF_60_63 (by decide) rfl (pc2 := 65) ?_
        refine wp_i_ne jF_60_65 ⟨by omega, by omega⟩ (m_rgl rfl) rfl (pc2 := 68) ?_ ?_
        · intro h61
          refine wp_ic jF_60_72 rfl (pc2 := 73) ?_
          refine wp_cV (as := [iV 0]) (rest := []) (a := 64) (mx := 2) (ci := 7) jF_60_73 kd64 (by decide) rfl rfl rfl rfl rfl (by omega) (by omega) rfl (pc2 := 76) ?_
          have b62 := GI.b hg 64 5 kd64 (lo := 0) (hi := 16) rfl
          have q63 : (τ58.1 64 5) = (σ.1 64 5) := ((FR.at f60 64 5 rfl).trans (FR.at f5 64 5 rfl))
          refine wp_use (m_61_r64 τ58 g59 0 (by omega) (by omega)  _ _ (by omega) (by omega)) ?_
          rintro _ τ65 ⟨rfl, g66, f67, p64⟩
          show WP 60 76 [(0, .ref 12), (1, .ref 45), (2, .ref 64), (3, iV z21)] [] _ _ _ _
          refine wp_ic jF_60_76 rfl (pc2 := 77) ?_
          refine wp_is2 (lv2 := [(0, .ref 12), (1, .ref 45), (2, .ref 64), (3, iV z21), (4, iV 0)]) jF_60_77 rfl rfl rfl (pc2 := 79) ?_
          refine wp_loop (α := Int) (fun a => [(0, .ref 12), (1, .ref 45), (2, .ref 64), (3, iV z21), (4, iV (a))]) (fun a τ => (0 ≤ a ∧ a ≤ 3) ∧ GI τ ∧ FR WQ64 τ65 τ ∧ ((τ.1 64 5) = (σ.1 64 5))) (fun a τ => Int.toNat (3 - (a))) (0) τ65 ?_ ?_
          · skip
            have b68 := GI.b g66 64 5 kd64 (lo := 0) (hi := 16) rfl
            exact ⟨⟨by omega, by omega⟩, g66, FR.rf, (by omega)⟩
          · rintro x69 τ71 ⟨h70, g72, f73, p74⟩ ih75
            have b76 := GI.b g72 64 5 kd64 (lo := 0) (hi := 16) rfl
            show WP 60 79 [(0, .ref 12), (1, .ref 45), (2, .ref 64), (3, iV z21), (4, iV x69)] [] _ _ _ _
            show WP 60 79 [(0, .ref 12), (1, .ref 45), (2, .ref 64), (3, iV z21), (4, iV x69)] [] _ _ _ _
            refine wp_il2 jF_60_79 rfl rfl (pc2 := 81) ?_
            refine wp_ic jF_60_81 rfl (pc2 := 82) ?_
            refine wp_i_ge jF_60_82 (m_rgb h70 rfl) (m_rgl rfl) rfl (pc2 := 85) ?_ ?_
            · intro h77
              refine wp_ic jF_60_104 rfl (pc2 := 105) ?_
              refine wp_ri jF_60_105 rfl ?_
              exact ⟨1, rfl, ⟨by omega, by omega⟩, g72, (FR.up (FR.up (FR.up (FR.up FR.rf f5 sb_Wtp_WQ64) f60 sb_Wtp_WQ64) f67 sb_WT64_WQ64) f73 sb_WQ64_WQ64), (by omega)⟩
            · intro h77
              refine wp_al1 jF_60_85 rfl rfl (pc2 := 86) ?_
              refine wp_al1 jF_60_86 rfl rfl (pc2 := 87) ?_
              refine wp_al1 jF_60_87 rfl rfl (pc2 := 88) ?_
              refine wp_il2 jF_60_88 rfl rfl (pc2 := 90) ?_
              refine wp_cV (as := [.ref 45, .ref 64, iV x69]) (rest := []) (a := 12) (mx := 6) (ci := 9) jF_60_90 kd12 (by decide) rfl rfl rfl rfl rfl (by omega) (by omega) rfl (pc2 := 93) ?_
              refine wp_use (m_62_r12_45_64 τ71 g72 x69 (by omega) (by omega)  _ _ (by omega) (by omega)) ?_
              rintro _ τ79 ⟨z82, rfl, h83, g80, f81, p78⟩
              show WP 60 93 [(0, .ref 12), (1, .ref 45), (2, .ref 64), (3, iV z21), (4, iV x69)] [iV z82] _ _ _ _
              refine wp_z_ne jF_60_93 (m_rgb h83 rfl) rfl (pc2 := 96) ?_ ?_
              · intro h84
                refine wp_inc (lv2 := [(0, .ref 12), (1, .ref 45), (2, .ref 64), (3, iV z21), (4, iV (x69 + 1))]) jF_60_98 rfl rfl rfl rfl (pc2 := 101) ?_
                refine wp_go jF_60_101 ?_
                have b85 := GI.b g80 64 5 kd64 (lo := 0) (hi := 16) rfl
                exact ih75 ((x69 + 1)) τ79 ⟨⟨by omega, by omega⟩, g80, (FR.up f73 f81 sb_WQ64_WQ64), (by omega)⟩ (by show Int.toNat (3 - (x69 + 1)) < Int.toNat (3 - x69); omega)
              · intro h84
                refine wp_ic jF_60_96 rfl (pc2 := 97) ?_
                refine wp_ri jF_60_97 rfl ?_
                have b86 := GI.b g80 64 5 kd64 (lo := 0) (hi := 16) rfl
                exact ⟨0, rfl, ⟨by omega, by omega⟩, g80, (FR.up (FR.up (FR.up (FR.up (FR.up FR.rf f5 sb_Wtp_WQ64) f60 sb_Wtp_WQ64) f67 sb_WT64_WQ64) f73 sb_WQ64_WQ64) f81 sb_WQ64_WQ64), (by omega)⟩
        · intro h61; exfalso; omega
      · intro h55
        refine wp_al1 jF_60_38 rfl rfl (pc2 := 39) ?_
        refine wp_gr (b := 10) jF_60_39 kd12 (by decide) (c := 110) rfl rfl rfl (pc2 := 42) ?_
        refine wp_ic jF_60_42 rfl (pc2 := 43) ?_
        refine wp_al1 jF_60_43 rfl rfl (pc2 := 44) ?_
        refine wp_gr (b := 10) jF_60_44 kd12 (by decide) (c := 110) rfl rfl rfl (pc2 := 47) ?_
        have b87 := GI.b g4 10 2 kd10 (lo := 0) (hi := 1600) rfl
        refine wp_gi jF_60_47 kd10 (by decide) rfl rfl rfl (pc2 := 50) ?_
        refine wp_cV (as := [iV 1, iV (τ3.1 10 2)]) (rest := []) (a := 10) (mx := 3) (ci := 6) jF_60_50 kd10 (by decide) rfl rfl rfl rfl rfl (by omega) (by omega) rfl (pc2 := 53) ?_
        refine wp_use (m_42_r10 τ3 g4 1 (by omega) (by omega) (τ3.1 10 2) (by omega) (by omega)  _ _ (by omega) (by omega)) ?_
        rintro _ τ88 ⟨z91, rfl, h92, g89, f90⟩
        show WP 60 53 [(0, .ref 12), (1, .ref 45), (2, .ref 64), (3, iV z21)] [iV z91] _ _ _ _
        refine wp_ri jF_60_53 (m_fitb (by omega) (by omega)) ?_
        have b93 := GI.b hg 64 5 kd64 (lo := 0) (hi := 16) rfl
        have q94 : (τ88.1 64 5) = (σ.1 64 5) := ((FR.at f90 64 5 rfl).trans (FR.at f5 64 5 rfl))
        exact ⟨z91, rfl, ⟨by omega, by omega⟩, g89, (FR.up (FR.up FR.rf f5 sb_Wtp_WQ64) f90 sb_Wtp_WQ64), (by omega)⟩
set_option maxHeartbeats 4000000 in
set_option maxRecDepth 20000 in
/-- TongueReader.takesRest -/
theorem m_46_r12_45 (σ : jM) (hg : GI σ) (kind : Int) (hl_kind : 0 ≤ kind) (hu_kind : kind ≤ 8) (pre0 : (σ.1 58 5) ≤ 8) (pre1 : (σ.1 64 5) ≤ 10) (fr lo : Nat) (hfr : 5 ≤ fr) (hlo : 112 ≤ lo) : WP 46 0 (lv_args 0 [.ref 12, .ref 45, iV kind]) [] fr lo σ (fun v τ => ∃ z : Int, v = some (iV z) ∧ (0 ≤ z ∧ z ≤ 1) ∧ GI τ ∧ FR WR45 σ τ ∧ ((τ.1 58 5) ≤ 8) ∧ ((τ.1 64 5) ≤ 10)) := by
  show WP 46 0 [(0, .ref 12), (1, .ref 45), (2, iV kind)] [] _ _ _ _
  refine wp_il1 jF_46_0 rfl rfl (pc2 := 1) ?_
  rcases m_tsw kind 3 8 with h1 | h1
  · refine wp_tswd (tgt := 153) jF_46_1 ⟨by omega, by omega⟩ h1 (by decide) ?_
    refine wp_al1 jF_46_153 rfl rfl (pc2 := 154) ?_
    refine wp_al1 jF_46_154 rfl rfl (pc2 := 155) ?_
    refine wp_il1 jF_46_155 rfl rfl (pc2 := 156) ?_
    refine wp_cV (as := [.ref 45, iV kind]) (rest := []) (a := 12) (mx := 3) (ci := 9) jF_46_156 kd12 (by decide) rfl rfl rfl rfl rfl (by omega) (by omega) rfl (pc2 := 159) ?_
    have b2 := GI.b hg 58 5 kd58 (lo := 0) (hi := 16) rfl
    have b3 := GI.b hg 64 5 kd64 (lo := 0) (hi := 16) rfl
    refine wp_use (m_66_r12_45 σ hg kind (by omega) (by omega)  _ _ (by omega) (by omega)) ?_
    rintro _ τ6 ⟨z9, rfl, h10, g7, f8, p4, p5⟩
    show WP 46 159 [(0, .ref 12), (1, .ref 45), (2, iV kind)] [iV z9] _ _ _ _
    refine wp_ri jF_46_159 (m_fitb (by omega) (by omega)) ?_
    have b11 := GI.b g7 58 5 kd58 (lo := 0) (hi := 16) rfl
    have b12 := GI.b g7 64 5 kd64 (lo := 0) (hi := 16) rfl
    exact ⟨z9, rfl, ⟨by omega, by omega⟩, g7, f8, (by omega), (by omega)⟩
  · have h1c : kind = 3 ∨ kind = 4 ∨ kind = 5 ∨ kind = 6 ∨ kind = 7 ∨ kind = 8 := by omega
    rcases h1c with hh | hh | hh | hh | hh | hh
    · refine wp_tswx (x := 3) (tgt := 40) jF_46_1 hh (by decide) ?_
      subst hh
      refine wp_al1 jF_46_40 rfl rfl (pc2 := 41) ?_
      refine wp_al1 jF_46_41 rfl rfl (pc2 := 42) ?_
      refine wp_cV (as := [.ref 45]) (rest := []) (a := 12) (mx := 4) (ci := 9) jF_46_42 kd12 (by decide) rfl rfl rfl rfl rfl (by omega) (by omega) rfl (pc2 := 45) ?_
      have b13 := GI.b hg 58 5 kd58 (lo := 0) (hi := 16) rfl
      have b14 := GI.b hg 64 5 kd64 (lo := 0) (hi := 16) rfl
      refine wp_use (m_47_r12_45 σ hg   _ _ (by omega) (by omega)) ?_
      rintro _ τ17 ⟨z20, rfl, h21, g18, f19, p15, p16⟩
      show WP 46 45 [(0, .ref 12), (1, .ref 45), (2, iV 3)] [iV z20] _ _ _ _
      refine wp_ri jF_46_45 (m_fitb (by omega) (by omega)) ?_
      have b22 := GI.b g18 58 5 kd58 (lo := 0) (hi := 16) rfl
      have b23 := GI.b g18 64 5 kd64 (lo := 0) (hi := 16) rfl
      exact ⟨z20, rfl, ⟨by omega, by omega⟩, g18, f19, (by omega), (by omega)⟩
    · refine wp_tswx (x := 4) (tgt := 46) jF_46_1 hh (by decide) ?_
      subst hh
      refine wp_al1 jF_46_46 rfl rfl (pc2 := 47) ?_
      refine wp_al1 jF_46_47 rfl rfl (pc2 := 48) ?_
      refine wp_cV (as := [.ref 45]) (rest := []) (a := 12) (mx := 2) (ci := 9) jF_46_48 kd12 (by decide) rfl rfl rfl rfl rfl (by omega) (by omega) rfl (pc2 := 51) ?_
      have b24 := GI.b hg 58 5 kd58 (lo := 0) (hi := 16) rfl
      have b25 := GI.b hg 64 5 kd64 (lo := 0) (hi := 16) rfl
      refine wp_use (m_53_r12_45 σ hg   _ _ (by omega) (by omega)) ?_
      rintro _ τ28 ⟨z31, rfl, h32, g29, f30, p26, p27⟩
      show WP 46 51 [(0, .ref 12), (1, .ref 45), (2, iV 4)] [iV z31] _ _ _ _
      refine wp_ri jF_46_51 (m_fitb (by omega) (by omega)) ?_
      have b33 := GI.b g29 58 5 kd58 (lo := 0) (hi := 16) rfl
      have b34 := GI.b g29 64 5 kd64 (lo := 0) (hi := 16) rfl
      exact ⟨z31, rfl, ⟨by omega, by omega⟩, g29, f30, (by omega), (by omega)⟩
    · refine wp_tswx (x := 5) (tgt := 52) jF_46_1 hh (by decide) ?_
      subst hh
      refine wp_al1 jF_46_52 rfl rfl (pc2 := 53) ?_
      refine wp_al1 jF_46_53 rfl rfl (pc2 := 54) ?_
      refine wp_cV (as := [.ref 45]) (rest := []) (a := 12) (mx := 3) (ci := 9) jF_46_54 kd12 (by decide) rfl rfl rfl rfl rfl (by omega) (by omega) rfl (pc2 := 57) ?_
      have b35 := GI.b hg 58 5 kd58 (lo := 0) (hi := 16) rfl
      have b36 := GI.b hg 64 5 kd64 (lo := 0) (hi := 16) rfl
      refine wp_use (m_55_r12_45 σ hg   _ _ (by omega) (by omega)) ?_
      rintro _ τ39 ⟨z42, rfl, h43, g40, f41, p37, p38⟩
      show WP 46 57 [(0, .ref 12), (1, .ref 45), (2, iV 5)] [iV z42] _ _ _ _
      refine wp_ri jF_46_57 (m_fitb (by omega) (by omega)) ?_
      have b44 := GI.b g40 58 5 kd58 (lo := 0) (hi := 16) rfl
      have b45 := GI.b g40 64 5 kd64 (lo := 0) (hi := 16) rfl
      exact ⟨z42, rfl, ⟨by omega, by omega⟩, g40, f41, (by omega), (by omega)⟩
    · refine wp_tswx (x := 6) (tgt := 58) jF_46_1 hh (by decide) ?_
      subst hh
      refine wp_al1 jF_46_58 rfl rfl (pc2 := 59) ?_
      refine wp_al1 jF_46_59 rfl rfl (pc2 := 60) ?_
      refine wp_cV (as := [.ref 45]) (rest := []) (a := 12) (mx := 3) (ci := 9) jF_46_60 kd12 (by decide) rfl rfl rfl rfl rfl (by omega) (by omega) rfl (pc2 := 63) ?_
      have b46 := GI.b hg 58 5 kd58 (lo := 0) (hi := 16) rfl
      have b47 := GI.b hg 64 5 kd64 (lo := 0) (hi := 16) rfl
      refine wp_use (m_58_r12_45 σ hg   _ _ (by omega) (by omega)) ?_
      rintro _ τ50 ⟨z53, rfl, h54, g51, f52, p48, p49⟩
      show WP 46 63 [(0, .ref 12), (1, .ref 45), (2, iV 6)] [iV z53] _ _ _ _
      refine wp_z_eq jF_46_63 (m_rgb h54 rfl) rfl (pc2 := 66) ?_ ?_
      · intro h55
        refine wp_ic jF_46_93 rfl (pc2 := 94) ?_
        refine wp_ri jF_46_94 rfl ?_
        have b56 := GI.b g51 58 5 kd58 (lo := 0) (hi := 16) rfl
        have b57 := GI.b g51 64 5 kd64 (lo := 0) (hi := 16) rfl
        exact ⟨0, rfl, ⟨by omega, by omega⟩, g51, f52, (by omega), (by omega)⟩
      · intro h55
        refine wp_al1 jF_46_66 rfl rfl (pc2 := 67) ?_
        refine wp_al1 jF_46_67 rfl rfl (pc2 := 68) ?_
        refine wp_al1 jF_46_68 rfl rfl (pc2 := 69) ?_
        refine wp_gr (b := 52) jF_46_69 kd45 (by decide) (c := 10) rfl rfl rfl (pc2 := 72) ?_
        refine wp_cV (as := [.ref 45, .ref 52]) (rest := []) (a := 12) (mx := 5) (ci := 9) jF_46_72 kd12 (by decide) rfl rfl rfl rfl rfl (by omega) (by omega) rfl (pc2 := 75) ?_
        have b58 := GI.b g51 52 5 kd52 (lo := 0) (hi := 16) rfl
        refine wp_use (m_60_r12_45_52 τ50 g51   _ _ (by omega) (by omega)) ?_
        rintro _ τ60 ⟨z63, rfl, h64, g61, f62, p59⟩
        show WP 46 75 [(0, .ref 12), (1, .ref 45), (2, iV 6)] [iV z63] _ _ _ _
        refine wp_z_eq jF_46_75 (m_rgb h64 rfl) rfl (pc2 := 78) ?_ ?_
        · intro h65
          refine wp_ic jF_46_93 rfl (pc2 := 94) ?_
          refine wp_ri jF_46_94 rfl ?_
          have b66 := GI.b g51 58 5 kd58 (lo := 0) (hi := 16) rfl
          have q67 : (τ60.1 58 5) = (τ50.1 58 5) := (FR.at f62 58 5 rfl)
          have b68 := GI.b g51 64 5 kd64 (lo := 0) (hi := 16) rfl
          have q69 : (τ60.1 64 5) = (τ50.1 64 5) := (FR.at f62 64 5 rfl)
          exact ⟨0, rfl, ⟨by omega, by omega⟩, g61, (FR.up f52 f62 sb_WQ52_WR45), (by omega), (by omega)⟩
        · intro h65
          refine wp_al1 jF_46_78 rfl rfl (pc2 := 79) ?_
          refine wp_al1 jF_46_79 rfl rfl (pc2 := 80) ?_
          refine wp_gr (b := 52) jF_46_80 kd45 (by decide) (c := 10) rfl rfl rfl (pc2 := 83) ?_
          refine wp_cV (as := [.ref 52]) (rest := []) (a := 12) (mx := 2) (ci := 9) jF_46_83 kd12 (by decide) rfl rfl rfl rfl rfl (by omega) (by omega) rfl (pc2 := 86) ?_
          refine wp_use (m_64_r12_52 τ60 g61   _ _ (by omega) (by omega)) ?_
          rintro _ τ70 ⟨z73, rfl, h74, g71, f72⟩
          show WP 46 86 [(0, .ref 12), (1, .ref 45), (2, iV 6)] [iV z73] _ _ _ _
          refine wp_z_eq jF_46_86 (m_rgb h74 rfl) rfl (pc2 := 89) ?_ ?_
          · intro h75
            refine wp_ic jF_46_93 rfl (pc2 := 94) ?_
            refine wp_ri jF_46_94 rfl ?_
            have b76 := GI.b g51 58 5 kd58 (lo := 0) (hi := 16) rfl
            have q77 : (τ70.1 58 5) = (τ50.1 58 5) := ((FR.at f72 58 5 rfl).trans (FR.at f62 58 5 rfl))
            have b78 := GI.b g51 64 5 kd64 (lo := 0) (hi := 16) rfl
            have q79 : (τ70.1 64 5) = (τ50.1 64 5) := ((FR.at f72 64 5 rfl).trans (FR.at f62 64 5 rfl))
            exact ⟨0, rfl, ⟨by omega, by omega⟩, g71, (FR.up (FR.up f52 f62 sb_WQ52_WR45) f72 sb_WQ52_WR45), (by omega), (by omega)⟩
          · intro h75
            refine wp_ic jF_46_89 rfl (pc2 := 90) ?_
            refine wp_go jF_46_90 ?_
            refine wp_ri jF_46_94 rfl ?_
            have b80 := GI.b g51 58 5 kd58 (lo := 0) (hi := 16) rfl
            have q81 : (τ70.1 58 5) = (τ50.1 58 5) := ((FR.at f72 58 5 rfl).trans (FR.at f62 58 5 rfl))
            have b82 := GI.b g51 64 5 kd64 (lo := 0) (hi := 16) rfl
            have q83 : (τ70.1 64 5) = (τ50.1 64 5) := ((FR.at f72 64 5 rfl).trans (FR.at f62 64 5 rfl))
            exact ⟨1, rfl, ⟨by omega, by omega⟩, g71, (FR.up (FR.up f52 f62 sb_WQ52_WR45) f72 sb_WQ52_WR45), (by omega), (by omega)⟩
    · refine wp_tswx (x := 7) (tgt := 95) jF_46_1 hh (by decide) ?_
      subst hh
      refine wp_al1 jF_46_95 rfl rfl (pc2 := 96) ?_
      refine wp_al1 jF_46_96 rfl rfl (pc2 := 97) ?_
      refine wp_al1 jF_46_97 rfl rfl (pc2 := 98) ?_
      refine wp_gr (b := 58) jF_46_98 kd45 (by decide) (c := 16) rfl rfl rfl (pc2 := 101) ?_
      refine wp_cV (as := [.ref 45, .ref 58]) (rest := []) (a := 12) (mx := 5) (ci := 9) jF_46_101 kd12 (by decide) rfl rfl rfl rfl rfl (by omega) (by omega) rfl (pc2 := 104) ?_
      have b84 := GI.b hg 58 5 kd58 (lo := 0) (hi := 16) rfl
      refine wp_use (m_60_r12_45_58 σ hg   _ _ (by omega) (by omega)) ?_
      rintro _ τ86 ⟨z89, rfl, h90, g87, f88, p85⟩
      show WP 46 104 [(0, .ref 12), (1, .ref 45), (2, iV 7)] [iV z89] _ _ _ _
      refine wp_z_eq jF_46_104 (m_rgb h90 rfl) rfl (pc2 := 107) ?_ ?_
      · intro h91
        refine wp_ic jF_46_122 rfl (pc2 := 123) ?_
        refine wp_ri jF_46_123 rfl ?_
        have b92 := GI.b g87 58 5 kd58 (lo := 0) (hi := 16) rfl
        have b93 := GI.b hg 64 5 kd64 (lo := 0) (hi := 16) rfl
        have q94 : (τ86.1 64 5) = (σ.1 64 5) := (FR.at f88 64 5 rfl)
        exact ⟨0, rfl, ⟨by omega, by omega⟩, g87, (FR.up FR.rf f88 sb_WQ58_WR45), (by omega), (by omega)⟩
      · intro h91
        refine wp_al1 jF_46_107 rfl rfl (pc2 := 108) ?_
        refine wp_gr (b := 58) jF_46_108 kd45 (by decide) (c := 16) rfl rfl rfl (pc2 := 111) ?_
        refine wp_ic jF_46_111 rfl (pc2 := 112) ?_
        refine wp_cV (as := [iV 0]) (rest := []) (a := 58) (mx := 2) (ci := 7) jF_46_112 kd58 (by decide) rfl rfl rfl rfl rfl (by omega) (by omega) rfl (pc2 := 115) ?_
        have b95 := GI.b g87 58 5 kd58 (lo := 0) (hi := 16) rfl
        refine wp_use (m_65_r58 τ86 g87 0 (by omega) (by omega) (by omega) _ _ (by omega) (by omega)) ?_
        rintro _ τ97 ⟨z100, rfl, h101, g98, f99, p96⟩
        show WP 46 115 [(0, .ref 12), (1, .ref 45), (2, iV 7)] [iV z100] _ _ _ _
        refine wp_z_eq jF_46_115 (m_rgb h101 rfl) rfl (pc2 := 118) ?_ ?_
        · intro h102
          refine wp_ic jF_46_122 rfl (pc2 := 123) ?_
          refine wp_ri jF_46_123 rfl ?_
          have b103 := GI.b g98 58 5 kd58 (lo := 0) (hi := 16) rfl
          have b104 := GI.b hg 64 5 kd64 (lo := 0) (hi := 16) rfl
          have q105 : (τ97.1 64 5) = (σ.1 64 5) := ((FR.at f99 64 5 rfl).trans (FR.at f88 64 5 rfl))
          exact ⟨0, rfl, ⟨by omega, by omega⟩, g98, (FR.up (FR.up FR.rf f88 sb_WQ58_WR45) f99 sb_WT58_WR45), (by omega), (by omega)⟩
        · intro h102
          refine wp_ic jF_46_118 rfl (pc2 := 119) ?_
          refine wp_go jF_46_119 ?_
          refine wp_ri jF_46_123 rfl ?_
          have b106 := GI.b g98 58 5 kd58 (lo := 0) (hi := 16) rfl
          have b107 := GI.b hg 64 5 kd64 (lo := 0) (hi := 16) rfl
          have q108 : (τ97.1 64 5) = (σ.1 64 5) := ((FR.at f99 64 5 rfl).trans (FR.at f88 64 5 rfl))
          exact ⟨1, rfl, ⟨by omega, by omega⟩, g98, (FR.up (FR.up FR.rf f88 sb_WQ58_WR45) f99 sb_WT58_WR45), (by omega), (by omega)⟩
    · refine wp_tswx (x := 8) (tgt := 124) jF_46_1 hh (by decide) ?_
      subst hh
      refine wp_al1 jF_46_124 rfl rfl (pc2 := 125) ?_
      refine wp_al1 jF_46_125 rfl rfl (pc2 := 126) ?_
      refine wp_al1 jF_46_126 rfl rfl (pc2 := 127) ?_
      refine wp_gr (b := 64) jF_46_127 kd45 (by decide) (c := 22) rfl rfl rfl (pc2 := 130) ?_
      refine wp_cV (as := [.ref 45, .ref 64]) (rest := []) (a := 12) (mx := 5) (ci := 9) jF_46_130 kd12 (by decide) rfl rfl rfl rfl rfl (by omega) (by omega) rfl (pc2 := 133) ?_
      have b109 := GI.b hg 64 5 kd64 (lo := 0) (hi := 16) rfl
      refine wp_use (m_60_r12_45_64 σ hg   _ _ (by omega) (by omega)) ?_
      rintro _ τ111 ⟨z114, rfl, h115, g112, f113, p110⟩
      show WP 46 133 [(0, .ref 12), (1, .ref 45), (2, iV 8)] [iV z114] _ _ _ _
      refine wp_z_eq jF_46_133 (m_rgb h115 rfl) rfl (pc2 := 136) ?_ ?_
      · intro h116
        refine wp_ic jF_46_151 rfl (pc2 := 152) ?_
        refine wp_ri jF_46_152 rfl ?_
        have b117 := GI.b hg 58 5 kd58 (lo := 0) (hi := 16) rfl
        have q118 : (τ111.1 58 5) = (σ.1 58 5) := (FR.at f113 58 5 rfl)
        have b119 := GI.b g112 64 5 kd64 (lo := 0) (hi := 16) rfl
        exact ⟨0, rfl, ⟨by omega, by omega⟩, g112, (FR.up FR.rf f113 sb_WQ64_WR45), (by omega), (by omega)⟩
      · intro h116
        refine wp_al1 jF_46_136 rfl rfl (pc2 := 137) ?_
        refine wp_gr (b := 64) jF_46_137 kd45 (by decide) (c := 22) rfl rfl rfl (pc2 := 140) ?_
        refine wp_ic jF_46_140 rfl (pc2 := 141) ?_
        refine wp_cV (as := [iV 0]) (rest := []) (a := 64) (mx := 2) (ci := 7) jF_46_141 kd64 (by decide) rfl rfl rfl rfl rfl (by omega) (by omega) rfl (pc2 := 144) ?_
        have b120 := GI.b g112 64 5 kd64 (lo := 0) (hi := 16) rfl
        refine wp_use (m_65_r64 τ111 g112 0 (by omega) (by omega) (by omega) _ _ (by omega) (by omega)) ?_
        rintro _ τ122 ⟨z125, rfl, h126, g123, f124, p121⟩
        show WP 46 144 [(0, .ref 12), (1, .ref 45), (2, iV 8)] [iV z125] _ _ _ _
        refine wp_z_eq jF_46_144 (m_rgb h126 rfl) rfl (pc2 := 147) ?_ ?_
        · intro h127
          refine wp_ic jF_46_151 rfl (pc2 := 152) ?_
          refine wp_ri jF_46_152 rfl ?_
          have b128 := GI.b hg 58 5 kd58 (lo := 0) (hi := 16) rfl
          have q129 : (τ122.1 58 5) = (σ.1 58 5) := ((FR.at f124 58 5 rfl).trans (FR.at f113 58 5 rfl))
          have b130 := GI.b g123 64 5 kd64 (lo := 0) (hi := 16) rfl
          exact ⟨0, rfl, ⟨by omega, by omega⟩, g123, (FR.up (FR.up FR.rf f113 sb_WQ64_WR45) f124 sb_WT64_WR45), (by omega), (by omega)⟩
        · intro h127
          refine wp_ic jF_46_147 rfl (pc2 := 148) ?_
          refine wp_go jF_46_148 ?_
          refine wp_ri jF_46_152 rfl ?_
          have b131 := GI.b hg 58 5 kd58 (lo := 0) (hi := 16) rfl
          have q132 : (τ122.1 58 5) = (σ.1 58 5) := ((FR.at f124 58 5 rfl).trans (FR.at f113 58 5 rfl))
          have b133 := GI.b g123 64 5 kd64 (lo := 0) (hi := 16) rfl
          exact ⟨1, rfl, ⟨by omega, by omega⟩, g123, (FR.up (FR.up FR.rf f113 sb_WQ64_WR45) f124 sb_WT64_WR45), (by omega), (by omega)⟩
set_option maxHeartbeats 4000000 in
set_option maxRecDepth 20000 in
/-- TongueReader.read -/
theorem m_29_r12_45 (σ : jM) (hg : GI σ)   (fr lo : Nat) (hfr : 6 ≤ fr) (hlo : 134 ≤ lo) : WP 29 0 (lv_args 0 [.ref 12, .ref 45]) [] fr lo σ (fun v τ => ∃ z : Int, v = some (iV z) ∧ ((-1) ≤ z ∧ z ≤ 70) ∧ GI τ ∧ FR WR45 σ τ ∧ ((τ.1 58 5) ≤ 8) ∧ ((τ.1 64 5) ≤ 10)) := by
  show WP 29 0 [(0, .ref 12), (1, .ref 45)] [] _ _ _ _
  refine wp_al1 jF_29_0 rfl rfl (pc2 := 1) ?_
  refine wp_cV (as := []) (rest := []) (a := 45) (mx := 1) (ci := 8) jF_29_1 kd45 (by decide) rfl rfl rfl rfl rfl (by omega) (by omega) rfl (pc2 := 4) ?_
  refine wp_use (m_30_r45 σ hg   _ _ (by omega) (by omega)) ?_
  rintro _ τ3 ⟨rfl, g4, f5, p1, p2⟩
  show WP 29 4 [(0, .ref 12), (1, .ref 45)] [] _ _ _ _
  refine wp_al1 jF_29_4 rfl rfl (pc2 := 5) ?_
  refine wp_gr (b := 10) jF_29_5 kd12 (by decide) (c := 110) rfl rfl rfl (pc2 := 8) ?_
  refine wp_cV (as := []) (rest := []) (a := 10) (mx := 1) (ci := 6) jF_29_8 kd10 (by decide) rfl rfl rfl rfl rfl (by omega) (by omega) rfl (pc2 := 11) ?_
  refine wp_use (m_34_r10 τ3 g4   _ _ (by omega) (by omega)) ?_
  rintro _ τ6 ⟨rfl, g7, f8⟩
  show WP 29 11 [(0, .ref 12), (1, .ref 45)] [] _ _ _ _
  refine wp_ic jF_29_11 rfl (pc2 := 12) ?_
  refine wp_is1 (lv2 := [(0, .ref 12), (1, .ref 45), (2, iV 0)]) jF_29_12 rfl rfl rfl (pc2 := 13) ?_
  refine wp_loop (α := Int) (fun a => [(0, .ref 12), (1, .ref 45), (2, iV (a))]) (fun a τ => (0 ≤ a ∧ a ≤ 70) ∧ GI τ ∧ FR WR45 τ6 τ ∧ ((τ.1 58 5) ≤ 8) ∧ ((τ.1 64 5) ≤ 10)) (fun a τ => Int.toNat (70 - (a))) (0) τ6 ?_ ?_
  · skip
    have b9 := GI.b g4 58 5 kd58 (lo := 0) (hi := 16) rfl
    have q10 : (τ6.1 58 5) = (τ3.1 58 5) := (FR.at f8 58 5 rfl)
    have b11 := GI.b g4 64 5 kd64 (lo := 0) (hi := 16) rfl
    have q12 : (τ6.1 64 5) = (τ3.1 64 5) := (FR.at f8 64 5 rfl)
    exact ⟨⟨by omega, by omega⟩, g7, FR.rf, (by omega), (by omega)⟩
  · rintro x13 τ15 ⟨h14, g16, f17, p18, p19⟩ ih20
    have b21 := GI.b g16 58 5 kd58 (lo := 0) (hi := 16) rfl
    have b22 := GI.b g16 64 5 kd64 (lo := 0) (hi := 16) rfl
    show WP 29 13 [(0, .ref 12), (1, .ref 45), (2, iV x13)] [] _ _ _ _
    show WP 29 13 [(0, .ref 12), (1, .ref 45), (2, iV x13)] [] _ _ _ _
    refine wp_il1 jF_29_13 rfl rfl (pc2 := 14) ?_
    refine wp_bi jF_29_14 (by decide) rfl (pc2 := 16) ?_
    refine wp_i_ge jF_29_16 (m_rgb h14 rfl) (m_rgl rfl) rfl (pc2 := 19) ?_ ?_
    · intro h23
      refine wp_al1 jF_29_70 rfl rfl (pc2 := 71) ?_
      refine wp_gr (b := 10) jF_29_71 kd12 (by decide) (c := 110) rfl rfl rfl (pc2 := 74) ?_
      refine wp_cV (as := []) (rest := []) (a := 10) (mx := 1) (ci := 6) jF_29_74 kd10 (by decide) rfl rfl rfl rfl rfl (by omega) (by omega) rfl (pc2 := 77) ?_
      have b24 := GI.b hg 10 1 kd10 (lo := 0) (hi := 1600) rfl
      have q25 : (τ15.1 10 1) = (σ.1 10 1) := ((FR.at f17 10 1 rfl).trans ((FR.at f8 10 1 rfl).trans (FR.at f5 10 1 rfl)))
      refine wp_use (m_35_r10 τ15 g16   _ _ (by omega) (by omega)) ?_
      rintro _ τ27 ⟨z30, rfl, h31, g28, f29, p26⟩
      show WP 29 77 [(0, .ref 12), (1, .ref 45), (2, iV x13)] [iV z30] _ _ _ _
      refine wp_ic jF_29_77 rfl (pc2 := 78) ?_
      refine wp_i_eq jF_29_78 (m_rgb h31 rfl) (m_rgl rfl) rfl (pc2 := 81) ?_ ?_
      · intro h32
        clear p26
        refine wp_al1 jF_29_99 rfl rfl (pc2 := 100) ?_
        refine wp_cV (as := []) (rest := []) (a := 45) (mx := 6) (ci := 8) jF_29_100 kd45 (by decide) rfl rfl rfl rfl rfl (by omega) (by omega) rfl (pc2 := 103) ?_
        have q33 : (τ27.1 58 5) = (τ15.1 58 5) := (FR.at f29 58 5 rfl)
        have q34 : (τ27.1 64 5) = (τ15.1 64 5) := (FR.at f29 64 5 rfl)
        refine wp_use (m_69_r45 τ27 g28  (by omega) (by omega) _ _ (by omega) (by omega)) ?_
        rintro _ τ37 ⟨rfl, g38, f39, p35, p36⟩
        show WP 29 103 [(0, .ref 12), (1, .ref 45), (2, iV x13)] [] _ _ _ _
        refine wp_il1 jF_29_103 rfl rfl (pc2 := 104) ?_
        refine wp_ri jF_29_104 rfl ?_
        have b40 := GI.b g38 58 5 kd58 (lo := 0) (hi := 16) rfl
        have b41 := GI.b g38 64 5 kd64 (lo := 0) (hi := 16) rfl
        exact ⟨x13, rfl, ⟨by omega, by omega⟩, g38, (FR.up (FR.up (FR.up (FR.up (FR.up FR.rf f5 sb_WG45_WR45) f8 sb_Wtp_WR45) f17 sb_WR45_WR45) f29 sb_Wtp_WR45) f39 sb_WG45_WR45), (by omega), (by omega)⟩
      · intro h32
        replace p26 := p26 (by omega)
        refine wp_al1 jF_29_81 rfl rfl (pc2 := 82) ?_
        refine wp_gr (b := 10) jF_29_82 kd12 (by decide) (c := 110) rfl rfl rfl (pc2 := 85) ?_
        refine wp_ic jF_29_85 rfl (pc2 := 86) ?_
        refine wp_al1 jF_29_86 rfl rfl (pc2 := 87) ?_
        refine wp_gr (b := 10) jF_29_87 kd12 (by decide) (c := 110) rfl rfl rfl (pc2 := 90) ?_
        have b42 := GI.b g28 10 2 kd10 (lo := 0) (hi := 1600) rfl
        refine wp_gi jF_29_90 kd10 (by decide) rfl rfl rfl (pc2 := 93) ?_
        refine wp_cV (as := [iV 5, iV (τ27.1 10 2)]) (rest := []) (a := 10) (mx := 3) (ci := 6) jF_29_93 kd10 (by decide) rfl rfl rfl rfl rfl (by omega) (by omega) rfl (pc2 := 96) ?_
        refine wp_use (m_42_r10 τ27 g28 5 (by omega) (by omega) (τ27.1 10 2) (by omega) (by omega)  _ _ (by omega) (by omega)) ?_
        rintro _ τ43 ⟨z46, rfl, h47, g44, f45⟩
        show WP 29 96 [(0, .ref 12), (1, .ref 45), (2, iV x13)] [iV z46] _ _ _ _
        refine wp_pop jF_29_96 rfl rfl (pc2 := 97) ?_
        refine wp_ic jF_29_97 rfl (pc2 := 98) ?_
        refine wp_ri jF_29_98 rfl ?_
        have q48 : (τ43.1 58 5) = (τ15.1 58 5) := ((FR.at f45 58 5 rfl).trans (FR.at f29 58 5 rfl))
        have q49 : (τ43.1 64 5) = (τ15.1 64 5) := ((FR.at f45 64 5 rfl).trans (FR.at f29 64 5 rfl))
        exact ⟨(-1), rfl, ⟨by omega, by omega⟩, g44, (FR.up (FR.up (FR.up (FR.up (FR.up FR.rf f5 sb_WG45_WR45) f8 sb_Wtp_WR45) f17 sb_WR45_WR45) f29 sb_Wtp_WR45) f45 sb_Wtp_WR45), (by omega), (by omega)⟩
    · intro h23
      refine wp_al1 jF_29_19 rfl rfl (pc2 := 20) ?_
      refine wp_gr (b := 10) jF_29_20 kd12 (by decide) (c := 110) rfl rfl rfl (pc2 := 23) ?_
      refine wp_cV (as := []) (rest := []) (a := 10) (mx := 1) (ci := 6) jF_29_23 kd10 (by decide) rfl rfl rfl rfl rfl (by omega) (by omega) rfl (pc2 := 26) ?_
      have b50 := GI.b hg 10 1 kd10 (lo := 0) (hi := 1600) rfl
      have q51 : (τ15.1 10 1) = (σ.1 10 1) := ((FR.at f17 10 1 rfl).trans ((FR.at f8 10 1 rfl).trans (FR.at f5 10 1 rfl)))
      refine wp_use (m_35_r10 τ15 g16   _ _ (by omega) (by omega)) ?_
      rintro _ τ53 ⟨z56, rfl, h57, g54, f55, p52⟩
      show WP 29 26 [(0, .ref 12), (1, .ref 45), (2, iV x13)] [iV z56] _ _ _ _
      refine wp_ic jF_29_26 rfl (pc2 := 27) ?_
      refine wp_i_eq jF_29_27 (m_rgb h57 rfl) (m_rgl rfl) rfl (pc2 := 30) ?_ ?_
      · intro h58
        clear p52
        refine wp_al1 jF_29_70 rfl rfl (pc2 := 71) ?_
        refine wp_gr (b := 10) jF_29_71 kd12 (by decide) (c := 110) rfl rfl rfl (pc2 := 74) ?_
        refine wp_cV (as := []) (rest := []) (a := 10) (mx := 1) (ci := 6) jF_29_74 kd10 (by decide) rfl rfl rfl rfl rfl (by omega) (by omega) rfl (pc2 := 77) ?_
        have q59 : (τ53.1 10 1) = (σ.1 10 1) := ((FR.at f55 10 1 rfl).trans ((FR.at f17 10 1 rfl).trans ((FR.at f8 10 1 rfl).trans (FR.at f5 10 1 rfl))))
        refine wp_use (m_35_r10 τ53 g54   _ _ (by omega) (by omega)) ?_
        rintro _ τ61 ⟨z64, rfl, h65, g62, f63, p60⟩
        show WP 29 77 [(0, .ref 12), (1, .ref 45), (2, iV x13)] [iV z64] _ _ _ _
        refine wp_ic jF_29_77 rfl (pc2 := 78) ?_
        refine wp_i_eq jF_29_78 (m_rgb h65 rfl) (m_rgl rfl) rfl (pc2 := 81) ?_ ?_
        · intro h66
          clear p60
          refine wp_al1 jF_29_99 rfl rfl (pc2 := 100) ?_
          refine wp_cV (as := []) (rest := []) (a := 45) (mx := 6) (ci := 8) jF_29_100 kd45 (by decide) rfl rfl rfl rfl rfl (by omega) (by omega) rfl (pc2 := 103) ?_
          have q67 : (τ61.1 58 5) = (τ15.1 58 5) := ((FR.at f63 58 5 rfl).trans (FR.at f55 58 5 rfl))
          have q68 : (τ61.1 64 5) = (τ15.1 64 5) := ((FR.at f63 64 5 rfl).trans (FR.at f55 64 5 rfl))
          refine wp_use (m_69_r45 τ61 g62  (by omega) (by omega) _ _ (by omega) (by omega)) ?_
          rintro _ τ71 ⟨rfl, g72, f73, p69, p70⟩
          show WP 29 103 [(0, .ref 12), (1, .ref 45), (2, iV x13)] [] _ _ _ _
          refine wp_il1 jF_29_103 rfl rfl (pc2 := 104) ?_
          refine wp_ri jF_29_104 rfl ?_
          have b74 := GI.b g72 58 5 kd58 (lo := 0) (hi := 16) rfl
          have b75 := GI.b g72 64 5 kd64 (lo := 0) (hi := 16) rfl
          exact ⟨x13, rfl, ⟨by omega, by omega⟩, g72, (FR.up (FR.up (FR.up (FR.up (FR.up (FR.up FR.rf f5 sb_WG45_WR45) f8 sb_Wtp_WR45) f17 sb_WR45_WR45) f55 sb_Wtp_WR45) f63 sb_Wtp_WR45) f73 sb_WG45_WR45), (by omega), (by omega)⟩
        · intro h66
          replace p60 := p60 (by omega)
          refine wp_al1 jF_29_81 rfl rfl (pc2 := 82) ?_
          refine wp_gr (b := 10) jF_29_82 kd12 (by decide) (c := 110) rfl rfl rfl (pc2 := 85) ?_
          refine wp_ic jF_29_85 rfl (pc2 := 86) ?_
          refine wp_al1 jF_29_86 rfl rfl (pc2 := 87) ?_
          refine wp_gr (b := 10) jF_29_87 kd12 (by decide) (c := 110) rfl rfl rfl (pc2 := 90) ?_
          have b76 := GI.b g62 10 2 kd10 (lo := 0) (hi := 1600) rfl
          refine wp_gi jF_29_90 kd10 (by decide) rfl rfl rfl (pc2 := 93) ?_
          refine wp_cV (as := [iV 5, iV (τ61.1 10 2)]) (rest := []) (a := 10) (mx := 3) (ci := 6) jF_29_93 kd10 (by decide) rfl rfl rfl rfl rfl (by omega) (by omega) rfl (pc2 := 96) ?_
          refine wp_use (m_42_r10 τ61 g62 5 (by omega) (by omega) (τ61.1 10 2) (by omega) (by omega)  _ _ (by omega) (by omega)) ?_
          rintro _ τ77 ⟨z80, rfl, h81, g78, f79⟩
          show WP 29 96 [(0, .ref 12), (1, .ref 45), (2, iV x13)] [iV z80] _ _ _ _
          refine wp_pop jF_29_96 rfl rfl (pc2 := 97) ?_
          refine wp_ic jF_29_97 rfl (pc2 := 98) ?_
          refine wp_ri jF_29_98 rfl ?_
          have q82 : (τ77.1 58 5) = (τ15.1 58 5) := ((FR.at f79 58 5 rfl).trans ((FR.at f63 58 5 rfl).trans (FR.at f55 58 5 rfl)))
          have q83 : (τ77.1 64 5) = (τ15.1 64 5) := ((FR.at f79 64 5 rfl).trans ((FR.at f63 64 5 rfl).trans (FR.at f55 64 5 rfl)))
          exact ⟨(-1), rfl, ⟨by omega, by omega⟩, g78, (FR.up (FR.up (FR.up (FR.up (FR.up (FR.up FR.rf f5 sb_WG45_WR45) f8 sb_Wtp_WR45) f17 sb_WR45_WR45) f55 sb_Wtp_WR45) f63 sb_Wtp_WR45) f79 sb_Wtp_WR45), (by omega), (by omega)⟩
      · intro h58
        replace p52 := p52 (by omega)
        refine wp_al1 jF_29_30 rfl rfl (pc2 := 31) ?_
        refine wp_al1 jF_29_31 rfl rfl (pc2 := 32) ?_
        refine wp_cV (as := [.ref 45]) (rest := []) (a := 12) (mx := 3) (ci := 9) jF_29_32 kd12 (by decide) rfl rfl rfl rfl rfl (by omega) (by omega) rfl (pc2 := 35) ?_
        refine wp_use (m_36_r12_45 τ53 g54   _ _ (by omega) (by omega)) ?_
        rintro _ τ84 ⟨z87, rfl, h88, g85, f86⟩
        show WP 29 35 [(0, .ref 12), (1, .ref 45), (2, iV x13)] [iV z87] _ _ _ _
        refine wp_is1 (lv2 := [(0, .ref 12), (1, .ref 45), (2, iV x13), (3, iV z87)]) jF_29_35 rfl rfl rfl (pc2 := 36) ?_
        refine wp_il1 jF_29_36 rfl rfl (pc2 := 37) ?_
        refine wp_ic jF_29_37 rfl (pc2 := 38) ?_
        refine wp_i_eq jF_29_38 (m_rgb h88 rfl) (m_rgl rfl) rfl (pc2 := 41) ?_ ?_
        · intro h89
          refine wp_ic jF_29_62 rfl (pc2 := 63) ?_
          refine wp_ri jF_29_63 rfl ?_
          have q90 : (τ84.1 58 5) = (τ15.1 58 5) := ((FR.at f86 58 5 rfl).trans (FR.at f55 58 5 rfl))
          have q91 : (τ84.1 64 5) = (τ15.1 64 5) := ((FR.at f86 64 5 rfl).trans (FR.at f55 64 5 rfl))
          exact ⟨(-1), rfl, ⟨by omega, by omega⟩, g85, (FR.up (FR.up (FR.up (FR.up (FR.up FR.rf f5 sb_WG45_WR45) f8 sb_Wtp_WR45) f17 sb_WR45_WR45) f55 sb_Wtp_WR45) f86 sb_Wtp_WR45), (by omega), (by omega)⟩
        · intro h89
          refine wp_al1 jF_29_41 rfl rfl (pc2 := 42) ?_
          refine wp_al1 jF_29_42 rfl rfl (pc2 := 43) ?_
          refine wp_il1 jF_29_43 rfl rfl (pc2 := 44) ?_
          refine wp_cV (as := [.ref 45, iV z87]) (rest := []) (a := 12) (mx := 3) (ci := 9) jF_29_44 kd12 (by decide) rfl rfl rfl rfl rfl (by omega) (by omega) rfl (pc2 := 47) ?_
          have q92 : (τ84.1 58 5) = (τ15.1 58 5) := ((FR.at f86 58 5 rfl).trans (FR.at f55 58 5 rfl))
          have q93 : (τ84.1 64 5) = (τ15.1 64 5) := ((FR.at f86 64 5 rfl).trans (FR.at f55 64 5 rfl))
          refine wp_use (m_46_r12_45 τ84 g85 z87 (by omega) (by omega) (by omega) (by omega) _ _ (by omega) (by omega)) ?_
          rintro _ τ96 ⟨z99, rfl, h100, g97, f98, p94, p95⟩
          show WP 29 47 [(0, .ref 12), (1, .ref 45), (2, iV x13), (3, iV z87)] [iV z99] _ _ _ _
          refine wp_z_eq jF_29_47 (m_rgb h100 rfl) rfl (pc2 := 50) ?_ ?_
          · intro h101
            refine wp_ic jF_29_62 rfl (pc2 := 63) ?_
            refine wp_ri jF_29_63 rfl ?_
            have b102 := GI.b g97 58 5 kd58 (lo := 0) (hi := 16) rfl
            have b103 := GI.b g97 64 5 kd64 (lo := 0) (hi := 16) rfl
            exact ⟨(-1), rfl, ⟨by omega, by omega⟩, g97, (FR.up (FR.up (FR.up (FR.up (FR.up (FR.up FR.rf f5 sb_WG45_WR45) f8 sb_Wtp_WR45) f17 sb_WR45_WR45) f55 sb_Wtp_WR45) f86 sb_Wtp_WR45) f98 sb_WR45_WR45), (by omega), (by omega)⟩
          · intro h101
            refine wp_al1 jF_29_50 rfl rfl (pc2 := 51) ?_
            refine wp_gr (b := 10) jF_29_51 kd12 (by decide) (c := 110) rfl rfl rfl (pc2 := 54) ?_
            refine wp_bi jF_29_54 (by decide) rfl (pc2 := 56) ?_
            refine wp_cV (as := [iV 59]) (rest := []) (a := 10) (mx := 2) (ci := 6) jF_29_56 kd10 (by decide) rfl rfl rfl rfl rfl (by omega) (by omega) rfl (pc2 := 59) ?_
            refine wp_use (m_68_r10 τ96 g97 59 (by omega) (by omega)  _ _ (by omega) (by omega)) ?_
            rintro _ τ104 ⟨z107, rfl, h108, g105, f106⟩
            show WP 29 59 [(0, .ref 12), (1, .ref 45), (2, iV x13), (3, iV z87)] [iV z107] _ _ _ _
            refine wp_z_ne jF_29_59 (m_rgb h108 rfl) rfl (pc2 := 62) ?_ ?_
            · intro h109
              refine wp_inc (lv2 := [(0, .ref 12), (1, .ref 45), (2, iV (x13 + 1)), (3, iV z87)]) jF_29_64 rfl rfl rfl rfl (pc2 := 67) ?_
              refine wp_go jF_29_67 ?_
              have b110 := GI.b g97 58 5 kd58 (lo := 0) (hi := 16) rfl
              have q111 : (τ104.1 58 5) = (τ96.1 58 5) := (FR.at f106 58 5 rfl)
              have b112 := GI.b g97 64 5 kd64 (lo := 0) (hi := 16) rfl
              have q113 : (τ104.1 64 5) = (τ96.1 64 5) := (FR.at f106 64 5 rfl)
              refine wp_less [0, 1, 2] (lv2 := [(0, .ref 12), (1, .ref 45), (2, iV (x13 + 1))]) rfl rfl ?_
              exact ih20 ((x13 + 1)) τ104 ⟨⟨by omega, by omega⟩, g105, (FR.up (FR.up (FR.up (FR.up f17 f55 sb_Wtp_WR45) f86 sb_Wtp_WR45) f98 sb_WR45_WR45) f106 sb_Wtp_WR45), (by omega), (by omega)⟩ (by show Int.toNat (70 - (x13 + 1)) < Int.toNat (70 - x13); omega)
            · intro h109
              refine wp_ic jF_29_62 rfl (pc2 := 63) ?_
              refine wp_ri jF_29_63 rfl ?_
              have b114 := GI.b g97 58 5 kd58 (lo := 0) (hi := 16) rfl
              have q115 : (τ104.1 58 5) = (τ96.1 58 5) := (FR.at f106 58 5 rfl)
              have b116 := GI.b g97 64 5 kd64 (lo := 0) (hi := 16) rfl
              have q117 : (τ104.1 64 5) = (τ96.1 64 5) := (FR.at f106 64 5 rfl)
              exact ⟨(-1), rfl, ⟨by omega, by omega⟩, g105, (FR.up (FR.up (FR.up (FR.up (FR.up (FR.up (FR.up FR.rf f5 sb_WG45_WR45) f8 sb_Wtp_WR45) f17 sb_WR45_WR45) f55 sb_Wtp_WR45) f86 sb_Wtp_WR45) f98 sb_WR45_WR45) f106 sb_Wtp_WR45), (by omega), (by omega)⟩
set_option maxHeartbeats 4000000 in
set_option maxRecDepth 20000 in
/-- Row.clear -/
theorem m_71_r70 (σ : jM) (hg : GI σ)   (fr lo : Nat) (hfr : 0 ≤ fr) (hlo : 0 ≤ lo) : WP 71 0 (lv_args 0 [.ref 70]) [] fr lo σ (fun v τ => v = none ∧ GI τ ∧ FR WW70 σ τ) := by
  show WP 71 0 [(0, .ref 70)] [] _ _ _ _
  refine wp_al1 jF_71_0 rfl rfl (pc2 := 1) ?_
  refine wp_ic jF_71_1 rfl (pc2 := 2) ?_
  refine wp_pi jF_71_2 kd70 (by decide) rfl rfl rfl (pc2 := 5) hg (lo := 0) (hi := 60) rfl (by omega) (by omega) ?_
  intro τ1 g2 f3 e4
  refine wp_al1 jF_71_5 rfl rfl (pc2 := 6) ?_
  refine wp_ic jF_71_6 rfl (pc2 := 7) ?_
  refine wp_pi jF_71_7 kd70 (by decide) rfl rfl rfl (pc2 := 10) g2 (lo := (-2147483648)) (hi := 2147483647) rfl (by omega) (by omega) ?_
  intro τ5 g6 f7 e8
  refine wp_al1 jF_71_10 rfl rfl (pc2 := 11) ?_
  refine wp_ic jF_71_11 rfl (pc2 := 12) ?_
  refine wp_pi jF_71_12 kd70 (by decide) rfl rfl rfl (pc2 := 15) g6 (lo := 0) (hi := 30) rfl (by omega) (by omega) ?_
  intro τ9 g10 f11 e12
  refine wp_al1 jF_71_15 rfl rfl (pc2 := 16) ?_
  refine wp_lc jF_71_16 rfl (pc2 := 17) ?_
  refine wp_pl jF_71_17 kd70 (by decide) rfl rfl (pc2 := 20) g10 ?_
  intro τ13 g14 f15
  refine wp_al1 jF_71_20 rfl rfl (pc2 := 21) ?_
  refine wp_gr (b := 72) jF_71_21 kd70 (by decide) (c := 5) rfl rfl rfl (pc2 := 24) ?_
  refine wp_ic jF_71_24 rfl (pc2 := 25) ?_
  refine wp_ic jF_71_25 rfl (pc2 := 26) ?_
  refine wp_iast (n := 61) jF_71_26 kd72 (by decide) rfl rfl (by omega) (by omega) rfl (pc2 := 27) g14 (lo := (-1)) (hi := 4) rfl (by omega) (by omega) ?_
  intro τ16 g17 f18 e19
  refine wp_al1 jF_71_27 rfl rfl (pc2 := 28) ?_
  refine wp_gr (b := 73) jF_71_28 kd70 (by decide) (c := 6) rfl rfl rfl (pc2 := 31) ?_
  refine wp_ic jF_71_31 rfl (pc2 := 32) ?_
  refine wp_ic jF_71_32 rfl (pc2 := 33) ?_
  refine wp_iast (n := 31) jF_71_33 kd73 (by decide) rfl rfl (by omega) (by omega) rfl (pc2 := 34) g17 (lo := 0) (hi := 60) rfl (by omega) (by omega) ?_
  intro τ20 g21 f22 e23
  refine wp_rv jF_71_34 ?_
  exact ⟨rfl, g21, (FR.w (FR.w (FR.w (FR.w (FR.w (FR.w FR.rf f3 rfl) f7 rfl) f11 rfl) f15 rfl) f18 rfl) f22 rfl)⟩
set_option maxHeartbeats 4000000 in
set_option maxRecDepth 20000 in
/-- Row.clear -/
theorem m_71_r75 (σ : jM) (hg : GI σ)   (fr lo : Nat) (hfr : 0 ≤ fr) (hlo : 0 ≤ lo) : WP 71 0 (lv_args 0 [.ref 75]) [] fr lo σ (fun v τ => v = none ∧ GI τ ∧ FR WW75 σ τ) := by
  show WP 71 0 [(0, .ref 75)] [] _ _ _ _
  refine wp_al1 jF_71_0 rfl rfl (pc2 := 1) ?_
  refine wp_ic jF_71_1 rfl (pc2 := 2) ?_
  refine wp_pi jF_71_2 kd75 (by decide) rfl rfl rfl (pc2 := 5) hg (lo := 0) (hi := 60) rfl (by omega) (by omega) ?_
  intro τ1 g2 f3 e4
  refine wp_al1 jF_71_5 rfl rfl (pc2 := 6) ?_
  refine wp_ic jF_71_6 rfl (pc2 := 7) ?_
  refine wp_pi jF_71_7 kd75 (by decide) rfl rfl rfl (pc2 := 10) g2 (lo := (-2147483648)) (hi := 2147483647) rfl (by omega) (by omega) ?_
  intro τ5 g6 f7 e8
  refine wp_al1 jF_71_10 rfl rfl (pc2 := 11) ?_
  refine wp_ic jF_71_11 rfl (pc2 := 12) ?_
  refine wp_pi jF_71_12 kd75 (by decide) rfl rfl rfl (pc2 := 15) g6 (lo := 0) (hi := 30) rfl (by omega) (by omega) ?_
  intro τ9 g10 f11 e12
  refine wp_al1 jF_71_15 rfl rfl (pc2 := 16) ?_
  refine wp_lc jF_71_16 rfl (pc2 := 17) ?_
  refine wp_pl jF_71_17 kd75 (by decide) rfl rfl (pc2 := 20) g10 ?_
  intro τ13 g14 f15
  refine wp_al1 jF_71_20 rfl rfl (pc2 := 21) ?_
  refine wp_gr (b := 77) jF_71_21 kd75 (by decide) (c := 5) rfl rfl rfl (pc2 := 24) ?_
  refine wp_ic jF_71_24 rfl (pc2 := 25) ?_
  refine wp_ic jF_71_25 rfl (pc2 := 26) ?_
  refine wp_iast (n := 61) jF_71_26 kd77 (by decide) rfl rfl (by omega) (by omega) rfl (pc2 := 27) g14 (lo := (-1)) (hi := 4) rfl (by omega) (by omega) ?_
  intro τ16 g17 f18 e19
  refine wp_al1 jF_71_27 rfl rfl (pc2 := 28) ?_
  refine wp_gr (b := 78) jF_71_28 kd75 (by decide) (c := 6) rfl rfl rfl (pc2 := 31) ?_
  refine wp_ic jF_71_31 rfl (pc2 := 32) ?_
  refine wp_ic jF_71_32 rfl (pc2 := 33) ?_
  refine wp_iast (n := 31) jF_71_33 kd78 (by decide) rfl rfl (by omega) (by omega) rfl (pc2 := 34) g17 (lo := 0) (hi := 60) rfl (by omega) (by omega) ?_
  intro τ20 g21 f22 e23
  refine wp_rv jF_71_34 ?_
  exact ⟨rfl, g21, (FR.w (FR.w (FR.w (FR.w (FR.w (FR.w FR.rf f3 rfl) f7 rfl) f11 rfl) f15 rfl) f18 rfl) f22 rfl)⟩
set_option maxHeartbeats 4000000 in
set_option maxRecDepth 20000 in
/-- Row.clear -/
theorem m_71_r80 (σ : jM) (hg : GI σ)   (fr lo : Nat) (hfr : 0 ≤ fr) (hlo : 0 ≤ lo) : WP 71 0 (lv_args 0 [.ref 80]) [] fr lo σ (fun v τ => v = none ∧ GI τ ∧ FR WW80 σ τ) := by
  show WP 71 0 [(0, .ref 80)] [] _ _ _ _
  refine wp_al1 jF_71_0 rfl rfl (pc2 := 1) ?_
  refine wp_ic jF_71_1 rfl (pc2 := 2) ?_
  refine wp_pi jF_71_2 kd80 (by decide) rfl rfl rfl (pc2 := 5) hg (lo := 0) (hi := 60) rfl (by omega) (by omega) ?_
  intro τ1 g2 f3 e4
  refine wp_al1 jF_71_5 rfl rfl (pc2 := 6) ?_
  refine wp_ic jF_71_6 rfl (pc2 := 7) ?_
  refine wp_pi jF_71_7 kd80 (by decide) rfl rfl rfl (pc2 := 10) g2 (lo := (-2147483648)) (hi := 2147483647) rfl (by omega) (by omega) ?_
  intro τ5 g6 f7 e8
  refine wp_al1 jF_71_10 rfl rfl (pc2 := 11) ?_
  refine wp_ic jF_71_11 rfl (pc2 := 12) ?_
  refine wp_pi jF_71_12 kd80 (by decide) rfl rfl rfl (pc2 := 15) g6 (lo := 0) (hi := 30) rfl (by omega) (by omega) ?_
  intro τ9 g10 f11 e12
  refine wp_al1 jF_71_15 rfl rfl (pc2 := 16) ?_
  refine wp_lc jF_71_16 rfl (pc2 := 17) ?_
  refine wp_pl jF_71_17 kd80 (by decide) rfl rfl (pc2 := 20) g10 ?_
  intro τ13 g14 f15
  refine wp_al1 jF_71_20 rfl rfl (pc2 := 21) ?_
  refine wp_gr (b := 82) jF_71_21 kd80 (by decide) (c := 5) rfl rfl rfl (pc2 := 24) ?_
  refine wp_ic jF_71_24 rfl (pc2 := 25) ?_
  refine wp_ic jF_71_25 rfl (pc2 := 26) ?_
  refine wp_iast (n := 61) jF_71_26 kd82 (by decide) rfl rfl (by omega) (by omega) rfl (pc2 := 27) g14 (lo := (-1)) (hi := 4) rfl (by omega) (by omega) ?_
  intro τ16 g17 f18 e19
  refine wp_al1 jF_71_27 rfl rfl (pc2 := 28) ?_
  refine wp_gr (b := 83) jF_71_28 kd80 (by decide) (c := 6) rfl rfl rfl (pc2 := 31) ?_
  refine wp_ic jF_71_31 rfl (pc2 := 32) ?_
  refine wp_ic jF_71_32 rfl (pc2 := 33) ?_
  refine wp_iast (n := 31) jF_71_33 kd83 (by decide) rfl rfl (by omega) (by omega) rfl (pc2 := 34) g17 (lo := 0) (hi := 60) rfl (by omega) (by omega) ?_
  intro τ20 g21 f22 e23
  refine wp_rv jF_71_34 ?_
  exact ⟨rfl, g21, (FR.w (FR.w (FR.w (FR.w (FR.w (FR.w FR.rf f3 rfl) f7 rfl) f11 rfl) f15 rfl) f18 rfl) f22 rfl)⟩
set_option maxHeartbeats 4000000 in
set_option maxRecDepth 20000 in
/-- Row.clear -/
theorem m_71_r85 (σ : jM) (hg : GI σ)   (fr lo : Nat) (hfr : 0 ≤ fr) (hlo : 0 ≤ lo) : WP 71 0 (lv_args 0 [.ref 85]) [] fr lo σ (fun v τ => v = none ∧ GI τ ∧ FR WW85 σ τ) := by
  show WP 71 0 [(0, .ref 85)] [] _ _ _ _
  refine wp_al1 jF_71_0 rfl rfl (pc2 := 1) ?_
  refine wp_ic jF_71_1 rfl (pc2 := 2) ?_
  refine wp_pi jF_71_2 kd85 (by decide) rfl rfl rfl (pc2 := 5) hg (lo := 0) (hi := 60) rfl (by omega) (by omega) ?_
  intro τ1 g2 f3 e4
  refine wp_al1 jF_71_5 rfl rfl (pc2 := 6) ?_
  refine wp_ic jF_71_6 rfl (pc2 := 7) ?_
  refine wp_pi jF_71_7 kd85 (by decide) rfl rfl rfl (pc2 := 10) g2 (lo := (-2147483648)) (hi := 2147483647) rfl (by omega) (by omega) ?_
  intro τ5 g6 f7 e8
  refine wp_al1 jF_71_10 rfl rfl (pc2 := 11) ?_
  refine wp_ic jF_71_11 rfl (pc2 := 12) ?_
  refine wp_pi jF_71_12 kd85 (by decide) rfl rfl rfl (pc2 := 15) g6 (lo := 0) (hi := 30) rfl (by omega) (by omega) ?_
  intro τ9 g10 f11 e12
  refine wp_al1 jF_71_15 rfl rfl (pc2 := 16) ?_
  refine wp_lc jF_71_16 rfl (pc2 := 17) ?_
  refine wp_pl jF_71_17 kd85 (by decide) rfl rfl (pc2 := 20) g10 ?_
  intro τ13 g14 f15
  refine wp_al1 jF_71_20 rfl rfl (pc2 := 21) ?_
  refine wp_gr (b := 87) jF_71_21 kd85 (by decide) (c := 5) rfl rfl rfl (pc2 := 24) ?_
  refine wp_ic jF_71_24 rfl (pc2 := 25) ?_
  refine wp_ic jF_71_25 rfl (pc2 := 26) ?_
  refine wp_iast (n := 61) jF_71_26 kd87 (by decide) rfl rfl (by omega) (by omega) rfl (pc2 := 27) g14 (lo := (-1)) (hi := 4) rfl (by omega) (by omega) ?_
  intro τ16 g17 f18 e19
  refine wp_al1 jF_71_27 rfl rfl (pc2 := 28) ?_
  refine wp_gr (b := 88) jF_71_28 kd85 (by decide) (c := 6) rfl rfl rfl (pc2 := 31) ?_
  refine wp_ic jF_71_31 rfl (pc2 := 32) ?_
  refine wp_ic jF_71_32 rfl (pc2 := 33) ?_
  refine wp_iast (n := 31) jF_71_33 kd88 (by decide) rfl rfl (by omega) (by omega) rfl (pc2 := 34) g17 (lo := 0) (hi := 60) rfl (by omega) (by omega) ?_
  intro τ20 g21 f22 e23
  refine wp_rv jF_71_34 ?_
  exact ⟨rfl, g21, (FR.w (FR.w (FR.w (FR.w (FR.w (FR.w FR.rf f3 rfl) f7 rfl) f11 rfl) f15 rfl) f18 rfl) f22 rfl)⟩
set_option maxHeartbeats 4000000 in
set_option maxRecDepth 20000 in
/-- Row.add -/
theorem m_80_r80 (σ : jM) (hg : GI σ) (given : Int) (hl_given : 0 ≤ given) (hu_given : given ≤ 255)  (fr lo : Nat) (hfr : 1 ≤ fr) (hlo : 20 ≤ lo) : WP 80 0 (lv_args 0 [.ref 80, iV given]) [] fr lo σ (fun v τ => v = none ∧ GI τ ∧ FR WW80 σ τ) := by
  show WP 80 0 [(0, .ref 80), (1, iV given)] [] _ _ _ _
  refine wp_al1 jF_80_0 rfl rfl (pc2 := 1) ?_
  have b1 := GI.b hg 80 1 kd80 (lo := 0) (hi := 60) rfl
  refine wp_gi jF_80_1 kd80 (by decide) rfl rfl rfl (pc2 := 4) ?_
  refine wp_bi jF_80_4 (by decide) rfl (pc2 := 6) ?_
  refine wp_i_ge jF_80_6 (m_rgb b1 rfl) (m_rgl rfl) rfl (pc2 := 9) ?_ ?_
  · intro h2
    refine wp_rv jF_80_42 ?_
    exact ⟨rfl, hg, FR.rf⟩
  · intro h2
    refine wp_al1 jF_80_9 rfl rfl (pc2 := 10) ?_
    refine wp_gr (b := 81) jF_80_10 kd80 (by decide) (c := 4) rfl rfl rfl (pc2 := 13) ?_
    refine wp_al1 jF_80_13 rfl rfl (pc2 := 14) ?_
    refine wp_gi jF_80_14 kd80 (by decide) rfl rfl rfl (pc2 := 17) ?_
    refine wp_il1 jF_80_17 rfl rfl (pc2 := 18) ?_
    refine wp_iast (n := 60) jF_80_18 kd81 (by decide) rfl rfl (by omega) (by omega) rfl (pc2 := 19) hg (lo := 0) (hi := 255) rfl (by omega) (by omega) ?_
    intro τ3 g4 f5 e6
    refine wp_al1 jF_80_19 rfl rfl (pc2 := 20) ?_
    refine wp_dup jF_80_20 rfl rfl (pc2 := 21) ?_
    refine wp_gi jF_80_21 kd80 (by decide) rfl (FRw.na f5 (by decide)) rfl (pc2 := 24) ?_
    refine wp_ic jF_80_24 rfl (pc2 := 25) ?_
    refine wp_add jF_80_25 rfl (pc2 := 26) ?_
    refine wp_pi jF_80_26 kd80 (by decide) rfl rfl rfl (pc2 := 29) g4 (lo := 0) (hi := 60) rfl (by omega) (by omega) ?_
    intro τ7 g8 f9 e10
    refine wp_al1 jF_80_29 rfl rfl (pc2 := 30) ?_
    refine wp_dup jF_80_30 rfl rfl (pc2 := 31) ?_
    have b11 := GI.b hg 80 2 kd80 (lo := (-2147483648)) (hi := 2147483647) rfl
    refine wp_gi jF_80_31 kd80 (by decide) rfl ((FRw.nj f9 (by decide)).trans (FRw.na f5 (by decide))) rfl (pc2 := 34) ?_
    refine wp_il1 jF_80_34 rfl rfl (pc2 := 35) ?_
    refine wp_cS (as := [iV given]) (rest := [iV (σ.1 80 2), .ref 80]) (mx := 1) jF_80_35 rfl rfl rfl rfl (by omega) (by omega) rfl (pc2 := 38) ?_
    show WP 81 0 [(0, iV given)] [] _ _ _ _
    refine wp_il1 jF_81_0 rfl rfl (pc2 := 1) ?_
    refine wp_bi jF_81_1 (by decide) rfl (pc2 := 3) ?_
    refine wp_i_ne jF_81_3 ⟨by omega, by omega⟩ (m_rgl rfl) rfl (pc2 := 6) ?_ ?_
    · intro h12
      refine wp_ic jF_81_10 rfl (pc2 := 11) ?_
      refine wp_ri jF_81_11 rfl ?_
      show WP 80 38 [(0, .ref 80), (1, iV given)] [iV 1, iV (σ.1 80 2), .ref 80] _ _ _ _
      refine wp_any2 (pc2 := 39) jF_80_38 rfl rfl ?_
      intro z13 h14
      refine wp_pi jF_80_39 kd80 (by decide) rfl rfl rfl (pc2 := 42) g8 (lo := (-2147483648)) (hi := 2147483647) rfl (by omega) (by omega) ?_
      intro τ15 g16 f17 e18
      refine wp_rv jF_80_42 ?_
      exact ⟨rfl, g16, (FR.w (FR.w (FR.w FR.rf f5 rfl) f9 rfl) f17 rfl)⟩
    · intro h12
      refine wp_ic jF_81_6 rfl (pc2 := 7) ?_
      refine wp_go jF_81_7 ?_
      refine wp_ri jF_81_11 rfl ?_
      show WP 80 38 [(0, .ref 80), (1, iV given)] [iV 0, iV (σ.1 80 2), .ref 80] _ _ _ _
      refine wp_add jF_80_38 rfl (pc2 := 39) ?_
      refine wp_pi jF_80_39 kd80 (by decide) rfl rfl rfl (pc2 := 42) g8 (lo := (-2147483648)) (hi := 2147483647) rfl (by omega) (by omega) ?_
      intro τ19 g20 f21 e22
      refine wp_rv jF_80_42 ?_
      exact ⟨rfl, g20, (FR.w (FR.w (FR.w FR.rf f5 rfl) f9 rfl) f21 rfl)⟩
