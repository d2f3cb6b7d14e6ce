set_option maxHeartbeats 4000000 in
set_option maxRecDepth 20000 in
/-- Row.add -/
theorem m_80_r85 (σ : jM) (hg : GI σ) (given : Int) (hl_given : 0 ≤ given) (hu_given : given ≤ 255)  (fr lo : Nat) (hfr : 1 ≤ fr) (hlo : 20 ≤ lo) : WP 80 0 (lv_args 0 [.ref 85, iV given]) [] fr lo σ (fun v τ => v = none ∧ GI τ ∧ FR WW85 σ τ) := by
  show WP 80 0 [(0, .ref 85), (1, iV given)] [] _ _ _ _
  refine wp_al1 jF_80_0 rfl rfl (pc2 := 1) ?_
  have b1 := GI.b hg 85 1 kd85 (lo := 0) (hi := 60) rfl
  refine wp_gi jF_80_1 kd85 (by decide) rfl rfl rfl (pc2 := 4) ?_
  refine wp_bi jF_80_4 (by decide) rfl (pc2 := 6) ?_
  refine wp_i_ge jF_80_6 (m_rgb b1 rfl) (m_rgl rfl) rfl (pc2 := 9) ?_ ?_
  · intro h2
    refine wp_rv jF_80_42 ?_
    exact ⟨rfl, hg, FR.rf⟩
  · intro h2
    refine wp_al1 jF_80_9 rfl rfl (pc2 := 10) ?_
    refine wp_gr (b := 86) jF_80_10 kd85 (by decide) (c := 4) rfl rfl rfl (pc2 := 13) ?_
    refine wp_al1 jF_80_13 rfl rfl (pc2 := 14) ?_
    refine wp_gi jF_80_14 kd85 (by decide) rfl rfl rfl (pc2 := 17) ?_
    refine wp_il1 jF_80_17 rfl rfl (pc2 := 18) ?_
    refine wp_iast (n := 60) jF_80_18 kd86 (by decide) rfl rfl (by omega) (by omega) rfl (pc2 := 19) hg (lo := 0) (hi := 255) rfl (by omega) (by omega) ?_
    intro τ3 g4 f5 e6
    refine wp_al1 jF_80_19 rfl rfl (pc2 := 20) ?_
    refine wp_dup jF_80_20 rfl rfl (pc2 := 21) ?_
    refine wp_gi jF_80_21 kd85 (by decide) rfl (FRw.na f5 (by decide)) rfl (pc2 := 24) ?_
    refine wp_ic jF_80_24 rfl (pc2 := 25) ?_
    refine wp_add jF_80_25 rfl (pc2 := 26) ?_
    refine wp_pi jF_80_26 kd85 (by decide) rfl rfl rfl (pc2 := 29) g4 (lo := 0) (hi := 60) rfl (by omega) (by omega) ?_
    intro τ7 g8 f9 e10
    refine wp_al1 jF_80_29 rfl rfl (pc2 := 30) ?_
    refine wp_dup jF_80_30 rfl rfl (pc2 := 31) ?_
    have b11 := GI.b hg 85 2 kd85 (lo := (-2147483648)) (hi := 2147483647) rfl
    refine wp_gi jF_80_31 kd85 (by decide) rfl ((FRw.nj f9 (by decide)).trans (FRw.na f5 (by decide))) rfl (pc2 := 34) ?_
    refine wp_il1 jF_80_34 rfl rfl (pc2 := 35) ?_
    refine wp_cS (as := [iV given]) (rest := [iV (σ.1 85 2), .ref 85]) (mx := 1) jF_80_35 rfl rfl rfl rfl (by omega) (by omega) rfl (pc2 := 38) ?_
    show WP 81 0 [(0, iV given)] [] _ _ _ _
    refine wp_il1 jF_81_0 rfl rfl (pc2 := 1) ?_
    refine wp_bi jF_81_1 (by decide) rfl (pc2 := 3) ?_
    refine wp_i_ne jF_81_3 ⟨by omega, by omega⟩ (m_rgl rfl) rfl (pc2 := 6) ?_ ?_
    · intro h12
      refine wp_ic jF_81_10 rfl (pc2 := 11) ?_
      refine wp_ri jF_81_11 rfl ?_
      show WP 80 38 [(0, .ref 85), (1, iV given)] [iV 1, iV (σ.1 85 2), .ref 85] _ _ _ _
      refine wp_any2 (pc2 := 39) jF_80_38 rfl rfl ?_
      intro z13 h14
      refine wp_pi jF_80_39 kd85 (by decide) rfl rfl rfl (pc2 := 42) g8 (lo := (-2147483648)) (hi := 2147483647) rfl (by omega) (by omega) ?_
      intro τ15 g16 f17 e18
      refine wp_rv jF_80_42 ?_
      exact ⟨rfl, g16, (FR.w (FR.w (FR.w FR.rf f5 rfl) f9 rfl) f17 rfl)⟩
    · intro h12
      refine wp_ic jF_81_6 rfl (pc2 := 7) ?_
      refine wp_go jF_81_7 ?_
      refine wp_ri jF_81_11 rfl ?_
      show WP 80 38 [(0, .ref 85), (1, iV given)] [iV 0, iV (σ.1 85 2), .ref 85] _ _ _ _
      refine wp_add jF_80_38 rfl (pc2 := 39) ?_
      refine wp_pi jF_80_39 kd85 (by decide) rfl rfl rfl (pc2 := 42) g8 (lo := (-2147483648)) (hi := 2147483647) rfl (by omega) (by omega) ?_
      intro τ19 g20 f21 e22
      refine wp_rv jF_80_42 ?_
      exact ⟨rfl, g20, (FR.w (FR.w (FR.w FR.rf f5 rfl) f9 rfl) f21 rfl)⟩
set_option maxHeartbeats 4000000 in
set_option maxRecDepth 20000 in
/-- LawReader.takesStop -/
theorem m_77_r14 (σ : jM) (hg : GI σ) (state : Int) (hl_state : (-1) ≤ state) (hu_state : state ≤ 4) (pre0 : (σ.1 10 2) ≤ 1599) (fr lo : Nat) (hfr : 1 ≤ fr) (hlo : 23 ≤ lo) : WP 77 0 (lv_args 0 [.ref 14, iV state]) [] fr lo σ (fun v τ => ∃ z : Int, v = some (iV z) ∧ ((-1) ≤ z ∧ z ≤ 22) ∧ GI τ ∧ FR Wtp σ τ) := by
  show WP 77 0 [(0, .ref 14), (1, iV state)] [] _ _ _ _
  refine wp_il1 jF_77_0 rfl rfl (pc2 := 1) ?_
  refine wp_bi jF_77_1 (by decide) rfl (pc2 := 3) ?_
  refine wp_cS (as := [iV state, iV 22]) (rest := []) (mx := 4) jF_77_3 rfl rfl rfl rfl (by omega) (by omega) rfl (pc2 := 6) ?_
  refine wp_use (m_78_r σ hg state (by omega) (by omega) 22 (by omega) (by omega)  _ _ (by omega) (by omega)) ?_
  rintro _ _ ⟨z3, rfl, h4, rfl⟩
  show WP 77 6 [(0, .ref 14), (1, iV state)] [iV z3] _ _ _ _
  refine wp_ic jF_77_6 rfl (pc2 := 7) ?_
  refine wp_i_ne jF_77_7 (m_rgb h4 rfl) (m_rgl rfl) rfl (pc2 := 10) ?_ ?_
  · intro h5
    refine wp_al1 jF_77_28 rfl rfl (pc2 := 29) ?_
    refine wp_gr (b := 10) jF_77_29 kd14 (by decide) (c := 110) rfl rfl rfl (pc2 := 32) ?_
    refine wp_dup jF_77_32 rfl rfl (pc2 := 33) ?_
    have b6 := GI.b hg 10 2 kd10 (lo := 0) (hi := 1600) rfl
    refine wp_gi jF_77_33 kd10 (by decide) rfl rfl rfl (pc2 := 36) ?_
    refine wp_ic jF_77_36 rfl (pc2 := 37) ?_
    refine wp_add jF_77_37 rfl (pc2 := 38) ?_
    refine wp_pi jF_77_38 kd10 (by decide) rfl rfl rfl (pc2 := 41) hg (lo := 0) (hi := 1600) rfl (by omega) (by omega) ?_
    intro τ7 g8 f9 e10
    refine wp_bi jF_77_41 (by decide) rfl (pc2 := 43) ?_
    refine wp_ri jF_77_43 rfl ?_
    exact ⟨22, rfl, ⟨by omega, by omega⟩, g8, (FR.w FR.rf f9 rfl)⟩
  · intro h5
    refine wp_al1 jF_77_10 rfl rfl (pc2 := 11) ?_
    refine wp_gr (b := 10) jF_77_11 kd14 (by decide) (c := 110) rfl rfl rfl (pc2 := 14) ?_
    refine wp_ic jF_77_14 rfl (pc2 := 15) ?_
    refine wp_al1 jF_77_15 rfl rfl (pc2 := 16) ?_
    refine wp_gr (b := 10) jF_77_16 kd14 (by decide) (c := 110) rfl rfl rfl (pc2 := 19) ?_
    have b11 := GI.b hg 10 2 kd10 (lo := 0) (hi := 1600) rfl
    refine wp_gi jF_77_19 kd10 (by decide) rfl rfl rfl (pc2 := 22) ?_
    refine wp_cV (as := [iV 1, iV (σ.1 10 2)]) (rest := []) (a := 10) (mx := 3) (ci := 6) jF_77_22 kd10 (by decide) rfl rfl rfl rfl rfl (by omega) (by omega) rfl (pc2 := 25) ?_
    refine wp_use (m_42_r10 σ hg 1 (by omega) (by omega) (σ.1 10 2) (by omega) (by omega)  _ _ (by omega) (by omega)) ?_
    rintro _ τ12 ⟨z15, rfl, h16, g13, f14⟩
    show WP 77 25 [(0, .ref 14), (1, iV state)] [iV z15] _ _ _ _
    refine wp_pop jF_77_25 rfl rfl (pc2 := 26) ?_
    refine wp_ic jF_77_26 rfl (pc2 := 27) ?_
    refine wp_ri jF_77_27 rfl ?_
    exact ⟨(-1), rfl, ⟨by omega, by omega⟩, g13, f14⟩
set_option maxHeartbeats 4000000 in
set_option maxRecDepth 20000 in
/-- LawReader.hasRoom -/
theorem m_76_r14_20_80 (σ : jM) (hg : GI σ) (oc : Int) (hl_oc : (-1) ≤ oc) (hu_oc : oc ≤ 255)  (fr lo : Nat) (hfr : 2 ≤ fr) (hlo : 42 ≤ lo) : WP 76 0 (lv_args 0 [.ref 14, .ref 20, .ref 80, iV oc]) [] fr lo σ (fun v τ => ∃ z : Int, v = some (iV z) ∧ (0 ≤ z ∧ z ≤ 1) ∧ GI τ ∧ FR Wtp σ τ ∧ ((cb σ) = 1 → (τ.1 10 2) = (σ.1 10 2))) := by
  show WP 76 0 [(0, .ref 14), (1, .ref 20), (2, .ref 80), (3, iV oc)] [] _ _ _ _
  refine wp_al1 jF_76_0 rfl rfl (pc2 := 1) ?_
  refine wp_gr (b := 10) jF_76_1 kd14 (by decide) (c := 110) rfl rfl rfl (pc2 := 4) ?_
  refine wp_cV (as := []) (rest := []) (a := 10) (mx := 2) (ci := 6) jF_76_4 kd10 (by decide) rfl rfl rfl rfl rfl (by omega) (by omega) rfl (pc2 := 7) ?_
  have b1 := GI.b hg 10 1 kd10 (lo := 0) (hi := 1600) rfl
  have b2 := GI.b hg 10 2 kd10 (lo := 0) (hi := 1600) rfl
  refine wp_use (m_37_r10_c σ hg   _ _ (by omega) (by omega)) ?_
  rintro _ τ5 ⟨z8, rfl, h9, g6, f7, p3, p4⟩
  show WP 76 7 [(0, .ref 14), (1, .ref 20), (2, .ref 80), (3, iV oc)] [iV z8] _ _ _ _
  refine wp_z_eq jF_76_7 (m_rgb h9 rfl) rfl (pc2 := 10) ?_ ?_
  · intro h10
    clear p3
    refine wp_il1 jF_76_36 rfl rfl (pc2 := 37) ?_
    refine wp_bi jF_76_37 (by decide) rfl (pc2 := 39) ?_
    refine wp_i_ne jF_76_39 ⟨by omega, by omega⟩ (m_rgl rfl) rfl (pc2 := 42) ?_ ?_
    · intro h11
      refine wp_ic jF_76_51 rfl (pc2 := 52) ?_
      refine wp_go jF_76_52 ?_
      refine wp_ri jF_76_56 rfl ?_
      have b12 := GI.b g6 10 2 kd10 (lo := 0) (hi := 1600) rfl
      exact ⟨1, rfl, ⟨by omega, by omega⟩, g6, f7, (by omega)⟩
    · intro h11
      refine wp_al1 jF_76_42 rfl rfl (pc2 := 43) ?_
      have b13 := GI.b hg 80 1 kd80 (lo := 0) (hi := 60) rfl
      refine wp_gi jF_76_43 kd80 (by decide) rfl (FR.at f7 80 1 rfl) rfl (pc2 := 46) ?_
      refine wp_bi jF_76_46 (by decide) rfl (pc2 := 48) ?_
      refine wp_i_ge jF_76_48 (m_rgb b13 rfl) (m_rgl rfl) rfl (pc2 := 51) ?_ ?_
      · intro h14
        refine wp_ic jF_76_55 rfl (pc2 := 56) ?_
        refine wp_ri jF_76_56 rfl ?_
        have b15 := GI.b g6 10 2 kd10 (lo := 0) (hi := 1600) rfl
        exact ⟨0, rfl, ⟨by omega, by omega⟩, g6, f7, (by omega)⟩
      · intro h14
        refine wp_ic jF_76_51 rfl (pc2 := 52) ?_
        refine wp_go jF_76_52 ?_
        refine wp_ri jF_76_56 rfl ?_
        have b16 := GI.b g6 10 2 kd10 (lo := 0) (hi := 1600) rfl
        exact ⟨1, rfl, ⟨by omega, by omega⟩, g6, f7, (by omega)⟩
  · intro h10
    replace p3 := p3 (by omega)
    refine wp_al1 jF_76_10 rfl rfl (pc2 := 11) ?_
    have b17 := GI.b hg 80 2 kd80 (lo := (-2147483648)) (hi := 2147483647) rfl
    refine wp_gi jF_76_11 kd80 (by decide) rfl (FR.at f7 80 2 rfl) rfl (pc2 := 14) ?_
    refine wp_al1 jF_76_14 rfl rfl (pc2 := 15) ?_
    have b18 := GI.b hg 20 10 kd20 (lo := (-2147483648)) (hi := 2147483647) rfl
    refine wp_gi jF_76_15 kd20 (by decide) rfl (FR.at f7 20 10 rfl) rfl (pc2 := 18) ?_
    refine wp_i_ge jF_76_18 (m_rgb b17 rfl) (m_rgb b18 rfl) rfl (pc2 := 21) ?_ ?_
    · intro h19
      refine wp_ic jF_76_34 rfl (pc2 := 35) ?_
      refine wp_ri jF_76_35 rfl ?_
      have b20 := GI.b g6 10 2 kd10 (lo := 0) (hi := 1600) rfl
      exact ⟨0, rfl, ⟨by omega, by omega⟩, g6, f7, (by omega)⟩
    · intro h19
      refine wp_al1 jF_76_21 rfl rfl (pc2 := 22) ?_
      have b21 := GI.b hg 80 1 kd80 (lo := 0) (hi := 60) rfl
      refine wp_gi jF_76_22 kd80 (by decide) rfl (FR.at f7 80 1 rfl) rfl (pc2 := 25) ?_
      refine wp_bi jF_76_25 (by decide) rfl (pc2 := 27) ?_
      refine wp_i_ge jF_76_27 (m_rgb b21 rfl) (m_rgl rfl) rfl (pc2 := 30) ?_ ?_
      · intro h22
        refine wp_ic jF_76_34 rfl (pc2 := 35) ?_
        refine wp_ri jF_76_35 rfl ?_
        have b23 := GI.b g6 10 2 kd10 (lo := 0) (hi := 1600) rfl
        exact ⟨0, rfl, ⟨by omega, by omega⟩, g6, f7, (by omega)⟩
      · intro h22
        refine wp_ic jF_76_30 rfl (pc2 := 31) ?_
        refine wp_go jF_76_31 ?_
        refine wp_ri jF_76_35 rfl ?_
        have b24 := GI.b g6 10 2 kd10 (lo := 0) (hi := 1600) rfl
        exact ⟨1, rfl, ⟨by omega, by omega⟩, g6, f7, (by omega)⟩
set_option maxHeartbeats 4000000 in
set_option maxRecDepth 20000 in
/-- LawReader.takesWord -/
theorem m_79_r14_20 (σ : jM) (hg : GI σ) (state : Int) (hl_state : (-1) ≤ state) (hu_state : state ≤ 4)  (fr lo : Nat) (hfr : 3 ≤ fr) (hlo : 63 ≤ lo) : WP 79 0 (lv_args 0 [.ref 14, .ref 20, iV state]) [] fr lo σ (fun v τ => ∃ z : Int, v = some (iV z) ∧ ((-1) ≤ z ∧ z ≤ 24) ∧ GI τ ∧ FR Wtp σ τ) := by
  show WP 79 0 [(0, .ref 14), (1, .ref 20), (2, iV state)] [] _ _ _ _
  refine wp_al1 jF_79_0 rfl rfl (pc2 := 1) ?_
  refine wp_gr (b := 10) jF_79_1 kd14 (by decide) (c := 110) rfl rfl rfl (pc2 := 4) ?_
  refine wp_cV (as := []) (rest := []) (a := 10) (mx := 2) (ci := 6) jF_79_4 kd10 (by decide) rfl rfl rfl rfl rfl (by omega) (by omega) rfl (pc2 := 7) ?_
  have b1 := GI.b hg 10 1 kd10 (lo := 0) (hi := 1600) rfl
  refine wp_use (m_37_r10 σ hg   _ _ (by omega) (by omega)) ?_
  rintro _ τ3 ⟨z6, rfl, h7, g4, f5, p2⟩
  show WP 79 7 [(0, .ref 14), (1, .ref 20), (2, iV state)] [iV z6] _ _ _ _
  refine wp_z_eq jF_79_7 (m_rgb h7 rfl) rfl (pc2 := 10) ?_ ?_
  · intro h8
    clear p2
    refine wp_ic jF_79_24 rfl (pc2 := 25) ?_
    refine wp_is1 (lv2 := [(0, .ref 14), (1, .ref 20), (2, iV state), (3, iV (-1))]) jF_79_25 rfl rfl rfl (pc2 := 26) ?_
    refine wp_il1 jF_79_26 rfl rfl (pc2 := 27) ?_
    refine wp_bi jF_79_27 (by decide) rfl (pc2 := 29) ?_
    refine wp_i_lt jF_79_29 (m_rgl rfl) (m_rgl rfl) rfl (pc2 := 32) ?_ ?_
    · intro h9
      refine wp_il1 jF_79_62 rfl rfl (pc2 := 63) ?_
      refine wp_ic jF_79_63 rfl (pc2 := 64) ?_
      refine wp_cS (as := [iV state, iV 0]) (rest := []) (mx := 4) jF_79_64 rfl rfl rfl rfl (by omega) (by omega) rfl (pc2 := 67) ?_
      refine wp_use (m_78_r τ3 g4 state (by omega) (by omega) 0 (by omega) (by omega)  _ _ (by omega) (by omega)) ?_
      rintro _ _ ⟨z12, rfl, h13, rfl⟩
      show WP 79 67 [(0, .ref 14), (1, .ref 20), (2, iV state), (3, iV (-1))] [iV z12] _ _ _ _
      refine wp_ic jF_79_67 rfl (pc2 := 68) ?_
      refine wp_i_ne jF_79_68 (m_rgb h13 rfl) (m_rgl rfl) rfl (pc2 := 71) ?_ ?_
      · intro h14
        refine wp_al1 jF_79_89 rfl rfl (pc2 := 90) ?_
        refine wp_gr (b := 10) jF_79_90 kd14 (by decide) (c := 110) rfl rfl rfl (pc2 := 93) ?_
        refine wp_al1 jF_79_93 rfl rfl (pc2 := 94) ?_
        refine wp_gr (b := 15) jF_79_94 kd14 (by decide) (c := 115) rfl rfl rfl (pc2 := 97) ?_
        refine wp_cV (as := [.ref 15]) (rest := []) (a := 10) (mx := 2) (ci := 6) jF_79_97 kd10 (by decide) rfl rfl rfl rfl rfl (by omega) (by omega) rfl (pc2 := 100) ?_
        refine wp_use (m_49_r10_15 τ3 g4   _ _ (by omega) (by omega)) ?_
        rintro _ τ15 ⟨z18, rfl, h19, g16, f17⟩
        show WP 79 100 [(0, .ref 14), (1, .ref 20), (2, iV state), (3, iV (-1))] [iV z18] _ _ _ _
        refine wp_z_ne jF_79_100 (m_rgb h19 rfl) rfl (pc2 := 103) ?_ ?_
        · intro h20
          refine wp_al1 jF_79_105 rfl rfl (pc2 := 106) ?_
          refine wp_al1 jF_79_106 rfl rfl (pc2 := 107) ?_
          refine wp_gr (b := 10) jF_79_107 kd14 (by decide) (c := 110) rfl rfl rfl (pc2 := 110) ?_
          have b21 := GI.b g16 10 7 kd10 (lo := (-2147483648)) (hi := 2147483647) rfl
          refine wp_gi jF_79_110 kd10 (by decide) rfl rfl rfl (pc2 := 113) ?_
          refine wp_cV (as := [iV (τ15.1 10 7)]) (rest := []) (a := 20) (mx := 3) (ci := 8) jF_79_113 kd20 (by decide) rfl rfl rfl rfl rfl (by omega) (by omega) rfl (pc2 := 116) ?_
          refine wp_use (m_50_r20 τ15 g16 (τ15.1 10 7) (by omega) (by omega)  _ _ (by omega) (by omega)) ?_
          rintro _ _ ⟨z24, rfl, h25, rfl⟩
          show WP 79 116 [(0, .ref 14), (1, .ref 20), (2, iV state), (3, iV (-1))] [iV z24] _ _ _ _
          refine wp_is2 (lv2 := [(0, .ref 14), (1, .ref 20), (2, iV state), (3, iV (-1)), (4, iV z24)]) jF_79_116 rfl rfl rfl (pc2 := 118) ?_
          refine wp_il2 jF_79_118 rfl rfl (pc2 := 120) ?_
          refine wp_ic jF_79_120 rfl (pc2 := 121) ?_
          refine wp_i_eq jF_79_121 (m_rgb h25 rfl) (m_rgl rfl) rfl (pc2 := 124) ?_ ?_
          · intro h26
            refine wp_al1 jF_79_133 rfl rfl (pc2 := 134) ?_
            refine wp_gr (b := 10) jF_79_134 kd14 (by decide) (c := 110) rfl rfl rfl (pc2 := 137) ?_
            refine wp_ic jF_79_137 rfl (pc2 := 138) ?_
            refine wp_al1 jF_79_138 rfl rfl (pc2 := 139) ?_
            refine wp_gr (b := 10) jF_79_139 kd14 (by decide) (c := 110) rfl rfl rfl (pc2 := 142) ?_
            have b27 := GI.b g16 10 5 kd10 (lo := 0) (hi := 1600) rfl
            refine wp_gi jF_79_142 kd10 (by decide) rfl rfl rfl (pc2 := 145) ?_
            refine wp_cV (as := [iV 3, iV (τ15.1 10 5)]) (rest := []) (a := 10) (mx := 3) (ci := 6) jF_79_145 kd10 (by decide) rfl rfl rfl rfl rfl (by omega) (by omega) rfl (pc2 := 148) ?_
            refine wp_use (m_42_r10 τ15 g16 3 (by omega) (by omega) (τ15.1 10 5) (by omega) (by omega)  _ _ (by omega) (by omega)) ?_
            rintro _ τ28 ⟨z31, rfl, h32, g29, f30⟩
            show WP 79 148 [(0, .ref 14), (1, .ref 20), (2, iV state), (3, iV (-1)), (4, iV z24)] [iV z31] _ _ _ _
            refine wp_pop jF_79_148 rfl rfl (pc2 := 149) ?_
            refine wp_ic jF_79_149 rfl (pc2 := 150) ?_
            refine wp_ri jF_79_150 rfl ?_
            exact ⟨(-1), rfl, ⟨by omega, by omega⟩, g29, (FR.up (FR.up f5 f17 sb_Wtp_Wtp) f30 sb_Wtp_Wtp)⟩
          · intro h26
            refine wp_al1 jF_79_124 rfl rfl (pc2 := 125) ?_
            refine wp_il2 jF_79_125 rfl rfl (pc2 := 127) ?_
            refine wp_cV (as := [iV z24]) (rest := []) (a := 20) (mx := 2) (ci := 8) jF_79_127 kd20 (by decide) rfl rfl rfl rfl rfl (by omega) (by omega) rfl (pc2 := 130) ?_
            refine wp_use (m_51_r20 τ15 g16 z24 (by omega) (by omega)  _ _ (by omega) (by omega)) ?_
            rintro _ _ ⟨z35, rfl, h36, rfl⟩
            show WP 79 130 [(0, .ref 14), (1, .ref 20), (2, iV state), (3, iV (-1)), (4, iV z24)] [iV z35] _ _ _ _
            refine wp_z_eq jF_79_130 (m_rgb h36 rfl) rfl (pc2 := 133) ?_ ?_
            · intro h37
              refine wp_il2 jF_79_151 rfl rfl (pc2 := 153) ?_
              refine wp_ri jF_79_153 rfl ?_
              exact ⟨z24, rfl, ⟨by omega, by omega⟩, g16, (FR.up f5 f17 sb_Wtp_Wtp)⟩
            · intro h37
              refine wp_al1 jF_79_133 rfl rfl (pc2 := 134) ?_
              refine wp_gr (b := 10) jF_79_134 kd14 (by decide) (c := 110) rfl rfl rfl (pc2 := 137) ?_
              refine wp_ic jF_79_137 rfl (pc2 := 138) ?_
              refine wp_al1 jF_79_138 rfl rfl (pc2 := 139) ?_
              refine wp_gr (b := 10) jF_79_139 kd14 (by decide) (c := 110) rfl rfl rfl (pc2 := 142) ?_
              have b38 := GI.b g16 10 5 kd10 (lo := 0) (hi := 1600) rfl
              refine wp_gi jF_79_142 kd10 (by decide) rfl rfl rfl (pc2 := 145) ?_
              refine wp_cV (as := [iV 3, iV (τ15.1 10 5)]) (rest := []) (a := 10) (mx := 3) (ci := 6) jF_79_145 kd10 (by decide) rfl rfl rfl rfl rfl (by omega) (by omega) rfl (pc2 := 148) ?_
              refine wp_use (m_42_r10 τ15 g16 3 (by omega) (by omega) (τ15.1 10 5) (by omega) (by omega)  _ _ (by omega) (by omega)) ?_
              rintro _ τ39 ⟨z42, rfl, h43, g40, f41⟩
              show WP 79 148 [(0, .ref 14), (1, .ref 20), (2, iV state), (3, iV (-1)), (4, iV z24)] [iV z42] _ _ _ _
              refine wp_pop jF_79_148 rfl rfl (pc2 := 149) ?_
              refine wp_ic jF_79_149 rfl (pc2 := 150) ?_
              refine wp_ri jF_79_150 rfl ?_
              exact ⟨(-1), rfl, ⟨by omega, by omega⟩, g40, (FR.up (FR.up f5 f17 sb_Wtp_Wtp) f41 sb_Wtp_Wtp)⟩
        · intro h20
          refine wp_ic jF_79_103 rfl (pc2 := 104) ?_
          refine wp_ri jF_79_104 rfl ?_
          exact ⟨(-1), rfl, ⟨by omega, by omega⟩, g16, (FR.up f5 f17 sb_Wtp_Wtp)⟩
      · intro h14
        refine wp_al1 jF_79_71 rfl rfl (pc2 := 72) ?_
        refine wp_gr (b := 10) jF_79_72 kd14 (by decide) (c := 110) rfl rfl rfl (pc2 := 75) ?_
        refine wp_ic jF_79_75 rfl (pc2 := 76) ?_
        refine wp_al1 jF_79_76 rfl rfl (pc2 := 77) ?_
        refine wp_gr (b := 10) jF_79_77 kd14 (by decide) (c := 110) rfl rfl rfl (pc2 := 80) ?_
        have b44 := GI.b g4 10 2 kd10 (lo := 0) (hi := 1600) rfl
        refine wp_gi jF_79_80 kd10 (by decide) rfl rfl rfl (pc2 := 83) ?_
        refine wp_cV (as := [iV 1, iV (τ3.1 10 2)]) (rest := []) (a := 10) (mx := 3) (ci := 6) jF_79_83 kd10 (by decide) rfl rfl rfl rfl rfl (by omega) (by omega) rfl (pc2 := 86) ?_
        refine wp_use (m_42_r10 τ3 g4 1 (by omega) (by omega) (τ3.1 10 2) (by omega) (by omega)  _ _ (by omega) (by omega)) ?_
        rintro _ τ45 ⟨z48, rfl, h49, g46, f47⟩
        show WP 79 86 [(0, .ref 14), (1, .ref 20), (2, iV state), (3, iV (-1))] [iV z48] _ _ _ _
        refine wp_pop jF_79_86 rfl rfl (pc2 := 87) ?_
        refine wp_ic jF_79_87 rfl (pc2 := 88) ?_
        refine wp_ri jF_79_88 rfl ?_
        exact ⟨(-1), rfl, ⟨by omega, by omega⟩, g46, (FR.up f5 f47 sb_Wtp_Wtp)⟩
    · intro h9; exfalso; omega
  · intro h8
    replace p2 := p2 (by omega)
    refine wp_al1 jF_79_10 rfl rfl (pc2 := 11) ?_
    refine wp_gr (b := 10) jF_79_11 kd14 (by decide) (c := 110) rfl rfl rfl (pc2 := 14) ?_
    refine wp_al1 jF_79_14 rfl rfl (pc2 := 15) ?_
    refine wp_gr (b := 15) jF_79_15 kd14 (by decide) (c := 115) rfl rfl rfl (pc2 := 18) ?_
    refine wp_cV (as := [.ref 15]) (rest := []) (a := 10) (mx := 3) (ci := 6) jF_79_18 kd10 (by decide) rfl rfl rfl rfl rfl (by omega) (by omega) rfl (pc2 := 21) ?_
    refine wp_use (m_41_r10_15 τ3 g4   _ _ (by omega) (by omega)) ?_
    rintro _ _ ⟨z52, rfl, h53, rfl⟩
    show WP 79 21 [(0, .ref 14), (1, .ref 20), (2, iV state)] [iV z52] _ _ _ _
    refine wp_go jF_79_21 ?_
    refine wp_is1 (lv2 := [(0, .ref 14), (1, .ref 20), (2, iV state), (3, iV z52)]) jF_79_25 rfl rfl rfl (pc2 := 26) ?_
    refine wp_il1 jF_79_26 rfl rfl (pc2 := 27) ?_
    refine wp_bi jF_79_27 (by decide) rfl (pc2 := 29) ?_
    refine wp_i_lt jF_79_29 (m_rgb h53 rfl) (m_rgl rfl) rfl (pc2 := 32) ?_ ?_
    · intro h54
      refine wp_il1 jF_79_62 rfl rfl (pc2 := 63) ?_
      refine wp_ic jF_79_63 rfl (pc2 := 64) ?_
      refine wp_cS (as := [iV state, iV 0]) (rest := []) (mx := 4) jF_79_64 rfl rfl rfl rfl (by omega) (by omega) rfl (pc2 := 67) ?_
      refine wp_use (m_78_r τ3 g4 state (by omega) (by omega) 0 (by omega) (by omega)  _ _ (by omega) (by omega)) ?_
      rintro _ _ ⟨z57, rfl, h58, rfl⟩
      show WP 79 67 [(0, .ref 14), (1, .ref 20), (2, iV state), (3, iV z52)] [iV z57] _ _ _ _
      refine wp_ic jF_79_67 rfl (pc2 := 68) ?_
      refine wp_i_ne jF_79_68 (m_rgb h58 rfl) (m_rgl rfl) rfl (pc2 := 71) ?_ ?_
      · intro h59
        refine wp_al1 jF_79_89 rfl rfl (pc2 := 90) ?_
        refine wp_gr (b := 10) jF_79_90 kd14 (by decide) (c := 110) rfl rfl rfl (pc2 := 93) ?_
        refine wp_al1 jF_79_93 rfl rfl (pc2 := 94) ?_
        refine wp_gr (b := 15) jF_79_94 kd14 (by decide) (c := 115) rfl rfl rfl (pc2 := 97) ?_
        refine wp_cV (as := [.ref 15]) (rest := []) (a := 10) (mx := 2) (ci := 6) jF_79_97 kd10 (by decide) rfl rfl rfl rfl rfl (by omega) (by omega) rfl (pc2 := 100) ?_
        refine wp_use (m_49_r10_15 τ3 g4   _ _ (by omega) (by omega)) ?_
        rintro _ τ60 ⟨z63, rfl, h64, g61, f62⟩
        show WP 79 100 [(0, .ref 14), (1, .ref 20), (2, iV state), (3, iV z52)] [iV z63] _ _ _ _
        refine wp_z_ne jF_79_100 (m_rgb h64 rfl) rfl (pc2 := 103) ?_ ?_
        · intro h65
          refine wp_al1 jF_79_105 rfl rfl (pc2 := 106) ?_
          refine wp_al1 jF_79_106 rfl rfl (pc2 := 107) ?_
          refine wp_gr (b := 10) jF_79_107 kd14 (by decide) (c := 110) rfl rfl rfl (pc2 := 110) ?_
          have b66 := GI.b g61 10 7 kd10 (lo := (-2147483648)) (hi := 2147483647) rfl
          refine wp_gi jF_79_110 kd10 (by decide) rfl rfl rfl (pc2 := 113) ?_
          refine wp_cV (as := [iV (τ60.1 10 7)]) (rest := []) (a := 20) (mx := 3) (ci := 8) jF_79_113 kd20 (by decide) rfl rfl rfl rfl rfl (by omega) (by omega) rfl (pc2 := 116) ?_
          refine wp_use (m_50_r20 τ60 g61 (τ60.1 10 7) (by omega) (by omega)  _ _ (by omega) (by omega)) ?_
          rintro _ _ ⟨z69, rfl, h70, rfl⟩
          show WP 79 116 [(0, .ref 14), (1, .ref 20), (2, iV state), (3, iV z52)] [iV z69] _ _ _ _
          refine wp_is2 (lv2 := [(0, .ref 14), (1, .ref 20), (2, iV state), (3, iV z52), (4, iV z69)]) jF_79_116 rfl rfl rfl (pc2 := 118) ?_
          refine wp_il2 jF_79_118 rfl rfl (pc2 := 120) ?_
          refine wp_ic jF_79_120 rfl (pc2 := 121) ?_
          refine wp_i_eq jF_79_121 (m_rgb h70 rfl) (m_rgl rfl) rfl (pc2 := 124) ?_ ?_
          · intro h71
            refine wp_al1 jF_79_133 rfl rfl (pc2 := 134) ?_
            refine wp_gr (b := 10) jF_79_134 kd14 (by decide) (c := 110) rfl rfl rfl (pc2 := 137) ?_
            refine wp_ic jF_79_137 rfl (pc2 := 138) ?_
            refine wp_al1 jF_79_138 rfl rfl (pc2 := 139) ?_
            refine wp_gr (b := 10) jF_79_139 kd14 (by decide) (c := 110) rfl rfl rfl (pc2 := 142) ?_
            have b72 := GI.b g61 10 5 kd10 (lo := 0) (hi := 1600) rfl
            refine wp_gi jF_79_142 kd10 (by decide) rfl rfl rfl (pc2 := 145) ?_
            refine wp_cV (as := [iV 3, iV (τ60.1 10 5)]) (rest := []) (a := 10) (mx := 3) (ci := 6) jF_79_145 kd10 (by decide) rfl rfl rfl rfl rfl (by omega) (by omega) rfl (pc2 := 148) ?_
            refine wp_use (m_42_r10 τ60 g61 3 (by omega) (by omega) (τ60.1 10 5) (by omega) (by omega)  _ _ (by omega) (by omega)) ?_
            rintro _ τ73 ⟨z76, rfl, h77, g74, f75⟩
            show WP 79 148 [(0, .ref 14), (1, .ref 20), (2, iV state), (3, iV z52), (4, iV z69)] [iV z76] _ _ _ _
            refine wp_pop jF_79_148 rfl rfl (pc2 := 149) ?_
            refine wp_ic jF_79_149 rfl (pc2 := 150) ?_
            refine wp_ri jF_79_150 rfl ?_
            exact ⟨(-1), rfl, ⟨by omega, by omega⟩, g74, (FR.up (FR.up f5 f62 sb_Wtp_Wtp) f75 sb_Wtp_Wtp)⟩
          · intro h71
            refine wp_al1 jF_79_124 rfl rfl (pc2 := 125) ?_
            refine wp_il2 jF_79_125 rfl rfl (pc2 := 127) ?_
            refine wp_cV (as := [iV z69]) (rest := []) (a := 20) (mx := 2) (ci := 8) jF_79_127 kd20 (by decide) rfl rfl rfl rfl rfl (by omega) (by omega) rfl (pc2 := 130) ?_
            refine wp_use (m_51_r20 τ60 g61 z69 (by omega) (by omega)  _ _ (by omega) (by omega)) ?_
            rintro _ _ ⟨z80, rfl, h81, rfl⟩
            show WP 79 130 [(0, .ref 14), (1, .ref 20), (2, iV state), (3, iV z52), (4, iV z69)] [iV z80] _ _ _ _
            refine wp_z_eq jF_79_130 (m_rgb h81 rfl) rfl (pc2 := 133) ?_ ?_
            · intro h82
              refine wp_il2 jF_79_151 rfl rfl (pc2 := 153) ?_
              refine wp_ri jF_79_153 rfl ?_
              exact ⟨z69, rfl, ⟨by omega, by omega⟩, g61, (FR.up f5 f62 sb_Wtp_Wtp)⟩
            · intro h82
              refine wp_al1 jF_79_133 rfl rfl (pc2 := 134) ?_
              refine wp_gr (b := 10) jF_79_134 kd14 (by decide) (c := 110) rfl rfl rfl (pc2 := 137) ?_
              refine wp_ic jF_79_137 rfl (pc2 := 138) ?_
              refine wp_al1 jF_79_138 rfl rfl (pc2 := 139) ?_
              refine wp_gr (b := 10) jF_79_139 kd14 (by decide) (c := 110) rfl rfl rfl (pc2 := 142) ?_
              have b83 := GI.b g61 10 5 kd10 (lo := 0) (hi := 1600) rfl
              refine wp_gi jF_79_142 kd10 (by decide) rfl rfl rfl (pc2 := 145) ?_
              refine wp_cV (as := [iV 3, iV (τ60.1 10 5)]) (rest := []) (a := 10) (mx := 3) (ci := 6) jF_79_145 kd10 (by decide) rfl rfl rfl rfl rfl (by omega) (by omega) rfl (pc2 := 148) ?_
              refine wp_use (m_42_r10 τ60 g61 3 (by omega) (by omega) (τ60.1 10 5) (by omega) (by omega)  _ _ (by omega) (by omega)) ?_
              rintro _ τ84 ⟨z87, rfl, h88, g85, f86⟩
              show WP 79 148 [(0, .ref 14), (1, .ref 20), (2, iV state), (3, iV z52), (4, iV z69)] [iV z87] _ _ _ _
              refine wp_pop jF_79_148 rfl rfl (pc2 := 149) ?_
              refine wp_ic jF_79_149 rfl (pc2 := 150) ?_
              refine wp_ri jF_79_150 rfl ?_
              exact ⟨(-1), rfl, ⟨by omega, by omega⟩, g85, (FR.up (FR.up f5 f62 sb_Wtp_Wtp) f86 sb_Wtp_Wtp)⟩
        · intro h65
          refine wp_ic jF_79_103 rfl (pc2 := 104) ?_
          refine wp_ri jF_79_104 rfl ?_
          exact ⟨(-1), rfl, ⟨by omega, by omega⟩, g61, (FR.up f5 f62 sb_Wtp_Wtp)⟩
      · intro h59
        refine wp_al1 jF_79_71 rfl rfl (pc2 := 72) ?_
        refine wp_gr (b := 10) jF_79_72 kd14 (by decide) (c := 110) rfl rfl rfl (pc2 := 75) ?_
        refine wp_ic jF_79_75 rfl (pc2 := 76) ?_
        refine wp_al1 jF_79_76 rfl rfl (pc2 := 77) ?_
        refine wp_gr (b := 10) jF_79_77 kd14 (by decide) (c := 110) rfl rfl rfl (pc2 := 80) ?_
        have b89 := GI.b g4 10 2 kd10 (lo := 0) (hi := 1600) rfl
        refine wp_gi jF_79_80 kd10 (by decide) rfl rfl rfl (pc2 := 83) ?_
        refine wp_cV (as := [iV 1, iV (τ3.1 10 2)]) (rest := []) (a := 10) (mx := 3) (ci := 6) jF_79_83 kd10 (by decide) rfl rfl rfl rfl rfl (by omega) (by omega) rfl (pc2 := 86) ?_
        refine wp_use (m_42_r10 τ3 g4 1 (by omega) (by omega) (τ3.1 10 2) (by omega) (by omega)  _ _ (by omega) (by omega)) ?_
        rintro _ τ90 ⟨z93, rfl, h94, g91, f92⟩
        show WP 79 86 [(0, .ref 14), (1, .ref 20), (2, iV state), (3, iV z52)] [iV z93] _ _ _ _
        refine wp_pop jF_79_86 rfl rfl (pc2 := 87) ?_
        refine wp_ic jF_79_87 rfl (pc2 := 88) ?_
        refine wp_ri jF_79_88 rfl ?_
        exact ⟨(-1), rfl, ⟨by omega, by omega⟩, g91, (FR.up f5 f92 sb_Wtp_Wtp)⟩
    · intro h54
      refine wp_il1 jF_79_32 rfl rfl (pc2 := 33) ?_
      refine wp_il1 jF_79_33 rfl rfl (pc2 := 34) ?_
      refine wp_bi jF_79_34 (by decide) rfl (pc2 := 36) ?_
      refine wp_sub jF_79_36 rfl (pc2 := 37) ?_
      refine wp_bi jF_79_37 (by decide) rfl (pc2 := 39) ?_
      refine wp_add jF_79_39 rfl (pc2 := 40) ?_
      refine wp_cS (as := [iV state, iV ((z52 - 14) + 18)]) (rest := []) (mx := 4) jF_79_40 rfl rfl rfl rfl (by omega) (by omega) rfl (pc2 := 43) ?_
      refine wp_use (m_78_r τ3 g4 state (by omega) (by omega) ((z52 - 14) + 18) (by omega) (by omega)  _ _ (by omega) (by omega)) ?_
      rintro _ _ ⟨z97, rfl, h98, rfl⟩
      show WP 79 43 [(0, .ref 14), (1, .ref 20), (2, iV state), (3, iV z52)] [iV z97] _ _ _ _
      refine wp_ic jF_79_43 rfl (pc2 := 44) ?_
      refine wp_i_eq jF_79_44 (m_rgb h98 rfl) (m_rgl rfl) rfl (pc2 := 47) ?_ ?_
      · intro h99
        refine wp_il1 jF_79_62 rfl rfl (pc2 := 63) ?_
        refine wp_ic jF_79_63 rfl (pc2 := 64) ?_
        refine wp_cS (as := [iV state, iV 0]) (rest := []) (mx := 4) jF_79_64 rfl rfl rfl rfl (by omega) (by omega) rfl (pc2 := 67) ?_
        refine wp_use (m_78_r τ3 g4 state (by omega) (by omega) 0 (by omega) (by omega)  _ _ (by omega) (by omega)) ?_
        rintro _ _ ⟨z102, rfl, h103, rfl⟩
        show WP 79 67 [(0, .ref 14), (1, .ref 20), (2, iV state), (3, iV z52)] [iV z102] _ _ _ _
        refine wp_ic jF_79_67 rfl (pc2 := 68) ?_
        refine wp_i_ne jF_79_68 (m_rgb h103 rfl) (m_rgl rfl) rfl (pc2 := 71) ?_ ?_
        · intro h104
          refine wp_al1 jF_79_89 rfl rfl (pc2 := 90) ?_
          refine wp_gr (b := 10) jF_79_90 kd14 (by decide) (c := 110) rfl rfl rfl (pc2 := 93) ?_
          refine wp_al1 jF_79_93 rfl rfl (pc2 := 94) ?_
          refine wp_gr (b := 15) jF_79_94 kd14 (by decide) (c := 115) rfl rfl rfl (pc2 := 97) ?_
          refine wp_cV (as := [.ref 15]) (rest := []) (a := 10) (mx := 2) (ci := 6) jF_79_97 kd10 (by decide) rfl rfl rfl rfl rfl (by omega) (by omega) rfl (pc2 := 100) ?_
          refine wp_use (m_49_r10_15 τ3 g4   _ _ (by omega) (by omega)) ?_
          rintro _ τ105 ⟨z108, rfl, h109, g106, f107⟩
          show WP 79 100 [(0, .ref 14), (1, .ref 20), (2, iV state), (3, iV z52)] [iV z108] _ _ _ _
          refine wp_z_ne jF_79_100 (m_rgb h109 rfl) rfl (pc2 := 103) ?_ ?_
          · intro h110
            refine wp_al1 jF_79_105 rfl rfl (pc2 := 106) ?_
            refine wp_al1 jF_79_106 rfl rfl (pc2 := 107) ?_
            refine wp_gr (b := 10) jF_79_107 kd14 (by decide) (c := 110) rfl rfl rfl (pc2 := 110) ?_
            have b111 := GI.b g106 10 7 kd10 (lo := (-2147483648)) (hi := 2147483647) rfl
            refine wp_gi jF_79_110 kd10 (by decide) rfl rfl rfl (pc2 := 113) ?_
            refine wp_cV (as := [iV (τ105.1 10 7)]) (rest := []) (a := 20) (mx := 3) (ci := 8) jF_79_113 kd20 (by decide) rfl rfl rfl rfl rfl (by omega) (by omega) rfl (pc2 := 116) ?_
            refine wp_use (m_50_r20 τ105 g106 (τ105.1 10 7) (by omega) (by omega)  _ _ (by omega) (by omega)) ?_
            rintro _ _ ⟨z114, rfl, h115, rfl⟩
            show WP 79 116 [(0, .ref 14), (1, .ref 20), (2, iV state), (3, iV z52)] [iV z114] _ _ _ _
            refine wp_is2 (lv2 := [(0, .ref 14), (1, .ref 20), (2, iV state), (3, iV z52), (4, iV z114)]) jF_79_116 rfl rfl rfl (pc2 := 118) ?_
            refine wp_il2 jF_79_118 rfl rfl (pc2 := 120) ?_
            refine wp_ic jF_79_120 rfl (pc2 := 121) ?_
            refine wp_i_eq jF_79_121 (m_rgb h115 rfl) (m_rgl rfl) rfl (pc2 := 124) ?_ ?_
            · intro h116
              refine wp_al1 jF_79_133 rfl rfl (pc2 := 134) ?_
              refine wp_gr (b := 10) jF_79_134 kd14 (by decide) (c := 110) rfl rfl rfl (pc2 := 137) ?_
              refine wp_ic jF_79_137 rfl (pc2 := 138) ?_
              refine wp_al1 jF_79_138 rfl rfl (pc2 := 139) ?_
              refine wp_gr (b := 10) jF_79_139 kd14 (by decide) (c := 110) rfl rfl rfl (pc2 := 142) ?_
              have b117 := GI.b g106 10 5 kd10 (lo := 0) (hi := 1600) rfl
              refine wp_gi jF_79_142 kd10 (by decide) rfl rfl rfl (pc2 := 145) ?_
              refine wp_cV (as := [iV 3, iV (τ105.1 10 5)]) (rest := []) (a := 10) (mx := 3) (ci := 6) jF_79_145 kd10 (by decide) rfl rfl rfl rfl rfl (by omega) (by omega) rfl (pc2 := 148) ?_
              refine wp_use (m_42_r10 τ105 g106 3 (by omega) (by omega) (τ105.1 10 5) (by omega) (by omega)  _ _ (by omega) (by omega)) ?_
              rintro _ τ118 ⟨z121, rfl, h122, g119, f120⟩
              show WP 79 148 [(0, .ref 14), (1, .ref 20), (2, iV state), (3, iV z52), (4, iV z114)] [iV z121] _ _ _ _
              refine wp_pop jF_79_148 rfl rfl (pc2 := 149) ?_
              refine wp_ic jF_79_149 rfl (pc2 := 150) ?_
              refine wp_ri jF_79_150 rfl ?_
              exact ⟨(-1), rfl, ⟨by omega, by omega⟩, g119, (FR.up (FR.up f5 f107 sb_Wtp_Wtp) f120 sb_Wtp_Wtp)⟩
            · intro h116
              refine wp_al1 jF_79_124 rfl rfl (pc2 := 125) ?_
              refine wp_il2 jF_79_125 rfl rfl (pc2 := 127) ?_
              refine wp_cV (as := [iV z114]) (rest := []) (a := 20) (mx := 2) (ci := 8) jF_79_127 kd20 (by decide) rfl rfl rfl rfl rfl (by omega) (by omega) rfl (pc2 := 130) ?_
              refine wp_use (m_51_r20 τ105 g106 z114 (by omega) (by omega)  _ _ (by omega) (by omega)) ?_
              rintro _ _ ⟨z125, rfl, h126, rfl⟩
              show WP 79 130 [(0, .ref 14), (1, .ref 20), (2, iV state), (3, iV z52), (4, iV z114)] [iV z125] _ _ _ _
              refine wp_z_eq jF_79_130 (m_rgb h126 rfl) rfl (pc2 := 133) ?_ ?_
              · intro h127
                refine wp_il2 jF_79_151 rfl rfl (pc2 := 153) ?_
                refine wp_ri jF_79_153 rfl ?_
                exact ⟨z114, rfl, ⟨by omega, by omega⟩, g106, (FR.up f5 f107 sb_Wtp_Wtp)⟩
              · intro h127
                refine wp_al1 jF_79_133 rfl rfl (pc2 := 134) ?_
                refine wp_gr (b := 10) jF_79_134 kd14 (by decide) (c := 110) rfl rfl rfl (pc2 := 137) ?_
                refine wp_ic jF_79_137 rfl (pc2 := 138) ?_
                refine wp_al1 jF_79_138 rfl rfl (pc2 := 139) ?_
                refine wp_gr (b := 10) jF_79_139 kd14 (by decide) (c := 110) rfl rfl rfl (pc2 := 142) ?_
                have b128 := GI.b g106 10 5 kd10 (lo := 0) (hi := 1600) rfl
                refine wp_gi jF_79_142 kd10 (by decide) rfl rfl rfl (pc2 := 145) ?_
                refine wp_cV (as := [iV 3, iV (τ105.1 10 5)]) (rest := []) (a := 10) (mx := 3) (ci := 6) jF_79_145 kd10 (by decide) rfl rfl rfl rfl rfl (by omega) (by omega) rfl (pc2 := 148) ?_
                refine wp_use (m_42_r10 τ105 g106 3 (by omega) (by omega) (τ105.1 10 5) (by omega) (by omega)  _ _ (by omega) (by omega)) ?_
                rintro _ τ129 ⟨z132, rfl, h133, g130, f131⟩
                show WP 79 148 [(0, .ref 14), (1, .ref 20), (2, iV state), (3, iV z52), (4, iV z114)] [iV z132] _ _ _ _
                refine wp_pop jF_79_148 rfl rfl (pc2 := 149) ?_
                refine wp_ic jF_79_149 rfl (pc2 := 150) ?_
                refine wp_ri jF_79_150 rfl ?_
                exact ⟨(-1), rfl, ⟨by omega, by omega⟩, g130, (FR.up (FR.up f5 f107 sb_Wtp_Wtp) f131 sb_Wtp_Wtp)⟩
          · intro h110
            refine wp_ic jF_79_103 rfl (pc2 := 104) ?_
            refine wp_ri jF_79_104 rfl ?_
            exact ⟨(-1), rfl, ⟨by omega, by omega⟩, g106, (FR.up f5 f107 sb_Wtp_Wtp)⟩
        · intro h104
          refine wp_al1 jF_79_71 rfl rfl (pc2 := 72) ?_
          refine wp_gr (b := 10) jF_79_72 kd14 (by decide) (c := 110) rfl rfl rfl (pc2 := 75) ?_
          refine wp_ic jF_79_75 rfl (pc2 := 76) ?_
          refine wp_al1 jF_79_76 rfl rfl (pc2 := 77) ?_
          refine wp_gr (b := 10) jF_79_77 kd14 (by decide) (c := 110) rfl rfl rfl (pc2 := 80) ?_
          have b134 := GI.b g4 10 2 kd10 (lo := 0) (hi := 1600) rfl
          refine wp_gi jF_79_80 kd10 (by decide) rfl rfl rfl (pc2 := 83) ?_
          refine wp_cV (as := [iV 1, iV (τ3.1 10 2)]) (rest := []) (a := 10) (mx := 3) (ci := 6) jF_79_83 kd10 (by decide) rfl rfl rfl rfl rfl (by omega) (by omega) rfl (pc2 := 86) ?_
          refine wp_use (m_42_r10 τ3 g4 1 (by omega) (by omega) (τ3.1 10 2) (by omega) (by omega)  _ _ (by omega) (by omega)) ?_
          rintro _ τ135 ⟨z138, rfl, h139, g136, f137⟩
          show WP 79 86 [(0, .ref 14), (1, .ref 20), (2, iV state), (3, iV z52)] [iV z138] _ _ _ _
          refine wp_pop jF_79_86 rfl rfl (pc2 := 87) ?_
          refine wp_ic jF_79_87 rfl (pc2 := 88) ?_
          refine wp_ri jF_79_88 rfl ?_
          exact ⟨(-1), rfl, ⟨by omega, by omega⟩, g136, (FR.up f5 f137 sb_Wtp_Wtp)⟩
      · intro h99
        refine wp_al1 jF_79_47 rfl rfl (pc2 := 48) ?_
        refine wp_gr (b := 10) jF_79_48 kd14 (by decide) (c := 110) rfl rfl rfl (pc2 := 51) ?_
        refine wp_cV (as := []) (rest := []) (a := 10) (mx := 1) (ci := 6) jF_79_51 kd10 (by decide) rfl rfl rfl rfl rfl (by omega) (by omega) rfl (pc2 := 54) ?_
        have b140 := GI.b g4 10 5 kd10 (lo := 0) (hi := 1600) rfl
        have b141 := GI.b g4 10 6 kd10 (lo := 0) (hi := 1600) rfl
        refine wp_use (m_45_r10 τ3 g4  (by omega) _ _ (by omega) (by omega)) ?_
        rintro _ τ142 ⟨rfl, g143, f144⟩
        show WP 79 54 [(0, .ref 14), (1, .ref 20), (2, iV state), (3, iV z52)] [] _ _ _ _
        refine wp_il1 jF_79_54 rfl rfl (pc2 := 55) ?_
        refine wp_bi jF_79_55 (by decide) rfl (pc2 := 57) ?_
        refine wp_sub jF_79_57 rfl (pc2 := 58) ?_
        refine wp_bi jF_79_58 (by decide) rfl (pc2 := 60) ?_
        refine wp_add jF_79_60 rfl (pc2 := 61) ?_
        refine wp_ri jF_79_61 rfl ?_
        exact ⟨((z52 - 14) + 18), rfl, ⟨by omega, by omega⟩, g143, (FR.up f5 f144 sb_Wtp_Wtp)⟩
set_option maxHeartbeats 4000000 in
set_option maxRecDepth 20000 in
/-- LawReader.read -/
theorem m_75_r14_20_80 (σ : jM) (hg : GI σ)   (fr lo : Nat) (hfr : 4 ≤ fr) (hlo : 87 ≤ lo) : WP 75 0 (lv_args 0 [.ref 14, .ref 20, .ref 80]) [] fr lo σ (fun v τ => ∃ z : Int, v = some (iV z) ∧ (0 ≤ z ∧ z ≤ 1) ∧ GI τ ∧ FR WL80 σ τ) := by
  show WP 75 0 [(0, .ref 14), (1, .ref 20), (2, .ref 80)] [] _ _ _ _
  refine wp_al1 jF_75_0 rfl rfl (pc2 := 1) ?_
  refine wp_gr (b := 10) jF_75_1 kd14 (by decide) (c := 110) rfl rfl rfl (pc2 := 4) ?_
  refine wp_cV (as := []) (rest := []) (a := 10) (mx := 1) (ci := 6) jF_75_4 kd10 (by decide) rfl rfl rfl rfl rfl (by omega) (by omega) rfl (pc2 := 7) ?_
  refine wp_use (m_34_r10 σ hg   _ _ (by omega) (by omega)) ?_
  rintro _ τ1 ⟨rfl, g2, f3⟩
  show WP 75 7 [(0, .ref 14), (1, .ref 20), (2, .ref 80)] [] _ _ _ _
  refine wp_al1 jF_75_7 rfl rfl (pc2 := 8) ?_
  refine wp_cV (as := []) (rest := []) (a := 80) (mx := 1) (ci := 4) jF_75_8 kd80 (by decide) rfl rfl rfl rfl rfl (by omega) (by omega) rfl (pc2 := 11) ?_
  refine wp_use (m_71_r80 τ1 g2   _ _ (by omega) (by omega)) ?_
  rintro _ τ4 ⟨rfl, g5, f6⟩
  show WP 75 11 [(0, .ref 14), (1, .ref 20), (2, .ref 80)] [] _ _ _ _
  refine wp_ic jF_75_11 rfl (pc2 := 12) ?_
  refine wp_is1 (lv2 := [(0, .ref 14), (1, .ref 20), (2, .ref 80), (3, iV 0)]) jF_75_12 rfl rfl rfl (pc2 := 13) ?_
  refine wp_ic jF_75_13 rfl (pc2 := 14) ?_
  refine wp_is2 (lv2 := [(0, .ref 14), (1, .ref 20), (2, .ref 80), (3, iV 0), (4, iV 0)]) jF_75_14 rfl rfl rfl (pc2 := 16) ?_
  refine wp_loop (α := Int × Int) (fun a => [(0, .ref 14), (1, .ref 20), (2, .ref 80), (3, iV (a.1)), (4, iV (a.2))]) (fun a τ => ((-1) ≤ a.1 ∧ a.1 ≤ 4) ∧ (0 ≤ a.2 ∧ a.2 ≤ 61) ∧ GI τ ∧ FR WL80 τ4 τ) (fun a τ => Int.toNat (61 - (a.2))) (0, 0) τ4 ?_ ?_
  · skip
    exact ⟨⟨by (try dsimp only); omega, by (try dsimp only); omega⟩, ⟨by (try dsimp only); omega, by (try dsimp only); omega⟩, g5, FR.rf⟩
  · rintro ⟨x7, x8⟩ τ11 ⟨h9, h10, g12, f13⟩ ih14
    try dsimp only at h9 h10 g12 f13
    show WP 75 16 [(0, .ref 14), (1, .ref 20), (2, .ref 80), (3, iV x7), (4, iV x8)] [] _ _ _ _
    show WP 75 16 [(0, .ref 14), (1, .ref 20), (2, .ref 80), (3, iV x7), (4, iV x8)] [] _ _ _ _
    refine wp_il2 jF_75_16 rfl rfl (pc2 := 18) ?_
    refine wp_bi jF_75_18 (by decide) rfl (pc2 := 20) ?_
    refine wp_i_gt jF_75_20 (m_rgb h10 rfl) (m_rgl rfl) rfl (pc2 := 23) ?_ ?_
    · intro h15
      refine wp_ic jF_75_143 rfl (pc2 := 144) ?_
      refine wp_ri jF_75_144 rfl ?_
      exact ⟨0, rfl, ⟨by omega, by omega⟩, g12, (FR.up (FR.up (FR.up FR.rf f3 sb_Wtp_WL80) f6 sb_WW80_WL80) f13 sb_WL80_WL80)⟩
    · intro h15
      refine wp_al1 jF_75_23 rfl rfl (pc2 := 24) ?_
      refine wp_gr (b := 10) jF_75_24 kd14 (by decide) (c := 110) rfl rfl rfl (pc2 := 27) ?_
      refine wp_cV (as := []) (rest := []) (a := 10) (mx := 1) (ci := 6) jF_75_27 kd10 (by decide) rfl rfl rfl rfl rfl (by omega) (by omega) rfl (pc2 := 30) ?_
      have b16 := GI.b hg 10 1 kd10 (lo := 0) (hi := 1600) rfl
      have q17 : (τ11.1 10 1) = (σ.1 10 1) := ((FR.at f13 10 1 rfl).trans ((FR.at f6 10 1 rfl).trans (FR.at f3 10 1 rfl)))
      have b18 := GI.b g12 10 2 kd10 (lo := 0) (hi := 1600) rfl
      refine wp_use (m_35_r10_c τ11 g12   _ _ (by omega) (by omega)) ?_
      rintro _ τ22 ⟨z25, rfl, h26, g23, f24, p19, p20, p21⟩
      show WP 75 30 [(0, .ref 14), (1, .ref 20), (2, .ref 80), (3, iV x7), (4, iV x8)] [iV z25] _ _ _ _
      refine wp_is2 (lv2 := [(0, .ref 14), (1, .ref 20), (2, .ref 80), (3, iV x7), (4, iV x8), (5, iV z25)]) jF_75_30 rfl rfl rfl (pc2 := 32) ?_
      refine wp_il2 jF_75_32 rfl rfl (pc2 := 34) ?_
      refine wp_ic jF_75_34 rfl (pc2 := 35) ?_
      refine wp_i_ne jF_75_35 (m_rgb h26 rfl) (m_rgl rfl) rfl (pc2 := 38) ?_ ?_
      · intro h27
        replace p19 := p19 (by omega)
        replace p21 := p21 (by omega)
        refine wp_al1 jF_75_66 rfl rfl (pc2 := 67) ?_
        refine wp_al1 jF_75_67 rfl rfl (pc2 := 68) ?_
        refine wp_al1 jF_75_68 rfl rfl (pc2 := 69) ?_
        refine wp_il2 jF_75_69 rfl rfl (pc2 := 71) ?_
        refine wp_cV (as := [.ref 20, .ref 80, iV z25]) (rest := []) (a := 14) (mx := 4) (ci := 2) jF_75_71 kd14 (by decide) rfl rfl rfl rfl rfl (by omega) (by omega) rfl (pc2 := 74) ?_
        have b28 := GI.b g23 10 2 kd10 (lo := 0) (hi := 1600) rfl
        refine wp_use (m_76_r14_20_80 τ22 g23 z25 (by omega) (by omega)  _ _ (by omega) (by omega)) ?_
        rintro _ τ30 ⟨z33, rfl, h34, g31, f32, p29⟩
        replace p29 := p29 (by omega)
        show WP 75 74 [(0, .ref 14), (1, .ref 20), (2, .ref 80), (3, iV x7), (4, iV x8), (5, iV z25)] [iV z33] _ _ _ _
        refine wp_z_ne jF_75_74 (m_rgb h34 rfl) rfl (pc2 := 77) ?_ ?_
        · intro h35
          refine wp_il2 jF_75_93 rfl rfl (pc2 := 95) ?_
          refine wp_bi jF_75_95 (by decide) rfl (pc2 := 97) ?_
          refine wp_i_ne jF_75_97 ⟨by omega, by omega⟩ (m_rgl rfl) rfl (pc2 := 100) ?_ ?_
          · intro h36
            refine wp_al1 jF_75_108 rfl rfl (pc2 := 109) ?_
            refine wp_al1 jF_75_109 rfl rfl (pc2 := 110) ?_
            refine wp_il1 jF_75_110 rfl rfl (pc2 := 111) ?_
            refine wp_cV (as := [.ref 20, iV x7]) (rest := []) (a := 14) (mx := 5) (ci := 2) jF_75_111 kd14 (by decide) rfl rfl rfl rfl rfl (by omega) (by omega) rfl (pc2 := 114) ?_
            refine wp_use (m_79_r14_20 τ30 g31 x7 (by omega) (by omega)  _ _ (by omega) (by omega)) ?_
            rintro _ τ37 ⟨z40, rfl, h41, g38, f39⟩
            show WP 75 114 [(0, .ref 14), (1, .ref 20), (2, .ref 80), (3, iV x7), (4, iV x8), (5, iV z25)] [iV z40] _ _ _ _
            refine wp_is2 (lv2 := [(0, .ref 14), (1, .ref 20), (2, .ref 80), (3, iV x7), (4, iV x8), (5, iV z25), (6, iV z40)]) jF_75_114 rfl rfl rfl (pc2 := 116) ?_
            refine wp_il2 jF_75_116 rfl rfl (pc2 := 118) ?_
            refine wp_ic jF_75_118 rfl (pc2 := 119) ?_
            refine wp_i_ne jF_75_119 (m_rgb h41 rfl) (m_rgl rfl) rfl (pc2 := 122) ?_ ?_
            · intro h42
              refine wp_al1 jF_75_124 rfl rfl (pc2 := 125) ?_
              refine wp_il2 jF_75_125 rfl rfl (pc2 := 127) ?_
              refine wp_cV (as := [iV z40]) (rest := []) (a := 80) (mx := 2) (ci := 4) jF_75_127 kd80 (by decide) rfl rfl rfl rfl rfl (by omega) (by omega) rfl (pc2 := 130) ?_
              refine wp_use (m_80_r80 τ37 g38 z40 (by omega) (by omega)  _ _ (by omega) (by omega)) ?_
              rintro _ τ43 ⟨rfl, g44, f45⟩
              show WP 75 130 [(0, .ref 14), (1, .ref 20), (2, .ref 80), (3, iV x7), (4, iV x8), (5, iV z25), (6, iV z40)] [] _ _ _ _
              refine wp_il1 jF_75_130 rfl rfl (pc2 := 131) ?_
              refine wp_il2 jF_75_131 rfl rfl (pc2 := 133) ?_
              refine wp_cS (as := [iV x7, iV z40]) (rest := []) (mx := 4) jF_75_133 rfl rfl rfl rfl (by omega) (by omega) rfl (pc2 := 136) ?_
              refine wp_use (m_78_r τ43 g44 x7 (by omega) (by omega) z40 (by omega) (by omega)  _ _ (by omega) (by omega)) ?_
              rintro _ _ ⟨z48, rfl, h49, rfl⟩
              show WP 75 136 [(0, .ref 14), (1, .ref 20), (2, .ref 80), (3, iV x7), (4, iV x8), (5, iV z25), (6, iV z40)] [iV z48] _ _ _ _
              refine wp_is1 (lv2 := [(0, .ref 14), (1, .ref 20), (2, .ref 80), (3, iV z48), (4, iV x8), (5, iV z25), (6, iV z40)]) jF_75_136 rfl rfl rfl (pc2 := 137) ?_
              refine wp_inc (lv2 := [(0, .ref 14), (1, .ref 20), (2, .ref 80), (3, iV z48), (4, iV (x8 + 1)), (5, iV z25), (6, iV z40)]) jF_75_137 rfl rfl rfl rfl (pc2 := 140) ?_
              refine wp_go jF_75_140 ?_
              refine wp_less [0, 1, 2, 3, 4] (lv2 := [(0, .ref 14), (1, .ref 20), (2, .ref 80), (3, iV z48), (4, iV (x8 + 1))]) rfl rfl ?_
              exact ih14 (z48, (x8 + 1)) τ43 ⟨⟨by (try dsimp only); omega, by (try dsimp only); omega⟩, ⟨by (try dsimp only); omega, by (try dsimp only); omega⟩, g44, (FR.up (FR.up (FR.up (FR.up f13 f24 sb_Wtp_WL80) f32 sb_Wtp_WL80) f39 sb_Wtp_WL80) f45 sb_WW80_WL80)⟩ (by show Int.toNat (61 - (x8 + 1)) < Int.toNat (61 - x8); omega)
            · intro h42
              refine wp_ic jF_75_122 rfl (pc2 := 123) ?_
              refine wp_ri jF_75_123 rfl ?_
              exact ⟨0, rfl, ⟨by omega, by omega⟩, g38, (FR.up (FR.up (FR.up (FR.up (FR.up (FR.up FR.rf f3 sb_Wtp_WL80) f6 sb_WW80_WL80) f13 sb_WL80_WL80) f24 sb_Wtp_WL80) f32 sb_Wtp_WL80) f39 sb_Wtp_WL80)⟩
          · intro h36
            refine wp_al1 jF_75_100 rfl rfl (pc2 := 101) ?_
            refine wp_il1 jF_75_101 rfl rfl (pc2 := 102) ?_
            refine wp_cV (as := [iV x7]) (rest := []) (a := 14) (mx := 2) (ci := 2) jF_75_102 kd14 (by decide) rfl rfl rfl rfl rfl (by omega) (by omega) rfl (pc2 := 105) ?_
            have b50 := GI.b g31 10 2 kd10 (lo := 0) (hi := 1600) rfl
            refine wp_use (m_77_r14 τ30 g31 x7 (by omega) (by omega) (by omega) _ _ (by omega) (by omega)) ?_
            rintro _ τ51 ⟨z54, rfl, h55, g52, f53⟩
            show WP 75 105 [(0, .ref 14), (1, .ref 20), (2, .ref 80), (3, iV x7), (4, iV x8), (5, iV z25)] [iV z54] _ _ _ _
            refine wp_go jF_75_105 ?_
            refine wp_is2 (lv2 := [(0, .ref 14), (1, .ref 20), (2, .ref 80), (3, iV x7), (4, iV x8), (5, iV z25), (6, iV z54)]) jF_75_114 rfl rfl rfl (pc2 := 116) ?_
            refine wp_il2 jF_75_116 rfl rfl (pc2 := 118) ?_
            refine wp_ic jF_75_118 rfl (pc2 := 119) ?_
            refine wp_i_ne jF_75_119 (m_rgb h55 rfl) (m_rgl rfl) rfl (pc2 := 122) ?_ ?_
            · intro h56
              refine wp_al1 jF_75_124 rfl rfl (pc2 := 125) ?_
              refine wp_il2 jF_75_125 rfl rfl (pc2 := 127) ?_
              refine wp_cV (as := [iV z54]) (rest := []) (a := 80) (mx := 2) (ci := 4) jF_75_127 kd80 (by decide) rfl rfl rfl rfl rfl (by omega) (by omega) rfl (pc2 := 130) ?_
              refine wp_use (m_80_r80 τ51 g52 z54 (by omega) (by omega)  _ _ (by omega) (by omega)) ?_
              rintro _ τ57 ⟨rfl, g58, f59⟩
              show WP 75 130 [(0, .ref 14), (1, .ref 20), (2, .ref 80), (3, iV x7), (4, iV x8), (5, iV z25), (6, iV z54)] [] _ _ _ _
              refine wp_il1 jF_75_130 rfl rfl (pc2 := 131) ?_
              refine wp_il2 jF_75_131 rfl rfl (pc2 := 133) ?_
              refine wp_cS (as := [iV x7, iV z54]) (rest := []) (mx := 4) jF_75_133 rfl rfl rfl rfl (by omega) (by omega) rfl (pc2 := 136) ?_
              refine wp_use (m_78_r τ57 g58 x7 (by omega) (by omega) z54 (by omega) (by omega)  _ _ (by omega) (by omega)) ?_
              rintro _ _ ⟨z62, rfl, h63, rfl⟩
              show WP 75 136 [(0, .ref 14), (1, .ref 20), (2, .ref 80), (3, iV x7), (4, iV x8), (5, iV z25), (6, iV z54)] [iV z62] _ _ _ _
              refine wp_is1 (lv2 := [(0, .ref 14), (1, .ref 20), (2, .ref 80), (3, iV z62), (4, iV x8), (5, iV z25), (6, iV z54)]) jF_75_136 rfl rfl rfl (pc2 := 137) ?_
              refine wp_inc (lv2 := [(0, .ref 14), (1, .ref 20), (2, .ref 80), (3, iV z62), (4, iV (x8 + 1)), (5, iV z25), (6, iV z54)]) jF_75_137 rfl rfl rfl rfl (pc2 := 140) ?_
              refine wp_go jF_75_140 ?_
              refine wp_less [0, 1, 2, 3, 4] (lv2 := [(0, .ref 14), (1, .ref 20), (2, .ref 80), (3, iV z62), (4, iV (x8 + 1))]) rfl rfl ?_
              exact ih14 (z62, (x8 + 1)) τ57 ⟨⟨by (try dsimp only); omega, by (try dsimp only); omega⟩, ⟨by (try dsimp only); omega, by (try dsimp only); omega⟩, g58, (FR.up (FR.up (FR.up (FR.up f13 f24 sb_Wtp_WL80) f32 sb_Wtp_WL80) f53 sb_Wtp_WL80) f59 sb_WW80_WL80)⟩ (by show Int.toNat (61 - (x8 + 1)) < Int.toNat (61 - x8); omega)
            · intro h56
              refine wp_ic jF_75_122 rfl (pc2 := 123) ?_
              refine wp_ri jF_75_123 rfl ?_
              exact ⟨0, rfl, ⟨by omega, by omega⟩, g52, (FR.up (FR.up (FR.up (FR.up (FR.up (FR.up FR.rf f3 sb_Wtp_WL80) f6 sb_WW80_WL80) f13 sb_WL80_WL80) f24 sb_Wtp_WL80) f32 sb_Wtp_WL80) f53 sb_Wtp_WL80)⟩
        · intro h35
          refine wp_al1 jF_75_77 rfl rfl (pc2 := 78) ?_
          refine wp_gr (b := 10) jF_75_78 kd14 (by decide) (c := 110) rfl rfl rfl (pc2 := 81) ?_
          refine wp_ic jF_75_81 rfl (pc2 := 82) ?_
          refine wp_al1 jF_75_82 rfl rfl (pc2 := 83) ?_
          refine wp_gr (b := 10) jF_75_83 kd14 (by decide) (c := 110) rfl rfl rfl (pc2 := 86) ?_
          have b64 := GI.b g31 10 2 kd10 (lo := 0) (hi := 1600) rfl
          refine wp_gi jF_75_86 kd10 (by decide) rfl rfl rfl (pc2 := 89) ?_
          refine wp_cV (as := [iV 5, iV (τ30.1 10 2)]) (rest := []) (a := 10) (mx := 3) (ci := 6) jF_75_89 kd10 (by decide) rfl rfl rfl rfl rfl (by omega) (by omega) rfl (pc2 := 92) ?_
          refine wp_use (m_42_r10 τ30 g31 5 (by omega) (by omega) (τ30.1 10 2) (by omega) (by omega)  _ _ (by omega) (by omega)) ?_
          rintro _ τ65 ⟨z68, rfl, h69, g66, f67⟩
          show WP 75 92 [(0, .ref 14), (1, .ref 20), (2, .ref 80), (3, iV x7), (4, iV x8), (5, iV z25)] [iV z68] _ _ _ _
          refine wp_ri jF_75_92 (m_fitb (by omega) (by omega)) ?_
          exact ⟨z68, rfl, ⟨by omega, by omega⟩, g66, (FR.up (FR.up (FR.up (FR.up (FR.up (FR.up FR.rf f3 sb_Wtp_WL80) f6 sb_WW80_WL80) f13 sb_WL80_WL80) f24 sb_Wtp_WL80) f32 sb_Wtp_WL80) f67 sb_Wtp_WL80)⟩
      · intro h27
        clear p19
        clear p21
        refine wp_il1 jF_75_38 rfl rfl (pc2 := 39) ?_
        refine wp_z_eq jF_75_39 (m_rgb h9 rfl) rfl (pc2 := 42) ?_ ?_
        · intro h70
          refine wp_ic jF_75_60 rfl (pc2 := 61) ?_
          refine wp_go jF_75_61 ?_
          refine wp_ri jF_75_65 rfl ?_
          exact ⟨1, rfl, ⟨by omega, by omega⟩, g23, (FR.up (FR.up (FR.up (FR.up FR.rf f3 sb_Wtp_WL80) f6 sb_WW80_WL80) f13 sb_WL80_WL80) f24 sb_Wtp_WL80)⟩
        · intro h70
          refine wp_al1 jF_75_42 rfl rfl (pc2 := 43) ?_
          refine wp_gr (b := 10) jF_75_43 kd14 (by decide) (c := 110) rfl rfl rfl (pc2 := 46) ?_
          refine wp_ic jF_75_46 rfl (pc2 := 47) ?_
          refine wp_al1 jF_75_47 rfl rfl (pc2 := 48) ?_
          refine wp_gr (b := 10) jF_75_48 kd14 (by decide) (c := 110) rfl rfl rfl (pc2 := 51) ?_
          refine wp_gi jF_75_51 kd10 (by decide) rfl ((FR.at f24 10 1 rfl).trans ((FR.at f13 10 1 rfl).trans ((FR.at f6 10 1 rfl).trans (FR.at f3 10 1 rfl)))) rfl (pc2 := 54) ?_
          refine wp_cV (as := [iV 1, iV (σ.1 10 1)]) (rest := []) (a := 10) (mx := 3) (ci := 6) jF_75_54 kd10 (by decide) rfl rfl rfl rfl rfl (by omega) (by omega) rfl (pc2 := 57) ?_
          refine wp_use (m_42_r10 τ22 g23 1 (by omega) (by omega) (σ.1 10 1) (by omega) (by omega)  _ _ (by omega) (by omega)) ?_
          rintro _ τ71 ⟨z74, rfl, h75, g72, f73⟩
          show WP 75 57 [(0, .ref 14), (1, .ref 20), (2, .ref 80), (3, iV x7), (4, iV x8), (5, iV z25)] [iV z74] _ _ _ _
          refine wp_z_eq jF_75_57 (m_rgb h75 rfl) rfl (pc2 := 60) ?_ ?_
          · intro h76
            refine wp_ic jF_75_64 rfl (pc2 := 65) ?_
            refine wp_ri jF_75_65 rfl ?_
            exact ⟨0, rfl, ⟨by omega, by omega⟩, g72, (FR.up (FR.up (FR.up (FR.up (FR.up FR.rf f3 sb_Wtp_WL80) f6 sb_WW80_WL80) f13 sb_WL80_WL80) f24 sb_Wtp_WL80) f73 sb_Wtp_WL80)⟩
          · intro h76; exfalso; omega
set_option maxHeartbeats 4000000 in
set_option maxRecDepth 20000 in
/-- LawReader.hasRoom -/
theorem m_76_r14_45_80 (σ : jM) (hg : GI σ) (oc : Int) (hl_oc : (-1) ≤ oc) (hu_oc : oc ≤ 255)  (fr lo : Nat) (hfr : 2 ≤ fr) (hlo : 42 ≤ lo) : WP 76 0 (lv_args 0 [.ref 14, .ref 45, .ref 80, iV oc]) [] fr lo σ (fun v τ => ∃ z : Int, v = some (iV z) ∧ (0 ≤ z ∧ z ≤ 1) ∧ GI τ ∧ FR Wtp σ τ ∧ ((cb σ) = 1 → (τ.1 10 2) = (σ.1 10 2))) := by
  show WP 76 0 [(0, .ref 14), (1, .ref 45), (2, .ref 80), (3, iV oc)] [] _ _ _ _
  refine wp_al1 jF_76_0 rfl rfl (pc2 := 1) ?_
  refine wp_gr (b := 10) jF_76_1 kd14 (by decide) (c := 110) rfl rfl rfl (pc2 := 4) ?_
  refine wp_cV (as := []) (rest := []) (a := 10) (mx := 2) (ci := 6) jF_76_4 kd10 (by decide) rfl rfl rfl rfl rfl (by omega) (by omega) rfl (pc2 := 7) ?_
  have b1 := GI.b hg 10 1 kd10 (lo := 0) (hi := 1600) rfl
  have b2 := GI.b hg 10 2 kd10 (lo := 0) (hi := 1600) rfl
  refine wp_use (m_37_r10_c σ hg   _ _ (by omega) (by omega)) ?_
  rintro _ τ5 ⟨z8, rfl, h9, g6, f7, p3, p4⟩
  show WP 76 7 [(0, .ref 14), (1, .ref 45), (2, .ref 80), (3, iV oc)] [iV z8] _ _ _ _
  refine wp_z_eq jF_76_7 (m_rgb h9 rfl) rfl (pc2 := 10) ?_ ?_
  · intro h10
    clear p3
    refine wp_il1 jF_76_36 rfl rfl (pc2 := 37) ?_
    refine wp_bi jF_76_37 (by decide) rfl (pc2 := 39) ?_
    refine wp_i_ne jF_76_39 ⟨by omega, by omega⟩ (m_rgl rfl) rfl (pc2 := 42) ?_ ?_
    · intro h11
      refine wp_ic jF_76_51 rfl (pc2 := 52) ?_
      refine wp_go jF_76_52 ?_
      refine wp_ri jF_76_56 rfl ?_
      have b12 := GI.b g6 10 2 kd10 (lo := 0) (hi := 1600) rfl
      exact ⟨1, rfl, ⟨by omega, by omega⟩, g6, f7, (by omega)⟩
    · intro h11
      refine wp_al1 jF_76_42 rfl rfl (pc2 := 43) ?_
      have b13 := GI.b hg 80 1 kd80 (lo := 0) (hi := 60) rfl
      refine wp_gi jF_76_43 kd80 (by decide) rfl (FR.at f7 80 1 rfl) rfl (pc2 := 46) ?_
      refine wp_bi jF_76_46 (by decide) rfl (pc2 := 48) ?_
      refine wp_i_ge jF_76_48 (m_rgb b13 rfl) (m_rgl rfl) rfl (pc2 := 51) ?_ ?_
      · intro h14
        refine wp_ic jF_76_55 rfl (pc2 := 56) ?_
        refine wp_ri jF_76_56 rfl ?_
        have b15 := GI.b g6 10 2 kd10 (lo := 0) (hi := 1600) rfl
        exact ⟨0, rfl, ⟨by omega, by omega⟩, g6, f7, (by omega)⟩
      · intro h14
        refine wp_ic jF_76_51 rfl (pc2 := 52) ?_
        refine wp_go jF_76_52 ?_
        refine wp_ri jF_76_56 rfl ?_
        have b16 := GI.b g6 10 2 kd10 (lo := 0) (hi := 1600) rfl
        exact ⟨1, rfl, ⟨by omega, by omega⟩, g6, f7, (by omega)⟩
  · intro h10
    replace p3 := p3 (by omega)
    refine wp_al1 jF_76_10 rfl rfl (pc2 := 11) ?_
    have b17 := GI.b hg 80 2 kd80 (lo := (-2147483648)) (hi := 2147483647) rfl
    refine wp_gi jF_76_11 kd80 (by decide) rfl (FR.at f7 80 2 rfl) rfl (pc2 := 14) ?_
    refine wp_al1 jF_76_14 rfl rfl (pc2 := 15) ?_
    have b18 := GI.b hg 45 10 kd45 (lo := (-2147483648)) (hi := 2147483647) rfl
    refine wp_gi jF_76_15 kd45 (by decide) rfl (FR.at f7 45 10 rfl) rfl (pc2 := 18) ?_
    refine wp_i_ge jF_76_18 (m_rgb b17 rfl) (m_rgb b18 rfl) rfl (pc2 := 21) ?_ ?_
    · intro h19
      refine wp_ic jF_76_34 rfl (pc2 := 35) ?_
      refine wp_ri jF_76_35 rfl ?_
      have b20 := GI.b g6 10 2 kd10 (lo := 0) (hi := 1600) rfl
      exact ⟨0, rfl, ⟨by omega, by omega⟩, g6, f7, (by omega)⟩
    · intro h19
      refine wp_al1 jF_76_21 rfl rfl (pc2 := 22) ?_
      have b21 := GI.b hg 80 1 kd80 (lo := 0) (hi := 60) rfl
      refine wp_gi jF_76_22 kd80 (by decide) rfl (FR.at f7 80 1 rfl) rfl (pc2 := 25) ?_
      refine wp_bi jF_76_25 (by decide) rfl (pc2 := 27) ?_
      refine wp_i_ge jF_76_27 (m_rgb b21 rfl) (m_rgl rfl) rfl (pc2 := 30) ?_ ?_
      · intro h22
        refine wp_ic jF_76_34 rfl (pc2 := 35) ?_
        refine wp_ri jF_76_35 rfl ?_
        have b23 := GI.b g6 10 2 kd10 (lo := 0) (hi := 1600) rfl
        exact ⟨0, rfl, ⟨by omega, by omega⟩, g6, f7, (by omega)⟩
      · intro h22
        refine wp_ic jF_76_30 rfl (pc2 := 31) ?_
        refine wp_go jF_76_31 ?_
        refine wp_ri jF_76_35 rfl ?_
        have b24 := GI.b g6 10 2 kd10 (lo := 0) (hi := 1600) rfl
        exact ⟨1, rfl, ⟨by omega, by omega⟩, g6, f7, (by omega)⟩
