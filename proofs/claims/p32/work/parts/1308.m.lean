set_option maxHeartbeats 4000000 in
set_option maxRecDepth 20000 in
/-- M.reads -/
theorem m_255 (σ : jM) (hg : GI σ) (sign : Int) (hl_sign : 0 ≤ sign) (hu_sign : sign ≤ 22) (pre0 : (σ.1 117 44) ≤ 59) (fr lo : Nat) (hfr : 0 ≤ fr) (hlo : 0 ≤ lo) : WP 255 0 (lv_args 0 [.ref 117, iV sign]) [] fr lo σ (fun v τ => v = none ∧ GI τ ∧ FR Wrd σ τ ∧ ((τ.1 117 44) = (σ.1 117 44) + 1) ∧ ((rl τ) = sign)) := by
  show WP 255 0 [(0, .ref 117), (1, iV sign)] [] _ _ _ _
  refine wp_al1 jF_255_0 rfl rfl (pc2 := 1) ?_
  refine wp_gr (b := 146) jF_255_1 kd117 (by decide) (c := 246) rfl rfl rfl (pc2 := 4) ?_
  refine wp_al1 jF_255_4 rfl rfl (pc2 := 5) ?_
  have b1 := GI.b hg 117 44 kd117 (lo := 0) (hi := 60) rfl
  refine wp_gi jF_255_5 kd117 (by decide) rfl rfl rfl (pc2 := 8) ?_
  refine wp_il1 jF_255_8 rfl rfl (pc2 := 9) ?_
  refine wp_iast (n := 64) jF_255_9 kd146 (by decide) rfl rfl (by omega) (by omega) rfl (pc2 := 10) hg (lo := 0) (hi := 255) rfl (by omega) (by omega) ?_
  intro τ2 g3 f4 e5
  refine wp_al1 jF_255_10 rfl rfl (pc2 := 11) ?_
  refine wp_dup jF_255_11 rfl rfl (pc2 := 12) ?_
  refine wp_gi jF_255_12 kd117 (by decide) rfl (FRw.na f4 (by decide)) rfl (pc2 := 15) ?_
  refine wp_ic jF_255_15 rfl (pc2 := 16) ?_
  refine wp_add jF_255_16 rfl (pc2 := 17) ?_
  refine wp_pi jF_255_17 kd117 (by decide) rfl rfl rfl (pc2 := 20) g3 (lo := 0) (hi := 60) rfl (by omega) (by omega) ?_
  intro τ6 g7 f8 e9
  refine wp_il1 jF_255_20 rfl rfl (pc2 := 21) ?_
  refine wp_bi jF_255_21 (by decide) rfl (pc2 := 23) ?_
  refine wp_i_eq jF_255_23 ⟨by omega, by omega⟩ (m_rgl rfl) rfl (pc2 := 26) ?_ ?_
  · intro h10
    refine wp_rv jF_255_36 ?_
    have q11 : (τ6.1 117 44) = ((σ.1 117 44) + 1) := e9
    exact ⟨rfl, g7, (FR.w (FR.w FR.rf f4 rfl) f8 rfl), (by omega), (rl_push (n := (σ.1 117 44)) (by omega) ((FRw.na f8 (by decide)).trans e5) (by omega))⟩
  · intro h10
    refine wp_al1 jF_255_26 rfl rfl (pc2 := 27) ?_
    refine wp_dup jF_255_27 rfl rfl (pc2 := 28) ?_
    have b12 := GI.b hg 117 45 kd117 (lo := (-2147483648)) (hi := 2147483647) rfl
    refine wp_gi jF_255_28 kd117 (by decide) rfl ((FRw.nj f8 (by decide)).trans (FRw.na f4 (by decide))) rfl (pc2 := 31) ?_
    refine wp_ic jF_255_31 rfl (pc2 := 32) ?_
    refine wp_any2 (pc2 := 33) jF_255_32 rfl rfl ?_
    intro z13 h14
    refine wp_pi jF_255_33 kd117 (by decide) rfl rfl rfl (pc2 := 36) g7 (lo := (-2147483648)) (hi := 2147483647) rfl (by omega) (by omega) ?_
    intro τ15 g16 f17 e18
    refine wp_rv jF_255_36 ?_
    have q19 : (rl τ15) = (rl τ6) := (rl_wr f17 (by decide))
    have q20 : (τ15.1 117 44) = ((σ.1 117 44) + 1) := ((FRw.nj f17 (by decide)).trans e9)
    exact ⟨rfl, g16, (FR.w (FR.w (FR.w FR.rf f4 rfl) f8 rfl) f17 rfl), (by omega), (rl_push (n := (σ.1 117 44)) (by omega) ((FRw.na f17 (by decide)).trans ((FRw.na f8 (by decide)).trans e5)) (by omega))⟩
set_option maxHeartbeats 4000000 in
set_option maxRecDepth 20000 in
/-- M.isRoom -/
theorem m_252 (σ : jM) (hg : GI σ)   (fr lo : Nat) (hfr : 1 ≤ fr) (hlo : 22 ≤ lo) : WP 252 0 (lv_args 0 [.ref 117]) [] fr lo σ (fun v τ => ∃ z : Int, v = some (iV z) ∧ (0 ≤ z ∧ z ≤ 1) ∧ GI τ ∧ FR Wsgn σ τ ∧ ((σ.1 117 2) ≤ (τ.1 117 2)) ∧ ((σ.1 117 5) ≠ 0 → (τ.1 117 5) = (σ.1 117 5)) ∧ (z = 1 → ((τ.1 117 5) = 0 ∧ (σ.1 117 5) = 0)) ∧ (z = 0 → (τ.1 117 5) ≠ 0) ∧ ((nb τ) = 1) ∧ ((nb σ) = 1 → ((τ.1 117 2) = (σ.1 117 2) ∧ (ch τ) = (ch σ) ∧ (nb τ) = 1)) ∧ (z = 1 → ((ch τ) ≠ 46 ∨ (σ.1 117 44) ≠ 60)) ∧ (z = 1 → ((ch τ) < 97 ∨ 122 < (ch τ) ∨ (σ.1 117 44) ≠ 60))) := by
  show WP 252 0 [(0, .ref 117)] [] _ _ _ _
  refine wp_al1 jF_252_0 rfl rfl (pc2 := 1) ?_
  refine wp_cV (as := []) (rest := []) (a := 117) (mx := 1) (ci := 12) jF_252_1 kd117 (by decide) rfl rfl rfl rfl rfl (by omega) (by omega) rfl (pc2 := 4) ?_
  have b1 := GI.b hg 117 2 kd117 (lo := 0) (hi := 1601) rfl
  have b2 := GI.b hg 117 3 kd117 (lo := 0) (hi := 1600) rfl
  refine wp_use (m_216 σ hg   _ _ (by omega) (by omega)) ?_
  rintro _ τ9 ⟨z12, rfl, h13, g10, f11, p3, p4, p5, p6, p7, p8⟩
  have b14 := GI.b hg 118 (τ9.1 117 2).toNat kd118 (lo := 0) (hi := 255) rfl
  show WP 252 4 [(0, .ref 117)] [iV z12] _ _ _ _
  refine wp_is1 (lv2 := [(0, .ref 117), (1, iV z12)]) jF_252_4 rfl rfl rfl (pc2 := 5) ?_
  refine wp_al1 jF_252_5 rfl rfl (pc2 := 6) ?_
  have b15 := GI.b hg 117 5 kd117 (lo := (-2147483648)) (hi := 2147483647) rfl
  refine wp_gi jF_252_6 kd117 (by decide) rfl (FR.at f11 117 5 rfl) rfl (pc2 := 9) ?_
  refine wp_z_ne jF_252_9 (m_rgb b15 rfl) rfl (pc2 := 12) ?_ ?_
  · intro h16
    refine wp_al1 jF_252_63 rfl rfl (pc2 := 64) ?_
    refine wp_gi jF_252_64 kd117 (by decide) rfl (FR.at f11 117 5 rfl) rfl (pc2 := 67) ?_
    refine wp_z_ne jF_252_67 (m_rgb b15 rfl) rfl (pc2 := 70) ?_ ?_
    · intro h17
      refine wp_ic jF_252_74 rfl (pc2 := 75) ?_
      refine wp_ri jF_252_75 rfl ?_
      have b18 := GI.b g10 117 2 kd117 (lo := 0) (hi := 1601) rfl
      have q19 : (τ9.1 117 5) = (σ.1 117 5) := (FR.at f11 117 5 rfl)
      exact ⟨0, rfl, ⟨by omega, by omega⟩, g10, (FR.up FR.rf f11 sb_Wat_Wsgn), (by omega), (by omega), (by omega), (by omega), (by omega), (by omega), (by omega), (by omega)⟩
    · intro h17
      refine wp_ic jF_252_70 rfl (pc2 := 71) ?_
      refine wp_go jF_252_71 ?_
      refine wp_ri jF_252_75 rfl ?_
      have b20 := GI.b g10 117 2 kd117 (lo := 0) (hi := 1601) rfl
      have q21 : (τ9.1 117 5) = (σ.1 117 5) := (FR.at f11 117 5 rfl)
      exact ⟨1, rfl, ⟨by omega, by omega⟩, g10, (FR.up FR.rf f11 sb_Wat_Wsgn), (by omega), (by omega), (by omega), (by omega), (by omega), (by omega), (by omega), (by omega)⟩
  · intro h16
    refine wp_il1 jF_252_12 rfl rfl (pc2 := 13) ?_
    refine wp_cS (as := [iV z12]) (rest := []) (mx := 1) jF_252_13 rfl rfl rfl rfl (by omega) (by omega) rfl (pc2 := 16) ?_
    show WP 221 0 [(0, iV z12)] [] _ _ _ _
    refine wp_il1 jF_221_0 rfl rfl (pc2 := 1) ?_
    refine wp_bi jF_221_1 (by decide) rfl (pc2 := 3) ?_
    refine wp_i_lt jF_221_3 (m_rgb h13 rfl) (m_rgl rfl) rfl (pc2 := 6) ?_ ?_
    · intro h22
      refine wp_ic jF_221_16 rfl (pc2 := 17) ?_
      refine wp_ri jF_221_17 rfl ?_
      show WP 252 16 [(0, .ref 117), (1, iV z12)] [iV 0] _ _ _ _
      refine wp_z_eq jF_252_16 (m_rgl rfl) rfl (pc2 := 19) ?_ ?_
      · intro h23
        refine wp_il1 jF_252_39 rfl rfl (pc2 := 40) ?_
        refine wp_bi jF_252_40 (by decide) rfl (pc2 := 42) ?_
        refine wp_i_ne jF_252_42 ⟨by omega, by omega⟩ (m_rgl rfl) rfl (pc2 := 45) ?_ ?_
        · intro h24
          refine wp_al1 jF_252_63 rfl rfl (pc2 := 64) ?_
          refine wp_gi jF_252_64 kd117 (by decide) rfl (FR.at f11 117 5 rfl) rfl (pc2 := 67) ?_
          refine wp_z_ne jF_252_67 (m_rgb b15 rfl) rfl (pc2 := 70) ?_ ?_
          · intro h25
            refine wp_ic jF_252_74 rfl (pc2 := 75) ?_
            refine wp_ri jF_252_75 rfl ?_
            have b26 := GI.b g10 117 2 kd117 (lo := 0) (hi := 1601) rfl
            have q27 : (τ9.1 117 5) = (σ.1 117 5) := (FR.at f11 117 5 rfl)
            exact ⟨0, rfl, ⟨by omega, by omega⟩, g10, (FR.up FR.rf f11 sb_Wat_Wsgn), (by omega), (by omega), (by omega), (by omega), (by omega), (by omega), (by omega), (by omega)⟩
          · intro h25
            refine wp_ic jF_252_70 rfl (pc2 := 71) ?_
            refine wp_go jF_252_71 ?_
            refine wp_ri jF_252_75 rfl ?_
            have b28 := GI.b g10 117 2 kd117 (lo := 0) (hi := 1601) rfl
            have q29 : (τ9.1 117 5) = (σ.1 117 5) := (FR.at f11 117 5 rfl)
            exact ⟨1, rfl, ⟨by omega, by omega⟩, g10, (FR.up FR.rf f11 sb_Wat_Wsgn), (by omega), (by omega), (by omega), (by omega), (by omega), (by omega), (by omega), (by omega)⟩
        · intro h24
          replace p3 := p3 (by omega)
          replace p8 := p8 (by omega)
          refine wp_al1 jF_252_45 rfl rfl (pc2 := 46) ?_
          have b30 := GI.b hg 117 44 kd117 (lo := 0) (hi := 60) rfl
          refine wp_gi jF_252_46 kd117 (by decide) rfl (FR.at f11 117 44 rfl) rfl (pc2 := 49) ?_
          refine wp_bi jF_252_49 (by decide) rfl (pc2 := 51) ?_
          refine wp_i_ne jF_252_51 (m_rgb b30 rfl) (m_rgl rfl) rfl (pc2 := 54) ?_ ?_
          · intro h31
            refine wp_al1 jF_252_63 rfl rfl (pc2 := 64) ?_
            refine wp_gi jF_252_64 kd117 (by decide) rfl (FR.at f11 117 5 rfl) rfl (pc2 := 67) ?_
            refine wp_z_ne jF_252_67 (m_rgb b15 rfl) rfl (pc2 := 70) ?_ ?_
            · intro h32
              refine wp_ic jF_252_74 rfl (pc2 := 75) ?_
              refine wp_ri jF_252_75 rfl ?_
              have b33 := GI.b g10 117 2 kd117 (lo := 0) (hi := 1601) rfl
              have q34 : (τ9.1 117 5) = (σ.1 117 5) := (FR.at f11 117 5 rfl)
              exact ⟨0, rfl, ⟨by omega, by omega⟩, g10, (FR.up FR.rf f11 sb_Wat_Wsgn), (by omega), (by omega), (by omega), (by omega), (by omega), (by omega), (by omega), (by omega)⟩
            · intro h32
              refine wp_ic jF_252_70 rfl (pc2 := 71) ?_
              refine wp_go jF_252_71 ?_
              refine wp_ri jF_252_75 rfl ?_
              have b35 := GI.b g10 117 2 kd117 (lo := 0) (hi := 1601) rfl
              have q36 : (τ9.1 117 5) = (σ.1 117 5) := (FR.at f11 117 5 rfl)
              exact ⟨1, rfl, ⟨by omega, by omega⟩, g10, (FR.up FR.rf f11 sb_Wat_Wsgn), (by omega), (by omega), (by omega), (by omega), (by omega), (by omega), (by omega), (by omega)⟩
          · intro h31
            refine wp_al1 jF_252_54 rfl rfl (pc2 := 55) ?_
            refine wp_ic jF_252_55 rfl (pc2 := 56) ?_
            refine wp_al1 jF_252_56 rfl rfl (pc2 := 57) ?_
            have b37 := GI.b g10 117 2 kd117 (lo := 0) (hi := 1601) rfl
            refine wp_gi jF_252_57 kd117 (by decide) rfl rfl rfl (pc2 := 60) ?_
            refine wp_cV (as := [iV 5, iV (τ9.1 117 2)]) (rest := []) (a := 117) (mx := 3) (ci := 12) jF_252_60 kd117 (by decide) rfl rfl rfl rfl rfl (by omega) (by omega) rfl (pc2 := 63) ?_
            have q38 : (τ9.1 117 5) = (σ.1 117 5) := (FR.at f11 117 5 rfl)
            refine wp_use (m_218 τ9 g10 5 (by omega) (by omega) (τ9.1 117 2) (by omega) (by omega)  _ _ (by omega) (by omega)) ?_
            rintro _ τ41 ⟨rfl, g42, f43, p39, p40⟩
            clear p39
            replace p40 := p40 (by omega)
            show WP 252 63 [(0, .ref 117), (1, iV z12)] [] _ _ _ _
            refine wp_al1 jF_252_63 rfl rfl (pc2 := 64) ?_
            have b44 := GI.b g42 117 5 kd117 (lo := (-2147483648)) (hi := 2147483647) rfl
            refine wp_gi jF_252_64 kd117 (by decide) rfl rfl rfl (pc2 := 67) ?_
            refine wp_z_ne jF_252_67 (m_rgb b44 rfl) rfl (pc2 := 70) ?_ ?_
            · intro h45
              refine wp_ic jF_252_74 rfl (pc2 := 75) ?_
              refine wp_ri jF_252_75 rfl ?_
              have q46 : (ch τ41) = (ch τ9) := (ch_fr f43 rfl rfl (fun _ => rfl))
              have q47 : (nb τ41) = (nb τ9) := (nb_fr f43 rfl rfl (fun _ => rfl))
              have q48 : (τ41.1 117 2) = (τ9.1 117 2) := (FR.at f43 117 2 rfl)
              exact ⟨0, rfl, ⟨by omega, by omega⟩, g42, (FR.up (FR.up FR.rf f11 sb_Wat_Wsgn) f43 sb_Wbad_Wsgn), (by omega), (by omega), (by omega), (by omega), (by omega), (by omega), (by omega), (by omega)⟩
            · intro h45
              refine wp_ic jF_252_70 rfl (pc2 := 71) ?_
              refine wp_go jF_252_71 ?_
              refine wp_ri jF_252_75 rfl ?_
              have q49 : (ch τ41) = (ch τ9) := (ch_fr f43 rfl rfl (fun _ => rfl))
              have q50 : (nb τ41) = (nb τ9) := (nb_fr f43 rfl rfl (fun _ => rfl))
              have q51 : (τ41.1 117 2) = (τ9.1 117 2) := (FR.at f43 117 2 rfl)
              exact ⟨1, rfl, ⟨by omega, by omega⟩, g42, (FR.up (FR.up FR.rf f11 sb_Wat_Wsgn) f43 sb_Wbad_Wsgn), (by omega), (by omega), (by omega), (by omega), (by omega), (by omega), (by omega), (by omega)⟩
      · intro h23; exfalso; omega
    · intro h22
      replace p3 := p3 (by omega)
      replace p8 := p8 (by omega)
      refine wp_il1 jF_221_6 rfl rfl (pc2 := 7) ?_
      refine wp_bi jF_221_7 (by decide) rfl (pc2 := 9) ?_
      refine wp_i_gt jF_221_9 ⟨by omega, by omega⟩ (m_rgl rfl) rfl (pc2 := 12) ?_ ?_
      · intro h52
        refine wp_ic jF_221_16 rfl (pc2 := 17) ?_
        refine wp_ri jF_221_17 rfl ?_
        show WP 252 16 [(0, .ref 117), (1, iV z12)] [iV 0] _ _ _ _
        refine wp_z_eq jF_252_16 (m_rgl rfl) rfl (pc2 := 19) ?_ ?_
        · intro h53
          refine wp_il1 jF_252_39 rfl rfl (pc2 := 40) ?_
          refine wp_bi jF_252_40 (by decide) rfl (pc2 := 42) ?_
          refine wp_i_ne jF_252_42 ⟨by omega, by omega⟩ (m_rgl rfl) rfl (pc2 := 45) ?_ ?_
          · intro h54
            refine wp_al1 jF_252_63 rfl rfl (pc2 := 64) ?_
            refine wp_gi jF_252_64 kd117 (by decide) rfl (FR.at f11 117 5 rfl) rfl (pc2 := 67) ?_
            refine wp_z_ne jF_252_67 (m_rgb b15 rfl) rfl (pc2 := 70) ?_ ?_
            · intro h55
              refine wp_ic jF_252_74 rfl (pc2 := 75) ?_
              refine wp_ri jF_252_75 rfl ?_
              have b56 := GI.b g10 117 2 kd117 (lo := 0) (hi := 1601) rfl
              have q57 : (τ9.1 117 5) = (σ.1 117 5) := (FR.at f11 117 5 rfl)
              exact ⟨0, rfl, ⟨by omega, by omega⟩, g10, (FR.up FR.rf f11 sb_Wat_Wsgn), (by omega), (by omega), (by omega), (by omega), (by omega), (by omega), (by omega), (by omega)⟩
            · intro h55
              refine wp_ic jF_252_70 rfl (pc2 := 71) ?_
              refine wp_go jF_252_71 ?_
              refine wp_ri jF_252_75 rfl ?_
              have b58 := GI.b g10 117 2 kd117 (lo := 0) (hi := 1601) rfl
              have q59 : (τ9.1 117 5) = (σ.1 117 5) := (FR.at f11 117 5 rfl)
              exact ⟨1, rfl, ⟨by omega, by omega⟩, g10, (FR.up FR.rf f11 sb_Wat_Wsgn), (by omega), (by omega), (by omega), (by omega), (by omega), (by omega), (by omega), (by omega)⟩
          · intro h54; exfalso; omega
        · intro h53; exfalso; omega
      · intro h52
        refine wp_ic jF_221_12 rfl (pc2 := 13) ?_
        refine wp_go jF_221_13 ?_
        refine wp_ri jF_221_17 rfl ?_
        show WP 252 16 [(0, .ref 117), (1, iV z12)] [iV 1] _ _ _ _
        refine wp_z_eq jF_252_16 (m_rgl rfl) rfl (pc2 := 19) ?_ ?_
        · intro h60; exfalso; omega
        · intro h60
          refine wp_al1 jF_252_19 rfl rfl (pc2 := 20) ?_
          have b61 := GI.b hg 117 45 kd117 (lo := (-2147483648)) (hi := 2147483647) rfl
          refine wp_gi jF_252_20 kd117 (by decide) rfl (FR.at f11 117 45 rfl) rfl (pc2 := 23) ?_
          refine wp_al1 jF_252_23 rfl rfl (pc2 := 24) ?_
          have b62 := GI.b hg 117 38 kd117 (lo := (-2147483648)) (hi := 2147483647) rfl
          refine wp_gi jF_252_24 kd117 (by decide) rfl (FR.at f11 117 38 rfl) rfl (pc2 := 27) ?_
          refine wp_i_eq jF_252_27 (m_rgb b61 rfl) (m_rgb b62 rfl) rfl (pc2 := 30) ?_ ?_
          · intro h63
            refine wp_al1 jF_252_54 rfl rfl (pc2 := 55) ?_
            refine wp_ic jF_252_55 rfl (pc2 := 56) ?_
            refine wp_al1 jF_252_56 rfl rfl (pc2 := 57) ?_
            have b64 := GI.b g10 117 2 kd117 (lo := 0) (hi := 1601) rfl
            refine wp_gi jF_252_57 kd117 (by decide) rfl rfl rfl (pc2 := 60) ?_
            refine wp_cV (as := [iV 5, iV (τ9.1 117 2)]) (rest := []) (a := 117) (mx := 3) (ci := 12) jF_252_60 kd117 (by decide) rfl rfl rfl rfl rfl (by omega) (by omega) rfl (pc2 := 63) ?_
            have q65 : (τ9.1 117 5) = (σ.1 117 5) := (FR.at f11 117 5 rfl)
            refine wp_use (m_218 τ9 g10 5 (by omega) (by omega) (τ9.1 117 2) (by omega) (by omega)  _ _ (by omega) (by omega)) ?_
            rintro _ τ68 ⟨rfl, g69, f70, p66, p67⟩
            clear p66
            replace p67 := p67 (by omega)
            show WP 252 63 [(0, .ref 117), (1, iV z12)] [] _ _ _ _
            refine wp_al1 jF_252_63 rfl rfl (pc2 := 64) ?_
            have b71 := GI.b g69 117 5 kd117 (lo := (-2147483648)) (hi := 2147483647) rfl
            refine wp_gi jF_252_64 kd117 (by decide) rfl rfl rfl (pc2 := 67) ?_
            refine wp_z_ne jF_252_67 (m_rgb b71 rfl) rfl (pc2 := 70) ?_ ?_
            · intro h72
              refine wp_ic jF_252_74 rfl (pc2 := 75) ?_
              refine wp_ri jF_252_75 rfl ?_
              have q73 : (ch τ68) = (ch τ9) := (ch_fr f70 rfl rfl (fun _ => rfl))
              have q74 : (nb τ68) = (nb τ9) := (nb_fr f70 rfl rfl (fun _ => rfl))
              have q75 : (τ68.1 117 2) = (τ9.1 117 2) := (FR.at f70 117 2 rfl)
              exact ⟨0, rfl, ⟨by omega, by omega⟩, g69, (FR.up (FR.up FR.rf f11 sb_Wat_Wsgn) f70 sb_Wbad_Wsgn), (by omega), (by omega), (by omega), (by omega), (by omega), (by omega), (by omega), (by omega)⟩
            · intro h72
              refine wp_ic jF_252_70 rfl (pc2 := 71) ?_
              refine wp_go jF_252_71 ?_
              refine wp_ri jF_252_75 rfl ?_
              have q76 : (ch τ68) = (ch τ9) := (ch_fr f70 rfl rfl (fun _ => rfl))
              have q77 : (nb τ68) = (nb τ9) := (nb_fr f70 rfl rfl (fun _ => rfl))
              have q78 : (τ68.1 117 2) = (τ9.1 117 2) := (FR.at f70 117 2 rfl)
              exact ⟨1, rfl, ⟨by omega, by omega⟩, g69, (FR.up (FR.up FR.rf f11 sb_Wat_Wsgn) f70 sb_Wbad_Wsgn), (by omega), (by omega), (by omega), (by omega), (by omega), (by omega), (by omega), (by omega)⟩
          · intro h63
            refine wp_al1 jF_252_30 rfl rfl (pc2 := 31) ?_
            have b79 := GI.b hg 117 44 kd117 (lo := 0) (hi := 60) rfl
            refine wp_gi jF_252_31 kd117 (by decide) rfl (FR.at f11 117 44 rfl) rfl (pc2 := 34) ?_
            refine wp_bi jF_252_34 (by decide) rfl (pc2 := 36) ?_
            refine wp_i_eq jF_252_36 (m_rgb b79 rfl) (m_rgl rfl) rfl (pc2 := 39) ?_ ?_
            · intro h80
              refine wp_al1 jF_252_54 rfl rfl (pc2 := 55) ?_
              refine wp_ic jF_252_55 rfl (pc2 := 56) ?_
              refine wp_al1 jF_252_56 rfl rfl (pc2 := 57) ?_
              have b81 := GI.b g10 117 2 kd117 (lo := 0) (hi := 1601) rfl
              refine wp_gi jF_252_57 kd117 (by decide) rfl rfl rfl (pc2 := 60) ?_
              refine wp_cV (as := [iV 5, iV (τ9.1 117 2)]) (rest := []) (a := 117) (mx := 3) (ci := 12) jF_252_60 kd117 (by decide) rfl rfl rfl rfl rfl (by omega) (by omega) rfl (pc2 := 63) ?_
              have q82 : (τ9.1 117 5) = (σ.1 117 5) := (FR.at f11 117 5 rfl)
              refine wp_use (m_218 τ9 g10 5 (by omega) (by omega) (τ9.1 117 2) (by omega) (by omega)  _ _ (by omega) (by omega)) ?_
              rintro _ τ85 ⟨rfl, g86, f87, p83, p84⟩
              clear p83
              replace p84 := p84 (by omega)
              show WP 252 63 [(0, .ref 117), (1, iV z12)] [] _ _ _ _
              refine wp_al1 jF_252_63 rfl rfl (pc2 := 64) ?_
              have b88 := GI.b g86 117 5 kd117 (lo := (-2147483648)) (hi := 2147483647) rfl
              refine wp_gi jF_252_64 kd117 (by decide) rfl rfl rfl (pc2 := 67) ?_
              refine wp_z_ne jF_252_67 (m_rgb b88 rfl) rfl (pc2 := 70) ?_ ?_
              · intro h89
                refine wp_ic jF_252_74 rfl (pc2 := 75) ?_
                refine wp_ri jF_252_75 rfl ?_
                have q90 : (ch τ85) = (ch τ9) := (ch_fr f87 rfl rfl (fun _ => rfl))
                have q91 : (nb τ85) = (nb τ9) := (nb_fr f87 rfl rfl (fun _ => rfl))
                have q92 : (τ85.1 117 2) = (τ9.1 117 2) := (FR.at f87 117 2 rfl)
                exact ⟨0, rfl, ⟨by omega, by omega⟩, g86, (FR.up (FR.up FR.rf f11 sb_Wat_Wsgn) f87 sb_Wbad_Wsgn), (by omega), (by omega), (by omega), (by omega), (by omega), (by omega), (by omega), (by omega)⟩
              · intro h89
                refine wp_ic jF_252_70 rfl (pc2 := 71) ?_
                refine wp_go jF_252_71 ?_
                refine wp_ri jF_252_75 rfl ?_
                have q93 : (ch τ85) = (ch τ9) := (ch_fr f87 rfl rfl (fun _ => rfl))
                have q94 : (nb τ85) = (nb τ9) := (nb_fr f87 rfl rfl (fun _ => rfl))
                have q95 : (τ85.1 117 2) = (τ9.1 117 2) := (FR.at f87 117 2 rfl)
                exact ⟨1, rfl, ⟨by omega, by omega⟩, g86, (FR.up (FR.up FR.rf f11 sb_Wat_Wsgn) f87 sb_Wbad_Wsgn), (by omega), (by omega), (by omega), (by omega), (by omega), (by omega), (by omega), (by omega)⟩
            · intro h80
              refine wp_il1 jF_252_39 rfl rfl (pc2 := 40) ?_
              refine wp_bi jF_252_40 (by decide) rfl (pc2 := 42) ?_
              refine wp_i_ne jF_252_42 ⟨by omega, by omega⟩ (m_rgl rfl) rfl (pc2 := 45) ?_ ?_
              · intro h96
                refine wp_al1 jF_252_63 rfl rfl (pc2 := 64) ?_
                refine wp_gi jF_252_64 kd117 (by decide) rfl (FR.at f11 117 5 rfl) rfl (pc2 := 67) ?_
                refine wp_z_ne jF_252_67 (m_rgb b15 rfl) rfl (pc2 := 70) ?_ ?_
                · intro h97
                  refine wp_ic jF_252_74 rfl (pc2 := 75) ?_
                  refine wp_ri jF_252_75 rfl ?_
                  have b98 := GI.b g10 117 2 kd117 (lo := 0) (hi := 1601) rfl
                  have q99 : (τ9.1 117 5) = (σ.1 117 5) := (FR.at f11 117 5 rfl)
                  exact ⟨0, rfl, ⟨by omega, by omega⟩, g10, (FR.up FR.rf f11 sb_Wat_Wsgn), (by omega), (by omega), (by omega), (by omega), (by omega), (by omega), (by omega), (by omega)⟩
                · intro h97
                  refine wp_ic jF_252_70 rfl (pc2 := 71) ?_
                  refine wp_go jF_252_71 ?_
                  refine wp_ri jF_252_75 rfl ?_
                  have b100 := GI.b g10 117 2 kd117 (lo := 0) (hi := 1601) rfl
                  have q101 : (τ9.1 117 5) = (σ.1 117 5) := (FR.at f11 117 5 rfl)
                  exact ⟨1, rfl, ⟨by omega, by omega⟩, g10, (FR.up FR.rf f11 sb_Wat_Wsgn), (by omega), (by omega), (by omega), (by omega), (by omega), (by omega), (by omega), (by omega)⟩
              · intro h96; exfalso; omega
set_option maxHeartbeats 4000000 in
set_option maxRecDepth 20000 in
/-- M.standing -/
theorem m_256 (σ : jM) (hg : GI σ) (v : Int64)  (fr lo : Nat) (hfr : 0 ≤ fr) (hlo : 0 ≤ lo) : WP 256 0 (lv_args 0 [.ref 117, .long v]) [] fr lo σ (fun v τ => ∃ z : Int, v = some (iV z) ∧ ((-1) ≤ z ∧ z ≤ 17) ∧ σ = τ) := by
  show WP 256 0 [(0, .ref 117), (1, .long v)] [] _ _ _ _
  refine wp_ic jF_256_0 rfl (pc2 := 1) ?_
  refine wp_is1 (lv2 := [(0, .ref 117), (1, .long v), (3, iV 0)]) jF_256_1 rfl rfl rfl (pc2 := 2) ?_
  refine wp_loop (α := Int) (fun a => [(0, .ref 117), (1, .long v), (3, iV (a))]) (fun a τ => (0 ≤ a ∧ a ≤ 18) ∧ σ = τ) (fun a τ => Int.toNat (18 - (a))) (0) σ ?_ ?_
  · skip
    exact ⟨⟨by omega, by omega⟩, rfl⟩
  · rintro x1 _ ⟨h2, rfl⟩ ih6
    show WP 256 2 [(0, .ref 117), (1, .long v), (3, iV x1)] [] _ _ _ _
    refine wp_il1 jF_256_2 rfl rfl (pc2 := 3) ?_
    refine wp_bi jF_256_3 (by decide) rfl (pc2 := 5) ?_
    refine wp_i_ge jF_256_5 (m_rgb h2 rfl) (m_rgl rfl) rfl (pc2 := 8) ?_ ?_
    · intro h7
      refine wp_ic jF_256_36 rfl (pc2 := 37) ?_
      refine wp_ri jF_256_37 rfl ?_
      exact ⟨(-1), rfl, ⟨by omega, by omega⟩, rfl⟩
    · intro h7
      refine wp_ll1 jF_256_8 rfl rfl (pc2 := 9) ?_
      refine wp_lc jF_256_9 rfl (pc2 := 10) ?_
      refine wp_anyL (pc2 := 11) jF_256_10 rfl rfl ?_
      intro z8 h9
      refine wp_z_eq jF_256_11 (m_rgb h9 rfl) rfl (pc2 := 14) ?_ ?_
      · intro h10
        refine wp_inc (lv2 := [(0, .ref 117), (1, .long v), (3, iV (x1 + 1))]) jF_256_30 rfl rfl rfl rfl (pc2 := 33) ?_
        refine wp_go jF_256_33 ?_
        exact ih6 ((x1 + 1)) σ ⟨⟨by omega, by omega⟩, rfl⟩ (by show Int.toNat (18 - (x1 + 1)) < Int.toNat (18 - x1); omega)
      · intro h10
        refine wp_al1 jF_256_14 rfl rfl (pc2 := 15) ?_
        refine wp_gr (b := 138) jF_256_15 kd117 (by decide) (c := 238) rfl rfl rfl (pc2 := 18) ?_
        refine wp_bi jF_256_18 (by decide) rfl (pc2 := 20) ?_
        refine wp_il1 jF_256_20 rfl rfl (pc2 := 21) ?_
        refine wp_add jF_256_21 rfl (pc2 := 22) ?_
        refine wp_lald (n := 36) jF_256_22 kd138 (by decide) rfl rfl (by omega) (by omega) rfl (pc2 := 23) ?_
        intro y11
        refine wp_ll1 jF_256_23 rfl rfl (pc2 := 24) ?_
        refine wp_anyL (pc2 := 25) jF_256_24 rfl rfl ?_
        intro z12 h13
        refine wp_z_ne jF_256_25 (m_rgb h13 rfl) rfl (pc2 := 28) ?_ ?_
        · intro h14
          refine wp_inc (lv2 := [(0, .ref 117), (1, .long v), (3, iV (x1 + 1))]) jF_256_30 rfl rfl rfl rfl (pc2 := 33) ?_
          refine wp_go jF_256_33 ?_
          exact ih6 ((x1 + 1)) σ ⟨⟨by omega, by omega⟩, rfl⟩ (by show Int.toNat (18 - (x1 + 1)) < Int.toNat (18 - x1); omega)
        · intro h14
          refine wp_il1 jF_256_28 rfl rfl (pc2 := 29) ?_
          refine wp_ri jF_256_29 rfl ?_
          exact ⟨x1, rfl, ⟨by omega, by omega⟩, rfl⟩
