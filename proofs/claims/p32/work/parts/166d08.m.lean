set_option maxHeartbeats 4000000 in
set_option maxRecDepth 20000 in
/-- Way.isNear -/
theorem m_147_r109_75_n0 (σ : jM) (hg : GI σ) (i0 : Int) (hl_i0 : 0 ≤ i0) (hu_i0 : i0 ≤ 61) (j0 : Int) (hl_j0 : 0 ≤ j0) (hu_j0 : j0 ≤ 61) (pre0 : i0 ≤ (σ.1 109 1)) (pre1 : j0 ≤ (σ.1 75 1)) (fr lo : Nat) (hfr : 1 ≤ fr) (hlo : 40 ≤ lo) : WP 147 0 (lv_args 0 [.ref 109, iV i0, .ref 75, iV j0, iV 0]) [] fr lo σ (fun v τ => ∃ z : Int, v = some (iV z) ∧ (0 ≤ z ∧ z ≤ 1) ∧ σ = τ) := by
  show WP 147 0 [(0, .ref 109), (1, iV i0), (2, .ref 75), (3, iV j0), (4, iV 0)] [] _ _ _ _
  refine wp_il1 jF_147_0 rfl rfl (pc2 := 1) ?_
  refine wp_is2 (lv2 := [(0, .ref 109), (1, iV i0), (2, .ref 75), (3, iV j0), (4, iV 0), (5, iV i0)]) jF_147_1 rfl rfl rfl (pc2 := 3) ?_
  refine wp_il1 jF_147_3 rfl rfl (pc2 := 4) ?_
  refine wp_is2 (lv2 := [(0, .ref 109), (1, iV i0), (2, .ref 75), (3, iV j0), (4, iV 0), (5, iV i0), (6, iV j0)]) jF_147_4 rfl rfl rfl (pc2 := 6) ?_
  have b1 := GI.b hg 109 1 kd109 (lo := 0) (hi := 60) rfl
  have b2 := GI.b hg 75 1 kd75 (lo := 0) (hi := 60) rfl
  refine wp_loop (α := Int × Int) (fun a => [(0, .ref 109), (1, iV i0), (2, .ref 75), (3, iV j0), (4, iV 0), (5, iV (a.1)), (6, iV (a.2))]) (fun a τ => (0 ≤ a.1 ∧ a.1 ≤ 61) ∧ (0 ≤ a.2 ∧ a.2 ≤ 61) ∧ σ = τ ∧ ((a.1) ≤ (σ.1 109 1)) ∧ ((a.2) ≤ (σ.1 75 1))) (fun a τ => Int.toNat (61 - (a.1))) (i0, j0) σ ?_ ?_
  · skip
    exact ⟨⟨by (try dsimp only); omega, by (try dsimp only); omega⟩, ⟨by (try dsimp only); omega, by (try dsimp only); omega⟩, rfl, (by (try dsimp only); omega), (by (try dsimp only); omega)⟩
  · rintro ⟨x3, x4⟩ _ ⟨h5, h6, rfl, p10, p11⟩ ih12
    try dsimp only at h5 h6 p10 p11
    show WP 147 6 [(0, .ref 109), (1, iV i0), (2, .ref 75), (3, iV j0), (4, iV 0), (5, iV x3), (6, iV x4)] [] _ _ _ _
    show WP 147 6 [(0, .ref 109), (1, iV i0), (2, .ref 75), (3, iV j0), (4, iV 0), (5, iV x3), (6, iV x4)] [] _ _ _ _
    refine wp_il2 jF_147_6 rfl rfl (pc2 := 8) ?_
    refine wp_al1 jF_147_8 rfl rfl (pc2 := 9) ?_
    refine wp_gi jF_147_9 kd109 (by decide) rfl rfl rfl (pc2 := 12) ?_
    refine wp_i_ge jF_147_12 (m_rgb h5 rfl) (m_rgb b1 rfl) rfl (pc2 := 15) ?_ ?_
    · intro h13
      refine wp_al1 jF_147_50 rfl rfl (pc2 := 51) ?_
      refine wp_gi jF_147_51 kd109 (by decide) rfl rfl rfl (pc2 := 54) ?_
      refine wp_il2 jF_147_54 rfl rfl (pc2 := 56) ?_
      refine wp_sub jF_147_56 rfl (pc2 := 57) ?_
      refine wp_is2 (lv2 := [(0, .ref 109), (1, iV i0), (2, .ref 75), (3, iV j0), (4, iV 0), (5, iV x3), (6, iV x4), (7, iV ((σ.1 109 1) - x3))]) jF_147_57 rfl rfl rfl (pc2 := 59) ?_
      refine wp_al1 jF_147_59 rfl rfl (pc2 := 60) ?_
      refine wp_gi jF_147_60 kd75 (by decide) rfl rfl rfl (pc2 := 63) ?_
      refine wp_il2 jF_147_63 rfl rfl (pc2 := 65) ?_
      refine wp_sub jF_147_65 rfl (pc2 := 66) ?_
      refine wp_is2 (lv2 := [(0, .ref 109), (1, iV i0), (2, .ref 75), (3, iV j0), (4, iV 0), (5, iV x3), (6, iV x4), (7, iV ((σ.1 109 1) - x3)), (8, iV ((σ.1 75 1) - x4))]) jF_147_66 rfl rfl rfl (pc2 := 68) ?_
      refine wp_il2 jF_147_68 rfl rfl (pc2 := 70) ?_
      refine wp_z_eq jF_147_70 ⟨by omega, by omega⟩ rfl (pc2 := 73) ?_ ?_
      · intro h14
        refine wp_il2 jF_147_83 rfl rfl (pc2 := 85) ?_
        refine wp_il2 jF_147_85 rfl rfl (pc2 := 87) ?_
        refine wp_cS (as := [iV ((σ.1 109 1) - x3), iV ((σ.1 75 1) - x4)]) (rest := []) (mx := 2) jF_147_87 rfl rfl rfl rfl (by omega) (by omega) rfl (pc2 := 90) ?_
        refine wp_use (m_139_r σ hg ((σ.1 109 1) - x3) (by omega) (by omega) ((σ.1 75 1) - x4) (by omega) (by omega)  _ _ (by omega) (by omega)) ?_
        rintro _ _ ⟨z20, rfl, h21, rfl, p15, p16, p17⟩
        show WP 147 90 [(0, .ref 109), (1, iV i0), (2, .ref 75), (3, iV j0), (4, iV 0), (5, iV x3), (6, iV x4), (7, iV ((σ.1 109 1) - x3)), (8, iV ((σ.1 75 1) - x4))] [iV z20] _ _ _ _
        refine wp_il2 jF_147_90 rfl rfl (pc2 := 92) ?_
        refine wp_i_gt jF_147_92 (m_rgb h21 rfl) (m_rgl rfl) rfl (pc2 := 95) ?_ ?_
        · intro h22
          refine wp_ic jF_147_99 rfl (pc2 := 100) ?_
          refine wp_ri jF_147_100 rfl ?_
          exact ⟨0, rfl, ⟨by omega, by omega⟩, rfl⟩
        · intro h22
          refine wp_ic jF_147_95 rfl (pc2 := 96) ?_
          refine wp_go jF_147_96 ?_
          refine wp_ri jF_147_100 rfl ?_
          exact ⟨1, rfl, ⟨by omega, by omega⟩, rfl⟩
      · intro h14
        refine wp_il2 jF_147_73 rfl rfl (pc2 := 75) ?_
        refine wp_z_eq jF_147_75 ⟨by omega, by omega⟩ rfl (pc2 := 78) ?_ ?_
        · intro h23
          refine wp_il2 jF_147_83 rfl rfl (pc2 := 85) ?_
          refine wp_il2 jF_147_85 rfl rfl (pc2 := 87) ?_
          refine wp_cS (as := [iV ((σ.1 109 1) - x3), iV ((σ.1 75 1) - x4)]) (rest := []) (mx := 2) jF_147_87 rfl rfl rfl rfl (by omega) (by omega) rfl (pc2 := 90) ?_
          refine wp_use (m_139_r σ hg ((σ.1 109 1) - x3) (by omega) (by omega) ((σ.1 75 1) - x4) (by omega) (by omega)  _ _ (by omega) (by omega)) ?_
          rintro _ _ ⟨z29, rfl, h30, rfl, p24, p25, p26⟩
          show WP 147 90 [(0, .ref 109), (1, iV i0), (2, .ref 75), (3, iV j0), (4, iV 0), (5, iV x3), (6, iV x4), (7, iV ((σ.1 109 1) - x3)), (8, iV ((σ.1 75 1) - x4))] [iV z29] _ _ _ _
          refine wp_il2 jF_147_90 rfl rfl (pc2 := 92) ?_
          refine wp_i_gt jF_147_92 (m_rgb h30 rfl) (m_rgl rfl) rfl (pc2 := 95) ?_ ?_
          · intro h31
            refine wp_ic jF_147_99 rfl (pc2 := 100) ?_
            refine wp_ri jF_147_100 rfl ?_
            exact ⟨0, rfl, ⟨by omega, by omega⟩, rfl⟩
          · intro h31
            refine wp_ic jF_147_95 rfl (pc2 := 96) ?_
            refine wp_go jF_147_96 ?_
            refine wp_ri jF_147_100 rfl ?_
            exact ⟨1, rfl, ⟨by omega, by omega⟩, rfl⟩
        · intro h23
          refine wp_il2 jF_147_78 rfl rfl (pc2 := 80) ?_
          refine wp_z_ne jF_147_80 (m_rgl rfl) rfl (pc2 := 83) ?_ ?_
          · intro h32; exfalso; omega
          · intro h32
            refine wp_il2 jF_147_83 rfl rfl (pc2 := 85) ?_
            refine wp_il2 jF_147_85 rfl rfl (pc2 := 87) ?_
            refine wp_cS (as := [iV ((σ.1 109 1) - x3), iV ((σ.1 75 1) - x4)]) (rest := []) (mx := 2) jF_147_87 rfl rfl rfl rfl (by omega) (by omega) rfl (pc2 := 90) ?_
            refine wp_use (m_139_r σ hg ((σ.1 109 1) - x3) (by omega) (by omega) ((σ.1 75 1) - x4) (by omega) (by omega)  _ _ (by omega) (by omega)) ?_
            rintro _ _ ⟨z38, rfl, h39, rfl, p33, p34, p35⟩
            show WP 147 90 [(0, .ref 109), (1, iV i0), (2, .ref 75), (3, iV j0), (4, iV 0), (5, iV x3), (6, iV x4), (7, iV ((σ.1 109 1) - x3)), (8, iV ((σ.1 75 1) - x4))] [iV z38] _ _ _ _
            refine wp_il2 jF_147_90 rfl rfl (pc2 := 92) ?_
            refine wp_i_gt jF_147_92 (m_rgb h39 rfl) (m_rgl rfl) rfl (pc2 := 95) ?_ ?_
            · intro h40
              refine wp_ic jF_147_99 rfl (pc2 := 100) ?_
              refine wp_ri jF_147_100 rfl ?_
              exact ⟨0, rfl, ⟨by omega, by omega⟩, rfl⟩
            · intro h40
              refine wp_ic jF_147_95 rfl (pc2 := 96) ?_
              refine wp_go jF_147_96 ?_
              refine wp_ri jF_147_100 rfl ?_
              exact ⟨1, rfl, ⟨by omega, by omega⟩, rfl⟩
    · intro h13
      refine wp_il2 jF_147_15 rfl rfl (pc2 := 17) ?_
      refine wp_al1 jF_147_17 rfl rfl (pc2 := 18) ?_
      refine wp_gi jF_147_18 kd75 (by decide) rfl rfl rfl (pc2 := 21) ?_
      refine wp_i_ge jF_147_21 (m_rgb h6 rfl) (m_rgb b2 rfl) rfl (pc2 := 24) ?_ ?_
      · intro h41
        refine wp_al1 jF_147_50 rfl rfl (pc2 := 51) ?_
        refine wp_gi jF_147_51 kd109 (by decide) rfl rfl rfl (pc2 := 54) ?_
        refine wp_il2 jF_147_54 rfl rfl (pc2 := 56) ?_
        refine wp_sub jF_147_56 rfl (pc2 := 57) ?_
        refine wp_is2 (lv2 := [(0, .ref 109), (1, iV i0), (2, .ref 75), (3, iV j0), (4, iV 0), (5, iV x3), (6, iV x4), (7, iV ((σ.1 109 1) - x3))]) jF_147_57 rfl rfl rfl (pc2 := 59) ?_
        refine wp_al1 jF_147_59 rfl rfl (pc2 := 60) ?_
        refine wp_gi jF_147_60 kd75 (by decide) rfl rfl rfl (pc2 := 63) ?_
        refine wp_il2 jF_147_63 rfl rfl (pc2 := 65) ?_
        refine wp_sub jF_147_65 rfl (pc2 := 66) ?_
        refine wp_is2 (lv2 := [(0, .ref 109), (1, iV i0), (2, .ref 75), (3, iV j0), (4, iV 0), (5, iV x3), (6, iV x4), (7, iV ((σ.1 109 1) - x3)), (8, iV ((σ.1 75 1) - x4))]) jF_147_66 rfl rfl rfl (pc2 := 68) ?_
        refine wp_il2 jF_147_68 rfl rfl (pc2 := 70) ?_
        refine wp_z_eq jF_147_70 ⟨by omega, by omega⟩ rfl (pc2 := 73) ?_ ?_
        · intro h42
          refine wp_il2 jF_147_83 rfl rfl (pc2 := 85) ?_
          refine wp_il2 jF_147_85 rfl rfl (pc2 := 87) ?_
          refine wp_cS (as := [iV ((σ.1 109 1) - x3), iV ((σ.1 75 1) - x4)]) (rest := []) (mx := 2) jF_147_87 rfl rfl rfl rfl (by omega) (by omega) rfl (pc2 := 90) ?_
          refine wp_use (m_139_r σ hg ((σ.1 109 1) - x3) (by omega) (by omega) ((σ.1 75 1) - x4) (by omega) (by omega)  _ _ (by omega) (by omega)) ?_
          rintro _ _ ⟨z48, rfl, h49, rfl, p43, p44, p45⟩
          show WP 147 90 [(0, .ref 109), (1, iV i0), (2, .ref 75), (3, iV j0), (4, iV 0), (5, iV x3), (6, iV x4), (7, iV ((σ.1 109 1) - x3)), (8, iV ((σ.1 75 1) - x4))] [iV z48] _ _ _ _
          refine wp_il2 jF_147_90 rfl rfl (pc2 := 92) ?_
          refine wp_i_gt jF_147_92 (m_rgb h49 rfl) (m_rgl rfl) rfl (pc2 := 95) ?_ ?_
          · intro h50
            refine wp_ic jF_147_99 rfl (pc2 := 100) ?_
            refine wp_ri jF_147_100 rfl ?_
            exact ⟨0, rfl, ⟨by omega, by omega⟩, rfl⟩
          · intro h50
            refine wp_ic jF_147_95 rfl (pc2 := 96) ?_
            refine wp_go jF_147_96 ?_
            refine wp_ri jF_147_100 rfl ?_
            exact ⟨1, rfl, ⟨by omega, by omega⟩, rfl⟩
        · intro h42
          refine wp_il2 jF_147_73 rfl rfl (pc2 := 75) ?_
          refine wp_z_eq jF_147_75 ⟨by omega, by omega⟩ rfl (pc2 := 78) ?_ ?_
          · intro h51
            refine wp_il2 jF_147_83 rfl rfl (pc2 := 85) ?_
            refine wp_il2 jF_147_85 rfl rfl (pc2 := 87) ?_
            refine wp_cS (as := [iV ((σ.1 109 1) - x3), iV ((σ.1 75 1) - x4)]) (rest := []) (mx := 2) jF_147_87 rfl rfl rfl rfl (by omega) (by omega) rfl (pc2 := 90) ?_
            refine wp_use (m_139_r σ hg ((σ.1 109 1) - x3) (by omega) (by omega) ((σ.1 75 1) - x4) (by omega) (by omega)  _ _ (by omega) (by omega)) ?_
            rintro _ _ ⟨z57, rfl, h58, rfl, p52, p53, p54⟩
            show WP 147 90 [(0, .ref 109), (1, iV i0), (2, .ref 75), (3, iV j0), (4, iV 0), (5, iV x3), (6, iV x4), (7, iV ((σ.1 109 1) - x3)), (8, iV ((σ.1 75 1) - x4))] [iV z57] _ _ _ _
            refine wp_il2 jF_147_90 rfl rfl (pc2 := 92) ?_
            refine wp_i_gt jF_147_92 (m_rgb h58 rfl) (m_rgl rfl) rfl (pc2 := 95) ?_ ?_
            · intro h59
              refine wp_ic jF_147_99 rfl (pc2 := 100) ?_
              refine wp_ri jF_147_100 rfl ?_
              exact ⟨0, rfl, ⟨by omega, by omega⟩, rfl⟩
            · intro h59
              refine wp_ic jF_147_95 rfl (pc2 := 96) ?_
              refine wp_go jF_147_96 ?_
              refine wp_ri jF_147_100 rfl ?_
              exact ⟨1, rfl, ⟨by omega, by omega⟩, rfl⟩
          · intro h51
            refine wp_il2 jF_147_78 rfl rfl (pc2 := 80) ?_
            refine wp_z_ne jF_147_80 (m_rgl rfl) rfl (pc2 := 83) ?_ ?_
            · intro h60; exfalso; omega
            · intro h60
              refine wp_il2 jF_147_83 rfl rfl (pc2 := 85) ?_
              refine wp_il2 jF_147_85 rfl rfl (pc2 := 87) ?_
              refine wp_cS (as := [iV ((σ.1 109 1) - x3), iV ((σ.1 75 1) - x4)]) (rest := []) (mx := 2) jF_147_87 rfl rfl rfl rfl (by omega) (by omega) rfl (pc2 := 90) ?_
              refine wp_use (m_139_r σ hg ((σ.1 109 1) - x3) (by omega) (by omega) ((σ.1 75 1) - x4) (by omega) (by omega)  _ _ (by omega) (by omega)) ?_
              rintro _ _ ⟨z66, rfl, h67, rfl, p61, p62, p63⟩
              show WP 147 90 [(0, .ref 109), (1, iV i0), (2, .ref 75), (3, iV j0), (4, iV 0), (5, iV x3), (6, iV x4), (7, iV ((σ.1 109 1) - x3)), (8, iV ((σ.1 75 1) - x4))] [iV z66] _ _ _ _
              refine wp_il2 jF_147_90 rfl rfl (pc2 := 92) ?_
              refine wp_i_gt jF_147_92 (m_rgb h67 rfl) (m_rgl rfl) rfl (pc2 := 95) ?_ ?_
              · intro h68
                refine wp_ic jF_147_99 rfl (pc2 := 100) ?_
                refine wp_ri jF_147_100 rfl ?_
                exact ⟨0, rfl, ⟨by omega, by omega⟩, rfl⟩
              · intro h68
                refine wp_ic jF_147_95 rfl (pc2 := 96) ?_
                refine wp_go jF_147_96 ?_
                refine wp_ri jF_147_100 rfl ?_
                exact ⟨1, rfl, ⟨by omega, by omega⟩, rfl⟩
      · intro h41
        refine wp_al1 jF_147_24 rfl rfl (pc2 := 25) ?_
        refine wp_gr (b := 110) jF_147_25 kd109 (by decide) (c := 4) rfl rfl rfl (pc2 := 28) ?_
        refine wp_il2 jF_147_28 rfl rfl (pc2 := 30) ?_
        have b69 := GI.b hg 110 x3.toNat kd110 (lo := 0) (hi := 255) rfl
        refine wp_iald (n := 60) (e := (σ.1 110 x3.toNat)) jF_147_30 kd110 (by decide) rfl rfl (by omega) (by omega) rfl rfl (pc2 := 31) ?_
        refine wp_al1 jF_147_31 rfl rfl (pc2 := 32) ?_
        refine wp_gr (b := 76) jF_147_32 kd75 (by decide) (c := 4) rfl rfl rfl (pc2 := 35) ?_
        refine wp_il2 jF_147_35 rfl rfl (pc2 := 37) ?_
        have b70 := GI.b hg 76 x4.toNat kd76 (lo := 0) (hi := 255) rfl
        refine wp_iald (n := 60) (e := (σ.1 76 x4.toNat)) jF_147_37 kd76 (by decide) rfl rfl (by omega) (by omega) rfl rfl (pc2 := 38) ?_
        refine wp_i_ne jF_147_38 (m_rgb b69 rfl) (m_rgb b70 rfl) rfl (pc2 := 41) ?_ ?_
        · intro h71
          refine wp_al1 jF_147_50 rfl rfl (pc2 := 51) ?_
          refine wp_gi jF_147_51 kd109 (by decide) rfl rfl rfl (pc2 := 54) ?_
          refine wp_il2 jF_147_54 rfl rfl (pc2 := 56) ?_
          refine wp_sub jF_147_56 rfl (pc2 := 57) ?_
          refine wp_is2 (lv2 := [(0, .ref 109), (1, iV i0), (2, .ref 75), (3, iV j0), (4, iV 0), (5, iV x3), (6, iV x4), (7, iV ((σ.1 109 1) - x3))]) jF_147_57 rfl rfl rfl (pc2 := 59) ?_
          refine wp_al1 jF_147_59 rfl rfl (pc2 := 60) ?_
          refine wp_gi jF_147_60 kd75 (by decide) rfl rfl rfl (pc2 := 63) ?_
          refine wp_il2 jF_147_63 rfl rfl (pc2 := 65) ?_
          refine wp_sub jF_147_65 rfl (pc2 := 66) ?_
          refine wp_is2 (lv2 := [(0, .ref 109), (1, iV i0), (2, .ref 75), (3, iV j0), (4, iV 0), (5, iV x3), (6, iV x4), (7, iV ((σ.1 109 1) - x3)), (8, iV ((σ.1 75 1) - x4))]) jF_147_66 rfl rfl rfl (pc2 := 68) ?_
          refine wp_il2 jF_147_68 rfl rfl (pc2 := 70) ?_
          refine wp_z_eq jF_147_70 ⟨by omega, by omega⟩ rfl (pc2 := 73) ?_ ?_
          · intro h72
            refine wp_il2 jF_147_83 rfl rfl (pc2 := 85) ?_
            refine wp_il2 jF_147_85 rfl rfl (pc2 := 87) ?_
            refine wp_cS (as := [iV ((σ.1 109 1) - x3), iV ((σ.1 75 1) - x4)]) (rest := []) (mx := 2) jF_147_87 rfl rfl rfl rfl (by omega) (by omega) rfl (pc2 := 90) ?_
            refine wp_use (m_139_r σ hg ((σ.1 109 1) - x3) (by omega) (by omega) ((σ.1 75 1) - x4) (by omega) (by omega)  _ _ (by omega) (by omega)) ?_
            rintro _ _ ⟨z78, rfl, h79, rfl, p73, p74, p75⟩
            show WP 147 90 [(0, .ref 109), (1, iV i0), (2, .ref 75), (3, iV j0), (4, iV 0), (5, iV x3), (6, iV x4), (7, iV ((σ.1 109 1) - x3)), (8, iV ((σ.1 75 1) - x4))] [iV z78] _ _ _ _
            refine wp_il2 jF_147_90 rfl rfl (pc2 := 92) ?_
            refine wp_i_gt jF_147_92 (m_rgb h79 rfl) (m_rgl rfl) rfl (pc2 := 95) ?_ ?_
            · intro h80
              refine wp_ic jF_147_99 rfl (pc2 := 100) ?_
              refine wp_ri jF_147_100 rfl ?_
              exact ⟨0, rfl, ⟨by omega, by omega⟩, rfl⟩
            · intro h80
              refine wp_ic jF_147_95 rfl (pc2 := 96) ?_
              refine wp_go jF_147_96 ?_
              refine wp_ri jF_147_100 rfl ?_
              exact ⟨1, rfl, ⟨by omega, by omega⟩, rfl⟩
          · intro h72
            refine wp_il2 jF_147_73 rfl rfl (pc2 := 75) ?_
            refine wp_z_eq jF_147_75 ⟨by omega, by omega⟩ rfl (pc2 := 78) ?_ ?_
            · intro h81
              refine wp_il2 jF_147_83 rfl rfl (pc2 := 85) ?_
              refine wp_il2 jF_147_85 rfl rfl (pc2 := 87) ?_
              refine wp_cS (as := [iV ((σ.1 109 1) - x3), iV ((σ.1 75 1) - x4)]) (rest := []) (mx := 2) jF_147_87 rfl rfl rfl rfl (by omega) (by omega) rfl (pc2 := 90) ?_
              refine wp_use (m_139_r σ hg ((σ.1 109 1) - x3) (by omega) (by omega) ((σ.1 75 1) - x4) (by omega) (by omega)  _ _ (by omega) (by omega)) ?_
              rintro _ _ ⟨z87, rfl, h88, rfl, p82, p83, p84⟩
              show WP 147 90 [(0, .ref 109), (1, iV i0), (2, .ref 75), (3, iV j0), (4, iV 0), (5, iV x3), (6, iV x4), (7, iV ((σ.1 109 1) - x3)), (8, iV ((σ.1 75 1) - x4))] [iV z87] _ _ _ _
              refine wp_il2 jF_147_90 rfl rfl (pc2 := 92) ?_
              refine wp_i_gt jF_147_92 (m_rgb h88 rfl) (m_rgl rfl) rfl (pc2 := 95) ?_ ?_
              · intro h89
                refine wp_ic jF_147_99 rfl (pc2 := 100) ?_
                refine wp_ri jF_147_100 rfl ?_
                exact ⟨0, rfl, ⟨by omega, by omega⟩, rfl⟩
              · intro h89
                refine wp_ic jF_147_95 rfl (pc2 := 96) ?_
                refine wp_go jF_147_96 ?_
                refine wp_ri jF_147_100 rfl ?_
                exact ⟨1, rfl, ⟨by omega, by omega⟩, rfl⟩
            · intro h81
              refine wp_il2 jF_147_78 rfl rfl (pc2 := 80) ?_
              refine wp_z_ne jF_147_80 (m_rgl rfl) rfl (pc2 := 83) ?_ ?_
              · intro h90; exfalso; omega
              · intro h90
                refine wp_il2 jF_147_83 rfl rfl (pc2 := 85) ?_
                refine wp_il2 jF_147_85 rfl rfl (pc2 := 87) ?_
                refine wp_cS (as := [iV ((σ.1 109 1) - x3), iV ((σ.1 75 1) - x4)]) (rest := []) (mx := 2) jF_147_87 rfl rfl rfl rfl (by omega) (by omega) rfl (pc2 := 90) ?_
                refine wp_use (m_139_r σ hg ((σ.1 109 1) - x3) (by omega) (by omega) ((σ.1 75 1) - x4) (by omega) (by omega)  _ _ (by omega) (by omega)) ?_
                rintro _ _ ⟨z96, rfl, h97, rfl, p91, p92, p93⟩
                show WP 147 90 [(0, .ref 109), (1, iV i0), (2, .ref 75), (3, iV j0), (4, iV 0), (5, iV x3), (6, iV x4), (7, iV ((σ.1 109 1) - x3)), (8, iV ((σ.1 75 1) - x4))] [iV z96] _ _ _ _
                refine wp_il2 jF_147_90 rfl rfl (pc2 := 92) ?_
                refine wp_i_gt jF_147_92 (m_rgb h97 rfl) (m_rgl rfl) rfl (pc2 := 95) ?_ ?_
                · intro h98
                  refine wp_ic jF_147_99 rfl (pc2 := 100) ?_
                  refine wp_ri jF_147_100 rfl ?_
                  exact ⟨0, rfl, ⟨by omega, by omega⟩, rfl⟩
                · intro h98
                  refine wp_ic jF_147_95 rfl (pc2 := 96) ?_
                  refine wp_go jF_147_96 ?_
                  refine wp_ri jF_147_100 rfl ?_
                  exact ⟨1, rfl, ⟨by omega, by omega⟩, rfl⟩
        · intro h71
          refine wp_inc (lv2 := [(0, .ref 109), (1, iV i0), (2, .ref 75), (3, iV j0), (4, iV 0), (5, iV (x3 + 1)), (6, iV x4)]) jF_147_41 rfl rfl rfl rfl (pc2 := 44) ?_
          refine wp_inc (lv2 := [(0, .ref 109), (1, iV i0), (2, .ref 75), (3, iV j0), (4, iV 0), (5, iV (x3 + 1)), (6, iV (x4 + 1))]) jF_147_44 rfl rfl rfl rfl (pc2 := 47) ?_
          refine wp_go jF_147_47 ?_
          exact ih12 ((x3 + 1), (x4 + 1)) σ ⟨⟨by (try dsimp only); omega, by (try dsimp only); omega⟩, ⟨by (try dsimp only); omega, by (try dsimp only); omega⟩, rfl, (by (try dsimp only); omega), (by (try dsimp only); omega)⟩ (by show Int.toNat (61 - (x3 + 1)) < Int.toNat (61 - x3); omega)
