set_option maxHeartbeats 4000000 in
set_option maxRecDepth 20000 in
/-- M.isTold -/
theorem m_358_0 (σ : jM) (hg : GI σ) (to : Int) (hl_to : 0 ≤ to) (hu_to : to ≤ 1600)  (fr lo : Nat) (hfr : 2 ≤ fr) (hlo : 47 ≤ lo) : WP 358 0 (lv_args 0 [.ref 117, iV 0, iV to]) [] fr lo σ (fun v τ => ∃ z : Int, v = some (iV z) ∧ (0 ≤ z ∧ z ≤ 1) ∧ GI τ ∧ FR Wtr σ τ ∧ (z = 1 → ((tl τ) = 22 ∧ (τ.1 117 49) ≤ 60)) ∧ (z = 1 → (1 < to ∧ (tp0 σ) ≤ 60 ∧ (tp0 σ) + 1 < to ∧ (tt0 σ) = 22)) ∧ (1 < to → (tp0 σ) ≤ 60 → (tp0 σ) + 1 < to → ((τ.1 117 49) = (tp0 σ) ∧ (tl τ) = (tt0 σ)))) := by
  show WP 358 0 [(0, .ref 117), (1, iV 0), (2, iV to)] [] _ _ _ _
  refine wp_il1 jF_358_0 rfl rfl (pc2 := 1) ?_
  refine wp_il1 jF_358_1 rfl rfl (pc2 := 2) ?_
  refine wp_ic jF_358_2 rfl (pc2 := 3) ?_
  refine wp_sub jF_358_3 rfl (pc2 := 4) ?_
  refine wp_i_ge jF_358_4 (m_rgl rfl) ⟨by omega, by omega⟩ rfl (pc2 := 7) ?_ ?_
  · intro h1
    refine wp_ic jF_358_32 rfl (pc2 := 33) ?_
    refine wp_ri jF_358_33 rfl ?_
    have b2 := GI.b hg 117 49 kd117 (lo := 0) (hi := 61) rfl
    exact ⟨0, rfl, ⟨by omega, by omega⟩, hg, FR.rf, (by omega), (by have e0 : tp0 σ = σ.1 118 0 := rfl; omega), (by have e0 : tp0 σ = σ.1 118 0 := rfl; omega)⟩
  · intro h1
    refine wp_al1 jF_358_7 rfl rfl (pc2 := 8) ?_
    refine wp_gr (b := 118) jF_358_8 kd117 (by decide) (c := 218) rfl rfl rfl (pc2 := 11) ?_
    refine wp_il1 jF_358_11 rfl rfl (pc2 := 12) ?_
    have b3 := GI.b hg 118 0 kd118 (lo := 0) (hi := 255) rfl
    refine wp_iald (n := 1600) (e := (σ.1 118 0)) jF_358_12 kd118 (by decide) rfl rfl (by omega) (by omega) rfl rfl (pc2 := 13) ?_
    refine wp_bi jF_358_13 (by decide) rfl (pc2 := 15) ?_
    refine wp_i_gt jF_358_15 (m_rgb b3 rfl) (m_rgl rfl) rfl (pc2 := 18) ?_ ?_
    · intro h4
      refine wp_ic jF_358_32 rfl (pc2 := 33) ?_
      refine wp_ri jF_358_33 rfl ?_
      have b5 := GI.b hg 117 49 kd117 (lo := 0) (hi := 61) rfl
      exact ⟨0, rfl, ⟨by omega, by omega⟩, hg, FR.rf, (by omega), (by have e0 : tp0 σ = σ.1 118 0 := rfl; omega), (by have e0 : tp0 σ = σ.1 118 0 := rfl; omega)⟩
    · intro h4
      refine wp_il1 jF_358_18 rfl rfl (pc2 := 19) ?_
      refine wp_al1 jF_358_19 rfl rfl (pc2 := 20) ?_
      refine wp_gr (b := 118) jF_358_20 kd117 (by decide) (c := 218) rfl rfl rfl (pc2 := 23) ?_
      refine wp_il1 jF_358_23 rfl rfl (pc2 := 24) ?_
      refine wp_iald (n := 1600) (e := (σ.1 118 0)) jF_358_24 kd118 (by decide) rfl rfl (by omega) (by omega) rfl rfl (pc2 := 25) ?_
      refine wp_add jF_358_25 rfl (pc2 := 26) ?_
      refine wp_il1 jF_358_26 rfl rfl (pc2 := 27) ?_
      refine wp_ic jF_358_27 rfl (pc2 := 28) ?_
      refine wp_sub jF_358_28 rfl (pc2 := 29) ?_
      refine wp_i_lt jF_358_29 ⟨by omega, by omega⟩ ⟨by omega, by omega⟩ rfl (pc2 := 32) ?_ ?_
      · intro h6
        refine wp_al1 jF_358_34 rfl rfl (pc2 := 35) ?_
        refine wp_al1 jF_358_35 rfl rfl (pc2 := 36) ?_
        refine wp_gr (b := 118) jF_358_36 kd117 (by decide) (c := 218) rfl rfl rfl (pc2 := 39) ?_
        refine wp_il1 jF_358_39 rfl rfl (pc2 := 40) ?_
        refine wp_iald (n := 1600) (e := (σ.1 118 0)) jF_358_40 kd118 (by decide) rfl rfl (by omega) (by omega) rfl rfl (pc2 := 41) ?_
        refine wp_pi jF_358_41 kd117 (by decide) rfl rfl rfl (pc2 := 44) hg (lo := 0) (hi := 61) rfl (by omega) (by omega) ?_
        intro τ7 g8 f9 e10
        refine wp_ic jF_358_44 rfl (pc2 := 45) ?_
        refine wp_is1 (lv2 := [(0, .ref 117), (1, iV 0), (2, iV to), (3, iV 0)]) jF_358_45 rfl rfl rfl (pc2 := 46) ?_
        refine wp_loop (α := Int) (fun a => [(0, .ref 117), (1, iV 0), (2, iV to), (3, iV (a))]) (fun a τ => (0 ≤ a ∧ a ≤ 60) ∧ GI τ ∧ FR Wtr τ7 τ ∧ ((a) ≤ (τ.1 117 49)) ∧ ((τ.1 117 49) = (σ.1 118 0)) ∧ ((τ.1 117 49) ≤ 60) ∧ (CPI σ τ (a))) (fun a τ => Int.toNat (60 - (a))) (0) τ7 ?_ ?_
        · skip
          have q11 : (τ7.1 117 49) = (σ.1 118 0) := e10
          exact ⟨⟨by omega, by omega⟩, g8, FR.rf, (by omega), (by omega), (by omega), (Or.inl rfl)⟩
        · rintro x12 τ14 ⟨h13, g15, f16, p17, p18, p19, p20⟩ ih21
          have b22 := GI.b g15 117 49 kd117 (lo := 0) (hi := 61) rfl
          show WP 358 46 [(0, .ref 117), (1, iV 0), (2, iV to), (3, iV x12)] [] _ _ _ _
          show WP 358 46 [(0, .ref 117), (1, iV 0), (2, iV to), (3, iV x12)] [] _ _ _ _
          refine wp_il1 jF_358_46 rfl rfl (pc2 := 47) ?_
          refine wp_al1 jF_358_47 rfl rfl (pc2 := 48) ?_
          refine wp_gi jF_358_48 kd117 (by decide) rfl rfl rfl (pc2 := 51) ?_
          refine wp_i_ge jF_358_51 (m_rgb h13 rfl) (m_rgb b22 rfl) rfl (pc2 := 54) ?_ ?_
          · intro h23
            refine wp_al1 jF_358_76 rfl rfl (pc2 := 77) ?_
            refine wp_cV (as := []) (rest := []) (a := 117) (mx := 7) (ci := 12) jF_358_77 kd117 (by decide) rfl rfl rfl rfl rfl (by omega) (by omega) rfl (pc2 := 80) ?_
            refine wp_use (m_282 τ14 g15   _ _ (by omega) (by omega)) ?_
            rintro _ _ ⟨z27, rfl, h28, rfl, p24⟩
            show WP 358 80 [(0, .ref 117), (1, iV 0), (2, iV to), (3, iV x12)] [iV z27] _ _ _ _
            refine wp_ri jF_358_80 (m_fitb (by omega) (by omega)) ?_
            exact ⟨z27, rfl, ⟨by omega, by omega⟩, g15, (FR.up (FR.w FR.rf f9 rfl) f16 sb_Wtr_Wtr), (by omega), (by have e0 : tp0 σ = σ.1 118 0 := rfl; have e2 := cpi_end (k := x12) (by omega) (by omega) p20; omega), (by have e0 : tp0 σ = σ.1 118 0 := rfl; have e2 := cpi_end (k := x12) (by omega) (by omega) p20; omega)⟩
          · intro h23
            refine wp_al1 jF_358_54 rfl rfl (pc2 := 55) ?_
            refine wp_gr (b := 149) jF_358_55 kd117 (by decide) (c := 249) rfl rfl rfl (pc2 := 58) ?_
            refine wp_il1 jF_358_58 rfl rfl (pc2 := 59) ?_
            refine wp_al1 jF_358_59 rfl rfl (pc2 := 60) ?_
            refine wp_gr (b := 118) jF_358_60 kd117 (by decide) (c := 218) rfl rfl rfl (pc2 := 63) ?_
            refine wp_il1 jF_358_63 rfl rfl (pc2 := 64) ?_
            refine wp_ic jF_358_64 rfl (pc2 := 65) ?_
            refine wp_addx (c := 1) jF_358_65 rfl rfl (pc2 := 66) ?_
            refine wp_il1 jF_358_66 rfl rfl (pc2 := 67) ?_
            refine wp_add jF_358_67 rfl (pc2 := 68) ?_
            have b29 := GI.b hg 118 (1 + x12).toNat kd118 (lo := 0) (hi := 255) rfl
            refine wp_iald (n := 1600) (e := (σ.1 118 (1 + x12).toNat)) jF_358_68 kd118 (by decide) rfl rfl (by omega) (by omega) ((FR.at f16 118 (1 + x12).toNat rfl).trans (FRw.na f9 (by decide))) rfl (pc2 := 69) ?_
            refine wp_iast (n := 64) jF_358_69 kd149 (by decide) rfl rfl (by omega) (by omega) rfl (pc2 := 70) g15 (lo := 0) (hi := 255) rfl (by omega) (by omega) ?_
            intro τ30 g31 f32 e33
            refine wp_inc (lv2 := [(0, .ref 117), (1, iV 0), (2, iV to), (3, iV (x12 + 1))]) jF_358_70 rfl rfl rfl rfl (pc2 := 73) ?_
            refine wp_go jF_358_73 ?_
            have q34 : (τ30.1 117 49) = (τ14.1 117 49) := (FRw.na f32 (by decide))
            exact ih21 ((x12 + 1)) τ30 ⟨⟨by omega, by omega⟩, g31, (FR.w f16 f32 rfl), (by omega), (by omega), (by omega), (Or.inr (by have e := e33; rw [show (x12 + 1 - 1 : Int) = x12 by omega, show (x12 + 1 : Int) = 1 + x12 by omega]; exact e))⟩ (by show Int.toNat (60 - (x12 + 1)) < Int.toNat (60 - x12); omega)
      · intro h6
        refine wp_ic jF_358_32 rfl (pc2 := 33) ?_
        refine wp_ri jF_358_33 rfl ?_
        have b35 := GI.b hg 117 49 kd117 (lo := 0) (hi := 61) rfl
        exact ⟨0, rfl, ⟨by omega, by omega⟩, hg, FR.rf, (by omega), (by have e0 : tp0 σ = σ.1 118 0 := rfl; omega), (by have e0 : tp0 σ = σ.1 118 0 := rfl; omega)⟩
set_option maxHeartbeats 4000000 in
set_option maxRecDepth 20000 in
/-- M.restore -/
theorem m_357 (σ : jM) (hg : GI σ)  (pre0 : (l0 σ) = 22) (pre1 : (l1 σ) = 22) (fr lo : Nat) (hfr : 3 ≤ fr) (hlo : 70 ≤ lo) : WP 357 0 (lv_args 0 [.ref 117]) [] fr lo σ (fun v τ => ∃ z : Int, v = some (iV z) ∧ (0 ≤ z ∧ z ≤ 1) ∧ GI τ ∧ FR Wrs σ τ ∧ ((l0 τ) = 22) ∧ ((l1 τ) = 22)) := by
  show WP 357 0 [(0, .ref 117)] [] _ _ _ _
  refine wp_al1 jF_357_0 rfl rfl (pc2 := 1) ?_
  have b1 := GI.b hg 117 1 kd117 (lo := 0) (hi := 1600) rfl
  refine wp_gi jF_357_1 kd117 (by decide) rfl rfl rfl (pc2 := 4) ?_
  refine wp_is1 (lv2 := [(0, .ref 117), (1, iV (σ.1 117 1))]) jF_357_4 rfl rfl rfl (pc2 := 5) ?_
  refine wp_al1 jF_357_5 rfl rfl (pc2 := 6) ?_
  refine wp_ic jF_357_6 rfl (pc2 := 7) ?_
  refine wp_pi jF_357_7 kd117 (by decide) rfl rfl rfl (pc2 := 10) hg (lo := 0) (hi := 1600) rfl (by omega) (by omega) ?_
  intro τ2 g3 f4 e5
  refine wp_il1 jF_357_10 rfl rfl (pc2 := 11) ?_
  refine wp_ic jF_357_11 rfl (pc2 := 12) ?_
  refine wp_i_le jF_357_12 (m_rgb b1 rfl) (m_rgl rfl) rfl (pc2 := 15) ?_ ?_
  · intro h6
    refine wp_ic jF_357_49 rfl (pc2 := 50) ?_
    refine wp_is1 (lv2 := [(0, .ref 117), (1, iV (σ.1 117 1)), (2, iV 0)]) jF_357_50 rfl rfl rfl (pc2 := 51) ?_
    refine wp_il1 jF_357_51 rfl rfl (pc2 := 52) ?_
    refine wp_z_eq jF_357_52 (m_rgl rfl) rfl (pc2 := 55) ?_ ?_
    · intro h7
      refine wp_ic jF_357_66 rfl (pc2 := 67) ?_
      refine wp_is1 (lv2 := [(0, .ref 117), (1, iV (σ.1 117 1)), (2, iV 0), (3, iV 0)]) jF_357_67 rfl rfl rfl (pc2 := 68) ?_
      refine wp_il1 jF_357_68 rfl rfl (pc2 := 69) ?_
      refine wp_z_eq jF_357_69 (m_rgl rfl) rfl (pc2 := 72) ?_ ?_
      · intro h8
        refine wp_ic jF_357_99 rfl (pc2 := 100) ?_
        refine wp_is1 (lv2 := [(0, .ref 117), (1, iV (σ.1 117 1)), (2, iV 0), (3, iV 0)]) jF_357_100 rfl rfl rfl (pc2 := 101) ?_
        refine wp_il1 jF_357_101 rfl rfl (pc2 := 102) ?_
        refine wp_z_ne jF_357_102 (m_rgl rfl) rfl (pc2 := 105) ?_ ?_
        · intro h9; exfalso; omega
        · intro h9
          refine wp_al1 jF_357_105 rfl rfl (pc2 := 106) ?_
          refine wp_gr (b := 119) jF_357_106 kd117 (by decide) (c := 219) rfl rfl rfl (pc2 := 109) ?_
          refine wp_ic jF_357_109 rfl (pc2 := 110) ?_
          refine wp_du2 jF_357_110 rfl rfl (pc2 := 111) ?_
          have b10 := GI.b hg 119 5 kd119 (lo := (-2147483648)) (hi := 2147483647) rfl
          refine wp_iald (n := 6) (e := (σ.1 119 5)) jF_357_111 kd119 (by decide) rfl rfl (by omega) (by omega) (FRw.na f4 (by decide)) rfl (pc2 := 112) ?_
          refine wp_ic jF_357_112 rfl (pc2 := 113) ?_
          refine wp_any2 (pc2 := 114) jF_357_113 rfl rfl ?_
          intro z11 h12
          refine wp_iast (n := 6) jF_357_114 kd119 (by decide) rfl rfl (by omega) (by omega) rfl (pc2 := 115) g3 (lo := (-2147483648)) (hi := 2147483647) rfl (by omega) (by omega) ?_
          intro τ13 g14 f15 e16
          refine wp_ic jF_357_115 rfl (pc2 := 116) ?_
          refine wp_ri jF_357_116 rfl ?_
          have q17 : (l0 τ13) = (l0 σ) := ((l0_wr f15 (by decide)).trans (l0_wr f4 (by decide)))
          have q18 : (l1 τ13) = (l1 σ) := ((l1_wr f15 (by decide)).trans (l1_wr f4 (by decide)))
          exact ⟨0, rfl, ⟨by omega, by omega⟩, g14, (FR.w (FR.w FR.rf f4 rfl) f15 rfl), (by omega), (by omega)⟩
      · intro h8; exfalso; omega
    · intro h7; exfalso; omega
  · intro h6
    refine wp_al1 jF_357_15 rfl rfl (pc2 := 16) ?_
    refine wp_gr (b := 118) jF_357_16 kd117 (by decide) (c := 218) rfl rfl rfl (pc2 := 19) ?_
    refine wp_il1 jF_357_19 rfl rfl (pc2 := 20) ?_
    refine wp_ic jF_357_20 rfl (pc2 := 21) ?_
    refine wp_sub jF_357_21 rfl (pc2 := 22) ?_
    have b19 := GI.b hg 118 ((σ.1 117 1) - 1).toNat kd118 (lo := 0) (hi := 255) rfl
    refine wp_iald (n := 1600) (e := (σ.1 118 ((σ.1 117 1) - 1).toNat)) jF_357_22 kd118 (by decide) rfl rfl (by omega) (by omega) (FRw.na f4 (by decide)) rfl (pc2 := 23) ?_
    refine wp_al1 jF_357_23 rfl rfl (pc2 := 24) ?_
    refine wp_gr (b := 118) jF_357_24 kd117 (by decide) (c := 218) rfl rfl rfl (pc2 := 27) ?_
    refine wp_il1 jF_357_27 rfl rfl (pc2 := 28) ?_
    refine wp_ic jF_357_28 rfl (pc2 := 29) ?_
    refine wp_sub jF_357_29 rfl (pc2 := 30) ?_
    refine wp_cS (as := [.ref 118, iV ((σ.1 117 1) - 1)]) (rest := [iV (σ.1 118 ((σ.1 117 1) - 1).toNat)]) (mx := 4) jF_357_30 rfl rfl rfl rfl (by omega) (by omega) rfl (pc2 := 33) ?_
    show WP 355 0 [(0, .ref 118), (1, iV ((σ.1 117 1) - 1))] [] _ _ _ _
    refine wp_bi jF_355_0 (by decide) rfl (pc2 := 2) ?_
    refine wp_is1 (lv2 := [(0, .ref 118), (1, iV ((σ.1 117 1) - 1)), (2, iV 101)]) jF_355_2 rfl rfl rfl (pc2 := 3) ?_
    refine wp_ic jF_355_3 rfl (pc2 := 4) ?_
    refine wp_is1 (lv2 := [(0, .ref 118), (1, iV ((σ.1 117 1) - 1)), (2, iV 101), (3, iV 0)]) jF_355_4 rfl rfl rfl (pc2 := 5) ?_
    refine wp_loop (α := Int × Int) (fun a => [(0, .ref 118), (1, iV ((σ.1 117 1) - 1)), (2, iV (a.1)), (3, iV (a.2))]) (fun a τ => ((-2147483648) ≤ a.1 ∧ a.1 ≤ 2147483647) ∧ (0 ≤ a.2 ∧ a.2 ≤ 1600) ∧ τ2 = τ) (fun a τ => Int.toNat (((σ.1 117 1) - 1) - (a.2))) (101, 0) τ2 ?_ ?_
    · skip
      exact ⟨⟨by (try dsimp only); omega, by (try dsimp only); omega⟩, ⟨by (try dsimp only); omega, by (try dsimp only); omega⟩, rfl⟩
    · rintro ⟨x20, x21⟩ _ ⟨h22, h23, rfl⟩ ih27
      try dsimp only at h22 h23
      show WP 355 5 [(0, .ref 118), (1, iV ((σ.1 117 1) - 1)), (2, iV x20), (3, iV x21)] [] _ _ _ _
      show WP 355 5 [(0, .ref 118), (1, iV ((σ.1 117 1) - 1)), (2, iV x20), (3, iV x21)] [] _ _ _ _
      refine wp_il1 jF_355_5 rfl rfl (pc2 := 6) ?_
      refine wp_il1 jF_355_6 rfl rfl (pc2 := 7) ?_
      refine wp_i_ge jF_355_7 (m_rgb h23 rfl) ⟨by omega, by omega⟩ rfl (pc2 := 10) ?_ ?_
      · intro h28
        refine wp_il1 jF_355_28 rfl rfl (pc2 := 29) ?_
        refine wp_ri jF_355_29 rfl ?_
        show WP 357 33 [(0, .ref 117), (1, iV (σ.1 117 1))] [iV x20, iV (σ.1 118 ((σ.1 117 1) - 1).toNat)] _ _ _ _
        refine wp_i_ne jF_357_33 (m_rgb b19 rfl) (m_rgb h22 rfl) rfl (pc2 := 36) ?_ ?_
        · intro h29
          refine wp_ic jF_357_49 rfl (pc2 := 50) ?_
          refine wp_is1 (lv2 := [(0, .ref 117), (1, iV (σ.1 117 1)), (2, iV 0)]) jF_357_50 rfl rfl rfl (pc2 := 51) ?_
          refine wp_il1 jF_357_51 rfl rfl (pc2 := 52) ?_
          refine wp_z_eq jF_357_52 (m_rgl rfl) rfl (pc2 := 55) ?_ ?_
          · intro h30
            refine wp_ic jF_357_66 rfl (pc2 := 67) ?_
            refine wp_is1 (lv2 := [(0, .ref 117), (1, iV (σ.1 117 1)), (2, iV 0), (3, iV 0)]) jF_357_67 rfl rfl rfl (pc2 := 68) ?_
            refine wp_il1 jF_357_68 rfl rfl (pc2 := 69) ?_
            refine wp_z_eq jF_357_69 (m_rgl rfl) rfl (pc2 := 72) ?_ ?_
            · intro h31
              refine wp_ic jF_357_99 rfl (pc2 := 100) ?_
              refine wp_is1 (lv2 := [(0, .ref 117), (1, iV (σ.1 117 1)), (2, iV 0), (3, iV 0)]) jF_357_100 rfl rfl rfl (pc2 := 101) ?_
              refine wp_il1 jF_357_101 rfl rfl (pc2 := 102) ?_
              refine wp_z_ne jF_357_102 (m_rgl rfl) rfl (pc2 := 105) ?_ ?_
              · intro h32; exfalso; omega
              · intro h32
                refine wp_al1 jF_357_105 rfl rfl (pc2 := 106) ?_
                refine wp_gr (b := 119) jF_357_106 kd117 (by decide) (c := 219) rfl rfl rfl (pc2 := 109) ?_
                refine wp_ic jF_357_109 rfl (pc2 := 110) ?_
                refine wp_du2 jF_357_110 rfl rfl (pc2 := 111) ?_
                have b33 := GI.b hg 119 5 kd119 (lo := (-2147483648)) (hi := 2147483647) rfl
                refine wp_iald (n := 6) (e := (σ.1 119 5)) jF_357_111 kd119 (by decide) rfl rfl (by omega) (by omega) (FRw.na f4 (by decide)) rfl (pc2 := 112) ?_
                refine wp_ic jF_357_112 rfl (pc2 := 113) ?_
                refine wp_any2 (pc2 := 114) jF_357_113 rfl rfl ?_
                intro z34 h35
                refine wp_iast (n := 6) jF_357_114 kd119 (by decide) rfl rfl (by omega) (by omega) rfl (pc2 := 115) g3 (lo := (-2147483648)) (hi := 2147483647) rfl (by omega) (by omega) ?_
                intro τ36 g37 f38 e39
                refine wp_ic jF_357_115 rfl (pc2 := 116) ?_
                refine wp_ri jF_357_116 rfl ?_
                have q40 : (l0 τ36) = (l0 σ) := ((l0_wr f38 (by decide)).trans (l0_wr f4 (by decide)))
                have q41 : (l1 τ36) = (l1 σ) := ((l1_wr f38 (by decide)).trans (l1_wr f4 (by decide)))
                exact ⟨0, rfl, ⟨by omega, by omega⟩, g37, (FR.w (FR.w FR.rf f4 rfl) f38 rfl), (by omega), (by omega)⟩
            · intro h31; exfalso; omega
          · intro h30; exfalso; omega
        · intro h29
          refine wp_al1 jF_357_36 rfl rfl (pc2 := 37) ?_
          refine wp_ic jF_357_37 rfl (pc2 := 38) ?_
          refine wp_il1 jF_357_38 rfl rfl (pc2 := 39) ?_
          refine wp_cV (as := [iV 0, iV (σ.1 117 1)]) (rest := []) (a := 117) (mx := 4) (ci := 12) jF_357_39 kd117 (by decide) rfl rfl rfl rfl rfl (by omega) (by omega) rfl (pc2 := 42) ?_
          have q42 : (tp0 τ2) = (tp0 σ) := (tp0_wr f4 (by decide))
          have q43 : (tt0 τ2) = (tt0 σ) := (tt0_wr f4 (by decide))
          refine wp_use (m_358_0 τ2 g3 (σ.1 117 1) (by omega) (by omega)  _ _ (by omega) (by omega)) ?_
          rintro _ τ47 ⟨z50, rfl, h51, g48, f49, p44, p45, p46⟩
          show WP 357 42 [(0, .ref 117), (1, iV (σ.1 117 1))] [iV z50] _ _ _ _
          refine wp_z_eq jF_357_42 (m_rgb h51 rfl) rfl (pc2 := 45) ?_ ?_
          · intro h52
            clear p44
            clear p45
            refine wp_ic jF_357_49 rfl (pc2 := 50) ?_
            refine wp_is1 (lv2 := [(0, .ref 117), (1, iV (σ.1 117 1)), (2, iV 0)]) jF_357_50 rfl rfl rfl (pc2 := 51) ?_
            refine wp_il1 jF_357_51 rfl rfl (pc2 := 52) ?_
            refine wp_z_eq jF_357_52 (m_rgl rfl) rfl (pc2 := 55) ?_ ?_
            · intro h53
              refine wp_ic jF_357_66 rfl (pc2 := 67) ?_
              refine wp_is1 (lv2 := [(0, .ref 117), (1, iV (σ.1 117 1)), (2, iV 0), (3, iV 0)]) jF_357_67 rfl rfl rfl (pc2 := 68) ?_
              refine wp_il1 jF_357_68 rfl rfl (pc2 := 69) ?_
              refine wp_z_eq jF_357_69 (m_rgl rfl) rfl (pc2 := 72) ?_ ?_
              · intro h54
                refine wp_ic jF_357_99 rfl (pc2 := 100) ?_
                refine wp_is1 (lv2 := [(0, .ref 117), (1, iV (σ.1 117 1)), (2, iV 0), (3, iV 0)]) jF_357_100 rfl rfl rfl (pc2 := 101) ?_
                refine wp_il1 jF_357_101 rfl rfl (pc2 := 102) ?_
                refine wp_z_ne jF_357_102 (m_rgl rfl) rfl (pc2 := 105) ?_ ?_
                · intro h55; exfalso; omega
                · intro h55
                  refine wp_al1 jF_357_105 rfl rfl (pc2 := 106) ?_
                  refine wp_gr (b := 119) jF_357_106 kd117 (by decide) (c := 219) rfl rfl rfl (pc2 := 109) ?_
                  refine wp_ic jF_357_109 rfl (pc2 := 110) ?_
                  refine wp_du2 jF_357_110 rfl rfl (pc2 := 111) ?_
                  have b56 := GI.b hg 119 5 kd119 (lo := (-2147483648)) (hi := 2147483647) rfl
                  refine wp_iald (n := 6) (e := (σ.1 119 5)) jF_357_111 kd119 (by decide) rfl rfl (by omega) (by omega) ((FR.at f49 119 5 rfl).trans (FRw.na f4 (by decide))) rfl (pc2 := 112) ?_
                  refine wp_ic jF_357_112 rfl (pc2 := 113) ?_
                  refine wp_any2 (pc2 := 114) jF_357_113 rfl rfl ?_
                  intro z57 h58
                  refine wp_iast (n := 6) jF_357_114 kd119 (by decide) rfl rfl (by omega) (by omega) rfl (pc2 := 115) g48 (lo := (-2147483648)) (hi := 2147483647) rfl (by omega) (by omega) ?_
                  intro τ59 g60 f61 e62
                  refine wp_ic jF_357_115 rfl (pc2 := 116) ?_
                  refine wp_ri jF_357_116 rfl ?_
                  have q63 : (l0 τ59) = (l0 σ) := ((l0_wr f61 (by decide)).trans ((l0_fr f49 rfl (fun _ => rfl)).trans (l0_wr f4 (by decide))))
                  have q64 : (l1 τ59) = (l1 σ) := ((l1_wr f61 (by decide)).trans ((l1_fr f49 rfl (fun _ => rfl)).trans (l1_wr f4 (by decide))))
                  exact ⟨0, rfl, ⟨by omega, by omega⟩, g60, (FR.w (FR.up (FR.w FR.rf f4 rfl) f49 sb_Wtr_Wrs) f61 rfl), (by omega), (by omega)⟩
              · intro h54; exfalso; omega
            · intro h53; exfalso; omega
          · intro h52
            replace p44 := p44 (by omega)
            replace p45 := p45 (by omega)
            refine wp_ic jF_357_45 rfl (pc2 := 46) ?_
            refine wp_go jF_357_46 ?_
            refine wp_is1 (lv2 := [(0, .ref 117), (1, iV (σ.1 117 1)), (2, iV 1)]) jF_357_50 rfl rfl rfl (pc2 := 51) ?_
            refine wp_il1 jF_357_51 rfl rfl (pc2 := 52) ?_
            refine wp_z_eq jF_357_52 (m_rgl rfl) rfl (pc2 := 55) ?_ ?_
            · intro h65; exfalso; omega
            · intro h65
              refine wp_al1 jF_357_55 rfl rfl (pc2 := 56) ?_
              refine wp_gr (b := 118) jF_357_56 kd117 (by decide) (c := 218) rfl rfl rfl (pc2 := 59) ?_
              refine wp_ic jF_357_59 rfl (pc2 := 60) ?_
              have b66 := GI.b hg 118 0 kd118 (lo := 0) (hi := 255) rfl
              refine wp_iald (n := 1600) (e := (σ.1 118 0)) jF_357_60 kd118 (by decide) rfl rfl (by omega) (by omega) ((FR.at f49 118 0 rfl).trans (FRw.na f4 (by decide))) rfl (pc2 := 61) ?_
              refine wp_ic jF_357_61 rfl (pc2 := 62) ?_
              refine wp_add jF_357_62 rfl (pc2 := 63) ?_
              refine wp_go jF_357_63 ?_
              refine wp_is1 (lv2 := [(0, .ref 117), (1, iV (σ.1 117 1)), (2, iV 1), (3, iV ((σ.1 118 0) + 1))]) jF_357_67 rfl rfl rfl (pc2 := 68) ?_
              refine wp_il1 jF_357_68 rfl rfl (pc2 := 69) ?_
              refine wp_z_eq jF_357_69 (m_rgl rfl) rfl (pc2 := 72) ?_ ?_
              · intro h67; exfalso; omega
              · intro h67
                refine wp_al1 jF_357_72 rfl rfl (pc2 := 73) ?_
                refine wp_il1 jF_357_73 rfl rfl (pc2 := 74) ?_
                refine wp_il1 jF_357_74 rfl rfl (pc2 := 75) ?_
                refine wp_cV (as := [iV ((σ.1 118 0) + 1), iV (σ.1 117 1)]) (rest := []) (a := 117) (mx := 4) (ci := 12) jF_357_75 kd117 (by decide) rfl rfl rfl rfl rfl (by omega) (by omega) rfl (pc2 := 78) ?_
                refine wp_use (m_358 τ47 g48 ((σ.1 118 0) + 1) (by omega) (by omega) (σ.1 117 1) (by omega) (by omega)  _ _ (by omega) (by omega)) ?_
                rintro _ τ69 ⟨z72, rfl, h73, g70, f71, p68⟩
                show WP 357 78 [(0, .ref 117), (1, iV (σ.1 117 1)), (2, iV 1), (3, iV ((σ.1 118 0) + 1))] [iV z72] _ _ _ _
                refine wp_z_eq jF_357_78 (m_rgb h73 rfl) rfl (pc2 := 81) ?_ ?_
                · intro h74
                  clear p68
                  refine wp_ic jF_357_99 rfl (pc2 := 100) ?_
                  refine wp_is1 (lv2 := [(0, .ref 117), (1, iV (σ.1 117 1)), (2, iV 0), (3, iV ((σ.1 118 0) + 1))]) jF_357_100 rfl rfl rfl (pc2 := 101) ?_
                  refine wp_il1 jF_357_101 rfl rfl (pc2 := 102) ?_
                  refine wp_z_ne jF_357_102 (m_rgl rfl) rfl (pc2 := 105) ?_ ?_
                  · intro h75; exfalso; omega
                  · intro h75
                    refine wp_al1 jF_357_105 rfl rfl (pc2 := 106) ?_
                    refine wp_gr (b := 119) jF_357_106 kd117 (by decide) (c := 219) rfl rfl rfl (pc2 := 109) ?_
                    refine wp_ic jF_357_109 rfl (pc2 := 110) ?_
                    refine wp_du2 jF_357_110 rfl rfl (pc2 := 111) ?_
                    have b76 := GI.b hg 119 5 kd119 (lo := (-2147483648)) (hi := 2147483647) rfl
                    refine wp_iald (n := 6) (e := (σ.1 119 5)) jF_357_111 kd119 (by decide) rfl rfl (by omega) (by omega) ((FR.at f71 119 5 rfl).trans ((FR.at f49 119 5 rfl).trans (FRw.na f4 (by decide)))) rfl (pc2 := 112) ?_
                    refine wp_ic jF_357_112 rfl (pc2 := 113) ?_
                    refine wp_any2 (pc2 := 114) jF_357_113 rfl rfl ?_
                    intro z77 h78
                    refine wp_iast (n := 6) jF_357_114 kd119 (by decide) rfl rfl (by omega) (by omega) rfl (pc2 := 115) g70 (lo := (-2147483648)) (hi := 2147483647) rfl (by omega) (by omega) ?_
                    intro τ79 g80 f81 e82
                    refine wp_ic jF_357_115 rfl (pc2 := 116) ?_
                    refine wp_ri jF_357_116 rfl ?_
                    have q83 : (l0 τ79) = (l0 σ) := ((l0_wr f81 (by decide)).trans ((l0_fr f71 rfl (fun _ => rfl)).trans ((l0_fr f49 rfl (fun _ => rfl)).trans (l0_wr f4 (by decide)))))
                    have q84 : (l1 τ79) = (l1 σ) := ((l1_wr f81 (by decide)).trans ((l1_fr f71 rfl (fun _ => rfl)).trans ((l1_fr f49 rfl (fun _ => rfl)).trans (l1_wr f4 (by decide)))))
                    exact ⟨0, rfl, ⟨by omega, by omega⟩, g80, (FR.w (FR.up (FR.up (FR.w FR.rf f4 rfl) f49 sb_Wtr_Wrs) f71 sb_Wtr_Wrs) f81 rfl), (by omega), (by omega)⟩
                · intro h74
                  replace p68 := p68 (by omega)
                  refine wp_il1 jF_357_81 rfl rfl (pc2 := 82) ?_
                  refine wp_al1 jF_357_82 rfl rfl (pc2 := 83) ?_
                  refine wp_gr (b := 118) jF_357_83 kd117 (by decide) (c := 218) rfl rfl rfl (pc2 := 86) ?_
                  refine wp_il1 jF_357_86 rfl rfl (pc2 := 87) ?_
                  have b85 := GI.b hg 118 ((σ.1 118 0) + 1).toNat kd118 (lo := 0) (hi := 255) rfl
                  refine wp_iald (n := 1600) (e := (σ.1 118 ((σ.1 118 0) + 1).toNat)) jF_357_87 kd118 (by decide) rfl rfl (by omega) (by omega) ((FR.at f71 118 ((σ.1 118 0) + 1).toNat rfl).trans ((FR.at f49 118 ((σ.1 118 0) + 1).toNat rfl).trans (FRw.na f4 (by decide)))) rfl (pc2 := 88) ?_
                  refine wp_add jF_357_88 rfl (pc2 := 89) ?_
                  refine wp_ic jF_357_89 rfl (pc2 := 90) ?_
                  refine wp_add jF_357_90 rfl (pc2 := 91) ?_
                  refine wp_il1 jF_357_91 rfl rfl (pc2 := 92) ?_
                  refine wp_i_ne jF_357_92 ⟨by omega, by omega⟩ ⟨by omega, by omega⟩ rfl (pc2 := 95) ?_ ?_
                  · intro h86
                    refine wp_ic jF_357_99 rfl (pc2 := 100) ?_
                    refine wp_is1 (lv2 := [(0, .ref 117), (1, iV (σ.1 117 1)), (2, iV 0), (3, iV ((σ.1 118 0) + 1))]) jF_357_100 rfl rfl rfl (pc2 := 101) ?_
                    refine wp_il1 jF_357_101 rfl rfl (pc2 := 102) ?_
                    refine wp_z_ne jF_357_102 (m_rgl rfl) rfl (pc2 := 105) ?_ ?_
                    · intro h87; exfalso; omega
                    · intro h87
                      refine wp_al1 jF_357_105 rfl rfl (pc2 := 106) ?_
                      refine wp_gr (b := 119) jF_357_106 kd117 (by decide) (c := 219) rfl rfl rfl (pc2 := 109) ?_
                      refine wp_ic jF_357_109 rfl (pc2 := 110) ?_
                      refine wp_du2 jF_357_110 rfl rfl (pc2 := 111) ?_
                      have b88 := GI.b hg 119 5 kd119 (lo := (-2147483648)) (hi := 2147483647) rfl
                      refine wp_iald (n := 6) (e := (σ.1 119 5)) jF_357_111 kd119 (by decide) rfl rfl (by omega) (by omega) ((FR.at f71 119 5 rfl).trans ((FR.at f49 119 5 rfl).trans (FRw.na f4 (by decide)))) rfl (pc2 := 112) ?_
                      refine wp_ic jF_357_112 rfl (pc2 := 113) ?_
                      refine wp_any2 (pc2 := 114) jF_357_113 rfl rfl ?_
                      intro z89 h90
                      refine wp_iast (n := 6) jF_357_114 kd119 (by decide) rfl rfl (by omega) (by omega) rfl (pc2 := 115) g70 (lo := (-2147483648)) (hi := 2147483647) rfl (by omega) (by omega) ?_
                      intro τ91 g92 f93 e94
                      refine wp_ic jF_357_115 rfl (pc2 := 116) ?_
                      refine wp_ri jF_357_116 rfl ?_
                      have q95 : (l0 τ91) = (l0 σ) := ((l0_wr f93 (by decide)).trans ((l0_fr f71 rfl (fun _ => rfl)).trans ((l0_fr f49 rfl (fun _ => rfl)).trans (l0_wr f4 (by decide)))))
                      have q96 : (l1 τ91) = (l1 σ) := ((l1_wr f93 (by decide)).trans ((l1_fr f71 rfl (fun _ => rfl)).trans ((l1_fr f49 rfl (fun _ => rfl)).trans (l1_wr f4 (by decide)))))
                      exact ⟨0, rfl, ⟨by omega, by omega⟩, g92, (FR.w (FR.up (FR.up (FR.w FR.rf f4 rfl) f49 sb_Wtr_Wrs) f71 sb_Wtr_Wrs) f93 rfl), (by omega), (by omega)⟩
                  · intro h86
                    refine wp_ic jF_357_95 rfl (pc2 := 96) ?_
                    refine wp_go jF_357_96 ?_
                    refine wp_is1 (lv2 := [(0, .ref 117), (1, iV (σ.1 117 1)), (2, iV 1), (3, iV ((σ.1 118 0) + 1))]) jF_357_100 rfl rfl rfl (pc2 := 101) ?_
                    refine wp_il1 jF_357_101 rfl rfl (pc2 := 102) ?_
                    refine wp_z_ne jF_357_102 (m_rgl rfl) rfl (pc2 := 105) ?_ ?_
                    · intro h97
                      refine wp_al1 jF_357_117 rfl rfl (pc2 := 118) ?_
                      refine wp_ic jF_357_118 rfl (pc2 := 119) ?_
                      refine wp_cV (as := [iV 1]) (rest := []) (a := 117) (mx := 3) (ci := 12) jF_357_119 kd117 (by decide) rfl rfl rfl rfl rfl (by omega) (by omega) rfl (pc2 := 122) ?_
                      have q98 : (l0 τ69) = (l0 σ) := ((l0_fr f71 rfl (fun _ => rfl)).trans ((l0_fr f49 rfl (fun _ => rfl)).trans (l0_wr f4 (by decide))))
                      have b99 := GI.b g70 117 49 kd117 (lo := 0) (hi := 61) rfl
                      have b100 := GI.b hg 148 0 kd148 (lo := 0) (hi := 60) rfl
                      have q101 : (τ69.1 148 0) = (σ.1 148 0) := ((FR.at f71 148 0 rfl).trans ((FR.at f49 148 0 rfl).trans (FRw.na f4 (by decide))))
                      refine wp_use (m_263_1 τ69 g70  (by omega) _ _ (by omega) (by omega)) ?_
                      rintro _ τ106 ⟨rfl, g107, f108, p102, p103, p104, p105⟩
                      show WP 357 122 [(0, .ref 117), (1, iV (σ.1 117 1)), (2, iV 1), (3, iV ((σ.1 118 0) + 1))] [] _ _ _ _
                      refine wp_al1 jF_357_122 rfl rfl (pc2 := 123) ?_
                      refine wp_ic jF_357_123 rfl (pc2 := 124) ?_
                      refine wp_il1 jF_357_124 rfl rfl (pc2 := 125) ?_
                      refine wp_cV (as := [iV 0, iV (σ.1 117 1)]) (rest := []) (a := 117) (mx := 4) (ci := 12) jF_357_125 kd117 (by decide) rfl rfl rfl rfl rfl (by omega) (by omega) rfl (pc2 := 128) ?_
                      have q109 : (tp0 τ106) = (tp0 σ) := ((tp0_fr f108 (fun _ => rfl)).trans ((tp0_fr f71 (fun _ => rfl)).trans ((tp0_fr f49 (fun _ => rfl)).trans (tp0_wr f4 (by decide)))))
                      have q110 : (tt0 τ106) = (tt0 σ) := ((tt0_fr f108 (fun _ => rfl)).trans ((tt0_fr f71 (fun _ => rfl)).trans ((tt0_fr f49 (fun _ => rfl)).trans (tt0_wr f4 (by decide)))))
                      refine wp_use (m_358_0 τ106 g107 (σ.1 117 1) (by omega) (by omega)  _ _ (by omega) (by omega)) ?_
                      rintro _ τ114 ⟨z117, rfl, h118, g115, f116, p111, p112, p113⟩
                      show WP 357 128 [(0, .ref 117), (1, iV (σ.1 117 1)), (2, iV 1), (3, iV ((σ.1 118 0) + 1))] [iV z117] _ _ _ _
                      refine wp_is1 (lv2 := [(0, .ref 117), (1, iV (σ.1 117 1)), (2, iV z117), (3, iV ((σ.1 118 0) + 1))]) jF_357_128 rfl rfl rfl (pc2 := 129) ?_
                      refine wp_al1 jF_357_129 rfl rfl (pc2 := 130) ?_
                      refine wp_ic jF_357_130 rfl (pc2 := 131) ?_
                      refine wp_cV (as := [iV 0]) (rest := []) (a := 117) (mx := 3) (ci := 12) jF_357_131 kd117 (by decide) rfl rfl rfl rfl rfl (by omega) (by omega) rfl (pc2 := 134) ?_
                      have q119 : (l1 τ114) = (l1 τ106) := (l1_fr f116 rfl (fun _ => rfl))
                      have b120 := GI.b g115 117 49 kd117 (lo := 0) (hi := 61) rfl
                      have b121 := GI.b g107 148 1 kd148 (lo := 0) (hi := 60) rfl
                      have q122 : (τ114.1 148 1) = (τ106.1 148 1) := (FR.at f116 148 1 rfl)
                      refine wp_use (m_263_0 τ114 g115  (by omega) _ _ (by omega) (by omega)) ?_
                      rintro _ τ127 ⟨rfl, g128, f129, p123, p124, p125, p126⟩
                      show WP 357 134 [(0, .ref 117), (1, iV (σ.1 117 1)), (2, iV z117), (3, iV ((σ.1 118 0) + 1))] [] _ _ _ _
                      refine wp_al1 jF_357_134 rfl rfl (pc2 := 135) ?_
                      refine wp_ic jF_357_135 rfl (pc2 := 136) ?_
                      refine wp_pi jF_357_136 kd117 (by decide) rfl rfl rfl (pc2 := 139) g128 (lo := 0) (hi := 20) rfl (by omega) (by omega) ?_
                      intro τ130 g131 f132 e133
                      refine wp_ic jF_357_139 rfl (pc2 := 140) ?_
                      refine wp_ri jF_357_140 rfl ?_
                      have q134 : (l0 τ130) = (l0 τ127) := (l0_wr f132 (by decide))
                      have q135 : (l1 τ130) = (l1 τ127) := (l1_wr f132 (by decide))
                      exact ⟨1, rfl, ⟨by omega, by omega⟩, g131, (FR.w (FR.up (FR.up (FR.up (FR.up (FR.up (FR.w FR.rf f4 rfl) f49 sb_Wtr_Wrs) f71 sb_Wtr_Wrs) f108 sb_Wla_Wrs) f116 sb_Wtr_Wrs) f129 sb_Wla_Wrs) f132 rfl), (by omega), (by omega)⟩
                    · intro h97; exfalso; omega
      · intro h28
        refine wp_ic jF_355_10 rfl (pc2 := 11) ?_
        refine wp_il1 jF_355_11 rfl rfl (pc2 := 12) ?_
        refine wp_any2 (pc2 := 13) jF_355_12 rfl rfl ?_
        intro z136 h137
        refine wp_al1 jF_355_13 rfl rfl (pc2 := 14) ?_
        refine wp_il1 jF_355_14 rfl rfl (pc2 := 15) ?_
        have b138 := GI.b hg 118 x21.toNat kd118 (lo := 0) (hi := 255) rfl
        refine wp_iald (n := 1600) (e := (σ.1 118 x21.toNat)) jF_355_15 kd118 (by decide) rfl rfl (by omega) (by omega) (FRw.na f4 (by decide)) rfl (pc2 := 16) ?_
        refine wp_any2 (pc2 := 17) jF_355_16 rfl rfl ?_
        intro z139 h140
        refine wp_si jF_355_17 (by decide) rfl (pc2 := 20) ?_
        refine wp_irema jF_355_20 (m_rgl rfl) (by omega) rfl (pc2 := 21) ?_
        intro z141 h142
        refine wp_is1 (lv2 := [(0, .ref 118), (1, iV ((σ.1 117 1) - 1)), (2, iV z141), (3, iV x21)]) jF_355_21 rfl rfl rfl (pc2 := 22) ?_
        refine wp_inc (lv2 := [(0, .ref 118), (1, iV ((σ.1 117 1) - 1)), (2, iV z141), (3, iV (x21 + 1))]) jF_355_22 rfl rfl rfl rfl (pc2 := 25) ?_
        refine wp_go jF_355_25 ?_
        exact ih27 (z141, (x21 + 1)) τ2 ⟨⟨by (try dsimp only); omega, by (try dsimp only); omega⟩, ⟨by (try dsimp only); omega, by (try dsimp only); omega⟩, rfl⟩ (by show Int.toNat (((σ.1 117 1) - 1) - (x21 + 1)) < Int.toNat (((σ.1 117 1) - 1) - x21); omega)
