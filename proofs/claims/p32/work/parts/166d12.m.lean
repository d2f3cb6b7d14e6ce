set_option maxHeartbeats 4000000 in
set_option maxRecDepth 20000 in
/-- Way.isOnTheWay -/
theorem m_150_r75 (σ : jM) (hg : GI σ) (num : Int) (hl_num : 0 ≤ num) (hu_num : num ≤ 2900) (left : Int) (hl_left : 0 ≤ left) (hu_left : left ≤ 2)  (fr lo : Nat) (hfr : 1 ≤ fr) (hlo : 21 ≤ lo) : WP 150 0 (lv_args 0 [.ref 75, iV num, iV left]) [] fr lo σ (fun v τ => ∃ z : Int, v = some (iV z) ∧ (0 ≤ z ∧ z ≤ 1) ∧ σ = τ) := by
  show WP 150 0 [(0, .ref 75), (1, iV num), (2, iV left)] [] _ _ _ _
  refine wp_il1 jF_150_0 rfl rfl (pc2 := 1) ?_
  refine wp_bi jF_150_1 (by decide) rfl (pc2 := 3) ?_
  refine wp_rem jF_150_3 ⟨by omega, by omega⟩ (by omega) (m_rgl rfl) (by omega) rfl (pc2 := 4) ?_
  refine wp_cS (as := [iV (num % 47)]) (rest := []) (mx := 1) jF_150_4 rfl rfl rfl rfl (by omega) (by omega) rfl (pc2 := 7) ?_
  show WP 107 0 [(0, iV (num % 47))] [] _ _ _ _
  refine wp_il1 jF_107_0 rfl rfl (pc2 := 1) ?_
  refine wp_bi jF_107_1 (by decide) rfl (pc2 := 3) ?_
  refine wp_i_lt jF_107_3 ⟨by omega, by omega⟩ (m_rgl rfl) rfl (pc2 := 6) ?_ ?_
  · intro h1
    refine wp_il1 jF_107_13 rfl rfl (pc2 := 14) ?_
    refine wp_ic jF_107_14 rfl (pc2 := 15) ?_
    refine wp_sub jF_107_15 rfl (pc2 := 16) ?_
    refine wp_ri jF_107_16 rfl ?_
    show WP 150 7 [(0, .ref 75), (1, iV num), (2, iV left)] [iV ((num % 47) - 1)] _ _ _ _
    refine wp_is1 (lv2 := [(0, .ref 75), (1, iV num), (2, iV left), (3, iV ((num % 47) - 1))]) jF_150_7 rfl rfl rfl (pc2 := 8) ?_
    refine wp_il1 jF_150_8 rfl rfl (pc2 := 9) ?_
    refine wp_ic jF_150_9 rfl (pc2 := 10) ?_
    refine wp_i_ne jF_150_10 ⟨by omega, by omega⟩ (m_rgl rfl) rfl (pc2 := 13) ?_ ?_
    · intro h2
      refine wp_il1 jF_150_15 rfl rfl (pc2 := 16) ?_
      refine wp_bi jF_150_16 (by decide) rfl (pc2 := 18) ?_
      refine wp_div jF_150_18 ⟨by omega, by omega⟩ (by omega) (m_rgl rfl) (by omega) rfl (pc2 := 19) ?_
      refine wp_is2 (lv2 := [(0, .ref 75), (1, iV num), (2, iV left), (3, iV ((num % 47) - 1)), (4, iV (num / 47))]) jF_150_19 rfl rfl rfl (pc2 := 21) ?_
      refine wp_ic jF_150_21 rfl (pc2 := 22) ?_
      refine wp_il2 jF_150_22 rfl rfl (pc2 := 24) ?_
      refine wp_il1 jF_150_24 rfl rfl (pc2 := 25) ?_
      refine wp_sub jF_150_25 rfl (pc2 := 26) ?_
      refine wp_cS (as := [iV 0, iV ((num / 47) - left)]) (rest := []) (mx := 2) jF_150_26 rfl rfl rfl rfl (by omega) (by omega) rfl (pc2 := 29) ?_
      refine wp_use (m_139_r σ hg 0 (by omega) (by omega) ((num / 47) - left) (by omega) (by omega)  _ _ (by omega) (by omega)) ?_
      rintro _ _ ⟨z8, rfl, h9, rfl, p3, p4, p5⟩
      show WP 150 29 [(0, .ref 75), (1, iV num), (2, iV left), (3, iV ((num % 47) - 1)), (4, iV (num / 47))] [iV z8] _ _ _ _
      refine wp_is2 (lv2 := [(0, .ref 75), (1, iV num), (2, iV left), (3, iV ((num % 47) - 1)), (4, iV (num / 47)), (5, iV z8)]) jF_150_29 rfl rfl rfl (pc2 := 31) ?_
      refine wp_loop (α := Int) (fun a => [(0, .ref 75), (1, iV num), (2, iV left), (3, iV ((num % 47) - 1)), (4, iV (num / 47)), (5, iV (a))]) (fun a τ => (0 ≤ a ∧ a ≤ 63) ∧ σ = τ ∧ ((a) ≥ 0)) (fun a τ => Int.toNat (63 - (a))) (z8) σ ?_ ?_
      · skip
        exact ⟨⟨by omega, by omega⟩, rfl, (by omega)⟩
      · rintro x10 _ ⟨h11, rfl, p15⟩ ih16
        show WP 150 31 [(0, .ref 75), (1, iV num), (2, iV left), (3, iV ((num % 47) - 1)), (4, iV (num / 47)), (5, iV x10)] [] _ _ _ _
        show WP 150 31 [(0, .ref 75), (1, iV num), (2, iV left), (3, iV ((num % 47) - 1)), (4, iV (num / 47)), (5, iV x10)] [] _ _ _ _
        refine wp_il2 jF_150_31 rfl rfl (pc2 := 33) ?_
        refine wp_il2 jF_150_33 rfl rfl (pc2 := 35) ?_
        refine wp_il1 jF_150_35 rfl rfl (pc2 := 36) ?_
        refine wp_add jF_150_36 rfl (pc2 := 37) ?_
        refine wp_i_gt jF_150_37 (m_rgb h11 rfl) ⟨by omega, by omega⟩ rfl (pc2 := 40) ?_ ?_
        · intro h17
          refine wp_ic jF_150_68 rfl (pc2 := 69) ?_
          refine wp_ri jF_150_69 rfl ?_
          exact ⟨0, rfl, ⟨by omega, by omega⟩, rfl⟩
        · intro h17
          refine wp_il2 jF_150_40 rfl rfl (pc2 := 42) ?_
          refine wp_al1 jF_150_42 rfl rfl (pc2 := 43) ?_
          have b18 := GI.b hg 75 1 kd75 (lo := 0) (hi := 60) rfl
          refine wp_gi jF_150_43 kd75 (by decide) rfl rfl rfl (pc2 := 46) ?_
          refine wp_i_ge jF_150_46 (m_rgb h11 rfl) (m_rgb b18 rfl) rfl (pc2 := 49) ?_ ?_
          · intro h19
            refine wp_ic jF_150_68 rfl (pc2 := 69) ?_
            refine wp_ri jF_150_69 rfl ?_
            exact ⟨0, rfl, ⟨by omega, by omega⟩, rfl⟩
          · intro h19
            refine wp_al1 jF_150_49 rfl rfl (pc2 := 50) ?_
            refine wp_gr (b := 76) jF_150_50 kd75 (by decide) (c := 4) rfl rfl rfl (pc2 := 53) ?_
            refine wp_il2 jF_150_53 rfl rfl (pc2 := 55) ?_
            have b20 := GI.b hg 76 x10.toNat kd76 (lo := 0) (hi := 255) rfl
            refine wp_iald (n := 60) (e := (σ.1 76 x10.toNat)) jF_150_55 kd76 (by decide) rfl rfl (by omega) (by omega) rfl rfl (pc2 := 56) ?_
            refine wp_il1 jF_150_56 rfl rfl (pc2 := 57) ?_
            refine wp_i_ne jF_150_57 (m_rgb b20 rfl) ⟨by omega, by omega⟩ rfl (pc2 := 60) ?_ ?_
            · intro h21
              refine wp_inc (lv2 := [(0, .ref 75), (1, iV num), (2, iV left), (3, iV ((num % 47) - 1)), (4, iV (num / 47)), (5, iV (x10 + 1))]) jF_150_62 rfl rfl rfl rfl (pc2 := 65) ?_
              refine wp_go jF_150_65 ?_
              exact ih16 ((x10 + 1)) σ ⟨⟨by omega, by omega⟩, rfl, (by omega)⟩ (by show Int.toNat (63 - (x10 + 1)) < Int.toNat (63 - x10); omega)
            · intro h21
              refine wp_ic jF_150_60 rfl (pc2 := 61) ?_
              refine wp_ri jF_150_61 rfl ?_
              exact ⟨1, rfl, ⟨by omega, by omega⟩, rfl⟩
    · intro h2
      refine wp_ic jF_150_13 rfl (pc2 := 14) ?_
      refine wp_ri jF_150_14 rfl ?_
      exact ⟨1, rfl, ⟨by omega, by omega⟩, rfl⟩
  · intro h1
    refine wp_il1 jF_107_6 rfl rfl (pc2 := 7) ?_
    refine wp_bi jF_107_7 (by decide) rfl (pc2 := 9) ?_
    refine wp_sub jF_107_9 rfl (pc2 := 10) ?_
    refine wp_go jF_107_10 ?_
    refine wp_ri jF_107_16 rfl ?_
    show WP 150 7 [(0, .ref 75), (1, iV num), (2, iV left)] [iV ((num % 47) - 24)] _ _ _ _
    refine wp_is1 (lv2 := [(0, .ref 75), (1, iV num), (2, iV left), (3, iV ((num % 47) - 24))]) jF_150_7 rfl rfl rfl (pc2 := 8) ?_
    refine wp_il1 jF_150_8 rfl rfl (pc2 := 9) ?_
    refine wp_ic jF_150_9 rfl (pc2 := 10) ?_
    refine wp_i_ne jF_150_10 ⟨by omega, by omega⟩ (m_rgl rfl) rfl (pc2 := 13) ?_ ?_
    · intro h22
      refine wp_il1 jF_150_15 rfl rfl (pc2 := 16) ?_
      refine wp_bi jF_150_16 (by decide) rfl (pc2 := 18) ?_
      refine wp_div jF_150_18 ⟨by omega, by omega⟩ (by omega) (m_rgl rfl) (by omega) rfl (pc2 := 19) ?_
      refine wp_is2 (lv2 := [(0, .ref 75), (1, iV num), (2, iV left), (3, iV ((num % 47) - 24)), (4, iV (num / 47))]) jF_150_19 rfl rfl rfl (pc2 := 21) ?_
      refine wp_ic jF_150_21 rfl (pc2 := 22) ?_
      refine wp_il2 jF_150_22 rfl rfl (pc2 := 24) ?_
      refine wp_il1 jF_150_24 rfl rfl (pc2 := 25) ?_
      refine wp_sub jF_150_25 rfl (pc2 := 26) ?_
      refine wp_cS (as := [iV 0, iV ((num / 47) - left)]) (rest := []) (mx := 2) jF_150_26 rfl rfl rfl rfl (by omega) (by omega) rfl (pc2 := 29) ?_
      refine wp_use (m_139_r σ hg 0 (by omega) (by omega) ((num / 47) - left) (by omega) (by omega)  _ _ (by omega) (by omega)) ?_
      rintro _ _ ⟨z28, rfl, h29, rfl, p23, p24, p25⟩
      show WP 150 29 [(0, .ref 75), (1, iV num), (2, iV left), (3, iV ((num % 47) - 24)), (4, iV (num / 47))] [iV z28] _ _ _ _
      refine wp_is2 (lv2 := [(0, .ref 75), (1, iV num), (2, iV left), (3, iV ((num % 47) - 24)), (4, iV (num / 47)), (5, iV z28)]) jF_150_29 rfl rfl rfl (pc2 := 31) ?_
      refine wp_loop (α := Int) (fun a => [(0, .ref 75), (1, iV num), (2, iV left), (3, iV ((num % 47) - 24)), (4, iV (num / 47)), (5, iV (a))]) (fun a τ => (0 ≤ a ∧ a ≤ 63) ∧ σ = τ ∧ ((a) ≥ 0)) (fun a τ => Int.toNat (63 - (a))) (z28) σ ?_ ?_
      · skip
        exact ⟨⟨by omega, by omega⟩, rfl, (by omega)⟩
      · rintro x30 _ ⟨h31, rfl, p35⟩ ih36
        show WP 150 31 [(0, .ref 75), (1, iV num), (2, iV left), (3, iV ((num % 47) - 24)), (4, iV (num / 47)), (5, iV x30)] [] _ _ _ _
        show WP 150 31 [(0, .ref 75), (1, iV num), (2, iV left), (3, iV ((num % 47) - 24)), (4, iV (num / 47)), (5, iV x30)] [] _ _ _ _
        refine wp_il2 jF_150_31 rfl rfl (pc2 := 33) ?_
        refine wp_il2 jF_150_33 rfl rfl (pc2 := 35) ?_
        refine wp_il1 jF_150_35 rfl rfl (pc2 := 36) ?_
        refine wp_add jF_150_36 rfl (pc2 := 37) ?_
        refine wp_i_gt jF_150_37 (m_rgb h31 rfl) ⟨by omega, by omega⟩ rfl (pc2 := 40) ?_ ?_
        · intro h37
          refine wp_ic jF_150_68 rfl (pc2 := 69) ?_
          refine wp_ri jF_150_69 rfl ?_
          exact ⟨0, rfl, ⟨by omega, by omega⟩, rfl⟩
        · intro h37
          refine wp_il2 jF_150_40 rfl rfl (pc2 := 42) ?_
          refine wp_al1 jF_150_42 rfl rfl (pc2 := 43) ?_
          have b38 := GI.b hg 75 1 kd75 (lo := 0) (hi := 60) rfl
          refine wp_gi jF_150_43 kd75 (by decide) rfl rfl rfl (pc2 := 46) ?_
          refine wp_i_ge jF_150_46 (m_rgb h31 rfl) (m_rgb b38 rfl) rfl (pc2 := 49) ?_ ?_
          · intro h39
            refine wp_ic jF_150_68 rfl (pc2 := 69) ?_
            refine wp_ri jF_150_69 rfl ?_
            exact ⟨0, rfl, ⟨by omega, by omega⟩, rfl⟩
          · intro h39
            refine wp_al1 jF_150_49 rfl rfl (pc2 := 50) ?_
            refine wp_gr (b := 76) jF_150_50 kd75 (by decide) (c := 4) rfl rfl rfl (pc2 := 53) ?_
            refine wp_il2 jF_150_53 rfl rfl (pc2 := 55) ?_
            have b40 := GI.b hg 76 x30.toNat kd76 (lo := 0) (hi := 255) rfl
            refine wp_iald (n := 60) (e := (σ.1 76 x30.toNat)) jF_150_55 kd76 (by decide) rfl rfl (by omega) (by omega) rfl rfl (pc2 := 56) ?_
            refine wp_il1 jF_150_56 rfl rfl (pc2 := 57) ?_
            refine wp_i_ne jF_150_57 (m_rgb b40 rfl) ⟨by omega, by omega⟩ rfl (pc2 := 60) ?_ ?_
            · intro h41
              refine wp_inc (lv2 := [(0, .ref 75), (1, iV num), (2, iV left), (3, iV ((num % 47) - 24)), (4, iV (num / 47)), (5, iV (x30 + 1))]) jF_150_62 rfl rfl rfl rfl (pc2 := 65) ?_
              refine wp_go jF_150_65 ?_
              exact ih36 ((x30 + 1)) σ ⟨⟨by omega, by omega⟩, rfl, (by omega)⟩ (by show Int.toNat (63 - (x30 + 1)) < Int.toNat (63 - x30); omega)
            · intro h41
              refine wp_ic jF_150_60 rfl (pc2 := 61) ?_
              refine wp_ri jF_150_61 rfl ?_
              exact ⟨1, rfl, ⟨by omega, by omega⟩, rfl⟩
    · intro h22; exfalso; omega
set_option maxHeartbeats 4000000 in
set_option maxRecDepth 20000 in
/-- Way.leads -/
theorem m_149_r102_20_104_75_n1 (σ : jM) (hg : GI σ)   (fr lo : Nat) (hfr : 0 ≤ fr) (hlo : 0 ≤ lo) : WP 149 0 (lv_args 0 [.ref 102, .ref 20, .ref 104, .ref 75, iV 1]) [] fr lo σ (fun v τ => ∃ z : Int, v = some (iV z) ∧ (0 ≤ z ∧ z ≤ 1) ∧ σ = τ) := by
  show WP 149 0 [(0, .ref 102), (1, .ref 20), (2, .ref 104), (3, .ref 75), (4, iV 1)] [] _ _ _ _
  refine wp_il2 jF_149_0 rfl rfl (pc2 := 2) ?_
  refine wp_ic jF_149_2 rfl (pc2 := 3) ?_
  refine wp_i_le jF_149_3 (m_rgl rfl) (m_rgl rfl) rfl (pc2 := 6) ?_ ?_
  · intro h1
    refine wp_il2 jF_149_12 rfl rfl (pc2 := 14) ?_
    refine wp_ic jF_149_14 rfl (pc2 := 15) ?_
    refine wp_i_ne jF_149_15 (m_rgl rfl) (m_rgl rfl) rfl (pc2 := 18) ?_ ?_
    · intro h2; exfalso; omega
    · intro h2
      refine wp_ic jF_149_18 rfl (pc2 := 19) ?_
      refine wp_go jF_149_19 ?_
      refine wp_ri jF_149_23 rfl ?_
      exact ⟨1, rfl, ⟨by omega, by omega⟩, rfl⟩
  · intro h1; exfalso; omega
set_option maxHeartbeats 4000000 in
set_option maxRecDepth 20000 in
/-- Way.leads -/
theorem m_149_r102_45_104_75_n1 (σ : jM) (hg : GI σ)   (fr lo : Nat) (hfr : 0 ≤ fr) (hlo : 0 ≤ lo) : WP 149 0 (lv_args 0 [.ref 102, .ref 45, .ref 104, .ref 75, iV 1]) [] fr lo σ (fun v τ => ∃ z : Int, v = some (iV z) ∧ (0 ≤ z ∧ z ≤ 1) ∧ σ = τ) := by
  show WP 149 0 [(0, .ref 102), (1, .ref 45), (2, .ref 104), (3, .ref 75), (4, iV 1)] [] _ _ _ _
  refine wp_il2 jF_149_0 rfl rfl (pc2 := 2) ?_
  refine wp_ic jF_149_2 rfl (pc2 := 3) ?_
  refine wp_i_le jF_149_3 (m_rgl rfl) (m_rgl rfl) rfl (pc2 := 6) ?_ ?_
  · intro h1
    refine wp_il2 jF_149_12 rfl rfl (pc2 := 14) ?_
    refine wp_ic jF_149_14 rfl (pc2 := 15) ?_
    refine wp_i_ne jF_149_15 (m_rgl rfl) (m_rgl rfl) rfl (pc2 := 18) ?_ ?_
    · intro h2; exfalso; omega
    · intro h2
      refine wp_ic jF_149_18 rfl (pc2 := 19) ?_
      refine wp_go jF_149_19 ?_
      refine wp_ri jF_149_23 rfl ?_
      exact ⟨1, rfl, ⟨by omega, by omega⟩, rfl⟩
  · intro h1; exfalso; omega
set_option maxHeartbeats 4000000 in
set_option maxRecDepth 20000 in
/-- Way.leads -/
theorem m_149_r102_20_70_75_n1 (σ : jM) (hg : GI σ)   (fr lo : Nat) (hfr : 0 ≤ fr) (hlo : 0 ≤ lo) : WP 149 0 (lv_args 0 [.ref 102, .ref 20, .ref 70, .ref 75, iV 1]) [] fr lo σ (fun v τ => ∃ z : Int, v = some (iV z) ∧ (0 ≤ z ∧ z ≤ 1) ∧ σ = τ) := by
  show WP 149 0 [(0, .ref 102), (1, .ref 20), (2, .ref 70), (3, .ref 75), (4, iV 1)] [] _ _ _ _
  refine wp_il2 jF_149_0 rfl rfl (pc2 := 2) ?_
  refine wp_ic jF_149_2 rfl (pc2 := 3) ?_
  refine wp_i_le jF_149_3 (m_rgl rfl) (m_rgl rfl) rfl (pc2 := 6) ?_ ?_
  · intro h1
    refine wp_il2 jF_149_12 rfl rfl (pc2 := 14) ?_
    refine wp_ic jF_149_14 rfl (pc2 := 15) ?_
    refine wp_i_ne jF_149_15 (m_rgl rfl) (m_rgl rfl) rfl (pc2 := 18) ?_ ?_
    · intro h2; exfalso; omega
    · intro h2
      refine wp_ic jF_149_18 rfl (pc2 := 19) ?_
      refine wp_go jF_149_19 ?_
      refine wp_ri jF_149_23 rfl ?_
      exact ⟨1, rfl, ⟨by omega, by omega⟩, rfl⟩
  · intro h1; exfalso; omega
set_option maxHeartbeats 4000000 in
set_option maxRecDepth 20000 in
/-- Way.leads -/
theorem m_149_r102_45_70_75_n1 (σ : jM) (hg : GI σ)   (fr lo : Nat) (hfr : 0 ≤ fr) (hlo : 0 ≤ lo) : WP 149 0 (lv_args 0 [.ref 102, .ref 45, .ref 70, .ref 75, iV 1]) [] fr lo σ (fun v τ => ∃ z : Int, v = some (iV z) ∧ (0 ≤ z ∧ z ≤ 1) ∧ σ = τ) := by
  show WP 149 0 [(0, .ref 102), (1, .ref 45), (2, .ref 70), (3, .ref 75), (4, iV 1)] [] _ _ _ _
  refine wp_il2 jF_149_0 rfl rfl (pc2 := 2) ?_
  refine wp_ic jF_149_2 rfl (pc2 := 3) ?_
  refine wp_i_le jF_149_3 (m_rgl rfl) (m_rgl rfl) rfl (pc2 := 6) ?_ ?_
  · intro h1
    refine wp_il2 jF_149_12 rfl rfl (pc2 := 14) ?_
    refine wp_ic jF_149_14 rfl (pc2 := 15) ?_
    refine wp_i_ne jF_149_15 (m_rgl rfl) (m_rgl rfl) rfl (pc2 := 18) ?_ ?_
    · intro h2; exfalso; omega
    · intro h2
      refine wp_ic jF_149_18 rfl (pc2 := 19) ?_
      refine wp_go jF_149_19 ?_
      refine wp_ri jF_149_23 rfl ?_
      exact ⟨1, rfl, ⟨by omega, by omega⟩, rfl⟩
  · intro h1; exfalso; omega
set_option maxHeartbeats 4000000 in
set_option maxRecDepth 20000 in
/-- Way.leads -/
theorem m_149_r102_20_109_75_n2 (σ : jM) (hg : GI σ)   (fr lo : Nat) (hfr : 4 ≤ fr) (hlo : 130 ≤ lo) : WP 149 0 (lv_args 0 [.ref 102, .ref 20, .ref 109, .ref 75, iV 2]) [] fr lo σ (fun v τ => ∃ z : Int, v = some (iV z) ∧ (0 ≤ z ∧ z ≤ 1) ∧ GI τ ∧ FR WY1 σ τ) := by
  show WP 149 0 [(0, .ref 102), (1, .ref 20), (2, .ref 109), (3, .ref 75), (4, iV 2)] [] _ _ _ _
  refine wp_il2 jF_149_0 rfl rfl (pc2 := 2) ?_
  refine wp_ic jF_149_2 rfl (pc2 := 3) ?_
  refine wp_i_le jF_149_3 (m_rgl rfl) (m_rgl rfl) rfl (pc2 := 6) ?_ ?_
  · intro h1; exfalso; omega
  · intro h1
    refine wp_il2 jF_149_6 rfl rfl (pc2 := 8) ?_
    refine wp_ic jF_149_8 rfl (pc2 := 9) ?_
    refine wp_i_le jF_149_9 (m_rgl rfl) (m_rgl rfl) rfl (pc2 := 12) ?_ ?_
    · intro h2
      refine wp_al1 jF_149_24 rfl rfl (pc2 := 25) ?_
      refine wp_ic jF_149_25 rfl (pc2 := 26) ?_
      refine wp_al1 jF_149_26 rfl rfl (pc2 := 27) ?_
      refine wp_ic jF_149_27 rfl (pc2 := 28) ?_
      refine wp_il2 jF_149_28 rfl rfl (pc2 := 30) ?_
      refine wp_ic jF_149_30 rfl (pc2 := 31) ?_
      refine wp_subx (c := 1) jF_149_31 rfl rfl (pc2 := 32) ?_
      refine wp_cS (as := [.ref 109, iV 0, .ref 75, iV 0, iV 1]) (rest := []) (mx := 9) jF_149_32 rfl rfl rfl rfl (by omega) (by omega) rfl (pc2 := 35) ?_
      have b3 := GI.b hg 109 1 kd109 (lo := 0) (hi := 60) rfl
      have b4 := GI.b hg 75 1 kd75 (lo := 0) (hi := 60) rfl
      refine wp_use (m_147_r109_75_n1 σ hg 0 (by omega) (by omega) 0 (by omega) (by omega) (by omega) (by omega) _ _ (by omega) (by omega)) ?_
      rintro _ _ ⟨z7, rfl, h8, rfl⟩
      show WP 149 35 [(0, .ref 102), (1, .ref 20), (2, .ref 109), (3, .ref 75), (4, iV 2)] [iV z7] _ _ _ _
      refine wp_z_ne jF_149_35 (m_rgb h8 rfl) rfl (pc2 := 38) ?_ ?_
      · intro h9
        refine wp_ic jF_149_42 rfl (pc2 := 43) ?_
        refine wp_is2 (lv2 := [(0, .ref 102), (1, .ref 20), (2, .ref 109), (3, .ref 75), (4, iV 2), (5, iV 0)]) jF_149_43 rfl rfl rfl (pc2 := 45) ?_
        refine wp_al1 jF_149_45 rfl rfl (pc2 := 46) ?_
        refine wp_gr (b := 103) jF_149_46 kd102 (by decide) (c := 203) rfl rfl rfl (pc2 := 49) ?_
        refine wp_il2 jF_149_49 rfl rfl (pc2 := 51) ?_
        refine wp_ic jF_149_51 rfl (pc2 := 52) ?_
        refine wp_subx (c := 0) jF_149_52 rfl rfl (pc2 := 53) ?_
        refine wp_aald (b := 104) jF_149_53 kd103 (by decide) rfl rfl rfl rfl (pc2 := 54) ?_
        refine wp_as2 (lv2 := [(0, .ref 102), (1, .ref 20), (2, .ref 109), (3, .ref 75), (4, iV 2), (5, iV 0), (6, .ref 104)]) jF_149_54 rfl rfl rfl (pc2 := 56) ?_
        refine wp_al1 jF_149_56 rfl rfl (pc2 := 57) ?_
        refine wp_gi jF_149_57 kd109 (by decide) rfl rfl rfl (pc2 := 60) ?_
        refine wp_ic jF_149_60 rfl (pc2 := 61) ?_
        refine wp_add jF_149_61 rfl (pc2 := 62) ?_
        refine wp_bi jF_149_62 (by decide) rfl (pc2 := 64) ?_
        refine wp_mul jF_149_64 rfl (pc2 := 65) ?_
        refine wp_is2 (lv2 := [(0, .ref 102), (1, .ref 20), (2, .ref 109), (3, .ref 75), (4, iV 2), (5, iV 0), (6, .ref 104), (7, iV (((σ.1 109 1) + 1) * 47))]) jF_149_65 rfl rfl rfl (pc2 := 67) ?_
        refine wp_ic jF_149_67 rfl (pc2 := 68) ?_
        refine wp_is2 (lv2 := [(0, .ref 102), (1, .ref 20), (2, .ref 109), (3, .ref 75), (4, iV 2), (5, iV 0), (6, .ref 104), (7, iV (((σ.1 109 1) + 1) * 47)), (8, iV 0)]) jF_149_68 rfl rfl rfl (pc2 := 70) ?_
        refine wp_loop (α := Int) (fun a => [(0, .ref 102), (1, .ref 20), (2, .ref 109), (3, .ref 75), (4, iV 2), (5, iV 0), (6, .ref 104), (7, iV (((σ.1 109 1) + 1) * 47)), (8, iV (a))]) (fun a τ => (0 ≤ a ∧ a ≤ 2900) ∧ GI τ ∧ FR WY1 σ τ) (fun a τ => Int.toNat (2900 - (a))) (0) σ ?_ ?_
        · skip
          exact ⟨⟨by omega, by omega⟩, hg, FR.rf⟩
        · rintro x10 τ12 ⟨h11, g13, f14⟩ ih15
          show WP 149 70 [(0, .ref 102), (1, .ref 20), (2, .ref 109), (3, .ref 75), (4, iV 2), (5, iV 0), (6, .ref 104), (7, iV (((σ.1 109 1) + 1) * 47)), (8, iV x10)] [] _ _ _ _
          show WP 149 70 [(0, .ref 102), (1, .ref 20), (2, .ref 109), (3, .ref 75), (4, iV 2), (5, iV 0), (6, .ref 104), (7, iV (((σ.1 109 1) + 1) * 47)), (8, iV x10)] [] _ _ _ _
          refine wp_il2 jF_149_70 rfl rfl (pc2 := 72) ?_
          refine wp_il2 jF_149_72 rfl rfl (pc2 := 74) ?_
          refine wp_i_ge jF_149_74 (m_rgb h11 rfl) ⟨by omega, by omega⟩ rfl (pc2 := 77) ?_ ?_
          · intro h16
            refine wp_ic jF_149_166 rfl (pc2 := 167) ?_
            refine wp_ri jF_149_167 rfl ?_
            exact ⟨0, rfl, ⟨by omega, by omega⟩, g13, f14⟩
          · intro h16
            refine wp_il2 jF_149_77 rfl rfl (pc2 := 79) ?_
            refine wp_z_eq jF_149_79 (m_rgl rfl) rfl (pc2 := 82) ?_ ?_
            · intro h17
              refine wp_al2 jF_149_98 rfl rfl (pc2 := 100) ?_
              refine wp_al1 jF_149_100 rfl rfl (pc2 := 101) ?_
              refine wp_al1 jF_149_101 rfl rfl (pc2 := 102) ?_
              refine wp_il2 jF_149_102 rfl rfl (pc2 := 104) ?_
              refine wp_cV (as := [.ref 20, .ref 109, iV x10]) (rest := []) (a := 104) (mx := 4) (ci := 4) jF_149_104 kd104 (by decide) rfl rfl rfl rfl rfl (by omega) (by omega) rfl (pc2 := 107) ?_
              refine wp_use (m_105_r104_20_109 τ12 g13 x10 (by omega) (by omega)  _ _ (by omega) (by omega)) ?_
              rintro _ τ18 ⟨z21, rfl, h22, g19, f20⟩
              show WP 149 107 [(0, .ref 102), (1, .ref 20), (2, .ref 109), (3, .ref 75), (4, iV 2), (5, iV 0), (6, .ref 104), (7, iV (((σ.1 109 1) + 1) * 47)), (8, iV x10)] [iV z21] _ _ _ _
              refine wp_z_eq jF_149_107 (m_rgb h22 rfl) rfl (pc2 := 110) ?_ ?_
              · intro h23
                refine wp_inc (lv2 := [(0, .ref 102), (1, .ref 20), (2, .ref 109), (3, .ref 75), (4, iV 2), (5, iV 0), (6, .ref 104), (7, iV (((σ.1 109 1) + 1) * 47)), (8, iV (x10 + 1))]) jF_149_160 rfl rfl rfl rfl (pc2 := 163) ?_
                refine wp_go jF_149_163 ?_
                exact ih15 ((x10 + 1)) τ18 ⟨⟨by omega, by omega⟩, g19, (FR.up f14 f20 sb_WW104_WY1)⟩ (by show Int.toNat (2900 - (x10 + 1)) < Int.toNat (2900 - x10); omega)
              · intro h23
                refine wp_al1 jF_149_110 rfl rfl (pc2 := 111) ?_
                refine wp_al2 jF_149_111 rfl rfl (pc2 := 113) ?_
                refine wp_glA jF_149_113 kd104 (by decide) rfl rfl (pc2 := 116) ?_
                intro y24
                refine wp_cV (as := [.long y24]) (rest := []) (a := 20) (mx := 3) (ci := 8) jF_149_116 kd20 (by decide) rfl rfl rfl rfl rfl (by omega) (by omega) rfl (pc2 := 119) ?_
                refine wp_use (m_85_r20 τ18 g19 y24  _ _ (by omega) (by omega)) ?_
                rintro _ _ ⟨z27, rfl, h28, rfl⟩
                show WP 149 119 [(0, .ref 102), (1, .ref 20), (2, .ref 109), (3, .ref 75), (4, iV 2), (5, iV 0), (6, .ref 104), (7, iV (((σ.1 109 1) + 1) * 47)), (8, iV x10)] [iV z27] _ _ _ _
                refine wp_z_eq jF_149_119 (m_rgb h28 rfl) rfl (pc2 := 122) ?_ ?_
                · intro h29
                  refine wp_inc (lv2 := [(0, .ref 102), (1, .ref 20), (2, .ref 109), (3, .ref 75), (4, iV 2), (5, iV 0), (6, .ref 104), (7, iV (((σ.1 109 1) + 1) * 47)), (8, iV (x10 + 1))]) jF_149_160 rfl rfl rfl rfl (pc2 := 163) ?_
                  refine wp_go jF_149_163 ?_
                  exact ih15 ((x10 + 1)) τ18 ⟨⟨by omega, by omega⟩, g19, (FR.up f14 f20 sb_WW104_WY1)⟩ (by show Int.toNat (2900 - (x10 + 1)) < Int.toNat (2900 - x10); omega)
                · intro h29
                  refine wp_al2 jF_149_122 rfl rfl (pc2 := 124) ?_
                  refine wp_ic jF_149_124 rfl (pc2 := 125) ?_
                  refine wp_al1 jF_149_125 rfl rfl (pc2 := 126) ?_
                  refine wp_ic jF_149_126 rfl (pc2 := 127) ?_
                  refine wp_il2 jF_149_127 rfl rfl (pc2 := 129) ?_
                  refine wp_ic jF_149_129 rfl (pc2 := 130) ?_
                  refine wp_subx (c := 1) jF_149_130 rfl rfl (pc2 := 131) ?_
                  refine wp_cS (as := [.ref 104, iV 0, .ref 75, iV 0, iV 1]) (rest := []) (mx := 9) jF_149_131 rfl rfl rfl rfl (by omega) (by omega) rfl (pc2 := 134) ?_
                  have b30 := GI.b g19 104 1 kd104 (lo := 0) (hi := 60) rfl
                  have q31 : (τ18.1 75 1) = (σ.1 75 1) := ((FR.at f20 75 1 rfl).trans (FR.at f14 75 1 rfl))
                  refine wp_use (m_147_r104_75_n1 τ18 g19 0 (by omega) (by omega) 0 (by omega) (by omega) (by omega) (by omega) _ _ (by omega) (by omega)) ?_
                  rintro _ _ ⟨z34, rfl, h35, rfl⟩
                  show WP 149 134 [(0, .ref 102), (1, .ref 20), (2, .ref 109), (3, .ref 75), (4, iV 2), (5, iV 0), (6, .ref 104), (7, iV (((σ.1 109 1) + 1) * 47)), (8, iV x10)] [iV z34] _ _ _ _
                  refine wp_z_eq jF_149_134 (m_rgb h35 rfl) rfl (pc2 := 137) ?_ ?_
                  · intro h36
                    refine wp_inc (lv2 := [(0, .ref 102), (1, .ref 20), (2, .ref 109), (3, .ref 75), (4, iV 2), (5, iV 0), (6, .ref 104), (7, iV (((σ.1 109 1) + 1) * 47)), (8, iV (x10 + 1))]) jF_149_160 rfl rfl rfl rfl (pc2 := 163) ?_
                    refine wp_go jF_149_163 ?_
                    exact ih15 ((x10 + 1)) τ18 ⟨⟨by omega, by omega⟩, g19, (FR.up f14 f20 sb_WW104_WY1)⟩ (by show Int.toNat (2900 - (x10 + 1)) < Int.toNat (2900 - x10); omega)
                  · intro h36
                    refine wp_al2 jF_149_137 rfl rfl (pc2 := 139) ?_
                    refine wp_al1 jF_149_139 rfl rfl (pc2 := 140) ?_
                    refine wp_cV (as := [.ref 20]) (rest := []) (a := 104) (mx := 4) (ci := 4) jF_149_140 kd104 (by decide) rfl rfl rfl rfl rfl (by omega) (by omega) rfl (pc2 := 143) ?_
                    refine wp_use (m_82_r104_20 τ18 g19   _ _ (by omega) (by omega)) ?_
                    rintro _ τ37 ⟨rfl, g38, f39⟩
                    show WP 149 143 [(0, .ref 102), (1, .ref 20), (2, .ref 109), (3, .ref 75), (4, iV 2), (5, iV 0), (6, .ref 104), (7, iV (((σ.1 109 1) + 1) * 47)), (8, iV x10)] [] _ _ _ _
                    refine wp_al1 jF_149_143 rfl rfl (pc2 := 144) ?_
                    refine wp_al1 jF_149_144 rfl rfl (pc2 := 145) ?_
                    refine wp_al2 jF_149_145 rfl rfl (pc2 := 147) ?_
                    refine wp_al1 jF_149_147 rfl rfl (pc2 := 148) ?_
                    refine wp_il2 jF_149_148 rfl rfl (pc2 := 150) ?_
                    refine wp_ic jF_149_150 rfl (pc2 := 151) ?_
                    refine wp_subx (c := 1) jF_149_151 rfl rfl (pc2 := 152) ?_
                    refine wp_cV (as := [.ref 20, .ref 104, .ref 75, iV 1]) (rest := []) (a := 102) (mx := 9) (ci := 10) jF_149_152 kd102 (by decide) rfl rfl rfl rfl rfl (by omega) (by omega) rfl (pc2 := 155) ?_
                    refine wp_use (m_149_r102_20_104_75_n1 τ37 g38   _ _ (by omega) (by omega)) ?_
                    rintro _ _ ⟨z42, rfl, h43, rfl⟩
                    show WP 149 155 [(0, .ref 102), (1, .ref 20), (2, .ref 109), (3, .ref 75), (4, iV 2), (5, iV 0), (6, .ref 104), (7, iV (((σ.1 109 1) + 1) * 47)), (8, iV x10)] [iV z42] _ _ _ _
                    refine wp_z_eq jF_149_155 (m_rgb h43 rfl) rfl (pc2 := 158) ?_ ?_
                    · intro h44
                      refine wp_inc (lv2 := [(0, .ref 102), (1, .ref 20), (2, .ref 109), (3, .ref 75), (4, iV 2), (5, iV 0), (6, .ref 104), (7, iV (((σ.1 109 1) + 1) * 47)), (8, iV (x10 + 1))]) jF_149_160 rfl rfl rfl rfl (pc2 := 163) ?_
                      refine wp_go jF_149_163 ?_
                      exact ih15 ((x10 + 1)) τ37 ⟨⟨by omega, by omega⟩, g38, (FR.up (FR.up f14 f20 sb_WW104_WY1) f39 sb_WW104_WY1)⟩ (by show Int.toNat (2900 - (x10 + 1)) < Int.toNat (2900 - x10); omega)
                    · intro h44
                      refine wp_ic jF_149_158 rfl (pc2 := 159) ?_
                      refine wp_ri jF_149_159 rfl ?_
                      exact ⟨1, rfl, ⟨by omega, by omega⟩, g38, (FR.up (FR.up f14 f20 sb_WW104_WY1) f39 sb_WW104_WY1)⟩
            · intro h17; exfalso; omega
      · intro h9
        refine wp_ic jF_149_38 rfl (pc2 := 39) ?_
        refine wp_go jF_149_39 ?_
        refine wp_is2 (lv2 := [(0, .ref 102), (1, .ref 20), (2, .ref 109), (3, .ref 75), (4, iV 2), (5, iV 1)]) jF_149_43 rfl rfl rfl (pc2 := 45) ?_
        refine wp_al1 jF_149_45 rfl rfl (pc2 := 46) ?_
        refine wp_gr (b := 103) jF_149_46 kd102 (by decide) (c := 203) rfl rfl rfl (pc2 := 49) ?_
        refine wp_il2 jF_149_49 rfl rfl (pc2 := 51) ?_
        refine wp_ic jF_149_51 rfl (pc2 := 52) ?_
        refine wp_subx (c := 0) jF_149_52 rfl rfl (pc2 := 53) ?_
        refine wp_aald (b := 104) jF_149_53 kd103 (by decide) rfl rfl rfl rfl (pc2 := 54) ?_
        refine wp_as2 (lv2 := [(0, .ref 102), (1, .ref 20), (2, .ref 109), (3, .ref 75), (4, iV 2), (5, iV 1), (6, .ref 104)]) jF_149_54 rfl rfl rfl (pc2 := 56) ?_
        refine wp_al1 jF_149_56 rfl rfl (pc2 := 57) ?_
        refine wp_gi jF_149_57 kd109 (by decide) rfl rfl rfl (pc2 := 60) ?_
        refine wp_ic jF_149_60 rfl (pc2 := 61) ?_
        refine wp_add jF_149_61 rfl (pc2 := 62) ?_
        refine wp_bi jF_149_62 (by decide) rfl (pc2 := 64) ?_
        refine wp_mul jF_149_64 rfl (pc2 := 65) ?_
        refine wp_is2 (lv2 := [(0, .ref 102), (1, .ref 20), (2, .ref 109), (3, .ref 75), (4, iV 2), (5, iV 1), (6, .ref 104), (7, iV (((σ.1 109 1) + 1) * 47))]) jF_149_65 rfl rfl rfl (pc2 := 67) ?_
        refine wp_ic jF_149_67 rfl (pc2 := 68) ?_
        refine wp_is2 (lv2 := [(0, .ref 102), (1, .ref 20), (2, .ref 109), (3, .ref 75), (4, iV 2), (5, iV 1), (6, .ref 104), (7, iV (((σ.1 109 1) + 1) * 47)), (8, iV 0)]) jF_149_68 rfl rfl rfl (pc2 := 70) ?_
        refine wp_loop (α := Int) (fun a => [(0, .ref 102), (1, .ref 20), (2, .ref 109), (3, .ref 75), (4, iV 2), (5, iV 1), (6, .ref 104), (7, iV (((σ.1 109 1) + 1) * 47)), (8, iV (a))]) (fun a τ => (0 ≤ a ∧ a ≤ 2900) ∧ GI τ ∧ FR WY1 σ τ) (fun a τ => Int.toNat (2900 - (a))) (0) σ ?_ ?_
        · skip
          exact ⟨⟨by omega, by omega⟩, hg, FR.rf⟩
        · rintro x45 τ47 ⟨h46, g48, f49⟩ ih50
          show WP 149 70 [(0, .ref 102), (1, .ref 20), (2, .ref 109), (3, .ref 75), (4, iV 2), (5, iV 1), (6, .ref 104), (7, iV (((σ.1 109 1) + 1) * 47)), (8, iV x45)] [] _ _ _ _
          show WP 149 70 [(0, .ref 102), (1, .ref 20), (2, .ref 109), (3, .ref 75), (4, iV 2), (5, iV 1), (6, .ref 104), (7, iV (((σ.1 109 1) + 1) * 47)), (8, iV x45)] [] _ _ _ _
          refine wp_il2 jF_149_70 rfl rfl (pc2 := 72) ?_
          refine wp_il2 jF_149_72 rfl rfl (pc2 := 74) ?_
          refine wp_i_ge jF_149_74 (m_rgb h46 rfl) ⟨by omega, by omega⟩ rfl (pc2 := 77) ?_ ?_
          · intro h51
            refine wp_ic jF_149_166 rfl (pc2 := 167) ?_
            refine wp_ri jF_149_167 rfl ?_
            exact ⟨0, rfl, ⟨by omega, by omega⟩, g48, f49⟩
          · intro h51
            refine wp_il2 jF_149_77 rfl rfl (pc2 := 79) ?_
            refine wp_z_eq jF_149_79 (m_rgl rfl) rfl (pc2 := 82) ?_ ?_
            · intro h52; exfalso; omega
            · intro h52
              refine wp_al1 jF_149_82 rfl rfl (pc2 := 83) ?_
              refine wp_il2 jF_149_83 rfl rfl (pc2 := 85) ?_
              refine wp_il2 jF_149_85 rfl rfl (pc2 := 87) ?_
              refine wp_ic jF_149_87 rfl (pc2 := 88) ?_
              refine wp_subx (c := 1) jF_149_88 rfl rfl (pc2 := 89) ?_
              refine wp_cS (as := [.ref 75, iV x45, iV 1]) (rest := []) (mx := 6) jF_149_89 rfl rfl rfl rfl (by omega) (by omega) rfl (pc2 := 92) ?_
              refine wp_use (m_150_r75 τ47 g48 x45 (by omega) (by omega) 1 (by omega) (by omega)  _ _ (by omega) (by omega)) ?_
              rintro _ _ ⟨z55, rfl, h56, rfl⟩
              show WP 149 92 [(0, .ref 102), (1, .ref 20), (2, .ref 109), (3, .ref 75), (4, iV 2), (5, iV 1), (6, .ref 104), (7, iV (((σ.1 109 1) + 1) * 47)), (8, iV x45)] [iV z55] _ _ _ _
              refine wp_z_ne jF_149_92 (m_rgb h56 rfl) rfl (pc2 := 95) ?_ ?_
              · intro h57
                refine wp_al2 jF_149_98 rfl rfl (pc2 := 100) ?_
                refine wp_al1 jF_149_100 rfl rfl (pc2 := 101) ?_
                refine wp_al1 jF_149_101 rfl rfl (pc2 := 102) ?_
                refine wp_il2 jF_149_102 rfl rfl (pc2 := 104) ?_
                refine wp_cV (as := [.ref 20, .ref 109, iV x45]) (rest := []) (a := 104) (mx := 4) (ci := 4) jF_149_104 kd104 (by decide) rfl rfl rfl rfl rfl (by omega) (by omega) rfl (pc2 := 107) ?_
                refine wp_use (m_105_r104_20_109 τ47 g48 x45 (by omega) (by omega)  _ _ (by omega) (by omega)) ?_
                rintro _ τ58 ⟨z61, rfl, h62, g59, f60⟩
                show WP 149 107 [(0, .ref 102), (1, .ref 20), (2, .ref 109), (3, .ref 75), (4, iV 2), (5, iV 1), (6, .ref 104), (7, iV (((σ.1 109 1) + 1) * 47)), (8, iV x45)] [iV z61] _ _ _ _
                refine wp_z_eq jF_149_107 (m_rgb h62 rfl) rfl (pc2 := 110) ?_ ?_
                · intro h63
                  refine wp_inc (lv2 := [(0, .ref 102), (1, .ref 20), (2, .ref 109), (3, .ref 75), (4, iV 2), (5, iV 1), (6, .ref 104), (7, iV (((σ.1 109 1) + 1) * 47)), (8, iV (x45 + 1))]) jF_149_160 rfl rfl rfl rfl (pc2 := 163) ?_
                  refine wp_go jF_149_163 ?_
                  exact ih50 ((x45 + 1)) τ58 ⟨⟨by omega, by omega⟩, g59, (FR.up f49 f60 sb_WW104_WY1)⟩ (by show Int.toNat (2900 - (x45 + 1)) < Int.toNat (2900 - x45); omega)
                · intro h63
                  refine wp_al1 jF_149_110 rfl rfl (pc2 := 111) ?_
                  refine wp_al2 jF_149_111 rfl rfl (pc2 := 113) ?_
                  refine wp_glA jF_149_113 kd104 (by decide) rfl rfl (pc2 := 116) ?_
                  intro y64
                  refine wp_cV (as := [.long y64]) (rest := []) (a := 20) (mx := 3) (ci := 8) jF_149_116 kd20 (by decide) rfl rfl rfl rfl rfl (by omega) (by omega) rfl (pc2 := 119) ?_
                  refine wp_use (m_85_r20 τ58 g59 y64  _ _ (by omega) (by omega)) ?_
                  rintro _ _ ⟨z67, rfl, h68, rfl⟩
                  show WP 149 119 [(0, .ref 102), (1, .ref 20), (2, .ref 109), (3, .ref 75), (4, iV 2), (5, iV 1), (6, .ref 104), (7, iV (((σ.1 109 1) + 1) * 47)), (8, iV x45)] [iV z67] _ _ _ _
                  refine wp_z_eq jF_149_119 (m_rgb h68 rfl) rfl (pc2 := 122) ?_ ?_
                  · intro h69
                    refine wp_inc (lv2 := [(0, .ref 102), (1, .ref 20), (2, .ref 109), (3, .ref 75), (4, iV 2), (5, iV 1), (6, .ref 104), (7, iV (((σ.1 109 1) + 1) * 47)), (8, iV (x45 + 1))]) jF_149_160 rfl rfl rfl rfl (pc2 := 163) ?_
                    refine wp_go jF_149_163 ?_
                    exact ih50 ((x45 + 1)) τ58 ⟨⟨by omega, by omega⟩, g59, (FR.up f49 f60 sb_WW104_WY1)⟩ (by show Int.toNat (2900 - (x45 + 1)) < Int.toNat (2900 - x45); omega)
                  · intro h69
                    refine wp_al2 jF_149_122 rfl rfl (pc2 := 124) ?_
                    refine wp_ic jF_149_124 rfl (pc2 := 125) ?_
                    refine wp_al1 jF_149_125 rfl rfl (pc2 := 126) ?_
                    refine wp_ic jF_149_126 rfl (pc2 := 127) ?_
                    refine wp_il2 jF_149_127 rfl rfl (pc2 := 129) ?_
                    refine wp_ic jF_149_129 rfl (pc2 := 130) ?_
                    refine wp_subx (c := 1) jF_149_130 rfl rfl (pc2 := 131) ?_
                    refine wp_cS (as := [.ref 104, iV 0, .ref 75, iV 0, iV 1]) (rest := []) (mx := 9) jF_149_131 rfl rfl rfl rfl (by omega) (by omega) rfl (pc2 := 134) ?_
                    have b70 := GI.b g59 104 1 kd104 (lo := 0) (hi := 60) rfl
                    have q71 : (τ58.1 75 1) = (σ.1 75 1) := ((FR.at f60 75 1 rfl).trans (FR.at f49 75 1 rfl))
                    refine wp_use (m_147_r104_75_n1 τ58 g59 0 (by omega) (by omega) 0 (by omega) (by omega) (by omega) (by omega) _ _ (by omega) (by omega)) ?_
                    rintro _ _ ⟨z74, rfl, h75, rfl⟩
                    show WP 149 134 [(0, .ref 102), (1, .ref 20), (2, .ref 109), (3, .ref 75), (4, iV 2), (5, iV 1), (6, .ref 104), (7, iV (((σ.1 109 1) + 1) * 47)), (8, iV x45)] [iV z74] _ _ _ _
                    refine wp_z_eq jF_149_134 (m_rgb h75 rfl) rfl (pc2 := 137) ?_ ?_
                    · intro h76
                      refine wp_inc (lv2 := [(0, .ref 102), (1, .ref 20), (2, .ref 109), (3, .ref 75), (4, iV 2), (5, iV 1), (6, .ref 104), (7, iV (((σ.1 109 1) + 1) * 47)), (8, iV (x45 + 1))]) jF_149_160 rfl rfl rfl rfl (pc2 := 163) ?_
                      refine wp_go jF_149_163 ?_
                      exact ih50 ((x45 + 1)) τ58 ⟨⟨by omega, by omega⟩, g59, (FR.up f49 f60 sb_WW104_WY1)⟩ (by show Int.toNat (2900 - (x45 + 1)) < Int.toNat (2900 - x45); omega)
                    · intro h76
                      refine wp_al2 jF_149_137 rfl rfl (pc2 := 139) ?_
                      refine wp_al1 jF_149_139 rfl rfl (pc2 := 140) ?_
                      refine wp_cV (as := [.ref 20]) (rest := []) (a := 104) (mx := 4) (ci := 4) jF_149_140 kd104 (by decide) rfl rfl rfl rfl rfl (by omega) (by omega) rfl (pc2 := 143) ?_
                      refine wp_use (m_82_r104_20 τ58 g59   _ _ (by omega) (by omega)) ?_
                      rintro _ τ77 ⟨rfl, g78, f79⟩
                      show WP 149 143 [(0, .ref 102), (1, .ref 20), (2, .ref 109), (3, .ref 75), (4, iV 2), (5, iV 1), (6, .ref 104), (7, iV (((σ.1 109 1) + 1) * 47)), (8, iV x45)] [] _ _ _ _
                      refine wp_al1 jF_149_143 rfl rfl (pc2 := 144) ?_
                      refine wp_al1 jF_149_144 rfl rfl (pc2 := 145) ?_
                      refine wp_al2 jF_149_145 rfl rfl (pc2 := 147) ?_
                      refine wp_al1 jF_149_147 rfl rfl (pc2 := 148) ?_
                      refine wp_il2 jF_149_148 rfl rfl (pc2 := 150) ?_
                      refine wp_ic jF_149_150 rfl (pc2 := 151) ?_
                      refine wp_subx (c := 1) jF_149_151 rfl rfl (pc2 := 152) ?_
                      refine wp_cV (as := [.ref 20, .ref 104, .ref 75, iV 1]) (rest := []) (a := 102) (mx := 9) (ci := 10) jF_149_152 kd102 (by decide) rfl rfl rfl rfl rfl (by omega) (by omega) rfl (pc2 := 155) ?_
                      refine wp_use (m_149_r102_20_104_75_n1 τ77 g78   _ _ (by omega) (by omega)) ?_
                      rintro _ _ ⟨z82, rfl, h83, rfl⟩
                      show WP 149 155 [(0, .ref 102), (1, .ref 20), (2, .ref 109), (3, .ref 75), (4, iV 2), (5, iV 1), (6, .ref 104), (7, iV (((σ.1 109 1) + 1) * 47)), (8, iV x45)] [iV z82] _ _ _ _
                      refine wp_z_eq jF_149_155 (m_rgb h83 rfl) rfl (pc2 := 158) ?_ ?_
                      · intro h84
                        refine wp_inc (lv2 := [(0, .ref 102), (1, .ref 20), (2, .ref 109), (3, .ref 75), (4, iV 2), (5, iV 1), (6, .ref 104), (7, iV (((σ.1 109 1) + 1) * 47)), (8, iV (x45 + 1))]) jF_149_160 rfl rfl rfl rfl (pc2 := 163) ?_
                        refine wp_go jF_149_163 ?_
                        exact ih50 ((x45 + 1)) τ77 ⟨⟨by omega, by omega⟩, g78, (FR.up (FR.up f49 f60 sb_WW104_WY1) f79 sb_WW104_WY1)⟩ (by show Int.toNat (2900 - (x45 + 1)) < Int.toNat (2900 - x45); omega)
                      · intro h84
                        refine wp_ic jF_149_158 rfl (pc2 := 159) ?_
                        refine wp_ri jF_149_159 rfl ?_
                        exact ⟨1, rfl, ⟨by omega, by omega⟩, g78, (FR.up (FR.up f49 f60 sb_WW104_WY1) f79 sb_WW104_WY1)⟩
              · intro h57
                refine wp_go jF_149_95 ?_
                refine wp_inc (lv2 := [(0, .ref 102), (1, .ref 20), (2, .ref 109), (3, .ref 75), (4, iV 2), (5, iV 1), (6, .ref 104), (7, iV (((σ.1 109 1) + 1) * 47)), (8, iV (x45 + 1))]) jF_149_160 rfl rfl rfl rfl (pc2 := 163) ?_
                refine wp_go jF_149_163 ?_
                exact ih50 ((x45 + 1)) τ47 ⟨⟨by omega, by omega⟩, g48, f49⟩ (by show Int.toNat (2900 - (x45 + 1)) < Int.toNat (2900 - x45); omega)
    · intro h2; exfalso; omega
