set_option maxHeartbeats 4000000 in
set_option maxRecDepth 20000 in
/-- Row.follows -/
theorem m_105_r104_45_70 (σ : jM) (hg : GI σ) (num : Int) (hl_num : 0 ≤ num) (hu_num : num ≤ 2900)  (fr lo : Nat) (hfr : 3 ≤ fr) (hlo : 107 ≤ lo) : WP 105 0 (lv_args 0 [.ref 104, .ref 45, .ref 70, iV num]) [] fr lo σ (fun v τ => ∃ z : Int, v = some (iV z) ∧ (0 ≤ z ∧ z ≤ 1) ∧ GI τ ∧ FR WW104 σ τ) := by
  show WP 105 0 [(0, .ref 104), (1, .ref 45), (2, .ref 70), (3, iV num)] [] _ _ _ _
  refine wp_al1 jF_105_0 rfl rfl (pc2 := 1) ?_
  refine wp_al1 jF_105_1 rfl rfl (pc2 := 2) ?_
  refine wp_il1 jF_105_2 rfl rfl (pc2 := 3) ?_
  refine wp_cV (as := [.ref 45, iV num]) (rest := []) (a := 70) (mx := 9) (ci := 4) jF_105_3 kd70 (by decide) rfl rfl rfl rfl rfl (by omega) (by omega) rfl (pc2 := 6) ?_
  have b1 := GI.b hg 70 1 kd70 (lo := 0) (hi := 60) rfl
  refine wp_use (m_106_r70_45 σ hg num (by omega) (by omega)  _ _ (by omega) (by omega)) ?_
  rintro _ _ ⟨z5, rfl, h6, rfl, p2⟩
  show WP 105 6 [(0, .ref 104), (1, .ref 45), (2, .ref 70), (3, iV num)] [iV z5] _ _ _ _
  refine wp_z_ne jF_105_6 (m_rgb h6 rfl) rfl (pc2 := 9) ?_ ?_
  · intro h7
    replace p2 := p2 (by omega)
    refine wp_al1 jF_105_11 rfl rfl (pc2 := 12) ?_
    refine wp_al1 jF_105_12 rfl rfl (pc2 := 13) ?_
    refine wp_il1 jF_105_13 rfl rfl (pc2 := 14) ?_
    refine wp_cV (as := [.ref 70, iV num]) (rest := []) (a := 104) (mx := 8) (ci := 4) jF_105_14 kd104 (by decide) rfl rfl rfl rfl rfl (by omega) (by omega) rfl (pc2 := 17) ?_
    refine wp_use (m_110_r104_70 σ hg num (by omega) (by omega) (by omega) (by omega) (by omega) (by omega) (by omega) _ _ (by omega) (by omega)) ?_
    rintro _ τ8 ⟨rfl, g9, f10⟩
    show WP 105 17 [(0, .ref 104), (1, .ref 45), (2, .ref 70), (3, iV num)] [] _ _ _ _
    refine wp_al1 jF_105_17 rfl rfl (pc2 := 18) ?_
    refine wp_al1 jF_105_18 rfl rfl (pc2 := 19) ?_
    refine wp_al1 jF_105_19 rfl rfl (pc2 := 20) ?_
    refine wp_il1 jF_105_20 rfl rfl (pc2 := 21) ?_
    refine wp_bi jF_105_21 (by decide) rfl (pc2 := 23) ?_
    refine wp_div jF_105_23 ⟨by omega, by omega⟩ (by omega) (m_rgl rfl) (by omega) rfl (pc2 := 24) ?_
    refine wp_cV (as := [.ref 45, .ref 70, iV (num / 47)]) (rest := []) (a := 104) (mx := 8) (ci := 4) jF_105_24 kd104 (by decide) rfl rfl rfl rfl rfl (by omega) (by omega) rfl (pc2 := 27) ?_
    refine wp_use (m_111_r104_45_70 τ8 g9 (num / 47) (by omega) (by omega)  _ _ (by omega) (by omega)) ?_
    rintro _ τ11 ⟨rfl, g12, f13⟩
    show WP 105 27 [(0, .ref 104), (1, .ref 45), (2, .ref 70), (3, iV num)] [] _ _ _ _
    refine wp_ic jF_105_27 rfl (pc2 := 28) ?_
    refine wp_ri jF_105_28 rfl ?_
    exact ⟨1, rfl, ⟨by omega, by omega⟩, g12, (FR.up f10 f13 sb_WW104_WW104)⟩
  · intro h7
    clear p2
    refine wp_ic jF_105_9 rfl (pc2 := 10) ?_
    refine wp_ri jF_105_10 rfl ?_
    exact ⟨0, rfl, ⟨by omega, by omega⟩, hg, FR.rf⟩
set_option maxHeartbeats 4000000 in
set_option maxRecDepth 20000 in
/-- java/lang/Math.min -/
theorem m_138_r (σ : jM) (hg : GI σ) (ma : Int) (hl_ma : (-2147483648) ≤ ma) (hu_ma : ma ≤ 2147483647) (mb : Int) (hl_mb : (-2147483648) ≤ mb) (hu_mb : mb ≤ 2147483647)  (fr lo : Nat) (hfr : 0 ≤ fr) (hlo : 0 ≤ lo) : WP 138 0 (lv_args 0 [iV ma, iV mb]) [] fr lo σ (fun v τ => ∃ z : Int, v = some (iV z) ∧ ((-2147483648) ≤ z ∧ z ≤ 2147483647) ∧ σ = τ ∧ (z ≤ ma) ∧ (z ≤ mb) ∧ (z = ma ∨ z = mb)) := by
  show WP 138 0 [(0, iV ma), (1, iV mb)] [] _ _ _ _
  refine wp_il1 jF_138_0 rfl rfl (pc2 := 1) ?_
  refine wp_il1 jF_138_1 rfl rfl (pc2 := 2) ?_
  refine wp_i_gt jF_138_2 ⟨by omega, by omega⟩ ⟨by omega, by omega⟩ rfl (pc2 := 5) ?_ ?_
  · intro h1
    refine wp_il1 jF_138_9 rfl rfl (pc2 := 10) ?_
    refine wp_ri jF_138_10 rfl ?_
    exact ⟨mb, rfl, ⟨by omega, by omega⟩, rfl, (by omega), (by omega), (by omega)⟩
  · intro h1
    refine wp_il1 jF_138_5 rfl rfl (pc2 := 6) ?_
    refine wp_go jF_138_6 ?_
    refine wp_ri jF_138_10 rfl ?_
    exact ⟨ma, rfl, ⟨by omega, by omega⟩, rfl, (by omega), (by omega), (by omega)⟩
set_option maxHeartbeats 4000000 in
set_option maxRecDepth 20000 in
/-- java/lang/Math.max -/
theorem m_139_r (σ : jM) (hg : GI σ) (ma : Int) (hl_ma : (-2147483648) ≤ ma) (hu_ma : ma ≤ 2147483647) (mb : Int) (hl_mb : (-2147483648) ≤ mb) (hu_mb : mb ≤ 2147483647)  (fr lo : Nat) (hfr : 0 ≤ fr) (hlo : 0 ≤ lo) : WP 139 0 (lv_args 0 [iV ma, iV mb]) [] fr lo σ (fun v τ => ∃ z : Int, v = some (iV z) ∧ ((-2147483648) ≤ z ∧ z ≤ 2147483647) ∧ σ = τ ∧ (z ≥ ma) ∧ (z ≥ mb) ∧ (z = ma ∨ z = mb)) := by
  show WP 139 0 [(0, iV ma), (1, iV mb)] [] _ _ _ _
  refine wp_il1 jF_139_0 rfl rfl (pc2 := 1) ?_
  refine wp_il1 jF_139_1 rfl rfl (pc2 := 2) ?_
  refine wp_i_lt jF_139_2 ⟨by omega, by omega⟩ ⟨by omega, by omega⟩ rfl (pc2 := 5) ?_ ?_
  · intro h1
    refine wp_il1 jF_139_9 rfl rfl (pc2 := 10) ?_
    refine wp_ri jF_139_10 rfl ?_
    exact ⟨mb, rfl, ⟨by omega, by omega⟩, rfl, (by omega), (by omega), (by omega)⟩
  · intro h1
    refine wp_il1 jF_139_5 rfl rfl (pc2 := 6) ?_
    refine wp_go jF_139_6 ?_
    refine wp_ri jF_139_10 rfl ?_
    exact ⟨ma, rfl, ⟨by omega, by omega⟩, rfl, (by omega), (by omega), (by omega)⟩
