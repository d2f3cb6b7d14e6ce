set_option maxHeartbeats 4000000 in
set_option maxRecDepth 20000 in
/-- X.end -/
theorem m_27_r9_e (σ : jM) (hg : GI σ) (n : Int) (hl_n : (-2147483648) ≤ n) (hu_n : n ≤ 2147483647)  (fr lo : Nat) (hfr : 1 ≤ fr) (hlo : 21 ≤ lo) : WP 27 0 (lv_args 0 [.ref 9, iV n]) [] fr lo σ (fun v τ => ∃ z : Int, v = some (iV z) ∧ (0 ≤ z ∧ z ≤ 1) ∧ GI τ ∧ FR WXe σ τ ∧ (0 ≤ n → n ≤ (σ.1 10 1) → ((τ.1 10 1) = n ∧ z = 1)) ∧ ((n < 0 ∨ (σ.1 10 1) < n) → ((τ.1 10 1) = (σ.1 10 1) ∧ z = 0))) := by
  show WP 27 0 [(0, .ref 9), (1, iV n)] [] _ _ _ _
  refine wp_il1 jF_27_0 rfl rfl (pc2 := 1) ?_
  refine wp_z_lt jF_27_1 ⟨by omega, by omega⟩ rfl (pc2 := 4) ?_ ?_
  · intro h1
    refine wp_al1 jF_27_15 rfl rfl (pc2 := 16) ?_
    refine wp_ic jF_27_16 rfl (pc2 := 17) ?_
    refine wp_cV (as := [iV 0]) (rest := []) (a := 9) (mx := 2) (ci := 11) jF_27_17 kd9 (by decide) rfl rfl rfl rfl rfl (by omega) (by omega) rfl (pc2 := 20) ?_
    refine wp_use (m_25_r9 σ hg 0 (by omega) (by omega)  _ _ (by omega) (by omega)) ?_
    rintro _ τ2 ⟨z5, rfl, h6, g3, f4⟩
    show WP 27 20 [(0, .ref 9), (1, iV n)] [iV z5] _ _ _ _
    refine wp_pop jF_27_20 rfl rfl (pc2 := 21) ?_
    refine wp_ic jF_27_21 rfl (pc2 := 22) ?_
    refine wp_ri jF_27_22 rfl ?_
    have b7 := GI.b hg 10 1 kd10 (lo := 0) (hi := 1600) rfl
    have q8 : (τ2.1 10 1) = (σ.1 10 1) := (FR.at f4 10 1 rfl)
    exact ⟨0, rfl, ⟨by omega, by omega⟩, g3, (FR.up FR.rf f4 sb_WXr_WXe), (by omega), (by omega)⟩
  · intro h1
    refine wp_il1 jF_27_4 rfl rfl (pc2 := 5) ?_
    refine wp_al1 jF_27_5 rfl rfl (pc2 := 6) ?_
    refine wp_gr (b := 10) jF_27_6 kd9 (by decide) (c := 110) rfl rfl rfl (pc2 := 9) ?_
    have b9 := GI.b hg 10 1 kd10 (lo := 0) (hi := 1600) rfl
    refine wp_gi jF_27_9 kd10 (by decide) rfl rfl rfl (pc2 := 12) ?_
    refine wp_i_le jF_27_12 ⟨by omega, by omega⟩ (m_rgb b9 rfl) rfl (pc2 := 15) ?_ ?_
    · intro h10
      refine wp_al1 jF_27_23 rfl rfl (pc2 := 24) ?_
      refine wp_gr (b := 10) jF_27_24 kd9 (by decide) (c := 110) rfl rfl rfl (pc2 := 27) ?_
      refine wp_il1 jF_27_27 rfl rfl (pc2 := 28) ?_
      refine wp_pi jF_27_28 kd10 (by decide) rfl rfl rfl (pc2 := 31) hg (lo := 0) (hi := 1600) rfl (by omega) (by omega) ?_
      intro τ11 g12 f13 e14
      refine wp_ic jF_27_31 rfl (pc2 := 32) ?_
      refine wp_ri jF_27_32 rfl ?_
      have q15 : (τ11.1 10 1) = n := e14
      exact ⟨1, rfl, ⟨by omega, by omega⟩, g12, (FR.w FR.rf f13 rfl), (by omega), (by omega)⟩
    · intro h10
      refine wp_al1 jF_27_15 rfl rfl (pc2 := 16) ?_
      refine wp_ic jF_27_16 rfl (pc2 := 17) ?_
      refine wp_cV (as := [iV 0]) (rest := []) (a := 9) (mx := 2) (ci := 11) jF_27_17 kd9 (by decide) rfl rfl rfl rfl rfl (by omega) (by omega) rfl (pc2 := 20) ?_
      refine wp_use (m_25_r9 σ hg 0 (by omega) (by omega)  _ _ (by omega) (by omega)) ?_
      rintro _ τ16 ⟨z19, rfl, h20, g17, f18⟩
      show WP 27 20 [(0, .ref 9), (1, iV n)] [iV z19] _ _ _ _
      refine wp_pop jF_27_20 rfl rfl (pc2 := 21) ?_
      refine wp_ic jF_27_21 rfl (pc2 := 22) ?_
      refine wp_ri jF_27_22 rfl ?_
      have q21 : (τ16.1 10 1) = (σ.1 10 1) := (FR.at f18 10 1 rfl)
      exact ⟨0, rfl, ⟨by omega, by omega⟩, g17, (FR.up FR.rf f18 sb_WXr_WXe), (by omega), (by omega)⟩
set_option maxHeartbeats 4000000 in
set_option maxRecDepth 20000 in
/-- M.end -/
theorem m_213_e (σ : jM) (hg : GI σ) (n : Int) (hl_n : (-2147483648) ≤ n) (hu_n : n ≤ 2147483647)  (fr lo : Nat) (hfr : 0 ≤ fr) (hlo : 0 ≤ lo) : WP 213 0 (lv_args 0 [.ref 117, iV n]) [] fr lo σ (fun v τ => ∃ z : Int, v = some (iV z) ∧ (0 ≤ z ∧ z ≤ 1) ∧ GI τ ∧ FR Wend σ τ ∧ (0 ≤ n → n ≤ (σ.1 117 1) → ((τ.1 117 1) = n ∧ z = 1)) ∧ ((n < 0 ∨ (σ.1 117 1) < n) → ((τ.1 117 1) = (σ.1 117 1) ∧ z = 0))) := by
  show WP 213 0 [(0, .ref 117), (1, iV n)] [] _ _ _ _
  refine wp_il1 jF_213_0 rfl rfl (pc2 := 1) ?_
  refine wp_z_lt jF_213_1 ⟨by omega, by omega⟩ rfl (pc2 := 4) ?_ ?_
  · intro h1
    refine wp_al1 jF_213_12 rfl rfl (pc2 := 13) ?_
    refine wp_gr (b := 119) jF_213_13 kd117 (by decide) (c := 219) rfl rfl rfl (pc2 := 16) ?_
    refine wp_ic jF_213_16 rfl (pc2 := 17) ?_
    refine wp_du2 jF_213_17 rfl rfl (pc2 := 18) ?_
    have b2 := GI.b hg 119 0 kd119 (lo := (-2147483648)) (hi := 2147483647) rfl
    refine wp_iald (n := 6) (e := (σ.1 119 0)) jF_213_18 kd119 (by decide) rfl rfl (by omega) (by omega) rfl rfl (pc2 := 19) ?_
    refine wp_ic jF_213_19 rfl (pc2 := 20) ?_
    refine wp_any2 (pc2 := 21) jF_213_20 rfl rfl ?_
    intro z3 h4
    refine wp_iast (n := 6) jF_213_21 kd119 (by decide) rfl rfl (by omega) (by omega) rfl (pc2 := 22) hg (lo := (-2147483648)) (hi := 2147483647) rfl (by omega) (by omega) ?_
    intro τ5 g6 f7 e8
    refine wp_ic jF_213_22 rfl (pc2 := 23) ?_
    refine wp_ri jF_213_23 rfl ?_
    have b9 := GI.b hg 117 1 kd117 (lo := 0) (hi := 1600) rfl
    have q10 : (τ5.1 117 1) = (σ.1 117 1) := (FRw.na f7 (by decide))
    exact ⟨0, rfl, ⟨by omega, by omega⟩, g6, (FR.w FR.rf f7 rfl), (by omega), (by omega)⟩
  · intro h1
    refine wp_il1 jF_213_4 rfl rfl (pc2 := 5) ?_
    refine wp_al1 jF_213_5 rfl rfl (pc2 := 6) ?_
    have b11 := GI.b hg 117 1 kd117 (lo := 0) (hi := 1600) rfl
    refine wp_gi jF_213_6 kd117 (by decide) rfl rfl rfl (pc2 := 9) ?_
    refine wp_i_le jF_213_9 ⟨by omega, by omega⟩ (m_rgb b11 rfl) rfl (pc2 := 12) ?_ ?_
    · intro h12
      refine wp_al1 jF_213_24 rfl rfl (pc2 := 25) ?_
      refine wp_il1 jF_213_25 rfl rfl (pc2 := 26) ?_
      refine wp_pi jF_213_26 kd117 (by decide) rfl rfl rfl (pc2 := 29) hg (lo := 0) (hi := 1600) rfl (by omega) (by omega) ?_
      intro τ13 g14 f15 e16
      refine wp_ic jF_213_29 rfl (pc2 := 30) ?_
      refine wp_ri jF_213_30 rfl ?_
      have q17 : (τ13.1 117 1) = n := e16
      exact ⟨1, rfl, ⟨by omega, by omega⟩, g14, (FR.w FR.rf f15 rfl), (by omega), (by omega)⟩
    · intro h12
      refine wp_al1 jF_213_12 rfl rfl (pc2 := 13) ?_
      refine wp_gr (b := 119) jF_213_13 kd117 (by decide) (c := 219) rfl rfl rfl (pc2 := 16) ?_
      refine wp_ic jF_213_16 rfl (pc2 := 17) ?_
      refine wp_du2 jF_213_17 rfl rfl (pc2 := 18) ?_
      have b18 := GI.b hg 119 0 kd119 (lo := (-2147483648)) (hi := 2147483647) rfl
      refine wp_iald (n := 6) (e := (σ.1 119 0)) jF_213_18 kd119 (by decide) rfl rfl (by omega) (by omega) rfl rfl (pc2 := 19) ?_
      refine wp_ic jF_213_19 rfl (pc2 := 20) ?_
      refine wp_any2 (pc2 := 21) jF_213_20 rfl rfl ?_
      intro z19 h20
      refine wp_iast (n := 6) jF_213_21 kd119 (by decide) rfl rfl (by omega) (by omega) rfl (pc2 := 22) hg (lo := (-2147483648)) (hi := 2147483647) rfl (by omega) (by omega) ?_
      intro τ21 g22 f23 e24
      refine wp_ic jF_213_22 rfl (pc2 := 23) ?_
      refine wp_ri jF_213_23 rfl ?_
      have q25 : (τ21.1 117 1) = (σ.1 117 1) := (FRw.na f23 (by decide))
      exact ⟨0, rfl, ⟨by omega, by omega⟩, g22, (FR.w FR.rf f23 rfl), (by omega), (by omega)⟩
set_option maxHeartbeats 4000000 in
set_option maxRecDepth 20000 in
/-- X.seed -/
theorem m_168_r9_e (σ : jM) (hg : GI σ) (n : Int) (hl_n : (-2147483648) ≤ n) (hu_n : n ≤ 2147483647)  (fr lo : Nat) (hfr : 1 ≤ fr) (hlo : 21 ≤ lo) : WP 168 0 (lv_args 0 [.ref 9, iV n]) [] fr lo σ (fun v τ => ∃ z : Int, v = some (iV z) ∧ (0 ≤ z ∧ z ≤ 1) ∧ GI τ ∧ FR WXg σ τ ∧ (0 ≤ n → z = 1) ∧ (n < 0 → z = 0)) := by
  show WP 168 0 [(0, .ref 9), (1, iV n)] [] _ _ _ _
  refine wp_il1 jF_168_0 rfl rfl (pc2 := 1) ?_
  refine wp_z_ge jF_168_1 ⟨by omega, by omega⟩ rfl (pc2 := 4) ?_ ?_
  · intro h1
    refine wp_al1 jF_168_12 rfl rfl (pc2 := 13) ?_
    refine wp_il1 jF_168_13 rfl rfl (pc2 := 14) ?_
    refine wp_i2l jF_168_14 rfl (pc2 := 15) ?_
    refine wp_pl jF_168_15 kd9 (by decide) rfl rfl (pc2 := 18) hg ?_
    intro τ2 g3 f4
    refine wp_ic jF_168_18 rfl (pc2 := 19) ?_
    refine wp_ri jF_168_19 rfl ?_
    exact ⟨1, rfl, ⟨by omega, by omega⟩, g3, (FR.w FR.rf f4 rfl), (by omega), (by omega)⟩
  · intro h1
    refine wp_al1 jF_168_4 rfl rfl (pc2 := 5) ?_
    refine wp_ic jF_168_5 rfl (pc2 := 6) ?_
    refine wp_cV (as := [iV 4]) (rest := []) (a := 9) (mx := 2) (ci := 11) jF_168_6 kd9 (by decide) rfl rfl rfl rfl rfl (by omega) (by omega) rfl (pc2 := 9) ?_
    refine wp_use (m_25_r9 σ hg 4 (by omega) (by omega)  _ _ (by omega) (by omega)) ?_
    rintro _ τ5 ⟨z8, rfl, h9, g6, f7⟩
    show WP 168 9 [(0, .ref 9), (1, iV n)] [iV z8] _ _ _ _
    refine wp_pop jF_168_9 rfl rfl (pc2 := 10) ?_
    refine wp_ic jF_168_10 rfl (pc2 := 11) ?_
    refine wp_ri jF_168_11 rfl ?_
    exact ⟨0, rfl, ⟨by omega, by omega⟩, g6, (FR.up FR.rf f7 sb_WXr_WXg), (by omega), (by omega)⟩
set_option maxHeartbeats 4000000 in
set_option maxRecDepth 20000 in
/-- M.seed -/
theorem m_322_e (σ : jM) (hg : GI σ) (n : Int) (hl_n : (-2147483648) ≤ n) (hu_n : n ≤ 2147483647)  (fr lo : Nat) (hfr : 0 ≤ fr) (hlo : 0 ≤ lo) : WP 322 0 (lv_args 0 [.ref 117, iV n]) [] fr lo σ (fun v τ => ∃ z : Int, v = some (iV z) ∧ (0 ≤ z ∧ z ≤ 1) ∧ GI τ ∧ FR Wrf σ τ ∧ (0 ≤ n → z = 1) ∧ (n < 0 → z = 0)) := by
  show WP 322 0 [(0, .ref 117), (1, iV n)] [] _ _ _ _
  refine wp_il1 jF_322_0 rfl rfl (pc2 := 1) ?_
  refine wp_z_ge jF_322_1 ⟨by omega, by omega⟩ rfl (pc2 := 4) ?_ ?_
  · intro h1
    refine wp_al1 jF_322_16 rfl rfl (pc2 := 17) ?_
    refine wp_il1 jF_322_17 rfl rfl (pc2 := 18) ?_
    refine wp_i2l jF_322_18 rfl (pc2 := 19) ?_
    refine wp_pl jF_322_19 kd117 (by decide) rfl rfl (pc2 := 22) hg ?_
    intro τ2 g3 f4
    refine wp_ic jF_322_22 rfl (pc2 := 23) ?_
    refine wp_ri jF_322_23 rfl ?_
    exact ⟨1, rfl, ⟨by omega, by omega⟩, g3, (FR.w FR.rf f4 rfl), (by omega), (by omega)⟩
  · intro h1
    refine wp_al1 jF_322_4 rfl rfl (pc2 := 5) ?_
    refine wp_gr (b := 119) jF_322_5 kd117 (by decide) (c := 219) rfl rfl rfl (pc2 := 8) ?_
    refine wp_ic jF_322_8 rfl (pc2 := 9) ?_
    refine wp_du2 jF_322_9 rfl rfl (pc2 := 10) ?_
    have b5 := GI.b hg 119 4 kd119 (lo := (-2147483648)) (hi := 2147483647) rfl
    refine wp_iald (n := 6) (e := (σ.1 119 4)) jF_322_10 kd119 (by decide) rfl rfl (by omega) (by omega) rfl rfl (pc2 := 11) ?_
    refine wp_ic jF_322_11 rfl (pc2 := 12) ?_
    refine wp_any2 (pc2 := 13) jF_322_12 rfl rfl ?_
    intro z6 h7
    refine wp_iast (n := 6) jF_322_13 kd119 (by decide) rfl rfl (by omega) (by omega) rfl (pc2 := 14) hg (lo := (-2147483648)) (hi := 2147483647) rfl (by omega) (by omega) ?_
    intro τ8 g9 f10 e11
    refine wp_ic jF_322_14 rfl (pc2 := 15) ?_
    refine wp_ri jF_322_15 rfl ?_
    exact ⟨0, rfl, ⟨by omega, by omega⟩, g9, (FR.w FR.rf f10 rfl), (by omega), (by omega)⟩
