set_option maxHeartbeats 4000000 in
set_option maxRecDepth 20000 in
/-- M.qCode -/
theorem m_329_b (σ : jM) (hg : GI σ) (c : Int) (hl_c : (-2147483648) ≤ c) (hu_c : c ≤ 2147483647) (pre0 : (σ.1 117 87) ≤ 1689) (pre1 : c ≤ 11) (pre2 : (σ.1 117 5) = 0 → 2 ≤ (dp σ)) (fr lo : Nat) (hfr : 0 ≤ fr) (hlo : 0 ≤ lo) : WP 329 0 (lv_args 0 [.ref 117, iV c]) [] fr lo σ (fun v τ => v = none ∧ GI τ ∧ FR Wqc σ τ ∧ ((τ.1 117 87) = (σ.1 117 87) + 1) ∧ ((σ.1 117 5) = 0 → (dp τ) = (dp σ) - 1)) := by
  show WP 329 0 [(0, .ref 117), (1, iV c)] [] _ _ _ _
  refine wp_al1 jF_329_0 rfl rfl (pc2 := 1) ?_
  refine wp_gr (b := 176) jF_329_1 kd117 (by decide) (c := 276) rfl rfl rfl (pc2 := 4) ?_
  refine wp_al1 jF_329_4 rfl rfl (pc2 := 5) ?_
  have b1 := GI.b hg 117 87 kd117 (lo := 0) (hi := 1690) rfl
  refine wp_gi jF_329_5 kd117 (by decide) rfl rfl rfl (pc2 := 8) ?_
  refine wp_il1 jF_329_8 rfl rfl (pc2 := 9) ?_
  refine wp_iast (n := 1700) jF_329_9 kd176 (by decide) rfl rfl (by omega) (by omega) rfl (pc2 := 10) hg (lo := (-2147483648)) (hi := 2147483647) rfl (by omega) (by omega) ?_
  intro τ2 g3 f4 e5
  refine wp_al1 jF_329_10 rfl rfl (pc2 := 11) ?_
  refine wp_dup jF_329_11 rfl rfl (pc2 := 12) ?_
  refine wp_gi jF_329_12 kd117 (by decide) rfl (FRw.na f4 (by decide)) rfl (pc2 := 15) ?_
  refine wp_ic jF_329_15 rfl (pc2 := 16) ?_
  refine wp_add jF_329_16 rfl (pc2 := 17) ?_
  refine wp_pi jF_329_17 kd117 (by decide) rfl rfl rfl (pc2 := 20) g3 (lo := 0) (hi := 1690) rfl (by omega) (by omega) ?_
  intro τ6 g7 f8 e9
  refine wp_rv jF_329_20 ?_
  have q10 : (τ6.1 117 87) = ((σ.1 117 87) + 1) := e9
  exact ⟨rfl, g7, (FR.w (FR.w FR.rf f4 rfl) f8 rfl), (by omega), (by have e := dp_push f4 e5 rfl f8 e9 (by omega); have d := stp_e (d := dp σ) (c := c); omega)⟩
set_option maxHeartbeats 4000000 in
set_option maxRecDepth 20000 in
/-- M.qCode -/
theorem m_329_p (σ : jM) (hg : GI σ) (c : Int) (hl_c : (-2147483648) ≤ c) (hu_c : c ≤ 2147483647) (pre0 : (σ.1 117 87) ≤ 1689) (pre1 : 1000 ≤ c ∨ (40 ≤ c ∧ c ≤ 59) ∨ c = 13) (pre2 : 0 ≤ (dp σ)) (fr lo : Nat) (hfr : 0 ≤ fr) (hlo : 0 ≤ lo) : WP 329 0 (lv_args 0 [.ref 117, iV c]) [] fr lo σ (fun v τ => v = none ∧ GI τ ∧ FR Wqc σ τ ∧ ((τ.1 117 87) = (σ.1 117 87) + 1) ∧ ((dp τ) = (dp σ) + 1)) := by
  show WP 329 0 [(0, .ref 117), (1, iV c)] [] _ _ _ _
  refine wp_al1 jF_329_0 rfl rfl (pc2 := 1) ?_
  refine wp_gr (b := 176) jF_329_1 kd117 (by decide) (c := 276) rfl rfl rfl (pc2 := 4) ?_
  refine wp_al1 jF_329_4 rfl rfl (pc2 := 5) ?_
  have b1 := GI.b hg 117 87 kd117 (lo := 0) (hi := 1690) rfl
  refine wp_gi jF_329_5 kd117 (by decide) rfl rfl rfl (pc2 := 8) ?_
  refine wp_il1 jF_329_8 rfl rfl (pc2 := 9) ?_
  refine wp_iast (n := 1700) jF_329_9 kd176 (by decide) rfl rfl (by omega) (by omega) rfl (pc2 := 10) hg (lo := (-2147483648)) (hi := 2147483647) rfl (by omega) (by omega) ?_
  intro τ2 g3 f4 e5
  refine wp_al1 jF_329_10 rfl rfl (pc2 := 11) ?_
  refine wp_dup jF_329_11 rfl rfl (pc2 := 12) ?_
  refine wp_gi jF_329_12 kd117 (by decide) rfl (FRw.na f4 (by decide)) rfl (pc2 := 15) ?_
  refine wp_ic jF_329_15 rfl (pc2 := 16) ?_
  refine wp_add jF_329_16 rfl (pc2 := 17) ?_
  refine wp_pi jF_329_17 kd117 (by decide) rfl rfl rfl (pc2 := 20) g3 (lo := 0) (hi := 1690) rfl (by omega) (by omega) ?_
  intro τ6 g7 f8 e9
  refine wp_rv jF_329_20 ?_
  have q10 : (τ6.1 117 87) = ((σ.1 117 87) + 1) := e9
  exact ⟨rfl, g7, (FR.w (FR.w FR.rf f4 rfl) f8 rfl), (by omega), (by have e := dp_push f4 e5 rfl f8 e9 (by omega); have d := stp_e (d := dp σ) (c := c); omega)⟩
set_option maxHeartbeats 4000000 in
set_option maxRecDepth 20000 in
/-- M.qIsOn -/
theorem m_341_n (σ : jM) (hg : GI σ) (c : Int) (hl_c : 0 ≤ c) (hu_c : c ≤ 60)  (fr lo : Nat) (hfr : 0 ≤ fr) (hlo : 0 ≤ lo) : WP 341 0 (lv_args 0 [.ref 117, iV c]) [] fr lo σ (fun v τ => ∃ z : Int, v = some (iV z) ∧ (0 ≤ z ∧ z ≤ 1) ∧ σ = τ ∧ (z = 1 → (1 ≤ (σ.1 117 89) ∧ (tq σ) = c))) := by
  show WP 341 0 [(0, .ref 117), (1, iV c)] [] _ _ _ _
  refine wp_al1 jF_341_0 rfl rfl (pc2 := 1) ?_
  have b1 := GI.b hg 117 89 kd117 (lo := 0) (hi := 1690) rfl
  refine wp_gi jF_341_1 kd117 (by decide) rfl rfl rfl (pc2 := 4) ?_
  refine wp_z_le jF_341_4 (m_rgb b1 rfl) rfl (pc2 := 7) ?_ ?_
  · intro h2
    refine wp_ic jF_341_26 rfl (pc2 := 27) ?_
    refine wp_ri jF_341_27 rfl ?_
    have b3 := GI.b hg 177 ((σ.1 117 89) - 1).toNat kd177 (lo := (-2147483648)) (hi := 2147483647) rfl
    have q4 : (tq σ) = (σ.1 177 ((σ.1 117 89) - 1).toNat) := ((tq_e (σ := σ)).trans (congrArg (fun z : Int => σ.1 177 (z - 1).toNat) (show (σ.1 117 89) = (σ.1 117 89) from rfl))).trans rfl
    exact ⟨0, rfl, ⟨by omega, by omega⟩, rfl, (by omega)⟩
  · intro h2
    refine wp_al1 jF_341_7 rfl rfl (pc2 := 8) ?_
    refine wp_gr (b := 177) jF_341_8 kd117 (by decide) (c := 277) rfl rfl rfl (pc2 := 11) ?_
    refine wp_al1 jF_341_11 rfl rfl (pc2 := 12) ?_
    refine wp_gi jF_341_12 kd117 (by decide) rfl rfl rfl (pc2 := 15) ?_
    refine wp_ic jF_341_15 rfl (pc2 := 16) ?_
    refine wp_sub jF_341_16 rfl (pc2 := 17) ?_
    have b5 := GI.b hg 177 ((σ.1 117 89) - 1).toNat kd177 (lo := (-2147483648)) (hi := 2147483647) rfl
    refine wp_iald (n := 1700) (e := (σ.1 177 ((σ.1 117 89) - 1).toNat)) jF_341_17 kd177 (by decide) rfl rfl (by omega) (by omega) rfl rfl (pc2 := 18) ?_
    refine wp_il1 jF_341_18 rfl rfl (pc2 := 19) ?_
    refine wp_i_ne jF_341_19 (m_rgb b5 rfl) ⟨by omega, by omega⟩ rfl (pc2 := 22) ?_ ?_
    · intro h6
      refine wp_ic jF_341_26 rfl (pc2 := 27) ?_
      refine wp_ri jF_341_27 rfl ?_
      have q7 : (tq σ) = (σ.1 177 ((σ.1 117 89) - 1).toNat) := ((tq_e (σ := σ)).trans (congrArg (fun z : Int => σ.1 177 (z - 1).toNat) (show (σ.1 117 89) = (σ.1 117 89) from rfl))).trans rfl
      exact ⟨0, rfl, ⟨by omega, by omega⟩, rfl, (by omega)⟩
    · intro h6
      refine wp_ic jF_341_22 rfl (pc2 := 23) ?_
      refine wp_go jF_341_23 ?_
      refine wp_ri jF_341_27 rfl ?_
      have q8 : (tq σ) = (σ.1 177 ((σ.1 117 89) - 1).toNat) := ((tq_e (σ := σ)).trans (congrArg (fun z : Int => σ.1 177 (z - 1).toNat) (show (σ.1 117 89) = (σ.1 117 89) from rfl))).trans rfl
      exact ⟨1, rfl, ⟨by omega, by omega⟩, rfl, (by omega)⟩
