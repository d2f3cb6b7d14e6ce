set_option maxHeartbeats 4000000 in
set_option maxRecDepth 20000 in
/-- Tape.append -/
theorem m_26_r10 (σ : jM) (hg : GI σ) (n : Int) (hl_n : (-2147483648) ≤ n) (hu_n : n ≤ 2147483647)  (fr lo : Nat) (hfr : 0 ≤ fr) (hlo : 0 ≤ lo) : WP 26 0 (lv_args 0 [.ref 10, iV n]) [] fr lo σ (fun v τ => v = none ∧ GI τ ∧ FR Wap σ τ ∧ ((σ.1 10 1) ≤ (τ.1 10 1)) ∧ ((σ.1 10 1) + 4 ≤ 1600 → (τ.1 10 1) = (σ.1 10 1) + 4)) := by
  show WP 26 0 [(0, .ref 10), (1, iV n)] [] _ _ _ _
  refine wp_bi jF_26_0 (by decide) rfl (pc2 := 2) ?_
  refine wp_is1 (lv2 := [(0, .ref 10), (1, iV n), (2, iV 24)]) jF_26_2 rfl rfl rfl (pc2 := 3) ?_
  have b1 := GI.b hg 10 1 kd10 (lo := 0) (hi := 1600) rfl
  refine wp_loop (α := Int) (fun a => [(0, .ref 10), (1, iV n), (2, iV (a))]) (fun a τ => ((-8) ≤ a ∧ a ≤ 24) ∧ GI τ ∧ FR Wap σ τ ∧ ((σ.1 10 1) ≤ (τ.1 10 1)) ∧ ((σ.1 10 1) + 4 ≤ 1600 → (((a) = 24 ∧ (τ.1 10 1) = (σ.1 10 1) + 0) ∨ ((a) = 16 ∧ (τ.1 10 1) = (σ.1 10 1) + 1) ∨ ((a) = 8 ∧ (τ.1 10 1) = (σ.1 10 1) + 2) ∨ ((a) = 0 ∧ (τ.1 10 1) = (σ.1 10 1) + 3) ∨ ((a) = -8 ∧ (τ.1 10 1) = (σ.1 10 1) + 4)))) (fun a τ => Int.toNat ((a) + 8)) (24) σ ?_ ?_
  · skip
    exact ⟨⟨by omega, by omega⟩, hg, FR.rf, (by omega), (by omega)⟩
  · rintro x2 τ4 ⟨h3, g5, f6, p7, p8⟩ ih9
    have b10 := GI.b g5 10 1 kd10 (lo := 0) (hi := 1600) rfl
    show WP 26 3 [(0, .ref 10), (1, iV n), (2, iV x2)] [] _ _ _ _
    show WP 26 3 [(0, .ref 10), (1, iV n), (2, iV x2)] [] _ _ _ _
    refine wp_il1 jF_26_3 rfl rfl (pc2 := 4) ?_
    refine wp_z_lt jF_26_4 (m_rgb h3 rfl) rfl (pc2 := 7) ?_ ?_
    · intro h11
      refine wp_rv jF_26_49 ?_
      exact ⟨rfl, g5, f6, (by omega), (by omega)⟩
    · intro h11
      refine wp_al1 jF_26_7 rfl rfl (pc2 := 8) ?_
      refine wp_gi jF_26_8 kd10 (by decide) rfl rfl rfl (pc2 := 11) ?_
      refine wp_si jF_26_11 (by decide) rfl (pc2 := 14) ?_
      refine wp_i_ge jF_26_14 (m_rgb b10 rfl) (m_rgl rfl) rfl (pc2 := 17) ?_ ?_
      · intro h12
        refine wp_rv jF_26_49 ?_
        exact ⟨rfl, g5, f6, (by omega), (by omega)⟩
      · intro h12
        refine wp_al1 jF_26_17 rfl rfl (pc2 := 18) ?_
        refine wp_gr (b := 11) jF_26_18 kd10 (by decide) (c := 111) rfl rfl rfl (pc2 := 21) ?_
        refine wp_al1 jF_26_21 rfl rfl (pc2 := 22) ?_
        refine wp_gi jF_26_22 kd10 (by decide) rfl rfl rfl (pc2 := 25) ?_
        refine wp_il1 jF_26_25 rfl rfl (pc2 := 26) ?_
        refine wp_il1 jF_26_26 rfl rfl (pc2 := 27) ?_
        refine wp_any2 (pc2 := 28) jF_26_27 rfl rfl ?_
        intro z13 h14
        refine wp_si jF_26_28 (by decide) rfl (pc2 := 31) ?_
        refine wp_andl jF_26_31 rfl rfl (pc2 := 32) ?_
        intro z15 h16
        refine wp_iast (n := 1600) jF_26_32 kd11 (by decide) rfl rfl (by omega) (by omega) rfl (pc2 := 33) g5 (lo := 0) (hi := 255) rfl (by omega) (by omega) ?_
        intro τ17 g18 f19 e20
        refine wp_al1 jF_26_33 rfl rfl (pc2 := 34) ?_
        refine wp_dup jF_26_34 rfl rfl (pc2 := 35) ?_
        refine wp_gi jF_26_35 kd10 (by decide) rfl (FRw.na f19 (by decide)) rfl (pc2 := 38) ?_
        refine wp_ic jF_26_38 rfl (pc2 := 39) ?_
        refine wp_add jF_26_39 rfl (pc2 := 40) ?_
        refine wp_pi jF_26_40 kd10 (by decide) rfl rfl rfl (pc2 := 43) g18 (lo := 0) (hi := 1600) rfl (by omega) (by omega) ?_
        intro τ21 g22 f23 e24
        refine wp_inc (lv2 := [(0, .ref 10), (1, iV n), (2, iV (x2 + (-8)))]) jF_26_43 rfl rfl rfl rfl (pc2 := 46) ?_
        refine wp_go jF_26_46 ?_
        have q25 : (τ21.1 10 1) = ((τ4.1 10 1) + 1) := e24
        exact ih9 ((x2 + (-8))) τ21 ⟨⟨by omega, by omega⟩, g22, (FR.w (FR.w f6 f19 rfl) f23 rfl), (by omega), (by omega)⟩ (by show Int.toNat ((x2 + (-8)) + 8) < Int.toNat (x2 + 8); omega)
