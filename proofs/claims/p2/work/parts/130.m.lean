set_option maxHeartbeats 4000000 in
set_option maxRecDepth 20000 in
/-- M.look -/
theorem m_216 (σ : jM) (hg : GI σ)   (fr lo : Nat) (hfr : 0 ≤ fr) (hlo : 0 ≤ lo) : WP 216 0 (lv_args 0 [.ref 117]) [] fr lo σ (fun v τ => ∃ z : Int, v = some (iV z) ∧ ((-1) ≤ z ∧ z ≤ 255) ∧ GI τ ∧ FR Wat σ τ ∧ (0 ≤ z → (τ.1 117 2) < (σ.1 117 3)) ∧ ((σ.1 117 2) ≤ (τ.1 117 2)) ∧ ((τ.1 117 2) ≤ (σ.1 117 3) ∨ (τ.1 117 2) = (σ.1 117 2))) := by
  show WP 216 0 [(0, .ref 117)] [] _ _ _ _
  refine wp_loop (α := Unit) (fun a => [(0, .ref 117)]) (fun a τ => GI τ ∧ FR Wat σ τ ∧ ((σ.1 117 2) ≤ (τ.1 117 2)) ∧ ((τ.1 117 2) ≤ (σ.1 117 3) ∨ (τ.1 117 2) = (σ.1 117 2))) (fun a τ => Int.toNat (1700 - (τ.1 117 2))) () σ ?_ ?_
  · skip
    have b1 := GI.b hg 117 2 kd117 (lo := 0) (hi := 1600) rfl
    have b2 := GI.b hg 117 3 kd117 (lo := 0) (hi := 1600) rfl
    exact ⟨hg, FR.rf, (by omega), (by omega)⟩
  · rintro ⟨⟩ τ3 ⟨g4, f5, p6, p7⟩ ih8
    show WP 216 0 [(0, .ref 117)] [] _ _ _ _
    refine wp_al1 jF_216_0 rfl rfl (pc2 := 1) ?_
    have b9 := GI.b g4 117 2 kd117 (lo := 0) (hi := 1600) rfl
    refine wp_gi jF_216_1 kd117 (by decide) rfl rfl rfl (pc2 := 4) ?_
    refine wp_al1 jF_216_4 rfl rfl (pc2 := 5) ?_
    have b10 := GI.b hg 117 3 kd117 (lo := 0) (hi := 1600) rfl
    refine wp_gi jF_216_5 kd117 (by decide) rfl (FR.at f5 117 3 rfl) rfl (pc2 := 8) ?_
    refine wp_i_ge jF_216_8 (m_rgb b9 rfl) (m_rgb b10 rfl) rfl (pc2 := 11) ?_ ?_
    · intro h11
      refine wp_al1 jF_216_52 rfl rfl (pc2 := 53) ?_
      refine wp_gi jF_216_53 kd117 (by decide) rfl rfl rfl (pc2 := 56) ?_
      refine wp_al1 jF_216_56 rfl rfl (pc2 := 57) ?_
      refine wp_gi jF_216_57 kd117 (by decide) rfl (FR.at f5 117 3 rfl) rfl (pc2 := 60) ?_
      refine wp_i_ge jF_216_60 (m_rgb b9 rfl) (m_rgb b10 rfl) rfl (pc2 := 63) ?_ ?_
      · intro h12
        refine wp_ic jF_216_75 rfl (pc2 := 76) ?_
        refine wp_ri jF_216_76 rfl ?_
        exact ⟨(-1), rfl, ⟨by omega, by omega⟩, g4, f5, (by omega), (by omega), (by omega)⟩
      · intro h12
        refine wp_al1 jF_216_63 rfl rfl (pc2 := 64) ?_
        refine wp_gr (b := 118) jF_216_64 kd117 (by decide) (c := 218) rfl rfl rfl (pc2 := 67) ?_
        refine wp_al1 jF_216_67 rfl rfl (pc2 := 68) ?_
        refine wp_gi jF_216_68 kd117 (by decide) rfl rfl rfl (pc2 := 71) ?_
        have b13 := GI.b hg 118 (τ3.1 117 2).toNat kd118 (lo := 0) (hi := 255) rfl
        refine wp_iald (n := 1600) jF_216_71 kd118 (by decide) rfl rfl (by omega) (by omega) (FR.at f5 118 (τ3.1 117 2).toNat rfl) rfl (pc2 := 72) ?_
        refine wp_go jF_216_72 ?_
        refine wp_ri jF_216_76 rfl ?_
        exact ⟨(σ.1 118 (τ3.1 117 2).toNat), rfl, ⟨by omega, by omega⟩, g4, f5, (by omega), (by omega), (by omega)⟩
    · intro h11
      refine wp_al1 jF_216_11 rfl rfl (pc2 := 12) ?_
      refine wp_gr (b := 118) jF_216_12 kd117 (by decide) (c := 218) rfl rfl rfl (pc2 := 15) ?_
      refine wp_al1 jF_216_15 rfl rfl (pc2 := 16) ?_
      refine wp_gi jF_216_16 kd117 (by decide) rfl rfl rfl (pc2 := 19) ?_
      have b14 := GI.b hg 118 (τ3.1 117 2).toNat kd118 (lo := 0) (hi := 255) rfl
      refine wp_iald (n := 1600) jF_216_19 kd118 (by decide) rfl rfl (by omega) (by omega) (FR.at f5 118 (τ3.1 117 2).toNat rfl) rfl (pc2 := 20) ?_
      refine wp_bi jF_216_20 (by decide) rfl (pc2 := 22) ?_
      refine wp_i_eq jF_216_22 (m_rgb b14 rfl) (m_rgl rfl) rfl (pc2 := 25) ?_ ?_
      · intro h15
        refine wp_al1 jF_216_39 rfl rfl (pc2 := 40) ?_
        refine wp_dup jF_216_40 rfl rfl (pc2 := 41) ?_
        refine wp_gi jF_216_41 kd117 (by decide) rfl rfl rfl (pc2 := 44) ?_
        refine wp_ic jF_216_44 rfl (pc2 := 45) ?_
        refine wp_add jF_216_45 rfl (pc2 := 46) ?_
        refine wp_pi jF_216_46 kd117 (by decide) rfl rfl rfl (pc2 := 49) g4 (lo := 0) (hi := 1600) rfl (by omega) (by omega) ?_
        intro τ16 g17 f18 e19
        refine wp_go jF_216_49 ?_
        have q20 : (τ16.1 117 2) = ((τ3.1 117 2) + 1) := e19
        exact ih8 () τ16 ⟨g17, (FR.w f5 f18 rfl), (by omega), (by omega)⟩ (by show Int.toNat (1700 - (τ16.1 117 2)) < Int.toNat (1700 - (τ3.1 117 2)); omega)
      · intro h15
        refine wp_al1 jF_216_25 rfl rfl (pc2 := 26) ?_
        refine wp_gr (b := 118) jF_216_26 kd117 (by decide) (c := 218) rfl rfl rfl (pc2 := 29) ?_
        refine wp_al1 jF_216_29 rfl rfl (pc2 := 30) ?_
        refine wp_gi jF_216_30 kd117 (by decide) rfl rfl rfl (pc2 := 33) ?_
        refine wp_iald (n := 1600) jF_216_33 kd118 (by decide) rfl rfl (by omega) (by omega) (FR.at f5 118 (τ3.1 117 2).toNat rfl) rfl (pc2 := 34) ?_
        refine wp_bi jF_216_34 (by decide) rfl (pc2 := 36) ?_
        refine wp_i_ne jF_216_36 (m_rgb b14 rfl) (m_rgl rfl) rfl (pc2 := 39) ?_ ?_
        · intro h21
          refine wp_al1 jF_216_52 rfl rfl (pc2 := 53) ?_
          refine wp_gi jF_216_53 kd117 (by decide) rfl rfl rfl (pc2 := 56) ?_
          refine wp_al1 jF_216_56 rfl rfl (pc2 := 57) ?_
          refine wp_gi jF_216_57 kd117 (by decide) rfl (FR.at f5 117 3 rfl) rfl (pc2 := 60) ?_
          refine wp_i_ge jF_216_60 (m_rgb b9 rfl) (m_rgb b10 rfl) rfl (pc2 := 63) ?_ ?_
          · intro h22
            refine wp_ic jF_216_75 rfl (pc2 := 76) ?_
            refine wp_ri jF_216_76 rfl ?_
            exact ⟨(-1), rfl, ⟨by omega, by omega⟩, g4, f5, (by omega), (by omega), (by omega)⟩
          · intro h22
            refine wp_al1 jF_216_63 rfl rfl (pc2 := 64) ?_
            refine wp_gr (b := 118) jF_216_64 kd117 (by decide) (c := 218) rfl rfl rfl (pc2 := 67) ?_
            refine wp_al1 jF_216_67 rfl rfl (pc2 := 68) ?_
            refine wp_gi jF_216_68 kd117 (by decide) rfl rfl rfl (pc2 := 71) ?_
            refine wp_iald (n := 1600) jF_216_71 kd118 (by decide) rfl rfl (by omega) (by omega) (FR.at f5 118 (τ3.1 117 2).toNat rfl) rfl (pc2 := 72) ?_
            refine wp_go jF_216_72 ?_
            refine wp_ri jF_216_76 rfl ?_
            exact ⟨(σ.1 118 (τ3.1 117 2).toNat), rfl, ⟨by omega, by omega⟩, g4, f5, (by omega), (by omega), (by omega)⟩
        · intro h21
          refine wp_al1 jF_216_39 rfl rfl (pc2 := 40) ?_
          refine wp_dup jF_216_40 rfl rfl (pc2 := 41) ?_
          refine wp_gi jF_216_41 kd117 (by decide) rfl rfl rfl (pc2 := 44) ?_
          refine wp_ic jF_216_44 rfl (pc2 := 45) ?_
          refine wp_add jF_216_45 rfl (pc2 := 46) ?_
          refine wp_pi jF_216_46 kd117 (by decide) rfl rfl rfl (pc2 := 49) g4 (lo := 0) (hi := 1600) rfl (by omega) (by omega) ?_
          intro τ23 g24 f25 e26
          refine wp_go jF_216_49 ?_
          have q27 : (τ23.1 117 2) = ((τ3.1 117 2) + 1) := e26
          exact ih8 () τ23 ⟨g24, (FR.w f5 f25 rfl), (by omega), (by omega)⟩ (by show Int.toNat (1700 - (τ23.1 117 2)) < Int.toNat (1700 - (τ3.1 117 2)); omega)
