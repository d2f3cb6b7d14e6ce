set_option maxHeartbeats 4000000 in
set_option maxRecDepth 20000 in
/-- M.triesRead -/
theorem m_257 (σ : jM) (hg : GI σ)   (fr lo : Nat) (hfr : 0 ≤ fr) (hlo : 0 ≤ lo) : WP 257 0 (lv_args 0 [.ref 117]) [] fr lo σ (fun v τ => v = none ∧ GI τ ∧ FR Wtr σ τ ∧ ((τ.1 117 49) = (σ.1 117 44)) ∧ ((tl τ) = (rl σ))) := by
  show WP 257 0 [(0, .ref 117)] [] _ _ _ _
  refine wp_al1 jF_257_0 rfl rfl (pc2 := 1) ?_
  refine wp_al1 jF_257_1 rfl rfl (pc2 := 2) ?_
  have b1 := GI.b hg 117 44 kd117 (lo := 0) (hi := 60) rfl
  refine wp_gi jF_257_2 kd117 (by decide) rfl rfl rfl (pc2 := 5) ?_
  refine wp_pi jF_257_5 kd117 (by decide) rfl rfl rfl (pc2 := 8) hg (lo := 0) (hi := 61) rfl (by omega) (by omega) ?_
  intro τ2 g3 f4 e5
  refine wp_ic jF_257_8 rfl (pc2 := 9) ?_
  refine wp_is1 (lv2 := [(0, .ref 117), (1, iV 0)]) jF_257_9 rfl rfl rfl (pc2 := 10) ?_
  have q6 : (τ2.1 117 44) = (σ.1 117 44) := (FRw.nj f4 (by decide))
  refine wp_loop (α := Int) (fun a => [(0, .ref 117), (1, iV (a))]) (fun a τ => (0 ≤ a ∧ a ≤ 60) ∧ GI τ ∧ FR Wtr τ2 τ ∧ ((a) ≤ (τ2.1 117 44)) ∧ ((τ.1 117 49) = (τ2.1 117 44)) ∧ (CPR σ τ (a))) (fun a τ => Int.toNat ((τ2.1 117 44) - (a))) (0) τ2 ?_ ?_
  · skip
    have q7 : (τ2.1 117 49) = (σ.1 117 44) := e5
    exact ⟨⟨by omega, by omega⟩, g3, FR.rf, (by omega), (by omega), (Or.inl rfl)⟩
  · rintro x8 τ10 ⟨h9, g11, f12, p13, p14, p15⟩ ih16
    have b17 := GI.b g11 117 49 kd117 (lo := 0) (hi := 61) rfl
    show WP 257 10 [(0, .ref 117), (1, iV x8)] [] _ _ _ _
    refine wp_il1 jF_257_10 rfl rfl (pc2 := 11) ?_
    refine wp_al1 jF_257_11 rfl rfl (pc2 := 12) ?_
    refine wp_gi jF_257_12 kd117 (by decide) rfl ((FR.at f12 117 44 rfl).trans (FRw.nj f4 (by decide))) rfl (pc2 := 15) ?_
    refine wp_i_ge jF_257_15 (m_rgb h9 rfl) (m_rgb b1 rfl) rfl (pc2 := 18) ?_ ?_
    · intro h18
      refine wp_rv jF_257_36 ?_
      exact ⟨rfl, g11, (FR.up (FR.w FR.rf f4 rfl) f12 sb_Wtr_Wtr), (by omega), (cpr_end (by omega) (by omega) p15)⟩
    · intro h18
      refine wp_al1 jF_257_18 rfl rfl (pc2 := 19) ?_
      refine wp_gr (b := 149) jF_257_19 kd117 (by decide) (c := 249) rfl rfl rfl (pc2 := 22) ?_
      refine wp_il1 jF_257_22 rfl rfl (pc2 := 23) ?_
      refine wp_al1 jF_257_23 rfl rfl (pc2 := 24) ?_
      refine wp_gr (b := 146) jF_257_24 kd117 (by decide) (c := 246) rfl rfl rfl (pc2 := 27) ?_
      refine wp_il1 jF_257_27 rfl rfl (pc2 := 28) ?_
      have b19 := GI.b hg 146 x8.toNat kd146 (lo := 0) (hi := 255) rfl
      refine wp_iald (n := 64) jF_257_28 kd146 (by decide) rfl rfl (by omega) (by omega) ((FR.at f12 146 x8.toNat rfl).trans (FRw.na f4 (by decide))) rfl (pc2 := 29) ?_
      refine wp_iast (n := 64) jF_257_29 kd149 (by decide) rfl rfl (by omega) (by omega) rfl (pc2 := 30) g11 (lo := 0) (hi := 255) rfl (by omega) (by omega) ?_
      intro τ20 g21 f22 e23
      refine wp_inc (lv2 := [(0, .ref 117), (1, iV (x8 + 1))]) jF_257_30 rfl rfl rfl rfl (pc2 := 33) ?_
      refine wp_go jF_257_33 ?_
      have q24 : (τ20.1 117 49) = (τ10.1 117 49) := (FRw.na f22 (by decide))
      exact ih16 ((x8 + 1)) τ20 ⟨⟨by omega, by omega⟩, g21, (FR.w f12 f22 rfl), (by omega), (by omega), (Or.inr (by rw [show (x8 + 1 - 1 : Int) = x8 by omega]; exact e23))⟩ (by show Int.toNat ((τ2.1 117 44) - (x8 + 1)) < Int.toNat ((τ2.1 117 44) - x8); omega)
