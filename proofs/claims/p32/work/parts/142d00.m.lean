set_option maxHeartbeats 4000000 in
set_option maxRecDepth 20000 in
/-- M.triesLaw -/
theorem m_271_0 (σ : jM) (hg : GI σ)   (fr lo : Nat) (hfr : 0 ≤ fr) (hlo : 0 ≤ lo) : WP 271 0 (lv_args 0 [.ref 117, iV 0]) [] fr lo σ (fun v τ => v = none ∧ GI τ ∧ FR Wtr σ τ ∧ ((τ.1 117 49) = (σ.1 148 0)) ∧ ((tl τ) = (l0 σ))) := by
  show WP 271 0 [(0, .ref 117), (1, iV 0)] [] _ _ _ _
  refine wp_al1 jF_271_0 rfl rfl (pc2 := 1) ?_
  refine wp_al1 jF_271_1 rfl rfl (pc2 := 2) ?_
  refine wp_gr (b := 148) jF_271_2 kd117 (by decide) (c := 248) rfl rfl rfl (pc2 := 5) ?_
  refine wp_il1 jF_271_5 rfl rfl (pc2 := 6) ?_
  have b1 := GI.b hg 148 0 kd148 (lo := 0) (hi := 60) rfl
  refine wp_iald (n := 2) (e := (σ.1 148 0)) jF_271_6 kd148 (by decide) rfl rfl (by omega) (by omega) rfl rfl (pc2 := 7) ?_
  refine wp_pi jF_271_7 kd117 (by decide) rfl rfl rfl (pc2 := 10) hg (lo := 0) (hi := 61) rfl (by omega) (by omega) ?_
  intro τ2 g3 f4 e5
  refine wp_ic jF_271_10 rfl (pc2 := 11) ?_
  refine wp_is1 (lv2 := [(0, .ref 117), (1, iV 0), (2, iV 0)]) jF_271_11 rfl rfl rfl (pc2 := 12) ?_
  have q6 : (τ2.1 148 0) = (σ.1 148 0) := (FRw.na f4 (by decide))
  refine wp_loop (α := Int) (fun a => [(0, .ref 117), (1, iV 0), (2, iV (a))]) (fun a τ => (0 ≤ a ∧ a ≤ 60) ∧ GI τ ∧ FR Wtr τ2 τ ∧ ((a) ≤ (τ2.1 148 0)) ∧ ((τ.1 117 49) = (τ2.1 148 0)) ∧ (CPL0 σ τ (a))) (fun a τ => Int.toNat ((τ2.1 148 0) - (a))) (0) τ2 ?_ ?_
  · skip
    have q7 : (τ2.1 117 49) = (σ.1 148 0) := e5
    exact ⟨⟨by omega, by omega⟩, g3, FR.rf, (by omega), (by omega), (Or.inl rfl)⟩
  · rintro x8 τ10 ⟨h9, g11, f12, p13, p14, p15⟩ ih16
    have b17 := GI.b g11 117 49 kd117 (lo := 0) (hi := 61) rfl
    show WP 271 12 [(0, .ref 117), (1, iV 0), (2, iV x8)] [] _ _ _ _
    show WP 271 12 [(0, .ref 117), (1, iV 0), (2, iV x8)] [] _ _ _ _
    refine wp_il1 jF_271_12 rfl rfl (pc2 := 13) ?_
    refine wp_al1 jF_271_13 rfl rfl (pc2 := 14) ?_
    refine wp_gi jF_271_14 kd117 (by decide) rfl rfl rfl (pc2 := 17) ?_
    refine wp_i_ge jF_271_17 (m_rgb h9 rfl) (m_rgb b17 rfl) rfl (pc2 := 20) ?_ ?_
    · intro h18
      refine wp_rv jF_271_43 ?_
      exact ⟨rfl, g11, (FR.up (FR.w FR.rf f4 rfl) f12 sb_Wtr_Wtr), (by omega), (cpl0_end (by omega) (by omega) p15)⟩
    · intro h18
      refine wp_al1 jF_271_20 rfl rfl (pc2 := 21) ?_
      refine wp_gr (b := 149) jF_271_21 kd117 (by decide) (c := 249) rfl rfl rfl (pc2 := 24) ?_
      refine wp_il1 jF_271_24 rfl rfl (pc2 := 25) ?_
      refine wp_al1 jF_271_25 rfl rfl (pc2 := 26) ?_
      refine wp_gr (b := 147) jF_271_26 kd117 (by decide) (c := 247) rfl rfl rfl (pc2 := 29) ?_
      refine wp_bi jF_271_29 (by decide) rfl (pc2 := 31) ?_
      refine wp_il1 jF_271_31 rfl rfl (pc2 := 32) ?_
      refine wp_mul jF_271_32 rfl (pc2 := 33) ?_
      refine wp_il1 jF_271_33 rfl rfl (pc2 := 34) ?_
      refine wp_add jF_271_34 rfl (pc2 := 35) ?_
      have b19 := GI.b hg 147 ((64 * 0) + x8).toNat kd147 (lo := 0) (hi := 255) rfl
      refine wp_iald (n := 128) (e := (σ.1 147 ((64 * 0) + x8).toNat)) jF_271_35 kd147 (by decide) rfl rfl (by omega) (by omega) ((FR.at f12 147 ((64 * 0) + x8).toNat rfl).trans (FRw.na f4 (by decide))) rfl (pc2 := 36) ?_
      refine wp_iast (n := 64) jF_271_36 kd149 (by decide) rfl rfl (by omega) (by omega) rfl (pc2 := 37) g11 (lo := 0) (hi := 255) rfl (by omega) (by omega) ?_
      intro τ20 g21 f22 e23
      refine wp_inc (lv2 := [(0, .ref 117), (1, iV 0), (2, iV (x8 + 1))]) jF_271_37 rfl rfl rfl rfl (pc2 := 40) ?_
      refine wp_go jF_271_40 ?_
      have q24 : (τ20.1 117 49) = (τ10.1 117 49) := (FRw.na f22 (by decide))
      exact ih16 ((x8 + 1)) τ20 ⟨⟨by omega, by omega⟩, g21, (FR.w f12 f22 rfl), (by omega), (by omega), (Or.inr (by have e := e23; rw [show (x8 + 1 - 1 : Int) = x8 by omega]; exact e))⟩ (by show Int.toNat ((τ2.1 148 0) - (x8 + 1)) < Int.toNat ((τ2.1 148 0) - x8); omega)
set_option maxHeartbeats 4000000 in
set_option maxRecDepth 20000 in
/-- M.triesLaw -/
theorem m_271_1 (σ : jM) (hg : GI σ)   (fr lo : Nat) (hfr : 0 ≤ fr) (hlo : 0 ≤ lo) : WP 271 0 (lv_args 0 [.ref 117, iV 1]) [] fr lo σ (fun v τ => v = none ∧ GI τ ∧ FR Wtr σ τ ∧ ((τ.1 117 49) = (σ.1 148 1)) ∧ ((tl τ) = (l1 σ))) := by
  show WP 271 0 [(0, .ref 117), (1, iV 1)] [] _ _ _ _
  refine wp_al1 jF_271_0 rfl rfl (pc2 := 1) ?_
  refine wp_al1 jF_271_1 rfl rfl (pc2 := 2) ?_
  refine wp_gr (b := 148) jF_271_2 kd117 (by decide) (c := 248) rfl rfl rfl (pc2 := 5) ?_
  refine wp_il1 jF_271_5 rfl rfl (pc2 := 6) ?_
  have b1 := GI.b hg 148 1 kd148 (lo := 0) (hi := 60) rfl
  refine wp_iald (n := 2) (e := (σ.1 148 1)) jF_271_6 kd148 (by decide) rfl rfl (by omega) (by omega) rfl rfl (pc2 := 7) ?_
  refine wp_pi jF_271_7 kd117 (by decide) rfl rfl rfl (pc2 := 10) hg (lo := 0) (hi := 61) rfl (by omega) (by omega) ?_
  intro τ2 g3 f4 e5
  refine wp_ic jF_271_10 rfl (pc2 := 11) ?_
  refine wp_is1 (lv2 := [(0, .ref 117), (1, iV 1), (2, iV 0)]) jF_271_11 rfl rfl rfl (pc2 := 12) ?_
  have q6 : (τ2.1 148 1) = (σ.1 148 1) := (FRw.na f4 (by decide))
  refine wp_loop (α := Int) (fun a => [(0, .ref 117), (1, iV 1), (2, iV (a))]) (fun a τ => (0 ≤ a ∧ a ≤ 60) ∧ GI τ ∧ FR Wtr τ2 τ ∧ ((a) ≤ (τ2.1 148 1)) ∧ ((τ.1 117 49) = (τ2.1 148 1)) ∧ (CPL1 σ τ (a))) (fun a τ => Int.toNat ((τ2.1 148 1) - (a))) (0) τ2 ?_ ?_
  · skip
    have q7 : (τ2.1 117 49) = (σ.1 148 1) := e5
    exact ⟨⟨by omega, by omega⟩, g3, FR.rf, (by omega), (by omega), (Or.inl rfl)⟩
  · rintro x8 τ10 ⟨h9, g11, f12, p13, p14, p15⟩ ih16
    have b17 := GI.b g11 117 49 kd117 (lo := 0) (hi := 61) rfl
    show WP 271 12 [(0, .ref 117), (1, iV 1), (2, iV x8)] [] _ _ _ _
    show WP 271 12 [(0, .ref 117), (1, iV 1), (2, iV x8)] [] _ _ _ _
    refine wp_il1 jF_271_12 rfl rfl (pc2 := 13) ?_
    refine wp_al1 jF_271_13 rfl rfl (pc2 := 14) ?_
    refine wp_gi jF_271_14 kd117 (by decide) rfl rfl rfl (pc2 := 17) ?_
    refine wp_i_ge jF_271_17 (m_rgb h9 rfl) (m_rgb b17 rfl) rfl (pc2 := 20) ?_ ?_
    · intro h18
      refine wp_rv jF_271_43 ?_
      exact ⟨rfl, g11, (FR.up (FR.w FR.rf f4 rfl) f12 sb_Wtr_Wtr), (by omega), (cpl1_end (by omega) (by omega) p15)⟩
    · intro h18
      refine wp_al1 jF_271_20 rfl rfl (pc2 := 21) ?_
      refine wp_gr (b := 149) jF_271_21 kd117 (by decide) (c := 249) rfl rfl rfl (pc2 := 24) ?_
      refine wp_il1 jF_271_24 rfl rfl (pc2 := 25) ?_
      refine wp_al1 jF_271_25 rfl rfl (pc2 := 26) ?_
      refine wp_gr (b := 147) jF_271_26 kd117 (by decide) (c := 247) rfl rfl rfl (pc2 := 29) ?_
      refine wp_bi jF_271_29 (by decide) rfl (pc2 := 31) ?_
      refine wp_il1 jF_271_31 rfl rfl (pc2 := 32) ?_
      refine wp_mul jF_271_32 rfl (pc2 := 33) ?_
      refine wp_il1 jF_271_33 rfl rfl (pc2 := 34) ?_
      refine wp_add jF_271_34 rfl (pc2 := 35) ?_
      have b19 := GI.b hg 147 ((64 * 1) + x8).toNat kd147 (lo := 0) (hi := 255) rfl
      refine wp_iald (n := 128) (e := (σ.1 147 ((64 * 1) + x8).toNat)) jF_271_35 kd147 (by decide) rfl rfl (by omega) (by omega) ((FR.at f12 147 ((64 * 1) + x8).toNat rfl).trans (FRw.na f4 (by decide))) rfl (pc2 := 36) ?_
      refine wp_iast (n := 64) jF_271_36 kd149 (by decide) rfl rfl (by omega) (by omega) rfl (pc2 := 37) g11 (lo := 0) (hi := 255) rfl (by omega) (by omega) ?_
      intro τ20 g21 f22 e23
      refine wp_inc (lv2 := [(0, .ref 117), (1, iV 1), (2, iV (x8 + 1))]) jF_271_37 rfl rfl rfl rfl (pc2 := 40) ?_
      refine wp_go jF_271_40 ?_
      have q24 : (τ20.1 117 49) = (τ10.1 117 49) := (FRw.na f22 (by decide))
      exact ih16 ((x8 + 1)) τ20 ⟨⟨by omega, by omega⟩, g21, (FR.w f12 f22 rfl), (by omega), (by omega), (Or.inr (by have e := e23; rw [show (x8 + 1 - 1 : Int) = x8 by omega]; exact e))⟩ (by show Int.toNat ((τ2.1 148 1) - (x8 + 1)) < Int.toNat ((τ2.1 148 1) - x8); omega)
set_option maxHeartbeats 4000000 in
set_option maxRecDepth 20000 in
/-- M.behind -/
theorem m_261 (σ : jM) (hg : GI σ) (fr0 : Int) (hl_fr0 : 0 ≤ fr0) (hu_fr0 : fr0 ≤ 61) (pre0 : (tl σ) = 22) (pre1 : fr0 < (σ.1 117 49)) (fr lo : Nat) (hfr : 0 ≤ fr) (hlo : 0 ≤ lo) : WP 261 0 (lv_args 0 [.ref 117, iV fr0]) [] fr lo σ (fun v τ => ∃ z : Int, v = some (iV z) ∧ (1 ≤ z ∧ z ≤ 61) ∧ σ = τ ∧ (fr0 < z) ∧ (z ≤ (σ.1 117 49))) := by
  show WP 261 0 [(0, .ref 117), (1, iV fr0)] [] _ _ _ _
  refine wp_il1 jF_261_0 rfl rfl (pc2 := 1) ?_
  refine wp_is1 (lv2 := [(0, .ref 117), (1, iV fr0), (2, iV fr0)]) jF_261_1 rfl rfl rfl (pc2 := 2) ?_
  have b1 := GI.b hg 117 49 kd117 (lo := 0) (hi := 61) rfl
  refine wp_loop (α := Int) (fun a => [(0, .ref 117), (1, iV fr0), (2, iV (a))]) (fun a τ => (0 ≤ a ∧ a ≤ 60) ∧ σ = τ ∧ (fr0 ≤ (a)) ∧ ((a) < (σ.1 117 49))) (fun a τ => Int.toNat ((σ.1 117 49) - (a))) (fr0) σ ?_ ?_
  · skip
    exact ⟨⟨by omega, by omega⟩, rfl, (by omega), (by omega)⟩
  · rintro x2 _ ⟨h3, rfl, p7, p8⟩ ih9
    show WP 261 2 [(0, .ref 117), (1, iV fr0), (2, iV x2)] [] _ _ _ _
    show WP 261 2 [(0, .ref 117), (1, iV fr0), (2, iV x2)] [] _ _ _ _
    refine wp_al1 jF_261_2 rfl rfl (pc2 := 3) ?_
    refine wp_gr (b := 149) jF_261_3 kd117 (by decide) (c := 249) rfl rfl rfl (pc2 := 6) ?_
    refine wp_il1 jF_261_6 rfl rfl (pc2 := 7) ?_
    have b10 := GI.b hg 149 x2.toNat kd149 (lo := 0) (hi := 255) rfl
    refine wp_iald (n := 64) (e := (σ.1 149 x2.toNat)) jF_261_7 kd149 (by decide) rfl rfl (by omega) (by omega) rfl rfl (pc2 := 8) ?_
    refine wp_bi jF_261_8 (by decide) rfl (pc2 := 10) ?_
    refine wp_i_eq jF_261_10 (m_rgb b10 rfl) (m_rgl rfl) rfl (pc2 := 13) ?_ ?_
    · intro h11
      refine wp_il1 jF_261_19 rfl rfl (pc2 := 20) ?_
      refine wp_ic jF_261_20 rfl (pc2 := 21) ?_
      refine wp_add jF_261_21 rfl (pc2 := 22) ?_
      refine wp_ri jF_261_22 rfl ?_
      exact ⟨(x2 + 1), rfl, ⟨by omega, by omega⟩, rfl, (by omega), (by omega)⟩
    · intro h11
      have n12 := tl_ne pre0 (by omega) (by omega) h11
      refine wp_inc (lv2 := [(0, .ref 117), (1, iV fr0), (2, iV (x2 + 1))]) jF_261_13 rfl rfl rfl rfl (pc2 := 16) ?_
      refine wp_go jF_261_16 ?_
      exact ih9 ((x2 + 1)) σ ⟨⟨by omega, by omega⟩, rfl, (by omega), (by omega)⟩ (by show Int.toNat ((σ.1 117 49) - (x2 + 1)) < Int.toNat ((σ.1 117 49) - x2); omega)
set_option maxHeartbeats 4000000 in
set_option maxRecDepth 20000 in
/-- M.setOf -/
theorem m_260 (σ : jM) (hg : GI σ) (fr0 : Int) (hl_fr0 : 0 ≤ fr0) (hu_fr0 : fr0 ≤ 61) (pre0 : (tl σ) = 22) (pre1 : fr0 < (σ.1 117 49)) (fr lo : Nat) (hfr : 0 ≤ fr) (hlo : 0 ≤ lo) : WP 260 0 (lv_args 0 [.ref 117, iV fr0]) [] fr lo σ (fun v τ => ∃ z : Int64, v = some (.long z) ∧ σ = τ) := by
  show WP 260 0 [(0, .ref 117), (1, iV fr0)] [] _ _ _ _
  refine wp_lc jF_260_0 rfl (pc2 := 1) ?_
  refine wp_ls1 (lv2 := [(0, .ref 117), (1, iV fr0), (2, .long (Int64.ofNat 0))]) jF_260_1 rfl rfl rfl (pc2 := 2) ?_
  refine wp_lc jF_260_2 rfl (pc2 := 3) ?_
  refine wp_ls2 (lv2 := [(0, .ref 117), (1, iV fr0), (2, .long (Int64.ofNat 0)), (4, .long (Int64.ofNat 0))]) jF_260_3 rfl rfl rfl (pc2 := 5) ?_
  refine wp_ic jF_260_5 rfl (pc2 := 6) ?_
  refine wp_is2 (lv2 := [(0, .ref 117), (1, iV fr0), (2, .long (Int64.ofNat 0)), (4, .long (Int64.ofNat 0)), (6, iV 0)]) jF_260_6 rfl rfl rfl (pc2 := 8) ?_
  refine wp_ic jF_260_8 rfl (pc2 := 9) ?_
  refine wp_is2 (lv2 := [(0, .ref 117), (1, iV fr0), (2, .long (Int64.ofNat 0)), (4, .long (Int64.ofNat 0)), (6, iV 0), (7, iV 0)]) jF_260_9 rfl rfl rfl (pc2 := 11) ?_
  refine wp_ic jF_260_11 rfl (pc2 := 12) ?_
  refine wp_is2 (lv2 := [(0, .ref 117), (1, iV fr0), (2, .long (Int64.ofNat 0)), (4, .long (Int64.ofNat 0)), (6, iV 0), (7, iV 0), (8, iV (-1))]) jF_260_12 rfl rfl rfl (pc2 := 14) ?_
  refine wp_il1 jF_260_14 rfl rfl (pc2 := 15) ?_
  refine wp_is2 (lv2 := [(0, .ref 117), (1, iV fr0), (2, .long (Int64.ofNat 0)), (4, .long (Int64.ofNat 0)), (6, iV 0), (7, iV 0), (8, iV (-1)), (9, iV fr0)]) jF_260_15 rfl rfl rfl (pc2 := 17) ?_
  have b1 := GI.b hg 117 49 kd117 (lo := 0) (hi := 61) rfl
  refine wp_loop (α := Int64 × Int64 × Int × Int × Int × Int) (fun a => [(0, .ref 117), (1, iV fr0), (2, .long (a.1)), (4, .long (a.2.1)), (6, iV (a.2.2.1)), (7, iV (a.2.2.2.1)), (8, iV (a.2.2.2.2.1)), (9, iV (a.2.2.2.2.2))]) (fun a τ => (0 ≤ a.2.2.1 ∧ a.2.2.1 ≤ 1) ∧ (0 ≤ a.2.2.2.1 ∧ a.2.2.2.1 ≤ 1) ∧ ((-1) ≤ a.2.2.2.2.1 ∧ a.2.2.2.2.1 ≤ 255) ∧ (0 ≤ a.2.2.2.2.2 ∧ a.2.2.2.2.2 ≤ 60) ∧ σ = τ ∧ ((a.2.2.2.2.2) < (σ.1 117 49))) (fun a τ => Int.toNat ((σ.1 117 49) - (a.2.2.2.2.2))) ((Int64.ofNat 0), (Int64.ofNat 0), 0, 0, (-1), fr0) σ ?_ ?_
  · skip
    exact ⟨⟨by (try dsimp only); omega, by (try dsimp only); omega⟩, ⟨by (try dsimp only); omega, by (try dsimp only); omega⟩, ⟨by (try dsimp only); omega, by (try dsimp only); omega⟩, ⟨by (try dsimp only); omega, by (try dsimp only); omega⟩, rfl, (by (try dsimp only); omega)⟩
  · rintro ⟨y2, y3, x4, x5, x6, x7⟩ _ ⟨h8, h9, h10, h11, rfl, p15⟩ ih16
    try dsimp only at h8 h9 h10 h11 p15
    show WP 260 17 [(0, .ref 117), (1, iV fr0), (2, .long y2), (4, .long y3), (6, iV x4), (7, iV x5), (8, iV x6), (9, iV x7)] [] _ _ _ _
    show WP 260 17 [(0, .ref 117), (1, iV fr0), (2, .long y2), (4, .long y3), (6, iV x4), (7, iV x5), (8, iV x6), (9, iV x7)] [] _ _ _ _
    refine wp_al1 jF_260_17 rfl rfl (pc2 := 18) ?_
    refine wp_gr (b := 149) jF_260_18 kd117 (by decide) (c := 249) rfl rfl rfl (pc2 := 21) ?_
    refine wp_il2 jF_260_21 rfl rfl (pc2 := 23) ?_
    have b17 := GI.b hg 149 x7.toNat kd149 (lo := 0) (hi := 255) rfl
    refine wp_iald (n := 64) (e := (σ.1 149 x7.toNat)) jF_260_23 kd149 (by decide) rfl rfl (by omega) (by omega) rfl rfl (pc2 := 24) ?_
    refine wp_bi jF_260_24 (by decide) rfl (pc2 := 26) ?_
    refine wp_i_eq jF_260_26 (m_rgb b17 rfl) (m_rgl rfl) rfl (pc2 := 29) ?_ ?_
    · intro h18
      refine wp_il2 jF_260_165 rfl rfl (pc2 := 167) ?_
      refine wp_z_eq jF_260_167 (m_rgb h8 rfl) rfl (pc2 := 170) ?_ ?_
      · intro h19
        refine wp_ll1 jF_260_181 rfl rfl (pc2 := 182) ?_
        refine wp_rl jF_260_182 ?_
        exact ⟨y2, rfl, rfl⟩
      · intro h19
        refine wp_ll2 jF_260_170 rfl rfl (pc2 := 172) ?_
        refine wp_ll1 jF_260_172 rfl rfl (pc2 := 173) ?_
        refine wp_ld jF_260_173 rfl (pc2 := 176) ?_
        refine wp_lng (pc2 := 177) jF_260_176 rfl rfl ?_
        intro y20
        refine wp_lng (pc2 := 178) jF_260_177 rfl rfl ?_
        intro y21
        refine wp_go jF_260_178 ?_
        refine wp_rl jF_260_182 ?_
        exact ⟨y21, rfl, rfl⟩
    · intro h18
      have n22 := tl_ne pre0 (by omega) (by omega) h18
      refine wp_al1 jF_260_29 rfl rfl (pc2 := 30) ?_
      refine wp_gr (b := 149) jF_260_30 kd117 (by decide) (c := 249) rfl rfl rfl (pc2 := 33) ?_
      refine wp_il2 jF_260_33 rfl rfl (pc2 := 35) ?_
      refine wp_iald (n := 64) (e := (σ.1 149 x7.toNat)) jF_260_35 kd149 (by decide) rfl rfl (by omega) (by omega) rfl rfl (pc2 := 36) ?_
      refine wp_is2 (lv2 := [(0, .ref 117), (1, iV fr0), (2, .long y2), (4, .long y3), (6, iV x4), (7, iV x5), (8, iV x6), (9, iV x7), (10, iV (σ.1 149 x7.toNat))]) jF_260_36 rfl rfl rfl (pc2 := 38) ?_
      refine wp_il2 jF_260_38 rfl rfl (pc2 := 40) ?_
      refine wp_bi jF_260_40 (by decide) rfl (pc2 := 42) ?_
      refine wp_i_ne jF_260_42 (m_rgb b17 rfl) (m_rgl rfl) rfl (pc2 := 45) ?_ ?_
      · intro h23
        refine wp_il2 jF_260_60 rfl rfl (pc2 := 62) ?_
        refine wp_bi jF_260_62 (by decide) rfl (pc2 := 64) ?_
        refine wp_i_ne jF_260_64 (m_rgb b17 rfl) (m_rgl rfl) rfl (pc2 := 67) ?_ ?_
        · intro h24
          refine wp_il2 jF_260_79 rfl rfl (pc2 := 81) ?_
          refine wp_bi jF_260_81 (by decide) rfl (pc2 := 83) ?_
          refine wp_i_lt jF_260_83 (m_rgb b17 rfl) (m_rgl rfl) rfl (pc2 := 86) ?_ ?_
          · intro h25
            refine wp_il2 jF_260_93 rfl rfl (pc2 := 95) ?_
            refine wp_z_eq jF_260_95 (m_rgb h9 rfl) rfl (pc2 := 98) ?_ ?_
            · intro h26
              refine wp_al1 jF_260_117 rfl rfl (pc2 := 118) ?_
              refine wp_gr (b := 144) jF_260_118 kd117 (by decide) (c := 244) rfl rfl rfl (pc2 := 121) ?_
              refine wp_il2 jF_260_121 rfl rfl (pc2 := 123) ?_
              refine wp_lald (n := 18) jF_260_123 kd144 (by decide) rfl rfl (by omega) (by omega) rfl (pc2 := 124) ?_
              intro y27
              refine wp_ls2 (lv2 := [(0, .ref 117), (1, iV fr0), (2, .long y2), (4, .long y3), (6, iV x4), (7, iV x5), (8, iV x6), (9, iV x7), (10, iV (σ.1 149 x7.toNat)), (11, .long y27)]) jF_260_124 rfl rfl rfl (pc2 := 126) ?_
              refine wp_il2 jF_260_126 rfl rfl (pc2 := 128) ?_
              refine wp_ic jF_260_128 rfl (pc2 := 129) ?_
              refine wp_i_ne jF_260_129 (m_rgb h10 rfl) (m_rgl rfl) rfl (pc2 := 132) ?_ ?_
              · intro h28
                refine wp_il2 jF_260_137 rfl rfl (pc2 := 139) ?_
                refine wp_bi jF_260_139 (by decide) rfl (pc2 := 141) ?_
                refine wp_i_ne jF_260_141 ⟨by omega, by omega⟩ (m_rgl rfl) rfl (pc2 := 144) ?_ ?_
                · intro h29
                  refine wp_ll1 jF_260_151 rfl rfl (pc2 := 152) ?_
                  refine wp_ll2 jF_260_152 rfl rfl (pc2 := 154) ?_
                  refine wp_lng (pc2 := 155) jF_260_154 rfl rfl ?_
                  intro y30
                  refine wp_ls1 (lv2 := [(0, .ref 117), (1, iV fr0), (2, .long y30), (4, .long y3), (6, iV x4), (7, iV x5), (8, iV x6), (9, iV x7), (10, iV (σ.1 149 x7.toNat)), (11, .long y27)]) jF_260_155 rfl rfl rfl (pc2 := 156) ?_
                  refine wp_ic jF_260_156 rfl (pc2 := 157) ?_
                  refine wp_is2 (lv2 := [(0, .ref 117), (1, iV fr0), (2, .long y30), (4, .long y3), (6, iV x4), (7, iV 0), (8, iV x6), (9, iV x7), (10, iV (σ.1 149 x7.toNat)), (11, .long y27)]) jF_260_157 rfl rfl rfl (pc2 := 159) ?_
                  refine wp_inc (lv2 := [(0, .ref 117), (1, iV fr0), (2, .long y30), (4, .long y3), (6, iV x4), (7, iV 0), (8, iV x6), (9, iV (x7 + 1)), (10, iV (σ.1 149 x7.toNat)), (11, .long y27)]) jF_260_159 rfl rfl rfl rfl (pc2 := 162) ?_
                  refine wp_go jF_260_162 ?_
                  refine wp_less [0, 1, 2, 4, 6, 7, 8, 9] (lv2 := [(0, .ref 117), (1, iV fr0), (2, .long y30), (4, .long y3), (6, iV x4), (7, iV 0), (8, iV x6), (9, iV (x7 + 1))]) rfl rfl ?_
                  exact ih16 (y30, y3, x4, 0, x6, (x7 + 1)) σ ⟨⟨by (try dsimp only); omega, by (try dsimp only); omega⟩, ⟨by (try dsimp only); omega, by (try dsimp only); omega⟩, ⟨by (try dsimp only); omega, by (try dsimp only); omega⟩, ⟨by (try dsimp only); omega, by (try dsimp only); omega⟩, rfl, (by (try dsimp only); omega)⟩ (by show Int.toNat ((σ.1 117 49) - (x7 + 1)) < Int.toNat ((σ.1 117 49) - x7); omega)
                · intro h29
                  refine wp_ll1 jF_260_144 rfl rfl (pc2 := 145) ?_
                  refine wp_ll2 jF_260_145 rfl rfl (pc2 := 147) ?_
                  refine wp_lng (pc2 := 148) jF_260_147 rfl rfl ?_
                  intro y31
                  refine wp_go jF_260_148 ?_
                  refine wp_ls1 (lv2 := [(0, .ref 117), (1, iV fr0), (2, .long y31), (4, .long y3), (6, iV x4), (7, iV x5), (8, iV x6), (9, iV x7), (10, iV (σ.1 149 x7.toNat)), (11, .long y27)]) jF_260_155 rfl rfl rfl (pc2 := 156) ?_
                  refine wp_ic jF_260_156 rfl (pc2 := 157) ?_
                  refine wp_is2 (lv2 := [(0, .ref 117), (1, iV fr0), (2, .long y31), (4, .long y3), (6, iV x4), (7, iV 0), (8, iV x6), (9, iV x7), (10, iV (σ.1 149 x7.toNat)), (11, .long y27)]) jF_260_157 rfl rfl rfl (pc2 := 159) ?_
                  refine wp_inc (lv2 := [(0, .ref 117), (1, iV fr0), (2, .long y31), (4, .long y3), (6, iV x4), (7, iV 0), (8, iV x6), (9, iV (x7 + 1)), (10, iV (σ.1 149 x7.toNat)), (11, .long y27)]) jF_260_159 rfl rfl rfl rfl (pc2 := 162) ?_
                  refine wp_go jF_260_162 ?_
                  refine wp_less [0, 1, 2, 4, 6, 7, 8, 9] (lv2 := [(0, .ref 117), (1, iV fr0), (2, .long y31), (4, .long y3), (6, iV x4), (7, iV 0), (8, iV x6), (9, iV (x7 + 1))]) rfl rfl ?_
                  exact ih16 (y31, y3, x4, 0, x6, (x7 + 1)) σ ⟨⟨by (try dsimp only); omega, by (try dsimp only); omega⟩, ⟨by (try dsimp only); omega, by (try dsimp only); omega⟩, ⟨by (try dsimp only); omega, by (try dsimp only); omega⟩, ⟨by (try dsimp only); omega, by (try dsimp only); omega⟩, rfl, (by (try dsimp only); omega)⟩ (by show Int.toNat ((σ.1 117 49) - (x7 + 1)) < Int.toNat ((σ.1 117 49) - x7); omega)
              · intro h28
                refine wp_ll2 jF_260_132 rfl rfl (pc2 := 134) ?_
                refine wp_go jF_260_134 ?_
                refine wp_ls1 (lv2 := [(0, .ref 117), (1, iV fr0), (2, .long y27), (4, .long y3), (6, iV x4), (7, iV x5), (8, iV x6), (9, iV x7), (10, iV (σ.1 149 x7.toNat)), (11, .long y27)]) jF_260_155 rfl rfl rfl (pc2 := 156) ?_
                refine wp_ic jF_260_156 rfl (pc2 := 157) ?_
                refine wp_is2 (lv2 := [(0, .ref 117), (1, iV fr0), (2, .long y27), (4, .long y3), (6, iV x4), (7, iV 0), (8, iV x6), (9, iV x7), (10, iV (σ.1 149 x7.toNat)), (11, .long y27)]) jF_260_157 rfl rfl rfl (pc2 := 159) ?_
                refine wp_inc (lv2 := [(0, .ref 117), (1, iV fr0), (2, .long y27), (4, .long y3), (6, iV x4), (7, iV 0), (8, iV x6), (9, iV (x7 + 1)), (10, iV (σ.1 149 x7.toNat)), (11, .long y27)]) jF_260_159 rfl rfl rfl rfl (pc2 := 162) ?_
                refine wp_go jF_260_162 ?_
                refine wp_less [0, 1, 2, 4, 6, 7, 8, 9] (lv2 := [(0, .ref 117), (1, iV fr0), (2, .long y27), (4, .long y3), (6, iV x4), (7, iV 0), (8, iV x6), (9, iV (x7 + 1))]) rfl rfl ?_
                exact ih16 (y27, y3, x4, 0, x6, (x7 + 1)) σ ⟨⟨by (try dsimp only); omega, by (try dsimp only); omega⟩, ⟨by (try dsimp only); omega, by (try dsimp only); omega⟩, ⟨by (try dsimp only); omega, by (try dsimp only); omega⟩, ⟨by (try dsimp only); omega, by (try dsimp only); omega⟩, rfl, (by (try dsimp only); omega)⟩ (by show Int.toNat ((σ.1 117 49) - (x7 + 1)) < Int.toNat ((σ.1 117 49) - x7); omega)
            · intro h26
              refine wp_al1 jF_260_98 rfl rfl (pc2 := 99) ?_
              refine wp_glA jF_260_99 kd117 (by decide) rfl rfl (pc2 := 102) ?_
              intro y32
              refine wp_al1 jF_260_102 rfl rfl (pc2 := 103) ?_
              refine wp_gr (b := 144) jF_260_103 kd117 (by decide) (c := 244) rfl rfl rfl (pc2 := 106) ?_
              refine wp_il2 jF_260_106 rfl rfl (pc2 := 108) ?_
              refine wp_lald (n := 18) jF_260_108 kd144 (by decide) rfl rfl (by omega) (by omega) rfl (pc2 := 109) ?_
              intro y33
              refine wp_ld jF_260_109 rfl (pc2 := 112) ?_
              refine wp_lng (pc2 := 113) jF_260_112 rfl rfl ?_
              intro y34
              refine wp_lng (pc2 := 114) jF_260_113 rfl rfl ?_
              intro y35
              refine wp_go jF_260_114 ?_
              refine wp_ls2 (lv2 := [(0, .ref 117), (1, iV fr0), (2, .long y2), (4, .long y3), (6, iV x4), (7, iV x5), (8, iV x6), (9, iV x7), (10, iV (σ.1 149 x7.toNat)), (11, .long y35)]) jF_260_124 rfl rfl rfl (pc2 := 126) ?_
              refine wp_il2 jF_260_126 rfl rfl (pc2 := 128) ?_
              refine wp_ic jF_260_128 rfl (pc2 := 129) ?_
              refine wp_i_ne jF_260_129 (m_rgb h10 rfl) (m_rgl rfl) rfl (pc2 := 132) ?_ ?_
              · intro h36
                refine wp_il2 jF_260_137 rfl rfl (pc2 := 139) ?_
                refine wp_bi jF_260_139 (by decide) rfl (pc2 := 141) ?_
                refine wp_i_ne jF_260_141 ⟨by omega, by omega⟩ (m_rgl rfl) rfl (pc2 := 144) ?_ ?_
                · intro h37
                  refine wp_ll1 jF_260_151 rfl rfl (pc2 := 152) ?_
                  refine wp_ll2 jF_260_152 rfl rfl (pc2 := 154) ?_
                  refine wp_lng (pc2 := 155) jF_260_154 rfl rfl ?_
                  intro y38
                  refine wp_ls1 (lv2 := [(0, .ref 117), (1, iV fr0), (2, .long y38), (4, .long y3), (6, iV x4), (7, iV x5), (8, iV x6), (9, iV x7), (10, iV (σ.1 149 x7.toNat)), (11, .long y35)]) jF_260_155 rfl rfl rfl (pc2 := 156) ?_
                  refine wp_ic jF_260_156 rfl (pc2 := 157) ?_
                  refine wp_is2 (lv2 := [(0, .ref 117), (1, iV fr0), (2, .long y38), (4, .long y3), (6, iV x4), (7, iV 0), (8, iV x6), (9, iV x7), (10, iV (σ.1 149 x7.toNat)), (11, .long y35)]) jF_260_157 rfl rfl rfl (pc2 := 159) ?_
                  refine wp_inc (lv2 := [(0, .ref 117), (1, iV fr0), (2, .long y38), (4, .long y3), (6, iV x4), (7, iV 0), (8, iV x6), (9, iV (x7 + 1)), (10, iV (σ.1 149 x7.toNat)), (11, .long y35)]) jF_260_159 rfl rfl rfl rfl (pc2 := 162) ?_
                  refine wp_go jF_260_162 ?_
                  refine wp_less [0, 1, 2, 4, 6, 7, 8, 9] (lv2 := [(0, .ref 117), (1, iV fr0), (2, .long y38), (4, .long y3), (6, iV x4), (7, iV 0), (8, iV x6), (9, iV (x7 + 1))]) rfl rfl ?_
                  exact ih16 (y38, y3, x4, 0, x6, (x7 + 1)) σ ⟨⟨by (try dsimp only); omega, by (try dsimp only); omega⟩, ⟨by (try dsimp only); omega, by (try dsimp only); omega⟩, ⟨by (try dsimp only); omega, by (try dsimp only); omega⟩, ⟨by (try dsimp only); omega, by (try dsimp only); omega⟩, rfl, (by (try dsimp only); omega)⟩ (by show Int.toNat ((σ.1 117 49) - (x7 + 1)) < Int.toNat ((σ.1 117 49) - x7); omega)
                · intro h37
                  refine wp_ll1 jF_260_144 rfl rfl (pc2 := 145) ?_
                  refine wp_ll2 jF_260_145 rfl rfl (pc2 := 147) ?_
                  refine wp_lng (pc2 := 148) jF_260_147 rfl rfl ?_
                  intro y39
                  refine wp_go jF_260_148 ?_
                  refine wp_ls1 (lv2 := [(0, .ref 117), (1, iV fr0), (2, .long y39), (4, .long y3), (6, iV x4), (7, iV x5), (8, iV x6), (9, iV x7), (10, iV (σ.1 149 x7.toNat)), (11, .long y35)]) jF_260_155 rfl rfl rfl (pc2 := 156) ?_
                  refine wp_ic jF_260_156 rfl (pc2 := 157) ?_
                  refine wp_is2 (lv2 := [(0, .ref 117), (1, iV fr0), (2, .long y39), (4, .long y3), (6, iV x4), (7, iV 0), (8, iV x6), (9, iV x7), (10, iV (σ.1 149 x7.toNat)), (11, .long y35)]) jF_260_157 rfl rfl rfl (pc2 := 159) ?_
                  refine wp_inc (lv2 := [(0, .ref 117), (1, iV fr0), (2, .long y39), (4, .long y3), (6, iV x4), (7, iV 0), (8, iV x6), (9, iV (x7 + 1)), (10, iV (σ.1 149 x7.toNat)), (11, .long y35)]) jF_260_159 rfl rfl rfl rfl (pc2 := 162) ?_
                  refine wp_go jF_260_162 ?_
                  refine wp_less [0, 1, 2, 4, 6, 7, 8, 9] (lv2 := [(0, .ref 117), (1, iV fr0), (2, .long y39), (4, .long y3), (6, iV x4), (7, iV 0), (8, iV x6), (9, iV (x7 + 1))]) rfl rfl ?_
                  exact ih16 (y39, y3, x4, 0, x6, (x7 + 1)) σ ⟨⟨by (try dsimp only); omega, by (try dsimp only); omega⟩, ⟨by (try dsimp only); omega, by (try dsimp only); omega⟩, ⟨by (try dsimp only); omega, by (try dsimp only); omega⟩, ⟨by (try dsimp only); omega, by (try dsimp only); omega⟩, rfl, (by (try dsimp only); omega)⟩ (by show Int.toNat ((σ.1 117 49) - (x7 + 1)) < Int.toNat ((σ.1 117 49) - x7); omega)
              · intro h36
                refine wp_ll2 jF_260_132 rfl rfl (pc2 := 134) ?_
                refine wp_go jF_260_134 ?_
                refine wp_ls1 (lv2 := [(0, .ref 117), (1, iV fr0), (2, .long y35), (4, .long y3), (6, iV x4), (7, iV x5), (8, iV x6), (9, iV x7), (10, iV (σ.1 149 x7.toNat)), (11, .long y35)]) jF_260_155 rfl rfl rfl (pc2 := 156) ?_
                refine wp_ic jF_260_156 rfl (pc2 := 157) ?_
                refine wp_is2 (lv2 := [(0, .ref 117), (1, iV fr0), (2, .long y35), (4, .long y3), (6, iV x4), (7, iV 0), (8, iV x6), (9, iV x7), (10, iV (σ.1 149 x7.toNat)), (11, .long y35)]) jF_260_157 rfl rfl rfl (pc2 := 159) ?_
                refine wp_inc (lv2 := [(0, .ref 117), (1, iV fr0), (2, .long y35), (4, .long y3), (6, iV x4), (7, iV 0), (8, iV x6), (9, iV (x7 + 1)), (10, iV (σ.1 149 x7.toNat)), (11, .long y35)]) jF_260_159 rfl rfl rfl rfl (pc2 := 162) ?_
                refine wp_go jF_260_162 ?_
                refine wp_less [0, 1, 2, 4, 6, 7, 8, 9] (lv2 := [(0, .ref 117), (1, iV fr0), (2, .long y35), (4, .long y3), (6, iV x4), (7, iV 0), (8, iV x6), (9, iV (x7 + 1))]) rfl rfl ?_
                exact ih16 (y35, y3, x4, 0, x6, (x7 + 1)) σ ⟨⟨by (try dsimp only); omega, by (try dsimp only); omega⟩, ⟨by (try dsimp only); omega, by (try dsimp only); omega⟩, ⟨by (try dsimp only); omega, by (try dsimp only); omega⟩, ⟨by (try dsimp only); omega, by (try dsimp only); omega⟩, rfl, (by (try dsimp only); omega)⟩ (by show Int.toNat ((σ.1 117 49) - (x7 + 1)) < Int.toNat ((σ.1 117 49) - x7); omega)
          · intro h25
            refine wp_il2 jF_260_86 rfl rfl (pc2 := 88) ?_
            refine wp_is2 (lv2 := [(0, .ref 117), (1, iV fr0), (2, .long y2), (4, .long y3), (6, iV x4), (7, iV x5), (8, iV (σ.1 149 x7.toNat)), (9, iV x7), (10, iV (σ.1 149 x7.toNat))]) jF_260_88 rfl rfl rfl (pc2 := 90) ?_
            refine wp_go jF_260_90 ?_
            refine wp_inc (lv2 := [(0, .ref 117), (1, iV fr0), (2, .long y2), (4, .long y3), (6, iV x4), (7, iV x5), (8, iV (σ.1 149 x7.toNat)), (9, iV (x7 + 1)), (10, iV (σ.1 149 x7.toNat))]) jF_260_159 rfl rfl rfl rfl (pc2 := 162) ?_
            refine wp_go jF_260_162 ?_
            refine wp_less [0, 1, 2, 4, 6, 7, 8, 9] (lv2 := [(0, .ref 117), (1, iV fr0), (2, .long y2), (4, .long y3), (6, iV x4), (7, iV x5), (8, iV (σ.1 149 x7.toNat)), (9, iV (x7 + 1))]) rfl rfl ?_
            exact ih16 (y2, y3, x4, x5, (σ.1 149 x7.toNat), (x7 + 1)) σ ⟨⟨by (try dsimp only); omega, by (try dsimp only); omega⟩, ⟨by (try dsimp only); omega, by (try dsimp only); omega⟩, ⟨by (try dsimp only); omega, by (try dsimp only); omega⟩, ⟨by (try dsimp only); omega, by (try dsimp only); omega⟩, rfl, (by (try dsimp only); omega)⟩ (by show Int.toNat ((σ.1 117 49) - (x7 + 1)) < Int.toNat ((σ.1 117 49) - x7); omega)
        · intro h24
          refine wp_ll1 jF_260_67 rfl rfl (pc2 := 68) ?_
          refine wp_ls2 (lv2 := [(0, .ref 117), (1, iV fr0), (2, .long y2), (4, .long y2), (6, iV x4), (7, iV x5), (8, iV x6), (9, iV x7), (10, iV (σ.1 149 x7.toNat))]) jF_260_68 rfl rfl rfl (pc2 := 70) ?_
          refine wp_ic jF_260_70 rfl (pc2 := 71) ?_
          refine wp_is2 (lv2 := [(0, .ref 117), (1, iV fr0), (2, .long y2), (4, .long y2), (6, iV 1), (7, iV x5), (8, iV x6), (9, iV x7), (10, iV (σ.1 149 x7.toNat))]) jF_260_71 rfl rfl rfl (pc2 := 73) ?_
          refine wp_ic jF_260_73 rfl (pc2 := 74) ?_
          refine wp_is2 (lv2 := [(0, .ref 117), (1, iV fr0), (2, .long y2), (4, .long y2), (6, iV 1), (7, iV x5), (8, iV (-1)), (9, iV x7), (10, iV (σ.1 149 x7.toNat))]) jF_260_74 rfl rfl rfl (pc2 := 76) ?_
          refine wp_go jF_260_76 ?_
          refine wp_inc (lv2 := [(0, .ref 117), (1, iV fr0), (2, .long y2), (4, .long y2), (6, iV 1), (7, iV x5), (8, iV (-1)), (9, iV (x7 + 1)), (10, iV (σ.1 149 x7.toNat))]) jF_260_159 rfl rfl rfl rfl (pc2 := 162) ?_
          refine wp_go jF_260_162 ?_
          refine wp_less [0, 1, 2, 4, 6, 7, 8, 9] (lv2 := [(0, .ref 117), (1, iV fr0), (2, .long y2), (4, .long y2), (6, iV 1), (7, iV x5), (8, iV (-1)), (9, iV (x7 + 1))]) rfl rfl ?_
          exact ih16 (y2, y2, 1, x5, (-1), (x7 + 1)) σ ⟨⟨by (try dsimp only); omega, by (try dsimp only); omega⟩, ⟨by (try dsimp only); omega, by (try dsimp only); omega⟩, ⟨by (try dsimp only); omega, by (try dsimp only); omega⟩, ⟨by (try dsimp only); omega, by (try dsimp only); omega⟩, rfl, (by (try dsimp only); omega)⟩ (by show Int.toNat ((σ.1 117 49) - (x7 + 1)) < Int.toNat ((σ.1 117 49) - x7); omega)
      · intro h23
        refine wp_il2 jF_260_45 rfl rfl (pc2 := 47) ?_
        refine wp_z_ne jF_260_47 (m_rgb h9 rfl) rfl (pc2 := 50) ?_ ?_
        · intro h40
          refine wp_ic jF_260_54 rfl (pc2 := 55) ?_
          refine wp_is2 (lv2 := [(0, .ref 117), (1, iV fr0), (2, .long y2), (4, .long y3), (6, iV x4), (7, iV 0), (8, iV x6), (9, iV x7), (10, iV (σ.1 149 x7.toNat))]) jF_260_55 rfl rfl rfl (pc2 := 57) ?_
          refine wp_go jF_260_57 ?_
          refine wp_inc (lv2 := [(0, .ref 117), (1, iV fr0), (2, .long y2), (4, .long y3), (6, iV x4), (7, iV 0), (8, iV x6), (9, iV (x7 + 1)), (10, iV (σ.1 149 x7.toNat))]) jF_260_159 rfl rfl rfl rfl (pc2 := 162) ?_
          refine wp_go jF_260_162 ?_
          refine wp_less [0, 1, 2, 4, 6, 7, 8, 9] (lv2 := [(0, .ref 117), (1, iV fr0), (2, .long y2), (4, .long y3), (6, iV x4), (7, iV 0), (8, iV x6), (9, iV (x7 + 1))]) rfl rfl ?_
          exact ih16 (y2, y3, x4, 0, x6, (x7 + 1)) σ ⟨⟨by (try dsimp only); omega, by (try dsimp only); omega⟩, ⟨by (try dsimp only); omega, by (try dsimp only); omega⟩, ⟨by (try dsimp only); omega, by (try dsimp only); omega⟩, ⟨by (try dsimp only); omega, by (try dsimp only); omega⟩, rfl, (by (try dsimp only); omega)⟩ (by show Int.toNat ((σ.1 117 49) - (x7 + 1)) < Int.toNat ((σ.1 117 49) - x7); omega)
        · intro h40
          refine wp_ic jF_260_50 rfl (pc2 := 51) ?_
          refine wp_go jF_260_51 ?_
          refine wp_is2 (lv2 := [(0, .ref 117), (1, iV fr0), (2, .long y2), (4, .long y3), (6, iV x4), (7, iV 1), (8, iV x6), (9, iV x7), (10, iV (σ.1 149 x7.toNat))]) jF_260_55 rfl rfl rfl (pc2 := 57) ?_
          refine wp_go jF_260_57 ?_
          refine wp_inc (lv2 := [(0, .ref 117), (1, iV fr0), (2, .long y2), (4, .long y3), (6, iV x4), (7, iV 1), (8, iV x6), (9, iV (x7 + 1)), (10, iV (σ.1 149 x7.toNat))]) jF_260_159 rfl rfl rfl rfl (pc2 := 162) ?_
          refine wp_go jF_260_162 ?_
          refine wp_less [0, 1, 2, 4, 6, 7, 8, 9] (lv2 := [(0, .ref 117), (1, iV fr0), (2, .long y2), (4, .long y3), (6, iV x4), (7, iV 1), (8, iV x6), (9, iV (x7 + 1))]) rfl rfl ?_
          exact ih16 (y2, y3, x4, 1, x6, (x7 + 1)) σ ⟨⟨by (try dsimp only); omega, by (try dsimp only); omega⟩, ⟨by (try dsimp only); omega, by (try dsimp only); omega⟩, ⟨by (try dsimp only); omega, by (try dsimp only); omega⟩, ⟨by (try dsimp only); omega, by (try dsimp only); omega⟩, rfl, (by (try dsimp only); omega)⟩ (by show Int.toNat ((σ.1 117 49) - (x7 + 1)) < Int.toNat ((σ.1 117 49) - x7); omega)
set_option maxHeartbeats 4000000 in
set_option maxRecDepth 20000 in
/-- M.forbidden -/
theorem m_259 (σ : jM) (hg : GI σ)  (pre0 : (tl σ) = 22) (fr lo : Nat) (hfr : 1 ≤ fr) (hlo : 32 ≤ lo) : WP 259 0 (lv_args 0 [.ref 117]) [] fr lo σ (fun v τ => ∃ z : Int64, v = some (.long z) ∧ σ = τ) := by
  show WP 259 0 [(0, .ref 117)] [] _ _ _ _
  refine wp_lc jF_259_0 rfl (pc2 := 1) ?_
  refine wp_ls1 (lv2 := [(0, .ref 117), (1, .long (Int64.ofNat 0))]) jF_259_1 rfl rfl rfl (pc2 := 2) ?_
  refine wp_ic jF_259_2 rfl (pc2 := 3) ?_
  refine wp_is1 (lv2 := [(0, .ref 117), (1, .long (Int64.ofNat 0)), (3, iV 0)]) jF_259_3 rfl rfl rfl (pc2 := 4) ?_
  have b1 := GI.b hg 117 49 kd117 (lo := 0) (hi := 61) rfl
  refine wp_loop (α := Int64 × Int) (fun a => [(0, .ref 117), (1, .long (a.1)), (3, iV (a.2))]) (fun a τ => (0 ≤ a.2 ∧ a.2 ≤ 61) ∧ σ = τ ∧ ((a.2) ≤ (σ.1 117 49))) (fun a τ => Int.toNat ((σ.1 117 49) - (a.2))) ((Int64.ofNat 0), 0) σ ?_ ?_
  · skip
    exact ⟨⟨by (try dsimp only); omega, by (try dsimp only); omega⟩, rfl, (by (try dsimp only); omega)⟩
  · rintro ⟨y2, x3⟩ _ ⟨h4, rfl, p8⟩ ih9
    try dsimp only at h4 p8
    show WP 259 4 [(0, .ref 117), (1, .long y2), (3, iV x3)] [] _ _ _ _
    show WP 259 4 [(0, .ref 117), (1, .long y2), (3, iV x3)] [] _ _ _ _
    refine wp_il1 jF_259_4 rfl rfl (pc2 := 5) ?_
    refine wp_al1 jF_259_5 rfl rfl (pc2 := 6) ?_
    refine wp_gi jF_259_6 kd117 (by decide) rfl rfl rfl (pc2 := 9) ?_
    refine wp_i_ge jF_259_9 (m_rgb h4 rfl) (m_rgb b1 rfl) rfl (pc2 := 12) ?_ ?_
    · intro h10
      refine wp_ll1 jF_259_29 rfl rfl (pc2 := 30) ?_
      refine wp_rl jF_259_30 ?_
      exact ⟨y2, rfl, rfl⟩
    · intro h10
      refine wp_ll1 jF_259_12 rfl rfl (pc2 := 13) ?_
      refine wp_al1 jF_259_13 rfl rfl (pc2 := 14) ?_
      refine wp_il1 jF_259_14 rfl rfl (pc2 := 15) ?_
      refine wp_cV (as := [iV x3]) (rest := [.long y2]) (a := 117) (mx := 13) (ci := 12) jF_259_15 kd117 (by decide) rfl rfl rfl rfl rfl (by omega) (by omega) rfl (pc2 := 18) ?_
      refine wp_use (m_260 σ hg x3 (by omega) (by omega) (by omega) (by omega) _ _ (by omega) (by omega)) ?_
      rintro _ _ ⟨y13, rfl, rfl⟩
      show WP 259 18 [(0, .ref 117), (1, .long y2), (3, iV x3)] [.long y13, .long y2] _ _ _ _
      refine wp_lng (pc2 := 19) jF_259_18 rfl rfl ?_
      intro y14
      refine wp_ls1 (lv2 := [(0, .ref 117), (1, .long y14), (3, iV x3)]) jF_259_19 rfl rfl rfl (pc2 := 20) ?_
      refine wp_al1 jF_259_20 rfl rfl (pc2 := 21) ?_
      refine wp_il1 jF_259_21 rfl rfl (pc2 := 22) ?_
      refine wp_cV (as := [iV x3]) (rest := []) (a := 117) (mx := 3) (ci := 12) jF_259_22 kd117 (by decide) rfl rfl rfl rfl rfl (by omega) (by omega) rfl (pc2 := 25) ?_
      refine wp_use (m_261 σ hg x3 (by omega) (by omega) (by omega) (by omega) _ _ (by omega) (by omega)) ?_
      rintro _ _ ⟨z19, rfl, h20, rfl, p15, p16⟩
      show WP 259 25 [(0, .ref 117), (1, .long y14), (3, iV x3)] [iV z19] _ _ _ _
      refine wp_is1 (lv2 := [(0, .ref 117), (1, .long y14), (3, iV z19)]) jF_259_25 rfl rfl rfl (pc2 := 26) ?_
      refine wp_go jF_259_26 ?_
      exact ih9 (y14, z19) σ ⟨⟨by (try dsimp only); omega, by (try dsimp only); omega⟩, rfl, (by (try dsimp only); omega)⟩ (by show Int.toNat ((σ.1 117 49) - z19) < Int.toNat ((σ.1 117 49) - x3); omega)
