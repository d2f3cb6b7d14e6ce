set_option maxHeartbeats 4000000 in
set_option maxRecDepth 20000 in
/-- java/lang/Long.bitCount -/
theorem m_96_r (σ : jM) (hg : GI σ) (v : Int64)  (fr lo : Nat) (hfr : 0 ≤ fr) (hlo : 0 ≤ lo) : WP 96 0 (lv_args 0 [.long v]) [] fr lo σ (fun v τ => ∃ z : Int, v = some (iV z) ∧ ((-2147483648) ≤ z ∧ z ≤ 2147483647) ∧ σ = τ) := by
  show WP 96 0 [(0, .long v)] [] _ _ _ _
  refine wp_ll1 jF_96_0 rfl rfl (pc2 := 1) ?_
  refine wp_ll1 jF_96_1 rfl rfl (pc2 := 2) ?_
  refine wp_ic jF_96_2 rfl (pc2 := 3) ?_
  refine wp_lng (pc2 := 4) jF_96_3 rfl rfl ?_
  intro y1
  refine wp_ld jF_96_4 rfl (pc2 := 7) ?_
  refine wp_lng (pc2 := 8) jF_96_7 rfl rfl ?_
  intro y2
  refine wp_lng (pc2 := 9) jF_96_8 rfl rfl ?_
  intro y3
  refine wp_ls1 (lv2 := [(0, .long y3)]) jF_96_9 rfl rfl rfl (pc2 := 10) ?_
  refine wp_ll1 jF_96_10 rfl rfl (pc2 := 11) ?_
  refine wp_ld jF_96_11 rfl (pc2 := 14) ?_
  refine wp_lng (pc2 := 15) jF_96_14 rfl rfl ?_
  intro y4
  refine wp_ll1 jF_96_15 rfl rfl (pc2 := 16) ?_
  refine wp_ic jF_96_16 rfl (pc2 := 17) ?_
  refine wp_lng (pc2 := 18) jF_96_17 rfl rfl ?_
  intro y5
  refine wp_ld jF_96_18 rfl (pc2 := 21) ?_
  refine wp_lng (pc2 := 22) jF_96_21 rfl rfl ?_
  intro y6
  refine wp_lng (pc2 := 23) jF_96_22 rfl rfl ?_
  intro y7
  refine wp_ls1 (lv2 := [(0, .long y7)]) jF_96_23 rfl rfl rfl (pc2 := 24) ?_
  refine wp_ll1 jF_96_24 rfl rfl (pc2 := 25) ?_
  refine wp_ll1 jF_96_25 rfl rfl (pc2 := 26) ?_
  refine wp_ic jF_96_26 rfl (pc2 := 27) ?_
  refine wp_lng (pc2 := 28) jF_96_27 rfl rfl ?_
  intro y8
  refine wp_lng (pc2 := 29) jF_96_28 rfl rfl ?_
  intro y9
  refine wp_ld jF_96_29 rfl (pc2 := 32) ?_
  refine wp_lng (pc2 := 33) jF_96_32 rfl rfl ?_
  intro y10
  refine wp_ls1 (lv2 := [(0, .long y10)]) jF_96_33 rfl rfl rfl (pc2 := 34) ?_
  refine wp_ll1 jF_96_34 rfl rfl (pc2 := 35) ?_
  refine wp_ll1 jF_96_35 rfl rfl (pc2 := 36) ?_
  refine wp_bi jF_96_36 (by decide) rfl (pc2 := 38) ?_
  refine wp_lng (pc2 := 39) jF_96_38 rfl rfl ?_
  intro y11
  refine wp_lng (pc2 := 40) jF_96_39 rfl rfl ?_
  intro y12
  refine wp_ls1 (lv2 := [(0, .long y12)]) jF_96_40 rfl rfl rfl (pc2 := 41) ?_
  refine wp_ll1 jF_96_41 rfl rfl (pc2 := 42) ?_
  refine wp_ll1 jF_96_42 rfl rfl (pc2 := 43) ?_
  refine wp_bi jF_96_43 (by decide) rfl (pc2 := 45) ?_
  refine wp_lng (pc2 := 46) jF_96_45 rfl rfl ?_
  intro y13
  refine wp_lng (pc2 := 47) jF_96_46 rfl rfl ?_
  intro y14
  refine wp_ls1 (lv2 := [(0, .long y14)]) jF_96_47 rfl rfl rfl (pc2 := 48) ?_
  refine wp_ll1 jF_96_48 rfl rfl (pc2 := 49) ?_
  refine wp_ll1 jF_96_49 rfl rfl (pc2 := 50) ?_
  refine wp_bi jF_96_50 (by decide) rfl (pc2 := 52) ?_
  refine wp_lng (pc2 := 53) jF_96_52 rfl rfl ?_
  intro y15
  refine wp_lng (pc2 := 54) jF_96_53 rfl rfl ?_
  intro y16
  refine wp_ls1 (lv2 := [(0, .long y16)]) jF_96_54 rfl rfl rfl (pc2 := 55) ?_
  refine wp_ll1 jF_96_55 rfl rfl (pc2 := 56) ?_
  refine wp_any1 (pc2 := 57) jF_96_56 rfl rfl ?_
  intro z17 h18
  refine wp_bi jF_96_57 (by decide) rfl (pc2 := 59) ?_
  refine wp_andl jF_96_59 rfl rfl (pc2 := 60) ?_
  intro z19 h20
  refine wp_ri jF_96_60 rfl ?_
  exact ⟨z19, rfl, ⟨by omega, by omega⟩, rfl⟩
set_option maxHeartbeats 4000000 in
set_option maxRecDepth 20000 in
/-- java/util/Arrays.fill -/
theorem m_31_r21 (σ : jM) (hg : GI σ)   (fr lo : Nat) (hfr : 0 ≤ fr) (hlo : 0 ≤ lo) : WP 31 0 (lv_args 0 [.ref 21, iV 0]) [] fr lo σ (fun v τ => v = none ∧ GI τ ∧ FR Wc21 σ τ) := by
  show WP 31 0 [(0, .ref 21), (1, iV 0)] [] _ _ _ _
  refine wp_ic jF_31_0 rfl (pc2 := 1) ?_
  refine wp_is1 (lv2 := [(0, .ref 21), (1, iV 0), (2, iV 0)]) jF_31_1 rfl rfl rfl (pc2 := 2) ?_
  refine wp_al1 jF_31_2 rfl rfl (pc2 := 3) ?_
  refine wp_len (n := 25) (t := 0) jF_31_3 kd21 (by decide) rfl rfl (pc2 := 4) ?_
  refine wp_is1 (lv2 := [(0, .ref 21), (1, iV 0), (2, iV 0), (3, iV 25)]) jF_31_4 rfl rfl rfl (pc2 := 5) ?_
  refine wp_loop (α := Int) (fun a => [(0, .ref 21), (1, iV 0), (2, iV (a)), (3, iV 25)]) (fun a τ => (0 ≤ a ∧ a ≤ 25) ∧ GI τ ∧ FR Wc21 σ τ) (fun a τ => Int.toNat (25 - (a))) (0) σ ?_ ?_
  · skip
    exact ⟨⟨by omega, by omega⟩, hg, FR.rf⟩
  · rintro x1 τ3 ⟨h2, g4, f5⟩ ih6
    show WP 31 5 [(0, .ref 21), (1, iV 0), (2, iV x1), (3, iV 25)] [] _ _ _ _
    show WP 31 5 [(0, .ref 21), (1, iV 0), (2, iV x1), (3, iV 25)] [] _ _ _ _
    refine wp_il1 jF_31_5 rfl rfl (pc2 := 6) ?_
    refine wp_il1 jF_31_6 rfl rfl (pc2 := 7) ?_
    refine wp_i_ge jF_31_7 (m_rgb h2 rfl) (m_rgl rfl) rfl (pc2 := 10) ?_ ?_
    · intro h7
      refine wp_rv jF_31_20 ?_
      exact ⟨rfl, g4, f5⟩
    · intro h7
      refine wp_al1 jF_31_10 rfl rfl (pc2 := 11) ?_
      refine wp_il1 jF_31_11 rfl rfl (pc2 := 12) ?_
      refine wp_il1 jF_31_12 rfl rfl (pc2 := 13) ?_
      refine wp_iast (n := 25) jF_31_13 kd21 (by decide) rfl rfl (by omega) (by omega) rfl (pc2 := 14) g4 (lo := (-2147483648)) (hi := 2147483647) rfl (by omega) (by omega) ?_
      intro τ8 g9 f10 e11
      refine wp_inc (lv2 := [(0, .ref 21), (1, iV 0), (2, iV (x1 + 1)), (3, iV 25)]) jF_31_14 rfl rfl rfl rfl (pc2 := 17) ?_
      refine wp_go jF_31_17 ?_
      exact ih6 ((x1 + 1)) τ8 ⟨⟨by omega, by omega⟩, g9, (FR.w f5 f10 rfl)⟩ (by show Int.toNat (25 - (x1 + 1)) < Int.toNat (25 - x1); omega)
set_option maxHeartbeats 4000000 in
set_option maxRecDepth 20000 in
/-- java/util/Arrays.fill -/
theorem m_31_r22 (σ : jM) (hg : GI σ)   (fr lo : Nat) (hfr : 0 ≤ fr) (hlo : 0 ≤ lo) : WP 31 0 (lv_args 0 [.ref 22, iV 0]) [] fr lo σ (fun v τ => v = none ∧ GI τ ∧ FR Wc22 σ τ) := by
  show WP 31 0 [(0, .ref 22), (1, iV 0)] [] _ _ _ _
  refine wp_ic jF_31_0 rfl (pc2 := 1) ?_
  refine wp_is1 (lv2 := [(0, .ref 22), (1, iV 0), (2, iV 0)]) jF_31_1 rfl rfl rfl (pc2 := 2) ?_
  refine wp_al1 jF_31_2 rfl rfl (pc2 := 3) ?_
  refine wp_len (n := 3) (t := 0) jF_31_3 kd22 (by decide) rfl rfl (pc2 := 4) ?_
  refine wp_is1 (lv2 := [(0, .ref 22), (1, iV 0), (2, iV 0), (3, iV 3)]) jF_31_4 rfl rfl rfl (pc2 := 5) ?_
  refine wp_loop (α := Int) (fun a => [(0, .ref 22), (1, iV 0), (2, iV (a)), (3, iV 3)]) (fun a τ => (0 ≤ a ∧ a ≤ 3) ∧ GI τ ∧ FR Wc22 σ τ) (fun a τ => Int.toNat (3 - (a))) (0) σ ?_ ?_
  · skip
    exact ⟨⟨by omega, by omega⟩, hg, FR.rf⟩
  · rintro x1 τ3 ⟨h2, g4, f5⟩ ih6
    show WP 31 5 [(0, .ref 22), (1, iV 0), (2, iV x1), (3, iV 3)] [] _ _ _ _
    show WP 31 5 [(0, .ref 22), (1, iV 0), (2, iV x1), (3, iV 3)] [] _ _ _ _
    refine wp_il1 jF_31_5 rfl rfl (pc2 := 6) ?_
    refine wp_il1 jF_31_6 rfl rfl (pc2 := 7) ?_
    refine wp_i_ge jF_31_7 (m_rgb h2 rfl) (m_rgl rfl) rfl (pc2 := 10) ?_ ?_
    · intro h7
      refine wp_rv jF_31_20 ?_
      exact ⟨rfl, g4, f5⟩
    · intro h7
      refine wp_al1 jF_31_10 rfl rfl (pc2 := 11) ?_
      refine wp_il1 jF_31_11 rfl rfl (pc2 := 12) ?_
      refine wp_il1 jF_31_12 rfl rfl (pc2 := 13) ?_
      refine wp_iast (n := 3) jF_31_13 kd22 (by decide) rfl rfl (by omega) (by omega) rfl (pc2 := 14) g4 (lo := 0) (hi := 4) rfl (by omega) (by omega) ?_
      intro τ8 g9 f10 e11
      refine wp_inc (lv2 := [(0, .ref 22), (1, iV 0), (2, iV (x1 + 1)), (3, iV 3)]) jF_31_14 rfl rfl rfl rfl (pc2 := 17) ?_
      refine wp_go jF_31_17 ?_
      exact ih6 ((x1 + 1)) τ8 ⟨⟨by omega, by omega⟩, g9, (FR.w f5 f10 rfl)⟩ (by show Int.toNat (3 - (x1 + 1)) < Int.toNat (3 - x1); omega)
set_option maxHeartbeats 4000000 in
set_option maxRecDepth 20000 in
/-- java/util/Arrays.fill -/
theorem m_31_r25 (σ : jM) (hg : GI σ)   (fr lo : Nat) (hfr : 0 ≤ fr) (hlo : 0 ≤ lo) : WP 31 0 (lv_args 0 [.ref 25, iV 0]) [] fr lo σ (fun v τ => v = none ∧ GI τ ∧ FR Wc25 σ τ) := by
  show WP 31 0 [(0, .ref 25), (1, iV 0)] [] _ _ _ _
  refine wp_ic jF_31_0 rfl (pc2 := 1) ?_
  refine wp_is1 (lv2 := [(0, .ref 25), (1, iV 0), (2, iV 0)]) jF_31_1 rfl rfl rfl (pc2 := 2) ?_
  refine wp_al1 jF_31_2 rfl rfl (pc2 := 3) ?_
  refine wp_len (n := 5) (t := 0) jF_31_3 kd25 (by decide) rfl rfl (pc2 := 4) ?_
  refine wp_is1 (lv2 := [(0, .ref 25), (1, iV 0), (2, iV 0), (3, iV 5)]) jF_31_4 rfl rfl rfl (pc2 := 5) ?_
  refine wp_loop (α := Int) (fun a => [(0, .ref 25), (1, iV 0), (2, iV (a)), (3, iV 5)]) (fun a τ => (0 ≤ a ∧ a ≤ 5) ∧ GI τ ∧ FR Wc25 σ τ) (fun a τ => Int.toNat (5 - (a))) (0) σ ?_ ?_
  · skip
    exact ⟨⟨by omega, by omega⟩, hg, FR.rf⟩
  · rintro x1 τ3 ⟨h2, g4, f5⟩ ih6
    show WP 31 5 [(0, .ref 25), (1, iV 0), (2, iV x1), (3, iV 5)] [] _ _ _ _
    show WP 31 5 [(0, .ref 25), (1, iV 0), (2, iV x1), (3, iV 5)] [] _ _ _ _
    refine wp_il1 jF_31_5 rfl rfl (pc2 := 6) ?_
    refine wp_il1 jF_31_6 rfl rfl (pc2 := 7) ?_
    refine wp_i_ge jF_31_7 (m_rgb h2 rfl) (m_rgl rfl) rfl (pc2 := 10) ?_ ?_
    · intro h7
      refine wp_rv jF_31_20 ?_
      exact ⟨rfl, g4, f5⟩
    · intro h7
      refine wp_al1 jF_31_10 rfl rfl (pc2 := 11) ?_
      refine wp_il1 jF_31_11 rfl rfl (pc2 := 12) ?_
      refine wp_il1 jF_31_12 rfl rfl (pc2 := 13) ?_
      refine wp_iast (n := 5) jF_31_13 kd25 (by decide) rfl rfl (by omega) (by omega) rfl (pc2 := 14) g4 (lo := (-2147483648)) (hi := 2147483647) rfl (by omega) (by omega) ?_
      intro τ8 g9 f10 e11
      refine wp_inc (lv2 := [(0, .ref 25), (1, iV 0), (2, iV (x1 + 1)), (3, iV 5)]) jF_31_14 rfl rfl rfl rfl (pc2 := 17) ?_
      refine wp_go jF_31_17 ?_
      exact ih6 ((x1 + 1)) τ8 ⟨⟨by omega, by omega⟩, g9, (FR.w f5 f10 rfl)⟩ (by show Int.toNat (5 - (x1 + 1)) < Int.toNat (5 - x1); omega)
set_option maxHeartbeats 4000000 in
set_option maxRecDepth 20000 in
/-- java/util/Arrays.fill -/
theorem m_32_r26 (σ : jM) (hg : GI σ) (val : Int64)  (fr lo : Nat) (hfr : 0 ≤ fr) (hlo : 0 ≤ lo) : WP 32 0 (lv_args 0 [.ref 26, .long val]) [] fr lo σ (fun v τ => v = none ∧ GI τ ∧ FR Wc26 σ τ) := by
  show WP 32 0 [(0, .ref 26), (1, .long val)] [] _ _ _ _
  refine wp_ic jF_32_0 rfl (pc2 := 1) ?_
  refine wp_is1 (lv2 := [(0, .ref 26), (1, .long val), (3, iV 0)]) jF_32_1 rfl rfl rfl (pc2 := 2) ?_
  refine wp_al1 jF_32_2 rfl rfl (pc2 := 3) ?_
  refine wp_len (n := 18) (t := 1) jF_32_3 kd26 (by decide) rfl rfl (pc2 := 4) ?_
  refine wp_is2 (lv2 := [(0, .ref 26), (1, .long val), (3, iV 0), (4, iV 18)]) jF_32_4 rfl rfl rfl (pc2 := 6) ?_
  refine wp_loop (α := Int) (fun a => [(0, .ref 26), (1, .long val), (3, iV (a)), (4, iV 18)]) (fun a τ => (0 ≤ a ∧ a ≤ 18) ∧ GI τ ∧ FR Wc26 σ τ) (fun a τ => Int.toNat (18 - (a))) (0) σ ?_ ?_
  · skip
    exact ⟨⟨by omega, by omega⟩, hg, FR.rf⟩
  · rintro x1 τ3 ⟨h2, g4, f5⟩ ih6
    show WP 32 6 [(0, .ref 26), (1, .long val), (3, iV x1), (4, iV 18)] [] _ _ _ _
    show WP 32 6 [(0, .ref 26), (1, .long val), (3, iV x1), (4, iV 18)] [] _ _ _ _
    refine wp_il1 jF_32_6 rfl rfl (pc2 := 7) ?_
    refine wp_il2 jF_32_7 rfl rfl (pc2 := 9) ?_
    refine wp_i_ge jF_32_9 (m_rgb h2 rfl) (m_rgl rfl) rfl (pc2 := 12) ?_ ?_
    · intro h7
      refine wp_rv jF_32_22 ?_
      exact ⟨rfl, g4, f5⟩
    · intro h7
      refine wp_al1 jF_32_12 rfl rfl (pc2 := 13) ?_
      refine wp_il1 jF_32_13 rfl rfl (pc2 := 14) ?_
      refine wp_ll1 jF_32_14 rfl rfl (pc2 := 15) ?_
      refine wp_last (n := 18) jF_32_15 kd26 (by decide) rfl rfl (by omega) (by omega) rfl (pc2 := 16) g4 ?_
      intro τ8 g9 f10
      refine wp_inc (lv2 := [(0, .ref 26), (1, .long val), (3, iV (x1 + 1)), (4, iV 18)]) jF_32_16 rfl rfl rfl rfl (pc2 := 19) ?_
      refine wp_go jF_32_19 ?_
      exact ih6 ((x1 + 1)) τ8 ⟨⟨by omega, by omega⟩, g9, (FR.w f5 f10 rfl)⟩ (by show Int.toNat (18 - (x1 + 1)) < Int.toNat (18 - x1); omega)
set_option maxHeartbeats 4000000 in
set_option maxRecDepth 20000 in
/-- java/util/Arrays.fill -/
theorem m_31_r46 (σ : jM) (hg : GI σ)   (fr lo : Nat) (hfr : 0 ≤ fr) (hlo : 0 ≤ lo) : WP 31 0 (lv_args 0 [.ref 46, iV 0]) [] fr lo σ (fun v τ => v = none ∧ GI τ ∧ FR Wc46 σ τ) := by
  show WP 31 0 [(0, .ref 46), (1, iV 0)] [] _ _ _ _
  refine wp_ic jF_31_0 rfl (pc2 := 1) ?_
  refine wp_is1 (lv2 := [(0, .ref 46), (1, iV 0), (2, iV 0)]) jF_31_1 rfl rfl rfl (pc2 := 2) ?_
  refine wp_al1 jF_31_2 rfl rfl (pc2 := 3) ?_
  refine wp_len (n := 25) (t := 0) jF_31_3 kd46 (by decide) rfl rfl (pc2 := 4) ?_
  refine wp_is1 (lv2 := [(0, .ref 46), (1, iV 0), (2, iV 0), (3, iV 25)]) jF_31_4 rfl rfl rfl (pc2 := 5) ?_
  refine wp_loop (α := Int) (fun a => [(0, .ref 46), (1, iV 0), (2, iV (a)), (3, iV 25)]) (fun a τ => (0 ≤ a ∧ a ≤ 25) ∧ GI τ ∧ FR Wc46 σ τ) (fun a τ => Int.toNat (25 - (a))) (0) σ ?_ ?_
  · skip
    exact ⟨⟨by omega, by omega⟩, hg, FR.rf⟩
  · rintro x1 τ3 ⟨h2, g4, f5⟩ ih6
    show WP 31 5 [(0, .ref 46), (1, iV 0), (2, iV x1), (3, iV 25)] [] _ _ _ _
    show WP 31 5 [(0, .ref 46), (1, iV 0), (2, iV x1), (3, iV 25)] [] _ _ _ _
    refine wp_il1 jF_31_5 rfl rfl (pc2 := 6) ?_
    refine wp_il1 jF_31_6 rfl rfl (pc2 := 7) ?_
    refine wp_i_ge jF_31_7 (m_rgb h2 rfl) (m_rgl rfl) rfl (pc2 := 10) ?_ ?_
    · intro h7
      refine wp_rv jF_31_20 ?_
      exact ⟨rfl, g4, f5⟩
    · intro h7
      refine wp_al1 jF_31_10 rfl rfl (pc2 := 11) ?_
      refine wp_il1 jF_31_11 rfl rfl (pc2 := 12) ?_
      refine wp_il1 jF_31_12 rfl rfl (pc2 := 13) ?_
      refine wp_iast (n := 25) jF_31_13 kd46 (by decide) rfl rfl (by omega) (by omega) rfl (pc2 := 14) g4 (lo := (-2147483648)) (hi := 2147483647) rfl (by omega) (by omega) ?_
      intro τ8 g9 f10 e11
      refine wp_inc (lv2 := [(0, .ref 46), (1, iV 0), (2, iV (x1 + 1)), (3, iV 25)]) jF_31_14 rfl rfl rfl rfl (pc2 := 17) ?_
      refine wp_go jF_31_17 ?_
      exact ih6 ((x1 + 1)) τ8 ⟨⟨by omega, by omega⟩, g9, (FR.w f5 f10 rfl)⟩ (by show Int.toNat (25 - (x1 + 1)) < Int.toNat (25 - x1); omega)
set_option maxHeartbeats 4000000 in
set_option maxRecDepth 20000 in
/-- java/util/Arrays.fill -/
theorem m_31_r47 (σ : jM) (hg : GI σ)   (fr lo : Nat) (hfr : 0 ≤ fr) (hlo : 0 ≤ lo) : WP 31 0 (lv_args 0 [.ref 47, iV 0]) [] fr lo σ (fun v τ => v = none ∧ GI τ ∧ FR Wc47 σ τ) := by
  show WP 31 0 [(0, .ref 47), (1, iV 0)] [] _ _ _ _
  refine wp_ic jF_31_0 rfl (pc2 := 1) ?_
  refine wp_is1 (lv2 := [(0, .ref 47), (1, iV 0), (2, iV 0)]) jF_31_1 rfl rfl rfl (pc2 := 2) ?_
  refine wp_al1 jF_31_2 rfl rfl (pc2 := 3) ?_
  refine wp_len (n := 3) (t := 0) jF_31_3 kd47 (by decide) rfl rfl (pc2 := 4) ?_
  refine wp_is1 (lv2 := [(0, .ref 47), (1, iV 0), (2, iV 0), (3, iV 3)]) jF_31_4 rfl rfl rfl (pc2 := 5) ?_
  refine wp_loop (α := Int) (fun a => [(0, .ref 47), (1, iV 0), (2, iV (a)), (3, iV 3)]) (fun a τ => (0 ≤ a ∧ a ≤ 3) ∧ GI τ ∧ FR Wc47 σ τ) (fun a τ => Int.toNat (3 - (a))) (0) σ ?_ ?_
  · skip
    exact ⟨⟨by omega, by omega⟩, hg, FR.rf⟩
  · rintro x1 τ3 ⟨h2, g4, f5⟩ ih6
    show WP 31 5 [(0, .ref 47), (1, iV 0), (2, iV x1), (3, iV 3)] [] _ _ _ _
    show WP 31 5 [(0, .ref 47), (1, iV 0), (2, iV x1), (3, iV 3)] [] _ _ _ _
    refine wp_il1 jF_31_5 rfl rfl (pc2 := 6) ?_
    refine wp_il1 jF_31_6 rfl rfl (pc2 := 7) ?_
    refine wp_i_ge jF_31_7 (m_rgb h2 rfl) (m_rgl rfl) rfl (pc2 := 10) ?_ ?_
    · intro h7
      refine wp_rv jF_31_20 ?_
      exact ⟨rfl, g4, f5⟩
    · intro h7
      refine wp_al1 jF_31_10 rfl rfl (pc2 := 11) ?_
      refine wp_il1 jF_31_11 rfl rfl (pc2 := 12) ?_
      refine wp_il1 jF_31_12 rfl rfl (pc2 := 13) ?_
      refine wp_iast (n := 3) jF_31_13 kd47 (by decide) rfl rfl (by omega) (by omega) rfl (pc2 := 14) g4 (lo := 0) (hi := 4) rfl (by omega) (by omega) ?_
      intro τ8 g9 f10 e11
      refine wp_inc (lv2 := [(0, .ref 47), (1, iV 0), (2, iV (x1 + 1)), (3, iV 3)]) jF_31_14 rfl rfl rfl rfl (pc2 := 17) ?_
      refine wp_go jF_31_17 ?_
      exact ih6 ((x1 + 1)) τ8 ⟨⟨by omega, by omega⟩, g9, (FR.w f5 f10 rfl)⟩ (by show Int.toNat (3 - (x1 + 1)) < Int.toNat (3 - x1); omega)
set_option maxHeartbeats 4000000 in
set_option maxRecDepth 20000 in
/-- java/util/Arrays.fill -/
theorem m_31_r50 (σ : jM) (hg : GI σ)   (fr lo : Nat) (hfr : 0 ≤ fr) (hlo : 0 ≤ lo) : WP 31 0 (lv_args 0 [.ref 50, iV 0]) [] fr lo σ (fun v τ => v = none ∧ GI τ ∧ FR Wc50 σ τ) := by
  show WP 31 0 [(0, .ref 50), (1, iV 0)] [] _ _ _ _
  refine wp_ic jF_31_0 rfl (pc2 := 1) ?_
  refine wp_is1 (lv2 := [(0, .ref 50), (1, iV 0), (2, iV 0)]) jF_31_1 rfl rfl rfl (pc2 := 2) ?_
  refine wp_al1 jF_31_2 rfl rfl (pc2 := 3) ?_
  refine wp_len (n := 5) (t := 0) jF_31_3 kd50 (by decide) rfl rfl (pc2 := 4) ?_
  refine wp_is1 (lv2 := [(0, .ref 50), (1, iV 0), (2, iV 0), (3, iV 5)]) jF_31_4 rfl rfl rfl (pc2 := 5) ?_
  refine wp_loop (α := Int) (fun a => [(0, .ref 50), (1, iV 0), (2, iV (a)), (3, iV 5)]) (fun a τ => (0 ≤ a ∧ a ≤ 5) ∧ GI τ ∧ FR Wc50 σ τ) (fun a τ => Int.toNat (5 - (a))) (0) σ ?_ ?_
  · skip
    exact ⟨⟨by omega, by omega⟩, hg, FR.rf⟩
  · rintro x1 τ3 ⟨h2, g4, f5⟩ ih6
    show WP 31 5 [(0, .ref 50), (1, iV 0), (2, iV x1), (3, iV 5)] [] _ _ _ _
    show WP 31 5 [(0, .ref 50), (1, iV 0), (2, iV x1), (3, iV 5)] [] _ _ _ _
    refine wp_il1 jF_31_5 rfl rfl (pc2 := 6) ?_
    refine wp_il1 jF_31_6 rfl rfl (pc2 := 7) ?_
    refine wp_i_ge jF_31_7 (m_rgb h2 rfl) (m_rgl rfl) rfl (pc2 := 10) ?_ ?_
    · intro h7
      refine wp_rv jF_31_20 ?_
      exact ⟨rfl, g4, f5⟩
    · intro h7
      refine wp_al1 jF_31_10 rfl rfl (pc2 := 11) ?_
      refine wp_il1 jF_31_11 rfl rfl (pc2 := 12) ?_
      refine wp_il1 jF_31_12 rfl rfl (pc2 := 13) ?_
      refine wp_iast (n := 5) jF_31_13 kd50 (by decide) rfl rfl (by omega) (by omega) rfl (pc2 := 14) g4 (lo := (-2147483648)) (hi := 2147483647) rfl (by omega) (by omega) ?_
      intro τ8 g9 f10 e11
      refine wp_inc (lv2 := [(0, .ref 50), (1, iV 0), (2, iV (x1 + 1)), (3, iV 5)]) jF_31_14 rfl rfl rfl rfl (pc2 := 17) ?_
      refine wp_go jF_31_17 ?_
      exact ih6 ((x1 + 1)) τ8 ⟨⟨by omega, by omega⟩, g9, (FR.w f5 f10 rfl)⟩ (by show Int.toNat (5 - (x1 + 1)) < Int.toNat (5 - x1); omega)
set_option maxHeartbeats 4000000 in
set_option maxRecDepth 20000 in
/-- java/util/Arrays.fill -/
theorem m_32_r51 (σ : jM) (hg : GI σ) (val : Int64)  (fr lo : Nat) (hfr : 0 ≤ fr) (hlo : 0 ≤ lo) : WP 32 0 (lv_args 0 [.ref 51, .long val]) [] fr lo σ (fun v τ => v = none ∧ GI τ ∧ FR Wc51 σ τ) := by
  show WP 32 0 [(0, .ref 51), (1, .long val)] [] _ _ _ _
  refine wp_ic jF_32_0 rfl (pc2 := 1) ?_
  refine wp_is1 (lv2 := [(0, .ref 51), (1, .long val), (3, iV 0)]) jF_32_1 rfl rfl rfl (pc2 := 2) ?_
  refine wp_al1 jF_32_2 rfl rfl (pc2 := 3) ?_
  refine wp_len (n := 18) (t := 1) jF_32_3 kd51 (by decide) rfl rfl (pc2 := 4) ?_
  refine wp_is2 (lv2 := [(0, .ref 51), (1, .long val), (3, iV 0), (4, iV 18)]) jF_32_4 rfl rfl rfl (pc2 := 6) ?_
  refine wp_loop (α := Int) (fun a => [(0, .ref 51), (1, .long val), (3, iV (a)), (4, iV 18)]) (fun a τ => (0 ≤ a ∧ a ≤ 18) ∧ GI τ ∧ FR Wc51 σ τ) (fun a τ => Int.toNat (18 - (a))) (0) σ ?_ ?_
  · skip
    exact ⟨⟨by omega, by omega⟩, hg, FR.rf⟩
  · rintro x1 τ3 ⟨h2, g4, f5⟩ ih6
    show WP 32 6 [(0, .ref 51), (1, .long val), (3, iV x1), (4, iV 18)] [] _ _ _ _
    show WP 32 6 [(0, .ref 51), (1, .long val), (3, iV x1), (4, iV 18)] [] _ _ _ _
    refine wp_il1 jF_32_6 rfl rfl (pc2 := 7) ?_
    refine wp_il2 jF_32_7 rfl rfl (pc2 := 9) ?_
    refine wp_i_ge jF_32_9 (m_rgb h2 rfl) (m_rgl rfl) rfl (pc2 := 12) ?_ ?_
    · intro h7
      refine wp_rv jF_32_22 ?_
      exact ⟨rfl, g4, f5⟩
    · intro h7
      refine wp_al1 jF_32_12 rfl rfl (pc2 := 13) ?_
      refine wp_il1 jF_32_13 rfl rfl (pc2 := 14) ?_
      refine wp_ll1 jF_32_14 rfl rfl (pc2 := 15) ?_
      refine wp_last (n := 18) jF_32_15 kd51 (by decide) rfl rfl (by omega) (by omega) rfl (pc2 := 16) g4 ?_
      intro τ8 g9 f10
      refine wp_inc (lv2 := [(0, .ref 51), (1, .long val), (3, iV (x1 + 1)), (4, iV 18)]) jF_32_16 rfl rfl rfl rfl (pc2 := 19) ?_
      refine wp_go jF_32_19 ?_
      exact ih6 ((x1 + 1)) τ8 ⟨⟨by omega, by omega⟩, g9, (FR.w f5 f10 rfl)⟩ (by show Int.toNat (18 - (x1 + 1)) < Int.toNat (18 - x1); omega)
set_option maxHeartbeats 4000000 in
set_option maxRecDepth 20000 in
/-- Told.isFull -/
theorem m_44_r27 (σ : jM) (hg : GI σ)   (fr lo : Nat) (hfr : 0 ≤ fr) (hlo : 0 ≤ lo) : WP 44 0 (lv_args 0 [.ref 27]) [] fr lo σ (fun v τ => ∃ z : Int, v = some (iV z) ∧ (0 ≤ z ∧ z ≤ 1) ∧ σ = τ ∧ (z = 0 → (σ.1 27 5) ≤ 15)) := by
  show WP 44 0 [(0, .ref 27)] [] _ _ _ _
  refine wp_al1 jF_44_0 rfl rfl (pc2 := 1) ?_
  have b1 := GI.b hg 27 5 kd27 (lo := 0) (hi := 16) rfl
  refine wp_gi jF_44_1 kd27 (by decide) rfl rfl rfl (pc2 := 4) ?_
  refine wp_al1 jF_44_4 rfl rfl (pc2 := 5) ?_
  refine wp_gr (b := 32) jF_44_5 kd27 (by decide) (c := 8) rfl rfl rfl (pc2 := 8) ?_
  refine wp_len (n := 16) (t := 1) jF_44_8 kd32 (by decide) rfl rfl (pc2 := 9) ?_
  refine wp_i_lt jF_44_9 (m_rgb b1 rfl) (m_rgl rfl) rfl (pc2 := 12) ?_ ?_
  · intro h2
    refine wp_ic jF_44_16 rfl (pc2 := 17) ?_
    refine wp_ri jF_44_17 rfl ?_
    exact ⟨0, rfl, ⟨by omega, by omega⟩, rfl, (by omega)⟩
  · intro h2
    refine wp_ic jF_44_12 rfl (pc2 := 13) ?_
    refine wp_go jF_44_13 ?_
    refine wp_ri jF_44_17 rfl ?_
    exact ⟨1, rfl, ⟨by omega, by omega⟩, rfl, (by omega)⟩
set_option maxHeartbeats 4000000 in
set_option maxRecDepth 20000 in
/-- Told.clear -/
theorem m_33_r27 (σ : jM) (hg : GI σ)   (fr lo : Nat) (hfr : 0 ≤ fr) (hlo : 0 ≤ lo) : WP 33 0 (lv_args 0 [.ref 27]) [] fr lo σ (fun v τ => v = none ∧ GI τ ∧ FR WT27 σ τ ∧ ((τ.1 27 5) = 0)) := by
  show WP 33 0 [(0, .ref 27)] [] _ _ _ _
  refine wp_al1 jF_33_0 rfl rfl (pc2 := 1) ?_
  refine wp_ic jF_33_1 rfl (pc2 := 2) ?_
  refine wp_pi jF_33_2 kd27 (by decide) rfl rfl rfl (pc2 := 5) hg (lo := 0) (hi := 16) rfl (by omega) (by omega) ?_
  intro τ1 g2 f3 e4
  refine wp_al1 jF_33_5 rfl rfl (pc2 := 6) ?_
  refine wp_lc jF_33_6 rfl (pc2 := 7) ?_
  refine wp_pl jF_33_7 kd27 (by decide) rfl rfl (pc2 := 10) g2 ?_
  intro τ5 g6 f7
  refine wp_al1 jF_33_10 rfl rfl (pc2 := 11) ?_
  refine wp_lc jF_33_11 rfl (pc2 := 12) ?_
  refine wp_pl jF_33_12 kd27 (by decide) rfl rfl (pc2 := 15) g6 ?_
  intro τ8 g9 f10
  refine wp_rv jF_33_15 ?_
  have q11 : (τ8.1 27 5) = 0 := ((FRw.nj f10 (by decide)).trans ((FRw.nj f7 (by decide)).trans e4))
  exact ⟨rfl, g9, (FR.w (FR.w (FR.w FR.rf f3 rfl) f7 rfl) f10 rfl), (by omega)⟩
set_option maxHeartbeats 4000000 in
set_option maxRecDepth 20000 in
/-- Told.setParty -/
theorem m_59_r27 (σ : jM) (hg : GI σ) (pt : Int) (hl_pt : (-2147483648) ≤ pt) (hu_pt : pt ≤ 2147483647)  (fr lo : Nat) (hfr : 1 ≤ fr) (hlo : 20 ≤ lo) : WP 59 0 (lv_args 0 [.ref 27, iV pt]) [] fr lo σ (fun v τ => v = none ∧ GI τ ∧ FR WT27 σ τ ∧ ((τ.1 27 5) = (σ.1 27 5))) := by
  show WP 59 0 [(0, .ref 27), (1, iV pt)] [] _ _ _ _
  refine wp_al1 jF_59_0 rfl rfl (pc2 := 1) ?_
  refine wp_cV (as := []) (rest := []) (a := 27) (mx := 1) (ci := 7) jF_59_1 kd27 (by decide) rfl rfl rfl rfl rfl (by omega) (by omega) rfl (pc2 := 4) ?_
  have b1 := GI.b hg 27 5 kd27 (lo := 0) (hi := 16) rfl
  refine wp_use (m_44_r27 σ hg   _ _ (by omega) (by omega)) ?_
  rintro _ _ ⟨z5, rfl, h6, rfl, p2⟩
  show WP 59 4 [(0, .ref 27), (1, iV pt)] [iV z5] _ _ _ _
  refine wp_z_ne jF_59_4 (m_rgb h6 rfl) rfl (pc2 := 7) ?_ ?_
  · intro h7
    clear p2
    refine wp_rv jF_59_17 ?_
    exact ⟨rfl, hg, FR.rf, (by omega)⟩
  · intro h7
    replace p2 := p2 (by omega)
    refine wp_al1 jF_59_7 rfl rfl (pc2 := 8) ?_
    refine wp_gr (b := 30) jF_59_8 kd27 (by decide) (c := 6) rfl rfl rfl (pc2 := 11) ?_
    refine wp_al1 jF_59_11 rfl rfl (pc2 := 12) ?_
    refine wp_gi jF_59_12 kd27 (by decide) rfl rfl rfl (pc2 := 15) ?_
    refine wp_il1 jF_59_15 rfl rfl (pc2 := 16) ?_
    refine wp_iast (n := 16) jF_59_16 kd30 (by decide) rfl rfl (by omega) (by omega) rfl (pc2 := 17) hg (lo := (-2147483648)) (hi := 2147483647) rfl (by omega) (by omega) ?_
    intro τ8 g9 f10 e11
    refine wp_rv jF_59_17 ?_
    have q12 : (τ8.1 27 5) = (σ.1 27 5) := (FRw.na f10 (by decide))
    exact ⟨rfl, g9, (FR.w FR.rf f10 rfl), (by omega)⟩
set_option maxHeartbeats 4000000 in
set_option maxRecDepth 20000 in
/-- Told.setHow -/
theorem m_61_r27 (σ : jM) (hg : GI σ) (fb : Int) (hl_fb : 0 ≤ fb) (hu_fb : fb ≤ 1)  (fr lo : Nat) (hfr : 1 ≤ fr) (hlo : 20 ≤ lo) : WP 61 0 (lv_args 0 [.ref 27, iV fb]) [] fr lo σ (fun v τ => v = none ∧ GI τ ∧ FR WT27 σ τ ∧ ((τ.1 27 5) = (σ.1 27 5))) := by
  show WP 61 0 [(0, .ref 27), (1, iV fb)] [] _ _ _ _
  refine wp_al1 jF_61_0 rfl rfl (pc2 := 1) ?_
  refine wp_cV (as := []) (rest := []) (a := 27) (mx := 1) (ci := 7) jF_61_1 kd27 (by decide) rfl rfl rfl rfl rfl (by omega) (by omega) rfl (pc2 := 4) ?_
  have b1 := GI.b hg 27 5 kd27 (lo := 0) (hi := 16) rfl
  refine wp_use (m_44_r27 σ hg   _ _ (by omega) (by omega)) ?_
  rintro _ _ ⟨z5, rfl, h6, rfl, p2⟩
  show WP 61 4 [(0, .ref 27), (1, iV fb)] [iV z5] _ _ _ _
  refine wp_z_ne jF_61_4 (m_rgb h6 rfl) rfl (pc2 := 7) ?_ ?_
  · intro h7
    clear p2
    refine wp_rv jF_61_17 ?_
    exact ⟨rfl, hg, FR.rf, (by omega)⟩
  · intro h7
    replace p2 := p2 (by omega)
    refine wp_al1 jF_61_7 rfl rfl (pc2 := 8) ?_
    refine wp_gr (b := 28) jF_61_8 kd27 (by decide) (c := 4) rfl rfl rfl (pc2 := 11) ?_
    refine wp_al1 jF_61_11 rfl rfl (pc2 := 12) ?_
    refine wp_gi jF_61_12 kd27 (by decide) rfl rfl rfl (pc2 := 15) ?_
    refine wp_il1 jF_61_15 rfl rfl (pc2 := 16) ?_
    refine wp_bast (n := 16) jF_61_16 kd28 (by decide) rfl rfl (by omega) (by omega) rfl (pc2 := 17) hg (lo := 0) (hi := 1) rfl (by omega) (by omega) (by decide) (by decide) ?_
    intro τ8 g9 f10 e11
    refine wp_rv jF_61_17 ?_
    have q12 : (τ8.1 27 5) = (σ.1 27 5) := (FRw.na f10 (by decide))
    exact ⟨rfl, g9, (FR.w FR.rf f10 rfl), (by omega)⟩
set_option maxHeartbeats 4000000 in
set_option maxRecDepth 20000 in
/-- Told.setOne -/
theorem m_63_r27 (σ : jM) (hg : GI σ) (sort : Int) (hl_sort : 0 ≤ sort) (hu_sort : sort ≤ 2) (wd : Int) (hl_wd : (-2147483648) ≤ wd) (hu_wd : wd ≤ 2147483647)  (fr lo : Nat) (hfr : 0 ≤ fr) (hlo : 0 ≤ lo) : WP 63 0 (lv_args 0 [.ref 27, iV sort, iV wd]) [] fr lo σ (fun v τ => v = none ∧ GI τ ∧ FR WT27 σ τ ∧ ((τ.1 27 5) = (σ.1 27 5))) := by
  show WP 63 0 [(0, .ref 27), (1, iV sort), (2, iV wd)] [] _ _ _ _
  refine wp_al1 jF_63_0 rfl rfl (pc2 := 1) ?_
  have b1 := GI.b hg 27 5 kd27 (lo := 0) (hi := 16) rfl
  refine wp_gi jF_63_1 kd27 (by decide) rfl rfl rfl (pc2 := 4) ?_
  refine wp_ic jF_63_4 rfl (pc2 := 5) ?_
  refine wp_mul jF_63_5 rfl (pc2 := 6) ?_
  refine wp_il1 jF_63_6 rfl rfl (pc2 := 7) ?_
  refine wp_add jF_63_7 rfl (pc2 := 8) ?_
  refine wp_is1 (lv2 := [(0, .ref 27), (1, iV sort), (2, iV wd), (3, iV (((σ.1 27 5) * 3) + sort))]) jF_63_8 rfl rfl rfl (pc2 := 9) ?_
  refine wp_il1 jF_63_9 rfl rfl (pc2 := 10) ?_
  refine wp_z_lt jF_63_10 ⟨by omega, by omega⟩ rfl (pc2 := 13) ?_ ?_
  · intro h2; exfalso; omega
  · intro h2
    refine wp_il1 jF_63_13 rfl rfl (pc2 := 14) ?_
    refine wp_al1 jF_63_14 rfl rfl (pc2 := 15) ?_
    refine wp_gr (b := 29) jF_63_15 kd27 (by decide) (c := 5) rfl rfl rfl (pc2 := 18) ?_
    refine wp_len (n := 48) (t := 0) jF_63_18 kd29 (by decide) rfl rfl (pc2 := 19) ?_
    refine wp_i_ge jF_63_19 ⟨by omega, by omega⟩ (m_rgl rfl) rfl (pc2 := 22) ?_ ?_
    · intro h3
      refine wp_rv jF_63_29 ?_
      exact ⟨rfl, hg, FR.rf, (by omega)⟩
    · intro h3
      refine wp_al1 jF_63_22 rfl rfl (pc2 := 23) ?_
      refine wp_gr (b := 29) jF_63_23 kd27 (by decide) (c := 5) rfl rfl rfl (pc2 := 26) ?_
      refine wp_il1 jF_63_26 rfl rfl (pc2 := 27) ?_
      refine wp_il1 jF_63_27 rfl rfl (pc2 := 28) ?_
      refine wp_iast (n := 48) jF_63_28 kd29 (by decide) rfl rfl (by omega) (by omega) rfl (pc2 := 29) hg (lo := (-2147483648)) (hi := 2147483647) rfl (by omega) (by omega) ?_
      intro τ4 g5 f6 e7
      refine wp_rv jF_63_29 ?_
      have q8 : (τ4.1 27 5) = (σ.1 27 5) := (FRw.na f6 (by decide))
      exact ⟨rfl, g5, (FR.w FR.rf f6 rfl), (by omega)⟩
set_option maxHeartbeats 4000000 in
set_option maxRecDepth 20000 in
/-- Told.close -/
theorem m_65_r27 (σ : jM) (hg : GI σ) (pc_ : Int) (hl_pc_ : (-2147483648) ≤ pc_) (hu_pc_ : pc_ ≤ 2147483647) (pre0 : (σ.1 27 5) ≤ 16) (fr lo : Nat) (hfr : 1 ≤ fr) (hlo : 20 ≤ lo) : WP 65 0 (lv_args 0 [.ref 27, iV pc_]) [] fr lo σ (fun v τ => ∃ z : Int, v = some (iV z) ∧ (0 ≤ z ∧ z ≤ 1) ∧ GI τ ∧ FR WT27 σ τ ∧ ((τ.1 27 5) ≤ 16)) := by
  show WP 65 0 [(0, .ref 27), (1, iV pc_)] [] _ _ _ _
  refine wp_al1 jF_65_0 rfl rfl (pc2 := 1) ?_
  refine wp_cV (as := []) (rest := []) (a := 27) (mx := 1) (ci := 7) jF_65_1 kd27 (by decide) rfl rfl rfl rfl rfl (by omega) (by omega) rfl (pc2 := 4) ?_
  have b1 := GI.b hg 27 5 kd27 (lo := 0) (hi := 16) rfl
  refine wp_use (m_44_r27 σ hg   _ _ (by omega) (by omega)) ?_
  rintro _ _ ⟨z5, rfl, h6, rfl, p2⟩
  show WP 65 4 [(0, .ref 27), (1, iV pc_)] [iV z5] _ _ _ _
  refine wp_z_eq jF_65_4 (m_rgb h6 rfl) rfl (pc2 := 7) ?_ ?_
  · intro h7
    replace p2 := p2 (by omega)
    refine wp_al1 jF_65_9 rfl rfl (pc2 := 10) ?_
    refine wp_gr (b := 31) jF_65_10 kd27 (by decide) (c := 7) rfl rfl rfl (pc2 := 13) ?_
    refine wp_al1 jF_65_13 rfl rfl (pc2 := 14) ?_
    refine wp_gi jF_65_14 kd27 (by decide) rfl rfl rfl (pc2 := 17) ?_
    refine wp_il1 jF_65_17 rfl rfl (pc2 := 18) ?_
    refine wp_iast (n := 16) jF_65_18 kd31 (by decide) rfl rfl (by omega) (by omega) rfl (pc2 := 19) hg (lo := (-2147483648)) (hi := 2147483647) rfl (by omega) (by omega) ?_
    intro τ8 g9 f10 e11
    refine wp_al1 jF_65_19 rfl rfl (pc2 := 20) ?_
    refine wp_dup jF_65_20 rfl rfl (pc2 := 21) ?_
    refine wp_gi jF_65_21 kd27 (by decide) rfl (FRw.na f10 (by decide)) rfl (pc2 := 24) ?_
    refine wp_ic jF_65_24 rfl (pc2 := 25) ?_
    refine wp_add jF_65_25 rfl (pc2 := 26) ?_
    refine wp_pi jF_65_26 kd27 (by decide) rfl rfl rfl (pc2 := 29) g9 (lo := 0) (hi := 16) rfl (by omega) (by omega) ?_
    intro τ12 g13 f14 e15
    refine wp_ic jF_65_29 rfl (pc2 := 30) ?_
    refine wp_ri jF_65_30 rfl ?_
    have q16 : (τ12.1 27 5) = ((σ.1 27 5) + 1) := e15
    exact ⟨1, rfl, ⟨by omega, by omega⟩, g13, (FR.w (FR.w FR.rf f10 rfl) f14 rfl), (by omega)⟩
  · intro h7
    clear p2
    refine wp_ic jF_65_7 rfl (pc2 := 8) ?_
    refine wp_ri jF_65_8 rfl ?_
    exact ⟨0, rfl, ⟨by omega, by omega⟩, hg, FR.rf, (by omega)⟩
