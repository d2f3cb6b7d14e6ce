set_option maxHeartbeats 4000000 in
set_option maxRecDepth 20000 in
/-- X.ask -/
theorem m_171_r9 (σ : jM) (hg : GI σ)  (hsp : SPK σ)  (fr lo : Nat) (hfr : 35 ≤ fr) (hlo : 755 ≤ lo) : WP 171 0 (lv_args 0 [.ref 9]) [] fr lo σ (fun v τ => ∃ z : Int64, v = some (.long z) ∧ GI τ ∧ FR WXl σ τ ∧ ((τ.1 10 1) = 0)) := by
  rcases hsp with ⟨hs1, hs2⟩ | ⟨hs1, hs2⟩
  · skip
    show WP 171 0 [(0, .ref 9)] [] _ _ _ _
    refine wp_al1 jF_171_0 rfl rfl (pc2 := 1) ?_
    refine wp_gr (b := 16) jF_171_1 kd9 (by decide) (c := 116) rfl rfl rfl (pc2 := 4) ?_
    refine wp_cV (as := []) (rest := []) (a := 16) (mx := 1) (ci := 3) jF_171_4 kd16 (by decide) rfl rfl rfl rfl rfl (by omega) (by omega) rfl (pc2 := 7) ?_
    refine wp_use (m_172_r16 σ hg   _ _ (by omega) (by omega)) ?_
    rintro _ τ1 ⟨z4, rfl, h5, g2, f3⟩
    show WP 171 7 [(0, .ref 9)] [iV z4] _ _ _ _
    refine wp_is1 (lv2 := [(0, .ref 9), (1, iV z4)]) jF_171_7 rfl rfl rfl (pc2 := 8) ?_
    refine wp_al1 jF_171_8 rfl rfl (pc2 := 9) ?_
    refine wp_gr (b := 10) jF_171_9 kd9 (by decide) (c := 110) rfl rfl rfl (pc2 := 12) ?_
    refine wp_ic jF_171_12 rfl (pc2 := 13) ?_
    refine wp_pi jF_171_13 kd10 (by decide) rfl rfl rfl (pc2 := 16) g2 (lo := 0) (hi := 1600) rfl (by omega) (by omega) ?_
    intro τ6 g7 f8 e9
    refine wp_il1 jF_171_16 rfl rfl (pc2 := 17) ?_
    refine wp_z_eq jF_171_17 (m_rgb h5 rfl) rfl (pc2 := 20) ?_ ?_
    · intro h10
      refine wp_ld jF_171_42 rfl (pc2 := 45) ?_
      refine wp_rl jF_171_45 ?_
      have q11 : (τ6.1 10 1) = 0 := e9
      exact ⟨(-1000000000000000), rfl, g7, (FR.w (FR.up FR.rf f3 sb_WQr_WXl) f8 rfl), (by omega)⟩
    · intro h10
      refine wp_al1 jF_171_20 rfl rfl (pc2 := 21) ?_
      refine wp_gr (b := 16) jF_171_21 kd9 (by decide) (c := 116) rfl rfl rfl (pc2 := 24) ?_
      refine wp_al1 jF_171_24 rfl rfl (pc2 := 25) ?_
      refine wp_gr jF_171_25 kd9 (by decide) (c := 2) rfl (m_fv2 ((FRw.nar f8 (by decide)).trans ((FR.ar f3 9 4 rfl).trans hs1)) rfl) rfl (pc2 := 28) ?_
      refine wp_al1 jF_171_28 rfl rfl (pc2 := 29) ?_
      refine wp_gr (b := 70) jF_171_29 kd9 (by decide) (c := 170) rfl rfl rfl (pc2 := 32) ?_
      refine wp_al1 jF_171_32 rfl rfl (pc2 := 33) ?_
      refine wp_gr (b := 75) jF_171_33 kd9 (by decide) (c := 175) rfl rfl rfl (pc2 := 36) ?_
      refine wp_cV (as := [.ref 20, .ref 70, .ref 75]) (rest := []) (a := 16) (mx := 9) (ci := 3) jF_171_36 kd16 (by decide) rfl rfl rfl rfl rfl (by omega) (by omega) rfl (pc2 := 39) ?_
      refine wp_use (m_188_r16_20_70_75 τ6 g7   _ _ (by omega) (by omega)) ?_
      rintro _ τ12 ⟨y15, rfl, g13, f14⟩
      show WP 171 39 [(0, .ref 9), (1, iV z4)] [.long y15] _ _ _ _
      refine wp_go jF_171_39 ?_
      refine wp_rl jF_171_45 ?_
      have q16 : (τ12.1 10 1) = 0 := ((FR.at f14 10 1 rfl).trans e9)
      exact ⟨y15, rfl, g13, (FR.up (FR.w (FR.up FR.rf f3 sb_WQr_WXl) f8 rfl) f14 sb_WQa_WXl), (by omega)⟩
  · skip
    show WP 171 0 [(0, .ref 9)] [] _ _ _ _
    refine wp_al1 jF_171_0 rfl rfl (pc2 := 1) ?_
    refine wp_gr (b := 16) jF_171_1 kd9 (by decide) (c := 116) rfl rfl rfl (pc2 := 4) ?_
    refine wp_cV (as := []) (rest := []) (a := 16) (mx := 1) (ci := 3) jF_171_4 kd16 (by decide) rfl rfl rfl rfl rfl (by omega) (by omega) rfl (pc2 := 7) ?_
    refine wp_use (m_172_r16 σ hg   _ _ (by omega) (by omega)) ?_
    rintro _ τ17 ⟨z20, rfl, h21, g18, f19⟩
    show WP 171 7 [(0, .ref 9)] [iV z20] _ _ _ _
    refine wp_is1 (lv2 := [(0, .ref 9), (1, iV z20)]) jF_171_7 rfl rfl rfl (pc2 := 8) ?_
    refine wp_al1 jF_171_8 rfl rfl (pc2 := 9) ?_
    refine wp_gr (b := 10) jF_171_9 kd9 (by decide) (c := 110) rfl rfl rfl (pc2 := 12) ?_
    refine wp_ic jF_171_12 rfl (pc2 := 13) ?_
    refine wp_pi jF_171_13 kd10 (by decide) rfl rfl rfl (pc2 := 16) g18 (lo := 0) (hi := 1600) rfl (by omega) (by omega) ?_
    intro τ22 g23 f24 e25
    refine wp_il1 jF_171_16 rfl rfl (pc2 := 17) ?_
    refine wp_z_eq jF_171_17 (m_rgb h21 rfl) rfl (pc2 := 20) ?_ ?_
    · intro h26
      refine wp_ld jF_171_42 rfl (pc2 := 45) ?_
      refine wp_rl jF_171_45 ?_
      have q27 : (τ22.1 10 1) = 0 := e25
      exact ⟨(-1000000000000000), rfl, g23, (FR.w (FR.up FR.rf f19 sb_WQr_WXl) f24 rfl), (by omega)⟩
    · intro h26
      refine wp_al1 jF_171_20 rfl rfl (pc2 := 21) ?_
      refine wp_gr (b := 16) jF_171_21 kd9 (by decide) (c := 116) rfl rfl rfl (pc2 := 24) ?_
      refine wp_al1 jF_171_24 rfl rfl (pc2 := 25) ?_
      refine wp_gr jF_171_25 kd9 (by decide) (c := 2) rfl (m_fv2 ((FRw.nar f24 (by decide)).trans ((FR.ar f19 9 4 rfl).trans hs1)) rfl) rfl (pc2 := 28) ?_
      refine wp_al1 jF_171_28 rfl rfl (pc2 := 29) ?_
      refine wp_gr (b := 70) jF_171_29 kd9 (by decide) (c := 170) rfl rfl rfl (pc2 := 32) ?_
      refine wp_al1 jF_171_32 rfl rfl (pc2 := 33) ?_
      refine wp_gr (b := 75) jF_171_33 kd9 (by decide) (c := 175) rfl rfl rfl (pc2 := 36) ?_
      refine wp_cV (as := [.ref 45, .ref 70, .ref 75]) (rest := []) (a := 16) (mx := 9) (ci := 3) jF_171_36 kd16 (by decide) rfl rfl rfl rfl rfl (by omega) (by omega) rfl (pc2 := 39) ?_
      refine wp_use (m_188_r16_45_70_75 τ22 g23   _ _ (by omega) (by omega)) ?_
      rintro _ τ28 ⟨y31, rfl, g29, f30⟩
      show WP 171 39 [(0, .ref 9), (1, iV z20)] [.long y31] _ _ _ _
      refine wp_go jF_171_39 ?_
      refine wp_rl jF_171_45 ?_
      have q32 : (τ28.1 10 1) = 0 := ((FR.at f30 10 1 rfl).trans e25)
      exact ⟨y31, rfl, g29, (FR.up (FR.w (FR.up FR.rf f19 sb_WQr_WXl) f24 rfl) f30 sb_WQa_WXl), (by omega)⟩
set_option maxHeartbeats 4000000 in
set_option maxRecDepth 20000 in
/-- Image.add -/
theorem m_203_r114 (σ : jM) (hg : GI σ) (oc : Int) (hl_oc : (-2147483648) ≤ oc) (hu_oc : oc ≤ 2147483647)  (fr lo : Nat) (hfr : 0 ≤ fr) (hlo : 0 ≤ lo) : WP 203 0 (lv_args 0 [.ref 114, iV oc]) [] fr lo σ (fun v τ => v = none ∧ GI τ ∧ FR Wim σ τ) := by
  show WP 203 0 [(0, .ref 114), (1, iV oc)] [] _ _ _ _
  refine wp_al1 jF_203_0 rfl rfl (pc2 := 1) ?_
  have b1 := GI.b hg 114 1 kd114 (lo := 0) (hi := 123) rfl
  refine wp_gi jF_203_1 kd114 (by decide) rfl rfl rfl (pc2 := 4) ?_
  refine wp_al1 jF_203_4 rfl rfl (pc2 := 5) ?_
  refine wp_gr (b := 115) jF_203_5 kd114 (by decide) (c := 215) rfl rfl rfl (pc2 := 8) ?_
  refine wp_len (n := 123) (t := 0) jF_203_8 kd115 (by decide) rfl rfl (pc2 := 9) ?_
  refine wp_i_ge jF_203_9 (m_rgb b1 rfl) (m_rgl rfl) rfl (pc2 := 12) ?_ ?_
  · intro h2
    refine wp_rv jF_203_32 ?_
    exact ⟨rfl, hg, FR.rf⟩
  · intro h2
    refine wp_al1 jF_203_12 rfl rfl (pc2 := 13) ?_
    refine wp_gr (b := 115) jF_203_13 kd114 (by decide) (c := 215) rfl rfl rfl (pc2 := 16) ?_
    refine wp_al1 jF_203_16 rfl rfl (pc2 := 17) ?_
    refine wp_gi jF_203_17 kd114 (by decide) rfl rfl rfl (pc2 := 20) ?_
    refine wp_il1 jF_203_20 rfl rfl (pc2 := 21) ?_
    refine wp_iast (n := 123) jF_203_21 kd115 (by decide) rfl rfl (by omega) (by omega) rfl (pc2 := 22) hg (lo := (-2147483648)) (hi := 2147483647) rfl (by omega) (by omega) ?_
    intro τ3 g4 f5 e6
    refine wp_al1 jF_203_22 rfl rfl (pc2 := 23) ?_
    refine wp_dup jF_203_23 rfl rfl (pc2 := 24) ?_
    refine wp_gi jF_203_24 kd114 (by decide) rfl (FRw.na f5 (by decide)) rfl (pc2 := 27) ?_
    refine wp_ic jF_203_27 rfl (pc2 := 28) ?_
    refine wp_add jF_203_28 rfl (pc2 := 29) ?_
    refine wp_pi jF_203_29 kd114 (by decide) rfl rfl rfl (pc2 := 32) g4 (lo := 0) (hi := 123) rfl (by omega) (by omega) ?_
    intro τ7 g8 f9 e10
    refine wp_rv jF_203_32 ?_
    exact ⟨rfl, g8, (FR.w (FR.w FR.rf f5 rfl) f9 rfl)⟩
set_option maxHeartbeats 4000000 in
set_option maxRecDepth 20000 in
/-- Image.tell -/
theorem m_202_r114_70 (σ : jM) (hg : GI σ)   (fr lo : Nat) (hfr : 1 ≤ fr) (hlo : 21 ≤ lo) : WP 202 0 (lv_args 0 [.ref 114, .ref 70]) [] fr lo σ (fun v τ => v = none ∧ GI τ ∧ FR Wim σ τ) := by
  show WP 202 0 [(0, .ref 114), (1, .ref 70)] [] _ _ _ _
  refine wp_al1 jF_202_0 rfl rfl (pc2 := 1) ?_
  refine wp_al1 jF_202_1 rfl rfl (pc2 := 2) ?_
  have b1 := GI.b hg 70 1 kd70 (lo := 0) (hi := 60) rfl
  refine wp_gi jF_202_2 kd70 (by decide) rfl rfl rfl (pc2 := 5) ?_
  refine wp_cV (as := [iV (σ.1 70 1)]) (rest := []) (a := 114) (mx := 2) (ci := 1) jF_202_5 kd114 (by decide) rfl rfl rfl rfl rfl (by omega) (by omega) rfl (pc2 := 8) ?_
  refine wp_use (m_203_r114 σ hg (σ.1 70 1) (by omega) (by omega)  _ _ (by omega) (by omega)) ?_
  rintro _ τ2 ⟨rfl, g3, f4⟩
  show WP 202 8 [(0, .ref 114), (1, .ref 70)] [] _ _ _ _
  refine wp_ic jF_202_8 rfl (pc2 := 9) ?_
  refine wp_is1 (lv2 := [(0, .ref 114), (1, .ref 70), (2, iV 0)]) jF_202_9 rfl rfl rfl (pc2 := 10) ?_
  refine wp_loop (α := Int) (fun a => [(0, .ref 114), (1, .ref 70), (2, iV (a))]) (fun a τ => (0 ≤ a ∧ a ≤ 60) ∧ GI τ ∧ FR Wim τ2 τ) (fun a τ => Int.toNat (60 - (a))) (0) τ2 ?_ ?_
  · skip
    exact ⟨⟨by omega, by omega⟩, g3, FR.rf⟩
  · rintro x5 τ7 ⟨h6, g8, f9⟩ ih10
    show WP 202 10 [(0, .ref 114), (1, .ref 70), (2, iV x5)] [] _ _ _ _
    show WP 202 10 [(0, .ref 114), (1, .ref 70), (2, iV x5)] [] _ _ _ _
    refine wp_il1 jF_202_10 rfl rfl (pc2 := 11) ?_
    refine wp_al1 jF_202_11 rfl rfl (pc2 := 12) ?_
    refine wp_gi jF_202_12 kd70 (by decide) rfl ((FR.at f9 70 1 rfl).trans (FR.at f4 70 1 rfl)) rfl (pc2 := 15) ?_
    refine wp_i_ge jF_202_15 (m_rgb h6 rfl) (m_rgb b1 rfl) rfl (pc2 := 18) ?_ ?_
    · intro h11
      refine wp_rv jF_202_34 ?_
      exact ⟨rfl, g8, (FR.up f4 f9 sb_Wim_Wim)⟩
    · intro h11
      refine wp_al1 jF_202_18 rfl rfl (pc2 := 19) ?_
      refine wp_al1 jF_202_19 rfl rfl (pc2 := 20) ?_
      refine wp_gr (b := 71) jF_202_20 kd70 (by decide) (c := 4) rfl rfl rfl (pc2 := 23) ?_
      refine wp_il1 jF_202_23 rfl rfl (pc2 := 24) ?_
      have b12 := GI.b hg 71 x5.toNat kd71 (lo := 0) (hi := 255) rfl
      refine wp_iald (n := 60) (e := (σ.1 71 x5.toNat)) jF_202_24 kd71 (by decide) rfl rfl (by omega) (by omega) ((FR.at f9 71 x5.toNat rfl).trans (FR.at f4 71 x5.toNat rfl)) rfl (pc2 := 25) ?_
      refine wp_cV (as := [iV (σ.1 71 x5.toNat)]) (rest := []) (a := 114) (mx := 2) (ci := 1) jF_202_25 kd114 (by decide) rfl rfl rfl rfl rfl (by omega) (by omega) rfl (pc2 := 28) ?_
      refine wp_use (m_203_r114 τ7 g8 (σ.1 71 x5.toNat) (by omega) (by omega)  _ _ (by omega) (by omega)) ?_
      rintro _ τ13 ⟨rfl, g14, f15⟩
      show WP 202 28 [(0, .ref 114), (1, .ref 70), (2, iV x5)] [] _ _ _ _
      refine wp_inc (lv2 := [(0, .ref 114), (1, .ref 70), (2, iV (x5 + 1))]) jF_202_28 rfl rfl rfl rfl (pc2 := 31) ?_
      refine wp_go jF_202_31 ?_
      exact ih10 ((x5 + 1)) τ13 ⟨⟨by omega, by omega⟩, g14, (FR.up f9 f15 sb_Wim_Wim)⟩ (by show Int.toNat (60 - (x5 + 1)) < Int.toNat (60 - x5); omega)
set_option maxHeartbeats 4000000 in
set_option maxRecDepth 20000 in
/-- Image.tell -/
theorem m_202_r114_75 (σ : jM) (hg : GI σ)   (fr lo : Nat) (hfr : 1 ≤ fr) (hlo : 21 ≤ lo) : WP 202 0 (lv_args 0 [.ref 114, .ref 75]) [] fr lo σ (fun v τ => v = none ∧ GI τ ∧ FR Wim σ τ) := by
  show WP 202 0 [(0, .ref 114), (1, .ref 75)] [] _ _ _ _
  refine wp_al1 jF_202_0 rfl rfl (pc2 := 1) ?_
  refine wp_al1 jF_202_1 rfl rfl (pc2 := 2) ?_
  have b1 := GI.b hg 75 1 kd75 (lo := 0) (hi := 60) rfl
  refine wp_gi jF_202_2 kd75 (by decide) rfl rfl rfl (pc2 := 5) ?_
  refine wp_cV (as := [iV (σ.1 75 1)]) (rest := []) (a := 114) (mx := 2) (ci := 1) jF_202_5 kd114 (by decide) rfl rfl rfl rfl rfl (by omega) (by omega) rfl (pc2 := 8) ?_
  refine wp_use (m_203_r114 σ hg (σ.1 75 1) (by omega) (by omega)  _ _ (by omega) (by omega)) ?_
  rintro _ τ2 ⟨rfl, g3, f4⟩
  show WP 202 8 [(0, .ref 114), (1, .ref 75)] [] _ _ _ _
  refine wp_ic jF_202_8 rfl (pc2 := 9) ?_
  refine wp_is1 (lv2 := [(0, .ref 114), (1, .ref 75), (2, iV 0)]) jF_202_9 rfl rfl rfl (pc2 := 10) ?_
  refine wp_loop (α := Int) (fun a => [(0, .ref 114), (1, .ref 75), (2, iV (a))]) (fun a τ => (0 ≤ a ∧ a ≤ 60) ∧ GI τ ∧ FR Wim τ2 τ) (fun a τ => Int.toNat (60 - (a))) (0) τ2 ?_ ?_
  · skip
    exact ⟨⟨by omega, by omega⟩, g3, FR.rf⟩
  · rintro x5 τ7 ⟨h6, g8, f9⟩ ih10
    show WP 202 10 [(0, .ref 114), (1, .ref 75), (2, iV x5)] [] _ _ _ _
    show WP 202 10 [(0, .ref 114), (1, .ref 75), (2, iV x5)] [] _ _ _ _
    refine wp_il1 jF_202_10 rfl rfl (pc2 := 11) ?_
    refine wp_al1 jF_202_11 rfl rfl (pc2 := 12) ?_
    refine wp_gi jF_202_12 kd75 (by decide) rfl ((FR.at f9 75 1 rfl).trans (FR.at f4 75 1 rfl)) rfl (pc2 := 15) ?_
    refine wp_i_ge jF_202_15 (m_rgb h6 rfl) (m_rgb b1 rfl) rfl (pc2 := 18) ?_ ?_
    · intro h11
      refine wp_rv jF_202_34 ?_
      exact ⟨rfl, g8, (FR.up f4 f9 sb_Wim_Wim)⟩
    · intro h11
      refine wp_al1 jF_202_18 rfl rfl (pc2 := 19) ?_
      refine wp_al1 jF_202_19 rfl rfl (pc2 := 20) ?_
      refine wp_gr (b := 76) jF_202_20 kd75 (by decide) (c := 4) rfl rfl rfl (pc2 := 23) ?_
      refine wp_il1 jF_202_23 rfl rfl (pc2 := 24) ?_
      have b12 := GI.b hg 76 x5.toNat kd76 (lo := 0) (hi := 255) rfl
      refine wp_iald (n := 60) (e := (σ.1 76 x5.toNat)) jF_202_24 kd76 (by decide) rfl rfl (by omega) (by omega) ((FR.at f9 76 x5.toNat rfl).trans (FR.at f4 76 x5.toNat rfl)) rfl (pc2 := 25) ?_
      refine wp_cV (as := [iV (σ.1 76 x5.toNat)]) (rest := []) (a := 114) (mx := 2) (ci := 1) jF_202_25 kd114 (by decide) rfl rfl rfl rfl rfl (by omega) (by omega) rfl (pc2 := 28) ?_
      refine wp_use (m_203_r114 τ7 g8 (σ.1 76 x5.toNat) (by omega) (by omega)  _ _ (by omega) (by omega)) ?_
      rintro _ τ13 ⟨rfl, g14, f15⟩
      show WP 202 28 [(0, .ref 114), (1, .ref 75), (2, iV x5)] [] _ _ _ _
      refine wp_inc (lv2 := [(0, .ref 114), (1, .ref 75), (2, iV (x5 + 1))]) jF_202_28 rfl rfl rfl rfl (pc2 := 31) ?_
      refine wp_go jF_202_31 ?_
      exact ih10 ((x5 + 1)) τ13 ⟨⟨by omega, by omega⟩, g14, (FR.up f9 f15 sb_Wim_Wim)⟩ (by show Int.toNat (60 - (x5 + 1)) < Int.toNat (60 - x5); omega)
set_option maxHeartbeats 4000000 in
set_option maxRecDepth 20000 in
/-- Image.seal -/
theorem m_204_r11 (σ : jM) (hg : GI σ) (cnt : Int) (hl_cnt : 0 ≤ cnt) (hu_cnt : cnt ≤ 1600)  (fr lo : Nat) (hfr : 0 ≤ fr) (hlo : 0 ≤ lo) : WP 204 0 (lv_args 0 [.ref 11, iV cnt]) [] fr lo σ (fun v τ => ∃ z : Int, v = some (iV z) ∧ ((-2147483648) ≤ z ∧ z ≤ 2147483647) ∧ σ = τ) := by
  show WP 204 0 [(0, .ref 11), (1, iV cnt)] [] _ _ _ _
  refine wp_bi jF_204_0 (by decide) rfl (pc2 := 2) ?_
  refine wp_is1 (lv2 := [(0, .ref 11), (1, iV cnt), (2, iV 101)]) jF_204_2 rfl rfl rfl (pc2 := 3) ?_
  refine wp_ic jF_204_3 rfl (pc2 := 4) ?_
  refine wp_is1 (lv2 := [(0, .ref 11), (1, iV cnt), (2, iV 101), (3, iV 0)]) jF_204_4 rfl rfl rfl (pc2 := 5) ?_
  refine wp_loop (α := Int × Int) (fun a => [(0, .ref 11), (1, iV cnt), (2, iV (a.1)), (3, iV (a.2))]) (fun a τ => ((-2147483648) ≤ a.1 ∧ a.1 ≤ 2147483647) ∧ (0 ≤ a.2 ∧ a.2 ≤ 1600) ∧ σ = τ) (fun a τ => Int.toNat (1600 - (a.2))) (101, 0) σ ?_ ?_
  · skip
    exact ⟨⟨by (try dsimp only); omega, by (try dsimp only); omega⟩, ⟨by (try dsimp only); omega, by (try dsimp only); omega⟩, rfl⟩
  · rintro ⟨x1, x2⟩ _ ⟨h3, h4, rfl⟩ ih8
    try dsimp only at h3 h4
    show WP 204 5 [(0, .ref 11), (1, iV cnt), (2, iV x1), (3, iV x2)] [] _ _ _ _
    show WP 204 5 [(0, .ref 11), (1, iV cnt), (2, iV x1), (3, iV x2)] [] _ _ _ _
    refine wp_il1 jF_204_5 rfl rfl (pc2 := 6) ?_
    refine wp_il1 jF_204_6 rfl rfl (pc2 := 7) ?_
    refine wp_i_ge jF_204_7 (m_rgb h4 rfl) ⟨by omega, by omega⟩ rfl (pc2 := 10) ?_ ?_
    · intro h9
      refine wp_il1 jF_204_34 rfl rfl (pc2 := 35) ?_
      refine wp_ri jF_204_35 rfl ?_
      exact ⟨x1, rfl, ⟨by omega, by omega⟩, rfl⟩
    · intro h9
      refine wp_il1 jF_204_10 rfl rfl (pc2 := 11) ?_
      refine wp_al1 jF_204_11 rfl rfl (pc2 := 12) ?_
      refine wp_len (n := 1600) (t := 0) jF_204_12 kd11 (by decide) rfl rfl (pc2 := 13) ?_
      refine wp_i_ge jF_204_13 ⟨by omega, by omega⟩ (m_rgl rfl) rfl (pc2 := 16) ?_ ?_
      · intro h10; exfalso; omega
      · intro h10
        refine wp_ic jF_204_16 rfl (pc2 := 17) ?_
        refine wp_il1 jF_204_17 rfl rfl (pc2 := 18) ?_
        refine wp_any2 (pc2 := 19) jF_204_18 rfl rfl ?_
        intro z11 h12
        refine wp_al1 jF_204_19 rfl rfl (pc2 := 20) ?_
        refine wp_il1 jF_204_20 rfl rfl (pc2 := 21) ?_
        have b13 := GI.b hg 11 x2.toNat kd11 (lo := 0) (hi := 255) rfl
        refine wp_iald (n := 1600) (e := (σ.1 11 x2.toNat)) jF_204_21 kd11 (by decide) rfl rfl (by omega) (by omega) rfl rfl (pc2 := 22) ?_
        refine wp_any2 (pc2 := 23) jF_204_22 rfl rfl ?_
        intro z14 h15
        refine wp_si jF_204_23 (by decide) rfl (pc2 := 26) ?_
        refine wp_irema jF_204_26 (m_rgl rfl) (by omega) rfl (pc2 := 27) ?_
        intro z16 h17
        refine wp_is1 (lv2 := [(0, .ref 11), (1, iV cnt), (2, iV z16), (3, iV x2)]) jF_204_27 rfl rfl rfl (pc2 := 28) ?_
        refine wp_inc (lv2 := [(0, .ref 11), (1, iV cnt), (2, iV z16), (3, iV (x2 + 1))]) jF_204_28 rfl rfl rfl rfl (pc2 := 31) ?_
        refine wp_go jF_204_31 ?_
        exact ih8 (z16, (x2 + 1)) σ ⟨⟨by (try dsimp only); omega, by (try dsimp only); omega⟩, ⟨by (try dsimp only); omega, by (try dsimp only); omega⟩, rfl⟩ (by show Int.toNat (1600 - (x2 + 1)) < Int.toNat (1600 - x2); omega)
set_option maxHeartbeats 4000000 in
set_option maxRecDepth 20000 in
/-- Image.seal -/
theorem m_204_r115 (σ : jM) (hg : GI σ) (cnt : Int) (hl_cnt : 0 ≤ cnt) (hu_cnt : cnt ≤ 1600)  (fr lo : Nat) (hfr : 0 ≤ fr) (hlo : 0 ≤ lo) : WP 204 0 (lv_args 0 [.ref 115, iV cnt]) [] fr lo σ (fun v τ => ∃ z : Int, v = some (iV z) ∧ ((-2147483648) ≤ z ∧ z ≤ 2147483647) ∧ σ = τ) := by
  show WP 204 0 [(0, .ref 115), (1, iV cnt)] [] _ _ _ _
  refine wp_bi jF_204_0 (by decide) rfl (pc2 := 2) ?_
  refine wp_is1 (lv2 := [(0, .ref 115), (1, iV cnt), (2, iV 101)]) jF_204_2 rfl rfl rfl (pc2 := 3) ?_
  refine wp_ic jF_204_3 rfl (pc2 := 4) ?_
  refine wp_is1 (lv2 := [(0, .ref 115), (1, iV cnt), (2, iV 101), (3, iV 0)]) jF_204_4 rfl rfl rfl (pc2 := 5) ?_
  refine wp_loop (α := Int × Int) (fun a => [(0, .ref 115), (1, iV cnt), (2, iV (a.1)), (3, iV (a.2))]) (fun a τ => ((-2147483648) ≤ a.1 ∧ a.1 ≤ 2147483647) ∧ (0 ≤ a.2 ∧ a.2 ≤ 1600) ∧ σ = τ) (fun a τ => Int.toNat (1600 - (a.2))) (101, 0) σ ?_ ?_
  · skip
    exact ⟨⟨by (try dsimp only); omega, by (try dsimp only); omega⟩, ⟨by (try dsimp only); omega, by (try dsimp only); omega⟩, rfl⟩
  · rintro ⟨x1, x2⟩ _ ⟨h3, h4, rfl⟩ ih8
    try dsimp only at h3 h4
    show WP 204 5 [(0, .ref 115), (1, iV cnt), (2, iV x1), (3, iV x2)] [] _ _ _ _
    show WP 204 5 [(0, .ref 115), (1, iV cnt), (2, iV x1), (3, iV x2)] [] _ _ _ _
    refine wp_il1 jF_204_5 rfl rfl (pc2 := 6) ?_
    refine wp_il1 jF_204_6 rfl rfl (pc2 := 7) ?_
    refine wp_i_ge jF_204_7 (m_rgb h4 rfl) ⟨by omega, by omega⟩ rfl (pc2 := 10) ?_ ?_
    · intro h9
      refine wp_il1 jF_204_34 rfl rfl (pc2 := 35) ?_
      refine wp_ri jF_204_35 rfl ?_
      exact ⟨x1, rfl, ⟨by omega, by omega⟩, rfl⟩
    · intro h9
      refine wp_il1 jF_204_10 rfl rfl (pc2 := 11) ?_
      refine wp_al1 jF_204_11 rfl rfl (pc2 := 12) ?_
      refine wp_len (n := 123) (t := 0) jF_204_12 kd115 (by decide) rfl rfl (pc2 := 13) ?_
      refine wp_i_ge jF_204_13 ⟨by omega, by omega⟩ (m_rgl rfl) rfl (pc2 := 16) ?_ ?_
      · intro h10
        refine wp_il1 jF_204_34 rfl rfl (pc2 := 35) ?_
        refine wp_ri jF_204_35 rfl ?_
        exact ⟨x1, rfl, ⟨by omega, by omega⟩, rfl⟩
      · intro h10
        refine wp_ic jF_204_16 rfl (pc2 := 17) ?_
        refine wp_il1 jF_204_17 rfl rfl (pc2 := 18) ?_
        refine wp_any2 (pc2 := 19) jF_204_18 rfl rfl ?_
        intro z11 h12
        refine wp_al1 jF_204_19 rfl rfl (pc2 := 20) ?_
        refine wp_il1 jF_204_20 rfl rfl (pc2 := 21) ?_
        have b13 := GI.b hg 115 x2.toNat kd115 (lo := (-2147483648)) (hi := 2147483647) rfl
        refine wp_iald (n := 123) (e := (σ.1 115 x2.toNat)) jF_204_21 kd115 (by decide) rfl rfl (by omega) (by omega) rfl rfl (pc2 := 22) ?_
        refine wp_any2 (pc2 := 23) jF_204_22 rfl rfl ?_
        intro z14 h15
        refine wp_si jF_204_23 (by decide) rfl (pc2 := 26) ?_
        refine wp_irema jF_204_26 (m_rgl rfl) (by omega) rfl (pc2 := 27) ?_
        intro z16 h17
        refine wp_is1 (lv2 := [(0, .ref 115), (1, iV cnt), (2, iV z16), (3, iV x2)]) jF_204_27 rfl rfl rfl (pc2 := 28) ?_
        refine wp_inc (lv2 := [(0, .ref 115), (1, iV cnt), (2, iV z16), (3, iV (x2 + 1))]) jF_204_28 rfl rfl rfl rfl (pc2 := 31) ?_
        refine wp_go jF_204_31 ?_
        exact ih8 (z16, (x2 + 1)) σ ⟨⟨by (try dsimp only); omega, by (try dsimp only); omega⟩, ⟨by (try dsimp only); omega, by (try dsimp only); omega⟩, rfl⟩ (by show Int.toNat (1600 - (x2 + 1)) < Int.toNat (1600 - x2); omega)
set_option maxHeartbeats 4000000 in
set_option maxRecDepth 20000 in
/-- Image.write -/
theorem m_201_r114_70_75 (σ : jM) (hg : GI σ)   (fr lo : Nat) (hfr : 2 ≤ fr) (hlo : 43 ≤ lo) : WP 201 0 (lv_args 0 [.ref 114, .ref 70, .ref 75]) [] fr lo σ (fun v τ => v = none ∧ GI τ ∧ FR Wim σ τ) := by
  show WP 201 0 [(0, .ref 114), (1, .ref 70), (2, .ref 75)] [] _ _ _ _
  refine wp_al1 jF_201_0 rfl rfl (pc2 := 1) ?_
  refine wp_ic jF_201_1 rfl (pc2 := 2) ?_
  refine wp_pi jF_201_2 kd114 (by decide) rfl rfl rfl (pc2 := 5) hg (lo := 0) (hi := 123) rfl (by omega) (by omega) ?_
  intro τ1 g2 f3 e4
  refine wp_al1 jF_201_5 rfl rfl (pc2 := 6) ?_
  refine wp_al1 jF_201_6 rfl rfl (pc2 := 7) ?_
  refine wp_cV (as := [.ref 70]) (rest := []) (a := 114) (mx := 3) (ci := 1) jF_201_7 kd114 (by decide) rfl rfl rfl rfl rfl (by omega) (by omega) rfl (pc2 := 10) ?_
  refine wp_use (m_202_r114_70 τ1 g2   _ _ (by omega) (by omega)) ?_
  rintro _ τ5 ⟨rfl, g6, f7⟩
  show WP 201 10 [(0, .ref 114), (1, .ref 70), (2, .ref 75)] [] _ _ _ _
  refine wp_al1 jF_201_10 rfl rfl (pc2 := 11) ?_
  refine wp_al1 jF_201_11 rfl rfl (pc2 := 12) ?_
  refine wp_cV (as := [.ref 75]) (rest := []) (a := 114) (mx := 3) (ci := 1) jF_201_12 kd114 (by decide) rfl rfl rfl rfl rfl (by omega) (by omega) rfl (pc2 := 15) ?_
  refine wp_use (m_202_r114_75 τ5 g6   _ _ (by omega) (by omega)) ?_
  rintro _ τ8 ⟨rfl, g9, f10⟩
  show WP 201 15 [(0, .ref 114), (1, .ref 70), (2, .ref 75)] [] _ _ _ _
  refine wp_al1 jF_201_15 rfl rfl (pc2 := 16) ?_
  refine wp_al1 jF_201_16 rfl rfl (pc2 := 17) ?_
  refine wp_gr (b := 115) jF_201_17 kd114 (by decide) (c := 215) rfl rfl rfl (pc2 := 20) ?_
  refine wp_al1 jF_201_20 rfl rfl (pc2 := 21) ?_
  have b11 := GI.b g9 114 1 kd114 (lo := 0) (hi := 123) rfl
  refine wp_gi jF_201_21 kd114 (by decide) rfl rfl rfl (pc2 := 24) ?_
  refine wp_cS (as := [.ref 115, iV (τ8.1 114 1)]) (rest := [.ref 114]) (mx := 4) jF_201_24 rfl rfl rfl rfl (by omega) (by omega) rfl (pc2 := 27) ?_
  refine wp_use (m_204_r115 τ8 g9 (τ8.1 114 1) (by omega) (by omega)  _ _ (by omega) (by omega)) ?_
  rintro _ _ ⟨z14, rfl, h15, rfl⟩
  show WP 201 27 [(0, .ref 114), (1, .ref 70), (2, .ref 75)] [iV z14, .ref 114] _ _ _ _
  refine wp_cV (as := [iV z14]) (rest := []) (a := 114) (mx := 2) (ci := 1) jF_201_27 kd114 (by decide) rfl rfl rfl rfl rfl (by omega) (by omega) rfl (pc2 := 30) ?_
  refine wp_use (m_203_r114 τ8 g9 z14 (by omega) (by omega)  _ _ (by omega) (by omega)) ?_
  rintro _ τ16 ⟨rfl, g17, f18⟩
  show WP 201 30 [(0, .ref 114), (1, .ref 70), (2, .ref 75)] [] _ _ _ _
  refine wp_rv jF_201_30 ?_
  exact ⟨rfl, g17, (FR.up (FR.up (FR.up (FR.w FR.rf f3 rfl) f7 sb_Wim_Wim) f10 sb_Wim_Wim) f18 sb_Wim_Wim)⟩
set_option maxHeartbeats 4000000 in
set_option maxRecDepth 20000 in
/-- X.image -/
theorem m_200_r9 (σ : jM) (hg : GI σ)   (fr lo : Nat) (hfr : 3 ≤ fr) (hlo : 65 ≤ lo) : WP 200 0 (lv_args 0 [.ref 9]) [] fr lo σ (fun v τ => ∃ z : Int, v = some (iV z) ∧ ((-2147483648) ≤ z ∧ z ≤ 2147483647) ∧ GI τ ∧ FR WXg σ τ) := by
  show WP 200 0 [(0, .ref 9)] [] _ _ _ _
  refine wp_al1 jF_200_0 rfl rfl (pc2 := 1) ?_
  refine wp_gr (b := 114) jF_200_1 kd9 (by decide) (c := 214) rfl rfl rfl (pc2 := 4) ?_
  refine wp_al1 jF_200_4 rfl rfl (pc2 := 5) ?_
  refine wp_gr (b := 70) jF_200_5 kd9 (by decide) (c := 170) rfl rfl rfl (pc2 := 8) ?_
  refine wp_al1 jF_200_8 rfl rfl (pc2 := 9) ?_
  refine wp_gr (b := 75) jF_200_9 kd9 (by decide) (c := 175) rfl rfl rfl (pc2 := 12) ?_
  refine wp_cV (as := [.ref 70, .ref 75]) (rest := []) (a := 114) (mx := 3) (ci := 1) jF_200_12 kd114 (by decide) rfl rfl rfl rfl rfl (by omega) (by omega) rfl (pc2 := 15) ?_
  refine wp_use (m_201_r114_70_75 σ hg   _ _ (by omega) (by omega)) ?_
  rintro _ τ1 ⟨rfl, g2, f3⟩
  show WP 200 15 [(0, .ref 9)] [] _ _ _ _
  refine wp_al1 jF_200_15 rfl rfl (pc2 := 16) ?_
  refine wp_gr (b := 114) jF_200_16 kd9 (by decide) (c := 214) rfl rfl rfl (pc2 := 19) ?_
  have b4 := GI.b g2 114 1 kd114 (lo := 0) (hi := 123) rfl
  refine wp_gi jF_200_19 kd114 (by decide) rfl rfl rfl (pc2 := 22) ?_
  refine wp_ri jF_200_22 rfl ?_
  exact ⟨(τ1.1 114 1), rfl, ⟨by omega, by omega⟩, g2, (FR.up FR.rf f3 sb_Wim_WXg)⟩
set_option maxHeartbeats 4000000 in
set_option maxRecDepth 20000 in
/-- X.octet -/
theorem m_205_r9 (σ : jM) (hg : GI σ) (k : Int) (hl_k : (-2147483648) ≤ k) (hu_k : k ≤ 2147483647)  (fr lo : Nat) (hfr : 0 ≤ fr) (hlo : 0 ≤ lo) : WP 205 0 (lv_args 0 [.ref 9, iV k]) [] fr lo σ (fun v τ => ∃ z : Int, v = some (iV z) ∧ ((-2147483648) ≤ z ∧ z ≤ 2147483647) ∧ σ = τ) := by
  show WP 205 0 [(0, .ref 9), (1, iV k)] [] _ _ _ _
  refine wp_il1 jF_205_0 rfl rfl (pc2 := 1) ?_
  refine wp_z_lt jF_205_1 ⟨by omega, by omega⟩ rfl (pc2 := 4) ?_ ?_
  · intro h1
    refine wp_ic jF_205_27 rfl (pc2 := 28) ?_
    refine wp_ri jF_205_28 rfl ?_
    exact ⟨(-1), rfl, ⟨by omega, by omega⟩, rfl⟩
  · intro h1
    refine wp_il1 jF_205_4 rfl rfl (pc2 := 5) ?_
    refine wp_al1 jF_205_5 rfl rfl (pc2 := 6) ?_
    refine wp_gr (b := 114) jF_205_6 kd9 (by decide) (c := 214) rfl rfl rfl (pc2 := 9) ?_
    have b2 := GI.b hg 114 1 kd114 (lo := 0) (hi := 123) rfl
    refine wp_gi jF_205_9 kd114 (by decide) rfl rfl rfl (pc2 := 12) ?_
    refine wp_i_ge jF_205_12 ⟨by omega, by omega⟩ (m_rgb b2 rfl) rfl (pc2 := 15) ?_ ?_
    · intro h3
      refine wp_ic jF_205_27 rfl (pc2 := 28) ?_
      refine wp_ri jF_205_28 rfl ?_
      exact ⟨(-1), rfl, ⟨by omega, by omega⟩, rfl⟩
    · intro h3
      refine wp_al1 jF_205_15 rfl rfl (pc2 := 16) ?_
      refine wp_gr (b := 114) jF_205_16 kd9 (by decide) (c := 214) rfl rfl rfl (pc2 := 19) ?_
      refine wp_gr (b := 115) jF_205_19 kd114 (by decide) (c := 215) rfl rfl rfl (pc2 := 22) ?_
      refine wp_il1 jF_205_22 rfl rfl (pc2 := 23) ?_
      have b4 := GI.b hg 115 k.toNat kd115 (lo := (-2147483648)) (hi := 2147483647) rfl
      refine wp_iald (n := 123) (e := (σ.1 115 k.toNat)) jF_205_23 kd115 (by decide) rfl rfl (by omega) (by omega) rfl rfl (pc2 := 24) ?_
      refine wp_go jF_205_24 ?_
      refine wp_ri jF_205_28 rfl ?_
      exact ⟨(σ.1 115 k.toNat), rfl, ⟨by omega, by omega⟩, rfl⟩
set_option maxHeartbeats 4000000 in
set_option maxRecDepth 20000 in
/-- X.isImage -/
theorem m_207_r9 (σ : jM) (hg : GI σ)  (hsp : SPK σ)  (fr lo : Nat) (hfr : 3 ≤ fr) (hlo : 65 ≤ lo) : WP 207 0 (lv_args 0 [.ref 9]) [] fr lo σ (fun v τ => ∃ z : Int, v = some (iV z) ∧ (0 ≤ z ∧ z ≤ 1) ∧ GI τ ∧ FR WXg σ τ) := by
  rcases hsp with ⟨hs1, hs2⟩ | ⟨hs1, hs2⟩
  · skip
    show WP 207 0 [(0, .ref 9)] [] _ _ _ _
    refine wp_al1 jF_207_0 rfl rfl (pc2 := 1) ?_
    refine wp_gr (b := 80) jF_207_1 kd9 (by decide) (c := 180) rfl rfl rfl (pc2 := 4) ?_
    refine wp_al1 jF_207_4 rfl rfl (pc2 := 5) ?_
    refine wp_gr (b := 10) jF_207_5 kd9 (by decide) (c := 110) rfl rfl rfl (pc2 := 8) ?_
    refine wp_ic jF_207_8 rfl (pc2 := 9) ?_
    refine wp_cV (as := [.ref 10, iV 0]) (rest := []) (a := 80) (mx := 5) (ci := 4) jF_207_9 kd80 (by decide) rfl rfl rfl rfl rfl (by omega) (by omega) rfl (pc2 := 12) ?_
    refine wp_use (m_208_r80_10 σ hg 0 (by omega) (by omega)  _ _ (by omega) (by omega)) ?_
    rintro _ τ2 ⟨z5, rfl, h6, g3, f4, p1⟩
    show WP 207 12 [(0, .ref 9)] [iV z5] _ _ _ _
    refine wp_is1 (lv2 := [(0, .ref 9), (1, iV z5)]) jF_207_12 rfl rfl rfl (pc2 := 13) ?_
    refine wp_il1 jF_207_13 rfl rfl (pc2 := 14) ?_
    refine wp_ic jF_207_14 rfl (pc2 := 15) ?_
    refine wp_i_ne jF_207_15 (m_rgb h6 rfl) (m_rgl rfl) rfl (pc2 := 18) ?_ ?_
    · intro h7
      refine wp_al1 jF_207_22 rfl rfl (pc2 := 23) ?_
      refine wp_gr (b := 85) jF_207_23 kd9 (by decide) (c := 185) rfl rfl rfl (pc2 := 26) ?_
      refine wp_al1 jF_207_26 rfl rfl (pc2 := 27) ?_
      refine wp_gr (b := 10) jF_207_27 kd9 (by decide) (c := 110) rfl rfl rfl (pc2 := 30) ?_
      refine wp_il1 jF_207_30 rfl rfl (pc2 := 31) ?_
      refine wp_cV (as := [.ref 10, iV z5]) (rest := []) (a := 85) (mx := 5) (ci := 4) jF_207_31 kd85 (by decide) rfl rfl rfl rfl rfl (by omega) (by omega) rfl (pc2 := 34) ?_
      refine wp_use (m_208_r85_10 τ2 g3 z5 (by omega) (by omega)  _ _ (by omega) (by omega)) ?_
      rintro _ τ9 ⟨z12, rfl, h13, g10, f11, p8⟩
      show WP 207 34 [(0, .ref 9), (1, iV z5)] [iV z12] _ _ _ _
      refine wp_is1 (lv2 := [(0, .ref 9), (1, iV z5), (2, iV z12)]) jF_207_34 rfl rfl rfl (pc2 := 35) ?_
      refine wp_il1 jF_207_35 rfl rfl (pc2 := 36) ?_
      refine wp_ic jF_207_36 rfl (pc2 := 37) ?_
      refine wp_i_eq jF_207_37 (m_rgb h13 rfl) (m_rgl rfl) rfl (pc2 := 40) ?_ ?_
      · intro h14
        refine wp_ic jF_207_53 rfl (pc2 := 54) ?_
        refine wp_ri jF_207_54 rfl ?_
        exact ⟨0, rfl, ⟨by omega, by omega⟩, g10, (FR.up (FR.up FR.rf f4 sb_WW80_WXg) f11 sb_WW85_WXg)⟩
      · intro h14
        refine wp_il1 jF_207_40 rfl rfl (pc2 := 41) ?_
        refine wp_al1 jF_207_41 rfl rfl (pc2 := 42) ?_
        refine wp_gr (b := 10) jF_207_42 kd9 (by decide) (c := 110) rfl rfl rfl (pc2 := 45) ?_
        have b15 := GI.b hg 10 1 kd10 (lo := 0) (hi := 1600) rfl
        refine wp_gi jF_207_45 kd10 (by decide) rfl ((FR.at f11 10 1 rfl).trans (FR.at f4 10 1 rfl)) rfl (pc2 := 48) ?_
        refine wp_ic jF_207_48 rfl (pc2 := 49) ?_
        refine wp_sub jF_207_49 rfl (pc2 := 50) ?_
        refine wp_i_eq jF_207_50 ⟨by omega, by omega⟩ ⟨by omega, by omega⟩ rfl (pc2 := 53) ?_ ?_
        · intro h16
          refine wp_al1 jF_207_55 rfl rfl (pc2 := 56) ?_
          refine wp_gr (b := 10) jF_207_56 kd9 (by decide) (c := 110) rfl rfl rfl (pc2 := 59) ?_
          refine wp_gr (b := 11) jF_207_59 kd10 (by decide) (c := 111) rfl rfl rfl (pc2 := 62) ?_
          refine wp_il1 jF_207_62 rfl rfl (pc2 := 63) ?_
          refine wp_cS (as := [.ref 11, iV z12]) (rest := []) (mx := 4) jF_207_63 rfl rfl rfl rfl (by omega) (by omega) rfl (pc2 := 66) ?_
          refine wp_use (m_204_r11 τ9 g10 z12 (by omega) (by omega)  _ _ (by omega) (by omega)) ?_
          rintro _ _ ⟨z19, rfl, h20, rfl⟩
          show WP 207 66 [(0, .ref 9), (1, iV z5), (2, iV z12)] [iV z19] _ _ _ _
          refine wp_al1 jF_207_66 rfl rfl (pc2 := 67) ?_
          refine wp_gr (b := 10) jF_207_67 kd9 (by decide) (c := 110) rfl rfl rfl (pc2 := 70) ?_
          refine wp_il1 jF_207_70 rfl rfl (pc2 := 71) ?_
          refine wp_cV (as := [iV z12]) (rest := [iV z19]) (a := 10) (mx := 2) (ci := 6) jF_207_71 kd10 (by decide) rfl rfl rfl rfl rfl (by omega) (by omega) rfl (pc2 := 74) ?_
          have q21 : (τ9.1 10 1) = (σ.1 10 1) := ((FR.at f11 10 1 rfl).trans (FR.at f4 10 1 rfl))
          refine wp_use (m_39_r10 τ9 g10 z12 (by omega) (by omega)  _ _ (by omega) (by omega)) ?_
          rintro _ _ ⟨z26, rfl, h27, rfl, p22, p23⟩
          show WP 207 74 [(0, .ref 9), (1, iV z5), (2, iV z12)] [iV z26, iV z19] _ _ _ _
          refine wp_i_ne jF_207_74 (m_rgb h20 rfl) (m_rgb h27 rfl) rfl (pc2 := 77) ?_ ?_
          · intro h28
            refine wp_ic jF_207_109 rfl (pc2 := 110) ?_
            refine wp_ri jF_207_110 rfl ?_
            exact ⟨0, rfl, ⟨by omega, by omega⟩, g10, (FR.up (FR.up FR.rf f4 sb_WW80_WXg) f11 sb_WW85_WXg)⟩
          · intro h28
            refine wp_al1 jF_207_77 rfl rfl (pc2 := 78) ?_
            refine wp_gr (b := 80) jF_207_78 kd9 (by decide) (c := 180) rfl rfl rfl (pc2 := 81) ?_
            refine wp_al1 jF_207_81 rfl rfl (pc2 := 82) ?_
            refine wp_gr jF_207_82 kd9 (by decide) (c := 2) rfl (m_fv2 ((FR.ar f11 9 4 rfl).trans ((FR.ar f4 9 4 rfl).trans hs1)) rfl) rfl (pc2 := 85) ?_
            refine wp_cV (as := [.ref 20]) (rest := []) (a := 80) (mx := 4) (ci := 4) jF_207_85 kd80 (by decide) rfl rfl rfl rfl rfl (by omega) (by omega) rfl (pc2 := 88) ?_
            refine wp_use (m_209_r80_20 τ9 g10   _ _ (by omega) (by omega)) ?_
            rintro _ _ ⟨z31, rfl, h32, rfl⟩
            show WP 207 88 [(0, .ref 9), (1, iV z5), (2, iV z12)] [iV z31] _ _ _ _
            refine wp_z_eq jF_207_88 (m_rgb h32 rfl) rfl (pc2 := 91) ?_ ?_
            · intro h33
              refine wp_ic jF_207_109 rfl (pc2 := 110) ?_
              refine wp_ri jF_207_110 rfl ?_
              exact ⟨0, rfl, ⟨by omega, by omega⟩, g10, (FR.up (FR.up FR.rf f4 sb_WW80_WXg) f11 sb_WW85_WXg)⟩
            · intro h33
              refine wp_al1 jF_207_91 rfl rfl (pc2 := 92) ?_
              refine wp_gr (b := 85) jF_207_92 kd9 (by decide) (c := 185) rfl rfl rfl (pc2 := 95) ?_
              refine wp_al1 jF_207_95 rfl rfl (pc2 := 96) ?_
              refine wp_gr jF_207_96 kd9 (by decide) (c := 2) rfl (m_fv2 ((FR.ar f11 9 4 rfl).trans ((FR.ar f4 9 4 rfl).trans hs1)) rfl) rfl (pc2 := 99) ?_
              refine wp_cV (as := [.ref 20]) (rest := []) (a := 85) (mx := 4) (ci := 4) jF_207_99 kd85 (by decide) rfl rfl rfl rfl rfl (by omega) (by omega) rfl (pc2 := 102) ?_
              refine wp_use (m_209_r85_20 τ9 g10   _ _ (by omega) (by omega)) ?_
              rintro _ _ ⟨z36, rfl, h37, rfl⟩
              show WP 207 102 [(0, .ref 9), (1, iV z5), (2, iV z12)] [iV z36] _ _ _ _
              refine wp_z_eq jF_207_102 (m_rgb h37 rfl) rfl (pc2 := 105) ?_ ?_
              · intro h38
                refine wp_ic jF_207_109 rfl (pc2 := 110) ?_
                refine wp_ri jF_207_110 rfl ?_
                exact ⟨0, rfl, ⟨by omega, by omega⟩, g10, (FR.up (FR.up FR.rf f4 sb_WW80_WXg) f11 sb_WW85_WXg)⟩
              · intro h38
                refine wp_ic jF_207_105 rfl (pc2 := 106) ?_
                refine wp_go jF_207_106 ?_
                refine wp_ri jF_207_110 rfl ?_
                exact ⟨1, rfl, ⟨by omega, by omega⟩, g10, (FR.up (FR.up FR.rf f4 sb_WW80_WXg) f11 sb_WW85_WXg)⟩
        · intro h16
          refine wp_ic jF_207_53 rfl (pc2 := 54) ?_
          refine wp_ri jF_207_54 rfl ?_
          exact ⟨0, rfl, ⟨by omega, by omega⟩, g10, (FR.up (FR.up FR.rf f4 sb_WW80_WXg) f11 sb_WW85_WXg)⟩
    · intro h7
      refine wp_ic jF_207_18 rfl (pc2 := 19) ?_
      refine wp_go jF_207_19 ?_
      refine wp_is1 (lv2 := [(0, .ref 9), (1, iV z5), (2, iV (-1))]) jF_207_34 rfl rfl rfl (pc2 := 35) ?_
      refine wp_il1 jF_207_35 rfl rfl (pc2 := 36) ?_
      refine wp_ic jF_207_36 rfl (pc2 := 37) ?_
      refine wp_i_eq jF_207_37 (m_rgl rfl) (m_rgl rfl) rfl (pc2 := 40) ?_ ?_
      · intro h39
        refine wp_ic jF_207_53 rfl (pc2 := 54) ?_
        refine wp_ri jF_207_54 rfl ?_
        exact ⟨0, rfl, ⟨by omega, by omega⟩, g3, (FR.up FR.rf f4 sb_WW80_WXg)⟩
      · intro h39; exfalso; omega
  · skip
    show WP 207 0 [(0, .ref 9)] [] _ _ _ _
    refine wp_al1 jF_207_0 rfl rfl (pc2 := 1) ?_
    refine wp_gr (b := 80) jF_207_1 kd9 (by decide) (c := 180) rfl rfl rfl (pc2 := 4) ?_
    refine wp_al1 jF_207_4 rfl rfl (pc2 := 5) ?_
    refine wp_gr (b := 10) jF_207_5 kd9 (by decide) (c := 110) rfl rfl rfl (pc2 := 8) ?_
    refine wp_ic jF_207_8 rfl (pc2 := 9) ?_
    refine wp_cV (as := [.ref 10, iV 0]) (rest := []) (a := 80) (mx := 5) (ci := 4) jF_207_9 kd80 (by decide) rfl rfl rfl rfl rfl (by omega) (by omega) rfl (pc2 := 12) ?_
    refine wp_use (m_208_r80_10 σ hg 0 (by omega) (by omega)  _ _ (by omega) (by omega)) ?_
    rintro _ τ41 ⟨z44, rfl, h45, g42, f43, p40⟩
    show WP 207 12 [(0, .ref 9)] [iV z44] _ _ _ _
    refine wp_is1 (lv2 := [(0, .ref 9), (1, iV z44)]) jF_207_12 rfl rfl rfl (pc2 := 13) ?_
    refine wp_il1 jF_207_13 rfl rfl (pc2 := 14) ?_
    refine wp_ic jF_207_14 rfl (pc2 := 15) ?_
    refine wp_i_ne jF_207_15 (m_rgb h45 rfl) (m_rgl rfl) rfl (pc2 := 18) ?_ ?_
    · intro h46
      refine wp_al1 jF_207_22 rfl rfl (pc2 := 23) ?_
      refine wp_gr (b := 85) jF_207_23 kd9 (by decide) (c := 185) rfl rfl rfl (pc2 := 26) ?_
      refine wp_al1 jF_207_26 rfl rfl (pc2 := 27) ?_
      refine wp_gr (b := 10) jF_207_27 kd9 (by decide) (c := 110) rfl rfl rfl (pc2 := 30) ?_
      refine wp_il1 jF_207_30 rfl rfl (pc2 := 31) ?_
      refine wp_cV (as := [.ref 10, iV z44]) (rest := []) (a := 85) (mx := 5) (ci := 4) jF_207_31 kd85 (by decide) rfl rfl rfl rfl rfl (by omega) (by omega) rfl (pc2 := 34) ?_
      refine wp_use (m_208_r85_10 τ41 g42 z44 (by omega) (by omega)  _ _ (by omega) (by omega)) ?_
      rintro _ τ48 ⟨z51, rfl, h52, g49, f50, p47⟩
      show WP 207 34 [(0, .ref 9), (1, iV z44)] [iV z51] _ _ _ _
      refine wp_is1 (lv2 := [(0, .ref 9), (1, iV z44), (2, iV z51)]) jF_207_34 rfl rfl rfl (pc2 := 35) ?_
      refine wp_il1 jF_207_35 rfl rfl (pc2 := 36) ?_
      refine wp_ic jF_207_36 rfl (pc2 := 37) ?_
      refine wp_i_eq jF_207_37 (m_rgb h52 rfl) (m_rgl rfl) rfl (pc2 := 40) ?_ ?_
      · intro h53
        refine wp_ic jF_207_53 rfl (pc2 := 54) ?_
        refine wp_ri jF_207_54 rfl ?_
        exact ⟨0, rfl, ⟨by omega, by omega⟩, g49, (FR.up (FR.up FR.rf f43 sb_WW80_WXg) f50 sb_WW85_WXg)⟩
      · intro h53
        refine wp_il1 jF_207_40 rfl rfl (pc2 := 41) ?_
        refine wp_al1 jF_207_41 rfl rfl (pc2 := 42) ?_
        refine wp_gr (b := 10) jF_207_42 kd9 (by decide) (c := 110) rfl rfl rfl (pc2 := 45) ?_
        have b54 := GI.b hg 10 1 kd10 (lo := 0) (hi := 1600) rfl
        refine wp_gi jF_207_45 kd10 (by decide) rfl ((FR.at f50 10 1 rfl).trans (FR.at f43 10 1 rfl)) rfl (pc2 := 48) ?_
        refine wp_ic jF_207_48 rfl (pc2 := 49) ?_
        refine wp_sub jF_207_49 rfl (pc2 := 50) ?_
        refine wp_i_eq jF_207_50 ⟨by omega, by omega⟩ ⟨by omega, by omega⟩ rfl (pc2 := 53) ?_ ?_
        · intro h55
          refine wp_al1 jF_207_55 rfl rfl (pc2 := 56) ?_
          refine wp_gr (b := 10) jF_207_56 kd9 (by decide) (c := 110) rfl rfl rfl (pc2 := 59) ?_
          refine wp_gr (b := 11) jF_207_59 kd10 (by decide) (c := 111) rfl rfl rfl (pc2 := 62) ?_
          refine wp_il1 jF_207_62 rfl rfl (pc2 := 63) ?_
          refine wp_cS (as := [.ref 11, iV z51]) (rest := []) (mx := 4) jF_207_63 rfl rfl rfl rfl (by omega) (by omega) rfl (pc2 := 66) ?_
          refine wp_use (m_204_r11 τ48 g49 z51 (by omega) (by omega)  _ _ (by omega) (by omega)) ?_
          rintro _ _ ⟨z58, rfl, h59, rfl⟩
          show WP 207 66 [(0, .ref 9), (1, iV z44), (2, iV z51)] [iV z58] _ _ _ _
          refine wp_al1 jF_207_66 rfl rfl (pc2 := 67) ?_
          refine wp_gr (b := 10) jF_207_67 kd9 (by decide) (c := 110) rfl rfl rfl (pc2 := 70) ?_
          refine wp_il1 jF_207_70 rfl rfl (pc2 := 71) ?_
          refine wp_cV (as := [iV z51]) (rest := [iV z58]) (a := 10) (mx := 2) (ci := 6) jF_207_71 kd10 (by decide) rfl rfl rfl rfl rfl (by omega) (by omega) rfl (pc2 := 74) ?_
          have q60 : (τ48.1 10 1) = (σ.1 10 1) := ((FR.at f50 10 1 rfl).trans (FR.at f43 10 1 rfl))
          refine wp_use (m_39_r10 τ48 g49 z51 (by omega) (by omega)  _ _ (by omega) (by omega)) ?_
          rintro _ _ ⟨z65, rfl, h66, rfl, p61, p62⟩
          show WP 207 74 [(0, .ref 9), (1, iV z44), (2, iV z51)] [iV z65, iV z58] _ _ _ _
          refine wp_i_ne jF_207_74 (m_rgb h59 rfl) (m_rgb h66 rfl) rfl (pc2 := 77) ?_ ?_
          · intro h67
            refine wp_ic jF_207_109 rfl (pc2 := 110) ?_
            refine wp_ri jF_207_110 rfl ?_
            exact ⟨0, rfl, ⟨by omega, by omega⟩, g49, (FR.up (FR.up FR.rf f43 sb_WW80_WXg) f50 sb_WW85_WXg)⟩
          · intro h67
            refine wp_al1 jF_207_77 rfl rfl (pc2 := 78) ?_
            refine wp_gr (b := 80) jF_207_78 kd9 (by decide) (c := 180) rfl rfl rfl (pc2 := 81) ?_
            refine wp_al1 jF_207_81 rfl rfl (pc2 := 82) ?_
            refine wp_gr jF_207_82 kd9 (by decide) (c := 2) rfl (m_fv2 ((FR.ar f50 9 4 rfl).trans ((FR.ar f43 9 4 rfl).trans hs1)) rfl) rfl (pc2 := 85) ?_
            refine wp_cV (as := [.ref 45]) (rest := []) (a := 80) (mx := 4) (ci := 4) jF_207_85 kd80 (by decide) rfl rfl rfl rfl rfl (by omega) (by omega) rfl (pc2 := 88) ?_
            refine wp_use (m_209_r80_45 τ48 g49   _ _ (by omega) (by omega)) ?_
            rintro _ _ ⟨z70, rfl, h71, rfl⟩
            show WP 207 88 [(0, .ref 9), (1, iV z44), (2, iV z51)] [iV z70] _ _ _ _
            refine wp_z_eq jF_207_88 (m_rgb h71 rfl) rfl (pc2 := 91) ?_ ?_
            · intro h72
              refine wp_ic jF_207_109 rfl (pc2 := 110) ?_
              refine wp_ri jF_207_110 rfl ?_
              exact ⟨0, rfl, ⟨by omega, by omega⟩, g49, (FR.up (FR.up FR.rf f43 sb_WW80_WXg) f50 sb_WW85_WXg)⟩
            · intro h72
              refine wp_al1 jF_207_91 rfl rfl (pc2 := 92) ?_
              refine wp_gr (b := 85) jF_207_92 kd9 (by decide) (c := 185) rfl rfl rfl (pc2 := 95) ?_
              refine wp_al1 jF_207_95 rfl rfl (pc2 := 96) ?_
              refine wp_gr jF_207_96 kd9 (by decide) (c := 2) rfl (m_fv2 ((FR.ar f50 9 4 rfl).trans ((FR.ar f43 9 4 rfl).trans hs1)) rfl) rfl (pc2 := 99) ?_
              refine wp_cV (as := [.ref 45]) (rest := []) (a := 85) (mx := 4) (ci := 4) jF_207_99 kd85 (by decide) rfl rfl rfl rfl rfl (by omega) (by omega) rfl (pc2 := 102) ?_
              refine wp_use (m_209_r85_45 τ48 g49   _ _ (by omega) (by omega)) ?_
              rintro _ _ ⟨z75, rfl, h76, rfl⟩
              show WP 207 102 [(0, .ref 9), (1, iV z44), (2, iV z51)] [iV z75] _ _ _ _
              refine wp_z_eq jF_207_102 (m_rgb h76 rfl) rfl (pc2 := 105) ?_ ?_
              · intro h77
                refine wp_ic jF_207_109 rfl (pc2 := 110) ?_
                refine wp_ri jF_207_110 rfl ?_
                exact ⟨0, rfl, ⟨by omega, by omega⟩, g49, (FR.up (FR.up FR.rf f43 sb_WW80_WXg) f50 sb_WW85_WXg)⟩
              · intro h77
                refine wp_ic jF_207_105 rfl (pc2 := 106) ?_
                refine wp_go jF_207_106 ?_
                refine wp_ri jF_207_110 rfl ?_
                exact ⟨1, rfl, ⟨by omega, by omega⟩, g49, (FR.up (FR.up FR.rf f43 sb_WW80_WXg) f50 sb_WW85_WXg)⟩
        · intro h55
          refine wp_ic jF_207_53 rfl (pc2 := 54) ?_
          refine wp_ri jF_207_54 rfl ?_
          exact ⟨0, rfl, ⟨by omega, by omega⟩, g49, (FR.up (FR.up FR.rf f43 sb_WW80_WXg) f50 sb_WW85_WXg)⟩
    · intro h46
      refine wp_ic jF_207_18 rfl (pc2 := 19) ?_
      refine wp_go jF_207_19 ?_
      refine wp_is1 (lv2 := [(0, .ref 9), (1, iV z44), (2, iV (-1))]) jF_207_34 rfl rfl rfl (pc2 := 35) ?_
      refine wp_il1 jF_207_35 rfl rfl (pc2 := 36) ?_
      refine wp_ic jF_207_36 rfl (pc2 := 37) ?_
      refine wp_i_eq jF_207_37 (m_rgl rfl) (m_rgl rfl) rfl (pc2 := 40) ?_ ?_
      · intro h78
        refine wp_ic jF_207_53 rfl (pc2 := 54) ?_
        refine wp_ri jF_207_54 rfl ?_
        exact ⟨0, rfl, ⟨by omega, by omega⟩, g42, (FR.up FR.rf f43 sb_WW80_WXg)⟩
      · intro h78; exfalso; omega
set_option maxHeartbeats 4000000 in
set_option maxRecDepth 20000 in
/-- X.restore -/
theorem m_206_r9 (σ : jM) (hg : GI σ)  (hsp : SPK σ)  (fr lo : Nat) (hfr : 4 ≤ fr) (hlo : 101 ≤ lo) : WP 206 0 (lv_args 0 [.ref 9]) [] fr lo σ (fun v τ => ∃ z : Int, v = some (iV z) ∧ (0 ≤ z ∧ z ≤ 1) ∧ GI τ ∧ FR WXl σ τ ∧ ((τ.1 10 1) = 0)) := by
  rcases hsp with ⟨hs1, hs2⟩ | ⟨hs1, hs2⟩
  · skip
    show WP 206 0 [(0, .ref 9)] [] _ _ _ _
    refine wp_al1 jF_206_0 rfl rfl (pc2 := 1) ?_
    refine wp_cV (as := []) (rest := []) (a := 9) (mx := 3) (ci := 11) jF_206_1 kd9 (by decide) rfl rfl rfl rfl rfl (by omega) (by omega) rfl (pc2 := 4) ?_
    refine wp_use (m_207_r9 σ hg  (Or.inl ⟨hs1, hs2⟩)  _ _ (by omega) (by omega)) ?_
    rintro _ τ1 ⟨z4, rfl, h5, g2, f3⟩
    show WP 206 4 [(0, .ref 9)] [iV z4] _ _ _ _
    refine wp_is1 (lv2 := [(0, .ref 9), (1, iV z4)]) jF_206_4 rfl rfl rfl (pc2 := 5) ?_
    refine wp_al1 jF_206_5 rfl rfl (pc2 := 6) ?_
    refine wp_gr (b := 10) jF_206_6 kd9 (by decide) (c := 110) rfl rfl rfl (pc2 := 9) ?_
    refine wp_ic jF_206_9 rfl (pc2 := 10) ?_
    refine wp_pi jF_206_10 kd10 (by decide) rfl rfl rfl (pc2 := 13) g2 (lo := 0) (hi := 1600) rfl (by omega) (by omega) ?_
    intro τ6 g7 f8 e9
    refine wp_il1 jF_206_13 rfl rfl (pc2 := 14) ?_
    refine wp_z_ne jF_206_14 (m_rgb h5 rfl) rfl (pc2 := 17) ?_ ?_
    · intro h10
      refine wp_al1 jF_206_25 rfl rfl (pc2 := 26) ?_
      refine wp_gr (b := 70) jF_206_26 kd9 (by decide) (c := 170) rfl rfl rfl (pc2 := 29) ?_
      refine wp_al1 jF_206_29 rfl rfl (pc2 := 30) ?_
      refine wp_gr (b := 80) jF_206_30 kd9 (by decide) (c := 180) rfl rfl rfl (pc2 := 33) ?_
      refine wp_cV (as := [.ref 80]) (rest := []) (a := 70) (mx := 2) (ci := 4) jF_206_33 kd70 (by decide) rfl rfl rfl rfl rfl (by omega) (by omega) rfl (pc2 := 36) ?_
      refine wp_use (m_84_r70_80 τ6 g7   _ _ (by omega) (by omega)) ?_
      rintro _ τ11 ⟨rfl, g12, f13⟩
      show WP 206 36 [(0, .ref 9), (1, iV z4)] [] _ _ _ _
      refine wp_al1 jF_206_36 rfl rfl (pc2 := 37) ?_
      refine wp_gr (b := 70) jF_206_37 kd9 (by decide) (c := 170) rfl rfl rfl (pc2 := 40) ?_
      refine wp_al1 jF_206_40 rfl rfl (pc2 := 41) ?_
      refine wp_gr jF_206_41 kd9 (by decide) (c := 2) rfl (m_fv2 ((FR.ar f13 9 4 rfl).trans ((FRw.nar f8 (by decide)).trans ((FR.ar f3 9 4 rfl).trans hs1))) rfl) rfl (pc2 := 44) ?_
      refine wp_cV (as := [.ref 20]) (rest := []) (a := 70) (mx := 4) (ci := 4) jF_206_44 kd70 (by decide) rfl rfl rfl rfl rfl (by omega) (by omega) rfl (pc2 := 47) ?_
      refine wp_use (m_82_r70_20 τ11 g12   _ _ (by omega) (by omega)) ?_
      rintro _ τ14 ⟨rfl, g15, f16⟩
      show WP 206 47 [(0, .ref 9), (1, iV z4)] [] _ _ _ _
      refine wp_al1 jF_206_47 rfl rfl (pc2 := 48) ?_
      refine wp_gr (b := 75) jF_206_48 kd9 (by decide) (c := 175) rfl rfl rfl (pc2 := 51) ?_
      refine wp_al1 jF_206_51 rfl rfl (pc2 := 52) ?_
      refine wp_gr (b := 85) jF_206_52 kd9 (by decide) (c := 185) rfl rfl rfl (pc2 := 55) ?_
      refine wp_cV (as := [.ref 85]) (rest := []) (a := 75) (mx := 2) (ci := 4) jF_206_55 kd75 (by decide) rfl rfl rfl rfl rfl (by omega) (by omega) rfl (pc2 := 58) ?_
      refine wp_use (m_84_r75_85 τ14 g15   _ _ (by omega) (by omega)) ?_
      rintro _ τ17 ⟨rfl, g18, f19⟩
      show WP 206 58 [(0, .ref 9), (1, iV z4)] [] _ _ _ _
      refine wp_al1 jF_206_58 rfl rfl (pc2 := 59) ?_
      refine wp_gr (b := 75) jF_206_59 kd9 (by decide) (c := 175) rfl rfl rfl (pc2 := 62) ?_
      refine wp_al1 jF_206_62 rfl rfl (pc2 := 63) ?_
      refine wp_gr jF_206_63 kd9 (by decide) (c := 2) rfl (m_fv2 ((FR.ar f19 9 4 rfl).trans ((FR.ar f16 9 4 rfl).trans ((FR.ar f13 9 4 rfl).trans ((FRw.nar f8 (by decide)).trans ((FR.ar f3 9 4 rfl).trans hs1))))) rfl) rfl (pc2 := 66) ?_
      refine wp_cV (as := [.ref 20]) (rest := []) (a := 75) (mx := 4) (ci := 4) jF_206_66 kd75 (by decide) rfl rfl rfl rfl rfl (by omega) (by omega) rfl (pc2 := 69) ?_
      refine wp_use (m_82_r75_20 τ17 g18   _ _ (by omega) (by omega)) ?_
      rintro _ τ20 ⟨rfl, g21, f22⟩
      show WP 206 69 [(0, .ref 9), (1, iV z4)] [] _ _ _ _
      refine wp_al1 jF_206_69 rfl rfl (pc2 := 70) ?_
      refine wp_gr (b := 90) jF_206_70 kd9 (by decide) (c := 190) rfl rfl rfl (pc2 := 73) ?_
      refine wp_cV (as := []) (rest := []) (a := 90) (mx := 1) (ci := 0) jF_206_73 kd90 (by decide) rfl rfl rfl rfl rfl (by omega) (by omega) rfl (pc2 := 76) ?_
      refine wp_use (m_72_r90 τ20 g21   _ _ (by omega) (by omega)) ?_
      rintro _ τ23 ⟨rfl, g24, f25⟩
      show WP 206 76 [(0, .ref 9), (1, iV z4)] [] _ _ _ _
      refine wp_ic jF_206_76 rfl (pc2 := 77) ?_
      refine wp_ri jF_206_77 rfl ?_
      have q26 : (τ23.1 10 1) = 0 := ((FR.at f25 10 1 rfl).trans ((FR.at f22 10 1 rfl).trans ((FR.at f19 10 1 rfl).trans ((FR.at f16 10 1 rfl).trans ((FR.at f13 10 1 rfl).trans e9)))))
      exact ⟨1, rfl, ⟨by omega, by omega⟩, g24, (FR.up (FR.up (FR.up (FR.up (FR.up (FR.w (FR.up FR.rf f3 sb_WXg_WXl) f8 rfl) f13 sb_WW70_WXl) f16 sb_WW70_WXl) f19 sb_WW75_WXl) f22 sb_WW75_WXl) f25 sb_Wac_WXl), (by omega)⟩
    · intro h10
      refine wp_al1 jF_206_17 rfl rfl (pc2 := 18) ?_
      refine wp_ic jF_206_18 rfl (pc2 := 19) ?_
      refine wp_cV (as := [iV 5]) (rest := []) (a := 9) (mx := 2) (ci := 11) jF_206_19 kd9 (by decide) rfl rfl rfl rfl rfl (by omega) (by omega) rfl (pc2 := 22) ?_
      refine wp_use (m_25_r9 τ6 g7 5 (by omega) (by omega)  _ _ (by omega) (by omega)) ?_
      rintro _ τ27 ⟨z30, rfl, h31, g28, f29⟩
      show WP 206 22 [(0, .ref 9), (1, iV z4)] [iV z30] _ _ _ _
      refine wp_pop jF_206_22 rfl rfl (pc2 := 23) ?_
      refine wp_ic jF_206_23 rfl (pc2 := 24) ?_
      refine wp_ri jF_206_24 rfl ?_
      have q32 : (τ27.1 10 1) = 0 := ((FR.at f29 10 1 rfl).trans e9)
      exact ⟨0, rfl, ⟨by omega, by omega⟩, g28, (FR.up (FR.w (FR.up FR.rf f3 sb_WXg_WXl) f8 rfl) f29 sb_WXr_WXl), (by omega)⟩
  · skip
    show WP 206 0 [(0, .ref 9)] [] _ _ _ _
    refine wp_al1 jF_206_0 rfl rfl (pc2 := 1) ?_
    refine wp_cV (as := []) (rest := []) (a := 9) (mx := 3) (ci := 11) jF_206_1 kd9 (by decide) rfl rfl rfl rfl rfl (by omega) (by omega) rfl (pc2 := 4) ?_
    refine wp_use (m_207_r9 σ hg  (Or.inr ⟨hs1, hs2⟩)  _ _ (by omega) (by omega)) ?_
    rintro _ τ33 ⟨z36, rfl, h37, g34, f35⟩
    show WP 206 4 [(0, .ref 9)] [iV z36] _ _ _ _
    refine wp_is1 (lv2 := [(0, .ref 9), (1, iV z36)]) jF_206_4 rfl rfl rfl (pc2 := 5) ?_
    refine wp_al1 jF_206_5 rfl rfl (pc2 := 6) ?_
    refine wp_gr (b := 10) jF_206_6 kd9 (by decide) (c := 110) rfl rfl rfl (pc2 := 9) ?_
    refine wp_ic jF_206_9 rfl (pc2 := 10) ?_
    refine wp_pi jF_206_10 kd10 (by decide) rfl rfl rfl (pc2 := 13) g34 (lo := 0) (hi := 1600) rfl (by omega) (by omega) ?_
    intro τ38 g39 f40 e41
    refine wp_il1 jF_206_13 rfl rfl (pc2 := 14) ?_
    refine wp_z_ne jF_206_14 (m_rgb h37 rfl) rfl (pc2 := 17) ?_ ?_
    · intro h42
      refine wp_al1 jF_206_25 rfl rfl (pc2 := 26) ?_
      refine wp_gr (b := 70) jF_206_26 kd9 (by decide) (c := 170) rfl rfl rfl (pc2 := 29) ?_
      refine wp_al1 jF_206_29 rfl rfl (pc2 := 30) ?_
      refine wp_gr (b := 80) jF_206_30 kd9 (by decide) (c := 180) rfl rfl rfl (pc2 := 33) ?_
      refine wp_cV (as := [.ref 80]) (rest := []) (a := 70) (mx := 2) (ci := 4) jF_206_33 kd70 (by decide) rfl rfl rfl rfl rfl (by omega) (by omega) rfl (pc2 := 36) ?_
      refine wp_use (m_84_r70_80 τ38 g39   _ _ (by omega) (by omega)) ?_
      rintro _ τ43 ⟨rfl, g44, f45⟩
      show WP 206 36 [(0, .ref 9), (1, iV z36)] [] _ _ _ _
      refine wp_al1 jF_206_36 rfl rfl (pc2 := 37) ?_
      refine wp_gr (b := 70) jF_206_37 kd9 (by decide) (c := 170) rfl rfl rfl (pc2 := 40) ?_
      refine wp_al1 jF_206_40 rfl rfl (pc2 := 41) ?_
      refine wp_gr jF_206_41 kd9 (by decide) (c := 2) rfl (m_fv2 ((FR.ar f45 9 4 rfl).trans ((FRw.nar f40 (by decide)).trans ((FR.ar f35 9 4 rfl).trans hs1))) rfl) rfl (pc2 := 44) ?_
      refine wp_cV (as := [.ref 45]) (rest := []) (a := 70) (mx := 4) (ci := 4) jF_206_44 kd70 (by decide) rfl rfl rfl rfl rfl (by omega) (by omega) rfl (pc2 := 47) ?_
      refine wp_use (m_82_r70_45 τ43 g44   _ _ (by omega) (by omega)) ?_
      rintro _ τ46 ⟨rfl, g47, f48⟩
      show WP 206 47 [(0, .ref 9), (1, iV z36)] [] _ _ _ _
      refine wp_al1 jF_206_47 rfl rfl (pc2 := 48) ?_
      refine wp_gr (b := 75) jF_206_48 kd9 (by decide) (c := 175) rfl rfl rfl (pc2 := 51) ?_
      refine wp_al1 jF_206_51 rfl rfl (pc2 := 52) ?_
      refine wp_gr (b := 85) jF_206_52 kd9 (by decide) (c := 185) rfl rfl rfl (pc2 := 55) ?_
      refine wp_cV (as := [.ref 85]) (rest := []) (a := 75) (mx := 2) (ci := 4) jF_206_55 kd75 (by decide) rfl rfl rfl rfl rfl (by omega) (by omega) rfl (pc2 := 58) ?_
      refine wp_use (m_84_r75_85 τ46 g47   _ _ (by omega) (by omega)) ?_
      rintro _ τ49 ⟨rfl, g50, f51⟩
      show WP 206 58 [(0, .ref 9), (1, iV z36)] [] _ _ _ _
      refine wp_al1 jF_206_58 rfl rfl (pc2 := 59) ?_
      refine wp_gr (b := 75) jF_206_59 kd9 (by decide) (c := 175) rfl rfl rfl (pc2 := 62) ?_
      refine wp_al1 jF_206_62 rfl rfl (pc2 := 63) ?_
      refine wp_gr jF_206_63 kd9 (by decide) (c := 2) rfl (m_fv2 ((FR.ar f51 9 4 rfl).trans ((FR.ar f48 9 4 rfl).trans ((FR.ar f45 9 4 rfl).trans ((FRw.nar f40 (by decide)).trans ((FR.ar f35 9 4 rfl).trans hs1))))) rfl) rfl (pc2 := 66) ?_
      refine wp_cV (as := [.ref 45]) (rest := []) (a := 75) (mx := 4) (ci := 4) jF_206_66 kd75 (by decide) rfl rfl rfl rfl rfl (by omega) (by omega) rfl (pc2 := 69) ?_
      refine wp_use (m_82_r75_45 τ49 g50   _ _ (by omega) (by omega)) ?_
      rintro _ τ52 ⟨rfl, g53, f54⟩
      show WP 206 69 [(0, .ref 9), (1, iV z36)] [] _ _ _ _
      refine wp_al1 jF_206_69 rfl rfl (pc2 := 70) ?_
      refine wp_gr (b := 90) jF_206_70 kd9 (by decide) (c := 190) rfl rfl rfl (pc2 := 73) ?_
      refine wp_cV (as := []) (rest := []) (a := 90) (mx := 1) (ci := 0) jF_206_73 kd90 (by decide) rfl rfl rfl rfl rfl (by omega) (by omega) rfl (pc2 := 76) ?_
      refine wp_use (m_72_r90 τ52 g53   _ _ (by omega) (by omega)) ?_
      rintro _ τ55 ⟨rfl, g56, f57⟩
      show WP 206 76 [(0, .ref 9), (1, iV z36)] [] _ _ _ _
      refine wp_ic jF_206_76 rfl (pc2 := 77) ?_
      refine wp_ri jF_206_77 rfl ?_
      have q58 : (τ55.1 10 1) = 0 := ((FR.at f57 10 1 rfl).trans ((FR.at f54 10 1 rfl).trans ((FR.at f51 10 1 rfl).trans ((FR.at f48 10 1 rfl).trans ((FR.at f45 10 1 rfl).trans e41)))))
      exact ⟨1, rfl, ⟨by omega, by omega⟩, g56, (FR.up (FR.up (FR.up (FR.up (FR.up (FR.w (FR.up FR.rf f35 sb_WXg_WXl) f40 rfl) f45 sb_WW70_WXl) f48 sb_WW70_WXl) f51 sb_WW75_WXl) f54 sb_WW75_WXl) f57 sb_Wac_WXl), (by omega)⟩
    · intro h42
      refine wp_al1 jF_206_17 rfl rfl (pc2 := 18) ?_
      refine wp_ic jF_206_18 rfl (pc2 := 19) ?_
      refine wp_cV (as := [iV 5]) (rest := []) (a := 9) (mx := 2) (ci := 11) jF_206_19 kd9 (by decide) rfl rfl rfl rfl rfl (by omega) (by omega) rfl (pc2 := 22) ?_
      refine wp_use (m_25_r9 τ38 g39 5 (by omega) (by omega)  _ _ (by omega) (by omega)) ?_
      rintro _ τ59 ⟨z62, rfl, h63, g60, f61⟩
      show WP 206 22 [(0, .ref 9), (1, iV z36)] [iV z62] _ _ _ _
      refine wp_pop jF_206_22 rfl rfl (pc2 := 23) ?_
      refine wp_ic jF_206_23 rfl (pc2 := 24) ?_
      refine wp_ri jF_206_24 rfl ?_
      have q64 : (τ59.1 10 1) = 0 := ((FR.at f61 10 1 rfl).trans e41)
      exact ⟨0, rfl, ⟨by omega, by omega⟩, g60, (FR.up (FR.w (FR.up FR.rf f35 sb_WXg_WXl) f40 rfl) f61 sb_WXr_WXl), (by omega)⟩
set_option maxHeartbeats 4000000 in
set_option maxRecDepth 20000 in
/-- X.status -/
theorem m_210_r9 (σ : jM) (hg : GI σ) (what : Int) (hl_what : (-2147483648) ≤ what) (hu_what : what ≤ 2147483647)  (fr lo : Nat) (hfr : 0 ≤ fr) (hlo : 0 ≤ lo) : WP 210 0 (lv_args 0 [.ref 9, iV what]) [] fr lo σ (fun v τ => ∃ z : Int, v = some (iV z) ∧ ((-2147483648) ≤ z ∧ z ≤ 2147483647) ∧ σ = τ) := by
  show WP 210 0 [(0, .ref 9), (1, iV what)] [] _ _ _ _
  refine wp_il1 jF_210_0 rfl rfl (pc2 := 1) ?_
  refine wp_z_lt jF_210_1 ⟨by omega, by omega⟩ rfl (pc2 := 4) ?_ ?_
  · intro h1
    refine wp_ic jF_210_22 rfl (pc2 := 23) ?_
    refine wp_ri jF_210_23 rfl ?_
    exact ⟨(-1), rfl, ⟨by omega, by omega⟩, rfl⟩
  · intro h1
    refine wp_il1 jF_210_4 rfl rfl (pc2 := 5) ?_
    refine wp_al1 jF_210_5 rfl rfl (pc2 := 6) ?_
    refine wp_gr (b := 116) jF_210_6 kd9 (by decide) (c := 216) rfl rfl rfl (pc2 := 9) ?_
    refine wp_len (n := 6) (t := 0) jF_210_9 kd116 (by decide) rfl rfl (pc2 := 10) ?_
    refine wp_i_ge jF_210_10 ⟨by omega, by omega⟩ (m_rgl rfl) rfl (pc2 := 13) ?_ ?_
    · intro h2
      refine wp_ic jF_210_22 rfl (pc2 := 23) ?_
      refine wp_ri jF_210_23 rfl ?_
      exact ⟨(-1), rfl, ⟨by omega, by omega⟩, rfl⟩
    · intro h2
      refine wp_al1 jF_210_13 rfl rfl (pc2 := 14) ?_
      refine wp_gr (b := 116) jF_210_14 kd9 (by decide) (c := 216) rfl rfl rfl (pc2 := 17) ?_
      refine wp_il1 jF_210_17 rfl rfl (pc2 := 18) ?_
      have b3 := GI.b hg 116 what.toNat kd116 (lo := (-2147483648)) (hi := 2147483647) rfl
      refine wp_iald (n := 6) (e := (σ.1 116 what.toNat)) jF_210_18 kd116 (by decide) rfl rfl (by omega) (by omega) rfl rfl (pc2 := 19) ?_
      refine wp_go jF_210_19 ?_
      refine wp_ri jF_210_23 rfl ?_
      exact ⟨(σ.1 116 what.toNat), rfl, ⟨by omega, by omega⟩, rfl⟩
