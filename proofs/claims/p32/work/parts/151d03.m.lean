set_option maxHeartbeats 4000000 in
set_option maxRecDepth 20000 in
/-- M.casesMany -/
theorem m_243 (σ : jM) (hg : GI σ)   (fr lo : Nat) (hfr : 1 ≤ fr) (hlo : 23 ≤ lo) : WP 243 0 (lv_args 0 [.ref 117]) [] fr lo σ (fun v τ => ∃ z : Int, v = some (iV z) ∧ (0 ≤ z ∧ z ≤ 64) ∧ σ = τ ∧ (z = (cm σ)) ∧ (z ≠ 0 → ((m0 σ) ≠ 0 ∧ (m1 σ) ≠ 0 ∧ (m2 σ) ≠ 0))) := by
  show WP 243 0 [(0, .ref 117)] [] _ _ _ _
  refine wp_al1 jF_243_0 rfl rfl (pc2 := 1) ?_
  refine wp_ic jF_243_1 rfl (pc2 := 2) ?_
  refine wp_cV (as := [iV 0]) (rest := []) (a := 117) (mx := 4) (ci := 12) jF_243_2 kd117 (by decide) rfl rfl rfl rfl rfl (by omega) (by omega) rfl (pc2 := 5) ?_
  refine wp_use (m_244_0 σ hg   _ _ (by omega) (by omega)) ?_
  rintro _ _ ⟨z4, rfl, h5, rfl, p1⟩
  show WP 243 5 [(0, .ref 117)] [iV z4] _ _ _ _
  refine wp_al1 jF_243_5 rfl rfl (pc2 := 6) ?_
  refine wp_ic jF_243_6 rfl (pc2 := 7) ?_
  refine wp_cV (as := [iV 1]) (rest := [iV z4]) (a := 117) (mx := 4) (ci := 12) jF_243_7 kd117 (by decide) rfl rfl rfl rfl rfl (by omega) (by omega) rfl (pc2 := 10) ?_
  refine wp_use (m_244_1 σ hg   _ _ (by omega) (by omega)) ?_
  rintro _ _ ⟨z9, rfl, h10, rfl, p6⟩
  show WP 243 10 [(0, .ref 117)] [iV z9, iV z4] _ _ _ _
  have n11 := mul_b (a := z4) (b := z9) (A := 4) (B := 4) (by omega) (by omega) (by omega) (by omega)
  refine wp_mul jF_243_10 rfl (pc2 := 11) ?_
  refine wp_al1 jF_243_11 rfl rfl (pc2 := 12) ?_
  refine wp_ic jF_243_12 rfl (pc2 := 13) ?_
  refine wp_cV (as := [iV 2]) (rest := [iV (z4 * z9)]) (a := 117) (mx := 4) (ci := 12) jF_243_13 kd117 (by decide) rfl rfl rfl rfl rfl (by omega) (by omega) rfl (pc2 := 16) ?_
  refine wp_use (m_244_2 σ hg   _ _ (by omega) (by omega)) ?_
  rintro _ _ ⟨z15, rfl, h16, rfl, p12⟩
  show WP 243 16 [(0, .ref 117)] [iV z15, iV (z4 * z9)] _ _ _ _
  have n17 := mul_b (a := (z4 * z9)) (b := z15) (A := 16) (B := 4) (by omega) (by omega) (by omega) (by omega)
  refine wp_mul jF_243_16 rfl (pc2 := 17) ?_
  refine wp_ri jF_243_17 rfl ?_
  exact ⟨((z4 * z9) * z15), rfl, ⟨by omega, by omega⟩, rfl, (by have e := cm_e (σ := σ); rw [e]; congr 1 <;> first | omega | (congr 1 <;> omega)), (by omega)⟩
set_option maxHeartbeats 4000000 in
set_option maxRecDepth 20000 in
/-- M.isCase -/
theorem m_276 (σ : jM) (hg : GI σ) (k : Int) (hl_k : (-2147483648) ≤ k) (hu_k : k ≤ 2147483647)  (fr lo : Nat) (hfr : 2 ≤ fr) (hlo : 43 ≤ lo) : WP 276 0 (lv_args 0 [.ref 117, iV k]) [] fr lo σ (fun v τ => ∃ z : Int, v = some (iV z) ∧ (0 ≤ z ∧ z ≤ 1) ∧ σ = τ ∧ (z = 1 → (0 ≤ k ∧ k ≤ 63 ∧ k < (cm σ) ∧ (m0 σ) ≠ 0 ∧ (m1 σ) ≠ 0 ∧ (m2 σ) ≠ 0))) := by
  show WP 276 0 [(0, .ref 117), (1, iV k)] [] _ _ _ _
  refine wp_il1 jF_276_0 rfl rfl (pc2 := 1) ?_
  refine wp_i2l jF_276_1 rfl (pc2 := 2) ?_
  refine wp_lc jF_276_2 rfl (pc2 := 3) ?_
  refine wp_al1 jF_276_3 rfl rfl (pc2 := 4) ?_
  refine wp_cV (as := []) (rest := [.long (Int64.ofNat 0), .long (Int32.toInt64 (Int32.ofInt k))]) (a := 117) (mx := 1) (ci := 12) jF_276_4 kd117 (by decide) rfl rfl rfl rfl rfl (by omega) (by omega) rfl (pc2 := 7) ?_
  refine wp_use (m_243 σ hg   _ _ (by omega) (by omega)) ?_
  rintro _ _ ⟨z5, rfl, h6, rfl, p1, p2⟩
  show WP 276 7 [(0, .ref 117), (1, iV k)] [iV z5, .long (Int64.ofNat 0), .long (Int32.toInt64 (Int32.ofInt k))] _ _ _ _
  refine wp_ic jF_276_7 rfl (pc2 := 8) ?_
  refine wp_sub jF_276_8 rfl (pc2 := 9) ?_
  refine wp_i2l jF_276_9 rfl (pc2 := 10) ?_
  refine wp_cS (as := [.long (Int32.toInt64 (Int32.ofInt k)), .long (Int64.ofNat 0), .long (Int32.toInt64 (Int32.ofInt (z5 - 1)))]) (rest := []) (mx := 6) jF_276_10 rfl rfl rfl rfl (by omega) (by omega) rfl (pc2 := 13) ?_
  show WP 232 0 [(0, .long (Int32.toInt64 (Int32.ofInt k))), (2, .long (Int64.ofNat 0)), (4, .long (Int32.toInt64 (Int32.ofInt (z5 - 1))))] [] _ _ _ _
  refine wp_ll1 jF_232_0 rfl rfl (pc2 := 1) ?_
  refine wp_ll1 jF_232_1 rfl rfl (pc2 := 2) ?_
  refine wp_lcmp2 (a := k) (b := 0) jF_232_2 (m_i2lt ⟨by omega, by omega⟩) (by decide) rfl (pc2 := 3) ?_
  intro z7 h8
  refine wp_z_lt jF_232_3 ⟨by omega, by omega⟩ rfl (pc2 := 6) ?_ ?_
  · intro h9
    refine wp_ic jF_232_17 rfl (pc2 := 18) ?_
    refine wp_ri jF_232_18 rfl ?_
    show WP 276 13 [(0, .ref 117), (1, iV k)] [iV 0] _ _ _ _
    refine wp_ri jF_276_13 rfl ?_
    exact ⟨0, rfl, ⟨by omega, by omega⟩, rfl, (by omega)⟩
  · intro h9
    refine wp_ll1 jF_232_6 rfl rfl (pc2 := 7) ?_
    refine wp_ll2 jF_232_7 rfl rfl (pc2 := 9) ?_
    refine wp_lcmp2 (a := k) (b := (z5 - 1)) jF_232_9 (m_i2lt ⟨by omega, by omega⟩) (m_i2lt ⟨by omega, by omega⟩) rfl (pc2 := 10) ?_
    intro z10 h11
    refine wp_z_gt jF_232_10 ⟨by omega, by omega⟩ rfl (pc2 := 13) ?_ ?_
    · intro h12
      refine wp_ic jF_232_17 rfl (pc2 := 18) ?_
      refine wp_ri jF_232_18 rfl ?_
      show WP 276 13 [(0, .ref 117), (1, iV k)] [iV 0] _ _ _ _
      refine wp_ri jF_276_13 rfl ?_
      exact ⟨0, rfl, ⟨by omega, by omega⟩, rfl, (by omega)⟩
    · intro h12
      refine wp_ic jF_232_13 rfl (pc2 := 14) ?_
      refine wp_go jF_232_14 ?_
      refine wp_ri jF_232_18 rfl ?_
      show WP 276 13 [(0, .ref 117), (1, iV k)] [iV 1] _ _ _ _
      refine wp_ri jF_276_13 rfl ?_
      exact ⟨1, rfl, ⟨by omega, by omega⟩, rfl, (by omega)⟩
set_option maxHeartbeats 4000000 in
set_option maxRecDepth 20000 in
/-- M.forbids -/
theorem m_275_0 (σ : jM) (hg : GI σ) (k : Int) (hl_k : (-2147483648) ≤ k) (hu_k : k ≤ 2147483647) (pre0 : (l0 σ) = 22) (pre1 : (l1 σ) = 22) (fr lo : Nat) (hfr : 3 ≤ fr) (hlo : 76 ≤ lo) : WP 275 0 (lv_args 0 [.ref 117, iV 0, iV k]) [] fr lo σ (fun v τ => ∃ z : Int, v = some (iV z) ∧ ((-2147483648) ≤ z ∧ z ≤ 2147483647) ∧ GI τ ∧ FR Wtr σ τ) := by
  show WP 275 0 [(0, .ref 117), (1, iV 0), (2, iV k)] [] _ _ _ _
  refine wp_al1 jF_275_0 rfl rfl (pc2 := 1) ?_
  refine wp_il1 jF_275_1 rfl rfl (pc2 := 2) ?_
  refine wp_cV (as := [iV k]) (rest := []) (a := 117) (mx := 2) (ci := 12) jF_275_2 kd117 (by decide) rfl rfl rfl rfl rfl (by omega) (by omega) rfl (pc2 := 5) ?_
  refine wp_use (m_276 σ hg k (by omega) (by omega)  _ _ (by omega) (by omega)) ?_
  rintro _ _ ⟨z4, rfl, h5, rfl, p1⟩
  show WP 275 5 [(0, .ref 117), (1, iV 0), (2, iV k)] [iV z4] _ _ _ _
  refine wp_z_eq jF_275_5 (m_rgb h5 rfl) rfl (pc2 := 8) ?_ ?_
  · intro h6
    clear p1
    refine wp_ic jF_275_24 rfl (pc2 := 25) ?_
    refine wp_ri jF_275_25 rfl ?_
    exact ⟨(-1), rfl, ⟨by omega, by omega⟩, hg, FR.rf⟩
  · intro h6
    replace p1 := p1 (by omega)
    refine wp_al1 jF_275_8 rfl rfl (pc2 := 9) ?_
    refine wp_il1 jF_275_9 rfl rfl (pc2 := 10) ?_
    refine wp_cS (as := [iV 0]) (rest := [.ref 117]) (mx := 1) jF_275_10 rfl rfl rfl rfl (by omega) (by omega) rfl (pc2 := 13) ?_
    show WP 269 0 [(0, iV 0)] [] _ _ _ _
    refine wp_il1 jF_269_0 rfl rfl (pc2 := 1) ?_
    refine wp_z_eq jF_269_1 (m_rgl rfl) rfl (pc2 := 4) ?_ ?_
    · intro h7
      refine wp_ic jF_269_8 rfl (pc2 := 9) ?_
      refine wp_ri jF_269_9 rfl ?_
      show WP 275 13 [(0, .ref 117), (1, iV 0), (2, iV k)] [iV 0, .ref 117] _ _ _ _
      refine wp_cV (as := [iV 0]) (rest := []) (a := 117) (mx := 2) (ci := 12) jF_275_13 kd117 (by decide) rfl rfl rfl rfl rfl (by omega) (by omega) rfl (pc2 := 16) ?_
      have b8 := GI.b hg 148 0 kd148 (lo := 0) (hi := 60) rfl
      refine wp_use (m_277_0 σ hg  (by omega) _ _ (by omega) (by omega)) ?_
      rintro _ τ11 ⟨y14, rfl, g12, f13, p9, p10⟩
      show WP 275 16 [(0, .ref 117), (1, iV 0), (2, iV k)] [.long y14] _ _ _ _
      refine wp_il1 jF_275_16 rfl rfl (pc2 := 17) ?_
      refine wp_lng (pc2 := 18) jF_275_17 rfl rfl ?_
      intro y15
      refine wp_lc jF_275_18 rfl (pc2 := 19) ?_
      refine wp_lng (pc2 := 20) jF_275_19 rfl rfl ?_
      intro y16
      refine wp_any1 (pc2 := 21) jF_275_20 rfl rfl ?_
      intro z17 h18
      refine wp_go jF_275_21 ?_
      refine wp_ri jF_275_25 rfl ?_
      exact ⟨z17, rfl, ⟨by omega, by omega⟩, g12, f13⟩
    · intro h7; exfalso; omega
set_option maxHeartbeats 4000000 in
set_option maxRecDepth 20000 in
/-- M.forbids -/
theorem m_275_1 (σ : jM) (hg : GI σ) (k : Int) (hl_k : (-2147483648) ≤ k) (hu_k : k ≤ 2147483647) (pre0 : (l0 σ) = 22) (pre1 : (l1 σ) = 22) (fr lo : Nat) (hfr : 3 ≤ fr) (hlo : 76 ≤ lo) : WP 275 0 (lv_args 0 [.ref 117, iV 1, iV k]) [] fr lo σ (fun v τ => ∃ z : Int, v = some (iV z) ∧ ((-2147483648) ≤ z ∧ z ≤ 2147483647) ∧ GI τ ∧ FR Wtr σ τ) := by
  show WP 275 0 [(0, .ref 117), (1, iV 1), (2, iV k)] [] _ _ _ _
  refine wp_al1 jF_275_0 rfl rfl (pc2 := 1) ?_
  refine wp_il1 jF_275_1 rfl rfl (pc2 := 2) ?_
  refine wp_cV (as := [iV k]) (rest := []) (a := 117) (mx := 2) (ci := 12) jF_275_2 kd117 (by decide) rfl rfl rfl rfl rfl (by omega) (by omega) rfl (pc2 := 5) ?_
  refine wp_use (m_276 σ hg k (by omega) (by omega)  _ _ (by omega) (by omega)) ?_
  rintro _ _ ⟨z4, rfl, h5, rfl, p1⟩
  show WP 275 5 [(0, .ref 117), (1, iV 1), (2, iV k)] [iV z4] _ _ _ _
  refine wp_z_eq jF_275_5 (m_rgb h5 rfl) rfl (pc2 := 8) ?_ ?_
  · intro h6
    clear p1
    refine wp_ic jF_275_24 rfl (pc2 := 25) ?_
    refine wp_ri jF_275_25 rfl ?_
    exact ⟨(-1), rfl, ⟨by omega, by omega⟩, hg, FR.rf⟩
  · intro h6
    replace p1 := p1 (by omega)
    refine wp_al1 jF_275_8 rfl rfl (pc2 := 9) ?_
    refine wp_il1 jF_275_9 rfl rfl (pc2 := 10) ?_
    refine wp_cS (as := [iV 1]) (rest := [.ref 117]) (mx := 1) jF_275_10 rfl rfl rfl rfl (by omega) (by omega) rfl (pc2 := 13) ?_
    show WP 269 0 [(0, iV 1)] [] _ _ _ _
    refine wp_il1 jF_269_0 rfl rfl (pc2 := 1) ?_
    refine wp_z_eq jF_269_1 (m_rgl rfl) rfl (pc2 := 4) ?_ ?_
    · intro h7; exfalso; omega
    · intro h7
      refine wp_ic jF_269_4 rfl (pc2 := 5) ?_
      refine wp_go jF_269_5 ?_
      refine wp_ri jF_269_9 rfl ?_
      show WP 275 13 [(0, .ref 117), (1, iV 1), (2, iV k)] [iV 1, .ref 117] _ _ _ _
      refine wp_cV (as := [iV 1]) (rest := []) (a := 117) (mx := 2) (ci := 12) jF_275_13 kd117 (by decide) rfl rfl rfl rfl rfl (by omega) (by omega) rfl (pc2 := 16) ?_
      have b8 := GI.b hg 148 1 kd148 (lo := 0) (hi := 60) rfl
      refine wp_use (m_277_1 σ hg  (by omega) _ _ (by omega) (by omega)) ?_
      rintro _ τ11 ⟨y14, rfl, g12, f13, p9, p10⟩
      show WP 275 16 [(0, .ref 117), (1, iV 1), (2, iV k)] [.long y14] _ _ _ _
      refine wp_il1 jF_275_16 rfl rfl (pc2 := 17) ?_
      refine wp_lng (pc2 := 18) jF_275_17 rfl rfl ?_
      intro y15
      refine wp_lc jF_275_18 rfl (pc2 := 19) ?_
      refine wp_lng (pc2 := 20) jF_275_19 rfl rfl ?_
      intro y16
      refine wp_any1 (pc2 := 21) jF_275_20 rfl rfl ?_
      intro z17 h18
      refine wp_go jF_275_21 ?_
      refine wp_ri jF_275_25 rfl ?_
      exact ⟨z17, rfl, ⟨by omega, by omega⟩, g12, f13⟩
set_option maxHeartbeats 4000000 in
set_option maxRecDepth 20000 in
/-- M.borne -/
theorem m_278 (σ : jM) (hg : GI σ) (k : Int) (hl_k : (-2147483648) ≤ k) (hu_k : k ≤ 2147483647) (n : Int) (hl_n : (-2147483648) ≤ n) (hu_n : n ≤ 2147483647) (pre0 : (l0 σ) = 22) (fr lo : Nat) (hfr : 3 ≤ fr) (hlo : 64 ≤ lo) : WP 278 0 (lv_args 0 [.ref 117, iV k, iV n]) [] fr lo σ (fun v τ => ∃ z : Int, v = some (iV z) ∧ ((-2147483648) ≤ z ∧ z ≤ 2147483647) ∧ GI τ ∧ FR Wtr σ τ) := by
  show WP 278 0 [(0, .ref 117), (1, iV k), (2, iV n)] [] _ _ _ _
  refine wp_al1 jF_278_0 rfl rfl (pc2 := 1) ?_
  refine wp_il1 jF_278_1 rfl rfl (pc2 := 2) ?_
  refine wp_cV (as := [iV k]) (rest := []) (a := 117) (mx := 2) (ci := 12) jF_278_2 kd117 (by decide) rfl rfl rfl rfl rfl (by omega) (by omega) rfl (pc2 := 5) ?_
  refine wp_use (m_276 σ hg k (by omega) (by omega)  _ _ (by omega) (by omega)) ?_
  rintro _ _ ⟨z4, rfl, h5, rfl, p1⟩
  show WP 278 5 [(0, .ref 117), (1, iV k), (2, iV n)] [iV z4] _ _ _ _
  refine wp_z_ne jF_278_5 (m_rgb h5 rfl) rfl (pc2 := 8) ?_ ?_
  · intro h6
    replace p1 := p1 (by omega)
    refine wp_al1 jF_278_10 rfl rfl (pc2 := 11) ?_
    refine wp_ic jF_278_11 rfl (pc2 := 12) ?_
    refine wp_cV (as := [iV 0]) (rest := []) (a := 117) (mx := 3) (ci := 12) jF_278_12 kd117 (by decide) rfl rfl rfl rfl rfl (by omega) (by omega) rfl (pc2 := 15) ?_
    have b7 := GI.b hg 148 0 kd148 (lo := 0) (hi := 60) rfl
    refine wp_use (m_271_0 σ hg   _ _ (by omega) (by omega)) ?_
    rintro _ τ10 ⟨rfl, g11, f12, p8, p9⟩
    show WP 278 15 [(0, .ref 117), (1, iV k), (2, iV n)] [] _ _ _ _
    refine wp_ic jF_278_15 rfl (pc2 := 16) ?_
    refine wp_is1 (lv2 := [(0, .ref 117), (1, iV k), (2, iV n), (3, iV 0)]) jF_278_16 rfl rfl rfl (pc2 := 17) ?_
    refine wp_ic jF_278_17 rfl (pc2 := 18) ?_
    refine wp_is2 (lv2 := [(0, .ref 117), (1, iV k), (2, iV n), (3, iV 0), (4, iV 0)]) jF_278_18 rfl rfl rfl (pc2 := 20) ?_
    refine wp_ic jF_278_20 rfl (pc2 := 21) ?_
    refine wp_is2 (lv2 := [(0, .ref 117), (1, iV k), (2, iV n), (3, iV 0), (4, iV 0), (5, iV 0)]) jF_278_21 rfl rfl rfl (pc2 := 23) ?_
    have b13 := GI.b g11 117 49 kd117 (lo := 0) (hi := 61) rfl
    refine wp_loop (α := Int × Int × Int) (fun a => [(0, .ref 117), (1, iV k), (2, iV n), (3, iV (a.1)), (4, iV (a.2.1)), (5, iV (a.2.2))]) (fun a τ => (0 ≤ a.1 ∧ a.1 ≤ 61) ∧ (0 ≤ a.2.1 ∧ a.2.1 ≤ 61) ∧ (0 ≤ a.2.2 ∧ a.2.2 ≤ 61) ∧ τ10 = τ ∧ ((a.1) ≤ (a.2.2)) ∧ ((a.2.1) ≤ (a.2.2)) ∧ ((a.2.2) ≤ (τ10.1 117 49))) (fun a τ => Int.toNat (61 - (a.2.2))) (0, 0, 0) τ10 ?_ ?_
    · skip
      exact ⟨⟨by (try dsimp only); omega, by (try dsimp only); omega⟩, ⟨by (try dsimp only); omega, by (try dsimp only); omega⟩, ⟨by (try dsimp only); omega, by (try dsimp only); omega⟩, rfl, (by (try dsimp only); omega), (by (try dsimp only); omega), (by (try dsimp only); omega)⟩
    · rintro ⟨x14, x15, x16⟩ _ ⟨h17, h18, h19, rfl, p23, p24, p25⟩ ih26
      try dsimp only at h17 h18 h19 p23 p24 p25
      show WP 278 23 [(0, .ref 117), (1, iV k), (2, iV n), (3, iV x14), (4, iV x15), (5, iV x16)] [] _ _ _ _
      show WP 278 23 [(0, .ref 117), (1, iV k), (2, iV n), (3, iV x14), (4, iV x15), (5, iV x16)] [] _ _ _ _
      refine wp_il2 jF_278_23 rfl rfl (pc2 := 25) ?_
      refine wp_al1 jF_278_25 rfl rfl (pc2 := 26) ?_
      refine wp_gi jF_278_26 kd117 (by decide) rfl rfl rfl (pc2 := 29) ?_
      refine wp_i_ge jF_278_29 (m_rgb h19 rfl) (m_rgb b13 rfl) rfl (pc2 := 32) ?_ ?_
      · intro h27
        refine wp_ic jF_278_72 rfl (pc2 := 73) ?_
        refine wp_ri jF_278_73 rfl ?_
        exact ⟨(-1), rfl, ⟨by omega, by omega⟩, g11, f12⟩
      · intro h27
        refine wp_al1 jF_278_32 rfl rfl (pc2 := 33) ?_
        refine wp_il2 jF_278_33 rfl rfl (pc2 := 35) ?_
        refine wp_cV (as := [iV x16]) (rest := []) (a := 117) (mx := 13) (ci := 12) jF_278_35 kd117 (by decide) rfl rfl rfl rfl rfl (by omega) (by omega) rfl (pc2 := 38) ?_
        refine wp_use (m_260 τ10 g11 x16 (by omega) (by omega) (by omega) (by omega) _ _ (by omega) (by omega)) ?_
        rintro _ _ ⟨y30, rfl, rfl⟩
        show WP 278 38 [(0, .ref 117), (1, iV k), (2, iV n), (3, iV x14), (4, iV x15), (5, iV x16)] [.long y30] _ _ _ _
        refine wp_il1 jF_278_38 rfl rfl (pc2 := 39) ?_
        refine wp_lng (pc2 := 40) jF_278_39 rfl rfl ?_
        intro y31
        refine wp_lc jF_278_40 rfl (pc2 := 41) ?_
        refine wp_lng (pc2 := 42) jF_278_41 rfl rfl ?_
        intro y32
        refine wp_lc jF_278_42 rfl (pc2 := 43) ?_
        refine wp_anyL (pc2 := 44) jF_278_43 rfl rfl ?_
        intro z33 h34
        refine wp_z_ne jF_278_44 (m_rgb h34 rfl) rfl (pc2 := 47) ?_ ?_
        · intro h35
          refine wp_inc (lv2 := [(0, .ref 117), (1, iV k), (2, iV n), (3, iV x14), (4, iV (x15 + 1)), (5, iV x16)]) jF_278_58 rfl rfl rfl rfl (pc2 := 61) ?_
          refine wp_al1 jF_278_61 rfl rfl (pc2 := 62) ?_
          refine wp_il2 jF_278_62 rfl rfl (pc2 := 64) ?_
          refine wp_cV (as := [iV x16]) (rest := []) (a := 117) (mx := 3) (ci := 12) jF_278_64 kd117 (by decide) rfl rfl rfl rfl rfl (by omega) (by omega) rfl (pc2 := 67) ?_
          refine wp_use (m_261 τ10 g11 x16 (by omega) (by omega) (by omega) (by omega) _ _ (by omega) (by omega)) ?_
          rintro _ _ ⟨z40, rfl, h41, rfl, p36, p37⟩
          show WP 278 67 [(0, .ref 117), (1, iV k), (2, iV n), (3, iV x14), (4, iV (x15 + 1)), (5, iV x16)] [iV z40] _ _ _ _
          refine wp_is2 (lv2 := [(0, .ref 117), (1, iV k), (2, iV n), (3, iV x14), (4, iV (x15 + 1)), (5, iV z40)]) jF_278_67 rfl rfl rfl (pc2 := 69) ?_
          refine wp_go jF_278_69 ?_
          exact ih26 (x14, (x15 + 1), z40) τ10 ⟨⟨by (try dsimp only); omega, by (try dsimp only); omega⟩, ⟨by (try dsimp only); omega, by (try dsimp only); omega⟩, ⟨by (try dsimp only); omega, by (try dsimp only); omega⟩, rfl, (by (try dsimp only); omega), (by (try dsimp only); omega), (by (try dsimp only); omega)⟩ (by show Int.toNat (61 - z40) < Int.toNat (61 - x16); omega)
        · intro h35
          refine wp_il1 jF_278_47 rfl rfl (pc2 := 48) ?_
          refine wp_il1 jF_278_48 rfl rfl (pc2 := 49) ?_
          refine wp_i_ne jF_278_49 (m_rgb h17 rfl) ⟨by omega, by omega⟩ rfl (pc2 := 52) ?_ ?_
          · intro h42
            refine wp_inc (lv2 := [(0, .ref 117), (1, iV k), (2, iV n), (3, iV (x14 + 1)), (4, iV x15), (5, iV x16)]) jF_278_55 rfl rfl rfl rfl (pc2 := 58) ?_
            refine wp_inc (lv2 := [(0, .ref 117), (1, iV k), (2, iV n), (3, iV (x14 + 1)), (4, iV (x15 + 1)), (5, iV x16)]) jF_278_58 rfl rfl rfl rfl (pc2 := 61) ?_
            refine wp_al1 jF_278_61 rfl rfl (pc2 := 62) ?_
            refine wp_il2 jF_278_62 rfl rfl (pc2 := 64) ?_
            refine wp_cV (as := [iV x16]) (rest := []) (a := 117) (mx := 3) (ci := 12) jF_278_64 kd117 (by decide) rfl rfl rfl rfl rfl (by omega) (by omega) rfl (pc2 := 67) ?_
            refine wp_use (m_261 τ10 g11 x16 (by omega) (by omega) (by omega) (by omega) _ _ (by omega) (by omega)) ?_
            rintro _ _ ⟨z47, rfl, h48, rfl, p43, p44⟩
            show WP 278 67 [(0, .ref 117), (1, iV k), (2, iV n), (3, iV (x14 + 1)), (4, iV (x15 + 1)), (5, iV x16)] [iV z47] _ _ _ _
            refine wp_is2 (lv2 := [(0, .ref 117), (1, iV k), (2, iV n), (3, iV (x14 + 1)), (4, iV (x15 + 1)), (5, iV z47)]) jF_278_67 rfl rfl rfl (pc2 := 69) ?_
            refine wp_go jF_278_69 ?_
            exact ih26 ((x14 + 1), (x15 + 1), z47) τ10 ⟨⟨by (try dsimp only); omega, by (try dsimp only); omega⟩, ⟨by (try dsimp only); omega, by (try dsimp only); omega⟩, ⟨by (try dsimp only); omega, by (try dsimp only); omega⟩, rfl, (by (try dsimp only); omega), (by (try dsimp only); omega), (by (try dsimp only); omega)⟩ (by show Int.toNat (61 - z47) < Int.toNat (61 - x16); omega)
          · intro h42
            refine wp_il2 jF_278_52 rfl rfl (pc2 := 54) ?_
            refine wp_ri jF_278_54 rfl ?_
            exact ⟨x15, rfl, ⟨by omega, by omega⟩, g11, f12⟩
  · intro h6
    clear p1
    refine wp_ic jF_278_8 rfl (pc2 := 9) ?_
    refine wp_ri jF_278_9 rfl ?_
    exact ⟨(-1), rfl, ⟨by omega, by omega⟩, hg, FR.rf⟩
set_option maxHeartbeats 4000000 in
set_option maxRecDepth 20000 in
/-- M.bears -/
theorem m_280 (σ : jM) (hg : GI σ) (place : Int) (hl_place : 0 ≤ place) (hu_place : place ≤ 60) (k : Int) (hl_k : (-2147483648) ≤ k) (hu_k : k ≤ 2147483647) (pre0 : (σ.1 143 4) ≤ 8) (pre1 : (l0 σ) = 22) (pre2 : place < (σ.1 148 0)) (fr lo : Nat) (hfr : 2 ≤ fr) (hlo : 55 ≤ lo) : WP 280 0 (lv_args 0 [.ref 117, iV place, iV k]) [] fr lo σ (fun v τ => ∃ z : Int, v = some (iV z) ∧ (0 ≤ z ∧ z ≤ 1) ∧ GI τ ∧ FR Wtr σ τ) := by
  show WP 280 0 [(0, .ref 117), (1, iV place), (2, iV k)] [] _ _ _ _
  refine wp_al1 jF_280_0 rfl rfl (pc2 := 1) ?_
  refine wp_ic jF_280_1 rfl (pc2 := 2) ?_
  refine wp_cV (as := [iV 0]) (rest := []) (a := 117) (mx := 3) (ci := 12) jF_280_2 kd117 (by decide) rfl rfl rfl rfl rfl (by omega) (by omega) rfl (pc2 := 5) ?_
  have b1 := GI.b hg 148 0 kd148 (lo := 0) (hi := 60) rfl
  refine wp_use (m_271_0 σ hg   _ _ (by omega) (by omega)) ?_
  rintro _ τ4 ⟨rfl, g5, f6, p2, p3⟩
  show WP 280 5 [(0, .ref 117), (1, iV place), (2, iV k)] [] _ _ _ _
  refine wp_al1 jF_280_5 rfl rfl (pc2 := 6) ?_
  refine wp_il1 jF_280_6 rfl rfl (pc2 := 7) ?_
  refine wp_cV (as := [iV place]) (rest := []) (a := 117) (mx := 3) (ci := 12) jF_280_7 kd117 (by decide) rfl rfl rfl rfl rfl (by omega) (by omega) rfl (pc2 := 10) ?_
  have b7 := GI.b g5 117 49 kd117 (lo := 0) (hi := 61) rfl
  refine wp_use (m_281 τ4 g5 place (by omega) (by omega) (by omega) _ _ (by omega) (by omega)) ?_
  rintro _ τ9 ⟨rfl, g10, f11, p8⟩
  show WP 280 10 [(0, .ref 117), (1, iV place), (2, iV k)] [] _ _ _ _
  refine wp_al1 jF_280_10 rfl rfl (pc2 := 11) ?_
  refine wp_cV (as := []) (rest := []) (a := 117) (mx := 7) (ci := 12) jF_280_11 kd117 (by decide) rfl rfl rfl rfl rfl (by omega) (by omega) rfl (pc2 := 14) ?_
  have b12 := GI.b g10 117 49 kd117 (lo := 0) (hi := 61) rfl
  refine wp_use (m_282 τ9 g10   _ _ (by omega) (by omega)) ?_
  rintro _ _ ⟨z16, rfl, h17, rfl, p13⟩
  show WP 280 14 [(0, .ref 117), (1, iV place), (2, iV k)] [iV z16] _ _ _ _
  refine wp_z_eq jF_280_14 (m_rgb h17 rfl) rfl (pc2 := 17) ?_ ?_
  · intro h18
    clear p13
    refine wp_ic jF_280_34 rfl (pc2 := 35) ?_
    refine wp_ri jF_280_35 rfl ?_
    exact ⟨0, rfl, ⟨by omega, by omega⟩, g10, (FR.up f6 f11 sb_Wtr_Wtr)⟩
  · intro h18
    replace p13 := p13 (by omega)
    refine wp_al1 jF_280_17 rfl rfl (pc2 := 18) ?_
    refine wp_cV (as := []) (rest := []) (a := 117) (mx := 4) (ci := 12) jF_280_18 kd117 (by decide) rfl rfl rfl rfl rfl (by omega) (by omega) rfl (pc2 := 21) ?_
    refine wp_use (m_259 τ9 g10  (by omega) _ _ (by omega) (by omega)) ?_
    rintro _ _ ⟨y21, rfl, rfl⟩
    show WP 280 21 [(0, .ref 117), (1, iV place), (2, iV k)] [.long y21] _ _ _ _
    refine wp_il1 jF_280_21 rfl rfl (pc2 := 22) ?_
    refine wp_lng (pc2 := 23) jF_280_22 rfl rfl ?_
    intro y22
    refine wp_lc jF_280_23 rfl (pc2 := 24) ?_
    refine wp_lng (pc2 := 25) jF_280_24 rfl rfl ?_
    intro y23
    refine wp_lc jF_280_25 rfl (pc2 := 26) ?_
    refine wp_anyL (pc2 := 27) jF_280_26 rfl rfl ?_
    intro z24 h25
    refine wp_z_ne jF_280_27 (m_rgb h25 rfl) rfl (pc2 := 30) ?_ ?_
    · intro h26
      refine wp_ic jF_280_34 rfl (pc2 := 35) ?_
      refine wp_ri jF_280_35 rfl ?_
      exact ⟨0, rfl, ⟨by omega, by omega⟩, g10, (FR.up f6 f11 sb_Wtr_Wtr)⟩
    · intro h26
      refine wp_ic jF_280_30 rfl (pc2 := 31) ?_
      refine wp_go jF_280_31 ?_
      refine wp_ri jF_280_35 rfl ?_
      exact ⟨1, rfl, ⟨by omega, by omega⟩, g10, (FR.up f6 f11 sb_Wtr_Wtr)⟩
set_option maxHeartbeats 4000000 in
set_option maxRecDepth 20000 in
/-- M.led -/
theorem m_279 (σ : jM) (hg : GI σ) (k : Int) (hl_k : (-2147483648) ≤ k) (hu_k : k ≤ 2147483647) (n : Int) (hl_n : (-2147483648) ≤ n) (hu_n : n ≤ 2147483647) (pre0 : (σ.1 143 4) ≤ 8) (pre1 : (l0 σ) = 22) (fr lo : Nat) (hfr : 3 ≤ fr) (hlo : 77 ≤ lo) : WP 279 0 (lv_args 0 [.ref 117, iV k, iV n]) [] fr lo σ (fun v τ => ∃ z : Int, v = some (iV z) ∧ ((-2147483648) ≤ z ∧ z ≤ 2147483647) ∧ GI τ ∧ FR Wtr σ τ) := by
  show WP 279 0 [(0, .ref 117), (1, iV k), (2, iV n)] [] _ _ _ _
  refine wp_al1 jF_279_0 rfl rfl (pc2 := 1) ?_
  refine wp_il1 jF_279_1 rfl rfl (pc2 := 2) ?_
  refine wp_cV (as := [iV k]) (rest := []) (a := 117) (mx := 2) (ci := 12) jF_279_2 kd117 (by decide) rfl rfl rfl rfl rfl (by omega) (by omega) rfl (pc2 := 5) ?_
  refine wp_use (m_276 σ hg k (by omega) (by omega)  _ _ (by omega) (by omega)) ?_
  rintro _ _ ⟨z4, rfl, h5, rfl, p1⟩
  show WP 279 5 [(0, .ref 117), (1, iV k), (2, iV n)] [iV z4] _ _ _ _
  refine wp_z_eq jF_279_5 (m_rgb h5 rfl) rfl (pc2 := 8) ?_ ?_
  · intro h6
    clear p1
    refine wp_ic jF_279_22 rfl (pc2 := 23) ?_
    refine wp_ri jF_279_23 rfl ?_
    exact ⟨(-1), rfl, ⟨by omega, by omega⟩, hg, FR.rf⟩
  · intro h6
    replace p1 := p1 (by omega)
    refine wp_al1 jF_279_8 rfl rfl (pc2 := 9) ?_
    refine wp_ic jF_279_9 rfl (pc2 := 10) ?_
    refine wp_cV (as := [iV 0]) (rest := []) (a := 117) (mx := 2) (ci := 12) jF_279_10 kd117 (by decide) rfl rfl rfl rfl rfl (by omega) (by omega) rfl (pc2 := 13) ?_
    have b7 := GI.b hg 148 0 kd148 (lo := 0) (hi := 60) rfl
    refine wp_use (m_277_0 σ hg  (by omega) _ _ (by omega) (by omega)) ?_
    rintro _ τ10 ⟨y13, rfl, g11, f12, p8, p9⟩
    show WP 279 13 [(0, .ref 117), (1, iV k), (2, iV n)] [.long y13] _ _ _ _
    refine wp_il1 jF_279_13 rfl rfl (pc2 := 14) ?_
    refine wp_lng (pc2 := 15) jF_279_14 rfl rfl ?_
    intro y14
    refine wp_lc jF_279_15 rfl (pc2 := 16) ?_
    refine wp_lng (pc2 := 17) jF_279_16 rfl rfl ?_
    intro y15
    refine wp_lc jF_279_17 rfl (pc2 := 18) ?_
    refine wp_anyL (pc2 := 19) jF_279_18 rfl rfl ?_
    intro z16 h17
    refine wp_z_ne jF_279_19 (m_rgb h17 rfl) rfl (pc2 := 22) ?_ ?_
    · intro h18
      refine wp_ic jF_279_24 rfl (pc2 := 25) ?_
      refine wp_is1 (lv2 := [(0, .ref 117), (1, iV k), (2, iV n), (3, iV 0)]) jF_279_25 rfl rfl rfl (pc2 := 26) ?_
      refine wp_ic jF_279_26 rfl (pc2 := 27) ?_
      refine wp_is2 (lv2 := [(0, .ref 117), (1, iV k), (2, iV n), (3, iV 0), (4, iV 0)]) jF_279_27 rfl rfl rfl (pc2 := 29) ?_
      refine wp_loop (α := Int × Int) (fun a => [(0, .ref 117), (1, iV k), (2, iV n), (3, iV (a.1)), (4, iV (a.2))]) (fun a τ => (0 ≤ a.1 ∧ a.1 ≤ 60) ∧ (0 ≤ a.2 ∧ a.2 ≤ 60) ∧ GI τ ∧ FR Wtr τ10 τ ∧ ((a.1) ≤ (a.2))) (fun a τ => Int.toNat (60 - (a.2))) (0, 0) τ10 ?_ ?_
      · skip
        exact ⟨⟨by (try dsimp only); omega, by (try dsimp only); omega⟩, ⟨by (try dsimp only); omega, by (try dsimp only); omega⟩, g11, FR.rf, (by (try dsimp only); omega)⟩
      · rintro ⟨x19, x20⟩ τ23 ⟨h21, h22, g24, f25, p26⟩ ih27
        try dsimp only at h21 h22 g24 f25 p26
        show WP 279 29 [(0, .ref 117), (1, iV k), (2, iV n), (3, iV x19), (4, iV x20)] [] _ _ _ _
        show WP 279 29 [(0, .ref 117), (1, iV k), (2, iV n), (3, iV x19), (4, iV x20)] [] _ _ _ _
        refine wp_il2 jF_279_29 rfl rfl (pc2 := 31) ?_
        refine wp_al1 jF_279_31 rfl rfl (pc2 := 32) ?_
        refine wp_gr (b := 148) jF_279_32 kd117 (by decide) (c := 248) rfl rfl rfl (pc2 := 35) ?_
        refine wp_ic jF_279_35 rfl (pc2 := 36) ?_
        refine wp_iald (n := 2) (e := (σ.1 148 0)) jF_279_36 kd148 (by decide) rfl rfl (by omega) (by omega) ((FR.at f25 148 0 rfl).trans (FR.at f12 148 0 rfl)) rfl (pc2 := 37) ?_
        refine wp_i_ge jF_279_37 (m_rgb h22 rfl) (m_rgb b7 rfl) rfl (pc2 := 40) ?_ ?_
        · intro h28
          refine wp_ic jF_279_70 rfl (pc2 := 71) ?_
          refine wp_ri jF_279_71 rfl ?_
          exact ⟨(-1), rfl, ⟨by omega, by omega⟩, g24, (FR.up f12 f25 sb_Wtr_Wtr)⟩
        · intro h28
          refine wp_al1 jF_279_40 rfl rfl (pc2 := 41) ?_
          refine wp_il2 jF_279_41 rfl rfl (pc2 := 43) ?_
          refine wp_il1 jF_279_43 rfl rfl (pc2 := 44) ?_
          refine wp_cV (as := [iV x20, iV k]) (rest := []) (a := 117) (mx := 3) (ci := 12) jF_279_44 kd117 (by decide) rfl rfl rfl rfl rfl (by omega) (by omega) rfl (pc2 := 47) ?_
          have q29 : (l0 τ23) = (l0 σ) := ((l0_fr f25 rfl (fun _ => rfl)).trans (l0_fr f12 rfl (fun _ => rfl)))
          have b30 := GI.b hg 143 4 kd143 (lo := 0) (hi := 16) rfl
          have q31 : (τ23.1 143 4) = (σ.1 143 4) := ((FR.at f25 143 4 rfl).trans (FR.at f12 143 4 rfl))
          have q32 : (τ23.1 148 0) = (σ.1 148 0) := ((FR.at f25 148 0 rfl).trans (FR.at f12 148 0 rfl))
          refine wp_use (m_280 τ23 g24 x20 (by omega) (by omega) k (by omega) (by omega) (by omega) (by omega) (by omega) _ _ (by omega) (by omega)) ?_
          rintro _ τ33 ⟨z36, rfl, h37, g34, f35⟩
          show WP 279 47 [(0, .ref 117), (1, iV k), (2, iV n), (3, iV x19), (4, iV x20)] [iV z36] _ _ _ _
          refine wp_z_ne jF_279_47 (m_rgb h37 rfl) rfl (pc2 := 50) ?_ ?_
          · intro h38
            refine wp_il1 jF_279_53 rfl rfl (pc2 := 54) ?_
            refine wp_il1 jF_279_54 rfl rfl (pc2 := 55) ?_
            refine wp_i_ne jF_279_55 (m_rgb h21 rfl) ⟨by omega, by omega⟩ rfl (pc2 := 58) ?_ ?_
            · intro h39
              refine wp_inc (lv2 := [(0, .ref 117), (1, iV k), (2, iV n), (3, iV (x19 + 1)), (4, iV x20)]) jF_279_61 rfl rfl rfl rfl (pc2 := 64) ?_
              refine wp_inc (lv2 := [(0, .ref 117), (1, iV k), (2, iV n), (3, iV (x19 + 1)), (4, iV (x20 + 1))]) jF_279_64 rfl rfl rfl rfl (pc2 := 67) ?_
              refine wp_go jF_279_67 ?_
              exact ih27 ((x19 + 1), (x20 + 1)) τ33 ⟨⟨by (try dsimp only); omega, by (try dsimp only); omega⟩, ⟨by (try dsimp only); omega, by (try dsimp only); omega⟩, g34, (FR.up f25 f35 sb_Wtr_Wtr), (by (try dsimp only); omega)⟩ (by show Int.toNat (60 - (x20 + 1)) < Int.toNat (60 - x20); omega)
            · intro h39
              refine wp_il2 jF_279_58 rfl rfl (pc2 := 60) ?_
              refine wp_ri jF_279_60 rfl ?_
              exact ⟨x20, rfl, ⟨by omega, by omega⟩, g34, (FR.up (FR.up f12 f25 sb_Wtr_Wtr) f35 sb_Wtr_Wtr)⟩
          · intro h38
            refine wp_go jF_279_50 ?_
            refine wp_inc (lv2 := [(0, .ref 117), (1, iV k), (2, iV n), (3, iV x19), (4, iV (x20 + 1))]) jF_279_64 rfl rfl rfl rfl (pc2 := 67) ?_
            refine wp_go jF_279_67 ?_
            exact ih27 (x19, (x20 + 1)) τ33 ⟨⟨by (try dsimp only); omega, by (try dsimp only); omega⟩, ⟨by (try dsimp only); omega, by (try dsimp only); omega⟩, g34, (FR.up f25 f35 sb_Wtr_Wtr), (by (try dsimp only); omega)⟩ (by show Int.toNat (60 - (x20 + 1)) < Int.toNat (60 - x20); omega)
    · intro h18
      refine wp_ic jF_279_22 rfl (pc2 := 23) ?_
      refine wp_ri jF_279_23 rfl ?_
      exact ⟨(-1), rfl, ⟨by omega, by omega⟩, g11, f12⟩
set_option maxHeartbeats 4000000 in
set_option maxRecDepth 20000 in
/-- M.partOf -/
theorem m_245_0 (σ : jM) (hg : GI σ) (k : Int) (hl_k : 0 ≤ k) (hu_k : k ≤ 63) (pre0 : ((m0 σ) ≠ 0 ∧ (m1 σ) ≠ 0 ∧ (m2 σ) ≠ 0)) (fr lo : Nat) (hfr : 1 ≤ fr) (hlo : 23 ≤ lo) : WP 245 0 (lv_args 0 [.ref 117, iV k, iV 0]) [] fr lo σ (fun v τ => ∃ z : Int, v = some (iV z) ∧ (0 ≤ z ∧ z ≤ 3) ∧ σ = τ) := by
  show WP 245 0 [(0, .ref 117), (1, iV k), (2, iV 0)] [] _ _ _ _
  refine wp_il1 jF_245_0 rfl rfl (pc2 := 1) ?_
  refine wp_z_ne jF_245_1 (m_rgl rfl) rfl (pc2 := 4) ?_ ?_
  · intro h1; exfalso; omega
  · intro h1
    refine wp_il1 jF_245_4 rfl rfl (pc2 := 5) ?_
    refine wp_al1 jF_245_5 rfl rfl (pc2 := 6) ?_
    refine wp_ic jF_245_6 rfl (pc2 := 7) ?_
    refine wp_cV (as := [iV 0]) (rest := [iV k]) (a := 117) (mx := 4) (ci := 12) jF_245_7 kd117 (by decide) rfl rfl rfl rfl rfl (by omega) (by omega) rfl (pc2 := 10) ?_
    refine wp_use (m_244_0 σ hg   _ _ (by omega) (by omega)) ?_
    rintro _ _ ⟨z5, rfl, h6, rfl, p2⟩
    show WP 245 10 [(0, .ref 117), (1, iV k), (2, iV 0)] [iV z5, iV k] _ _ _ _
    refine wp_remp jF_245_10 ⟨by omega, by omega⟩ (by omega) (m_rgb h6 rfl) (by omega) rfl (pc2 := 11) ?_
    intro z7 h8
    refine wp_go jF_245_11 ?_
    refine wp_ri jF_245_48 rfl ?_
    exact ⟨z7, rfl, ⟨by omega, by omega⟩, rfl⟩
set_option maxHeartbeats 4000000 in
set_option maxRecDepth 20000 in
/-- M.partOf -/
theorem m_245_1 (σ : jM) (hg : GI σ) (k : Int) (hl_k : 0 ≤ k) (hu_k : k ≤ 63) (pre0 : ((m0 σ) ≠ 0 ∧ (m1 σ) ≠ 0 ∧ (m2 σ) ≠ 0)) (fr lo : Nat) (hfr : 1 ≤ fr) (hlo : 23 ≤ lo) : WP 245 0 (lv_args 0 [.ref 117, iV k, iV 1]) [] fr lo σ (fun v τ => ∃ z : Int, v = some (iV z) ∧ (0 ≤ z ∧ z ≤ 3) ∧ σ = τ) := by
  show WP 245 0 [(0, .ref 117), (1, iV k), (2, iV 1)] [] _ _ _ _
  refine wp_il1 jF_245_0 rfl rfl (pc2 := 1) ?_
  refine wp_z_ne jF_245_1 (m_rgl rfl) rfl (pc2 := 4) ?_ ?_
  · intro h1
    refine wp_il1 jF_245_14 rfl rfl (pc2 := 15) ?_
    refine wp_ic jF_245_15 rfl (pc2 := 16) ?_
    refine wp_i_ne jF_245_16 (m_rgl rfl) (m_rgl rfl) rfl (pc2 := 19) ?_ ?_
    · intro h2; exfalso; omega
    · intro h2
      refine wp_il1 jF_245_19 rfl rfl (pc2 := 20) ?_
      refine wp_al1 jF_245_20 rfl rfl (pc2 := 21) ?_
      refine wp_ic jF_245_21 rfl (pc2 := 22) ?_
      refine wp_cV (as := [iV 0]) (rest := [iV k]) (a := 117) (mx := 4) (ci := 12) jF_245_22 kd117 (by decide) rfl rfl rfl rfl rfl (by omega) (by omega) rfl (pc2 := 25) ?_
      refine wp_use (m_244_0 σ hg   _ _ (by omega) (by omega)) ?_
      rintro _ _ ⟨z6, rfl, h7, rfl, p3⟩
      show WP 245 25 [(0, .ref 117), (1, iV k), (2, iV 1)] [iV z6, iV k] _ _ _ _
      have n10 := div_b (a := k) (b := z6) (by omega) (by omega)
      refine wp_div jF_245_25 ⟨by omega, by omega⟩ (by omega) (m_rgb h7 rfl) (by omega) rfl (pc2 := 26) ?_
      refine wp_al1 jF_245_26 rfl rfl (pc2 := 27) ?_
      refine wp_ic jF_245_27 rfl (pc2 := 28) ?_
      refine wp_cV (as := [iV 1]) (rest := [iV (k / z6)]) (a := 117) (mx := 4) (ci := 12) jF_245_28 kd117 (by decide) rfl rfl rfl rfl rfl (by omega) (by omega) rfl (pc2 := 31) ?_
      refine wp_use (m_244_1 σ hg   _ _ (by omega) (by omega)) ?_
      rintro _ _ ⟨z14, rfl, h15, rfl, p11⟩
      show WP 245 31 [(0, .ref 117), (1, iV k), (2, iV 1)] [iV z14, iV (k / z6)] _ _ _ _
      refine wp_remp jF_245_31 ⟨by omega, by omega⟩ (by omega) (m_rgb h15 rfl) (by omega) rfl (pc2 := 32) ?_
      intro z16 h17
      refine wp_go jF_245_32 ?_
      refine wp_ri jF_245_48 rfl ?_
      exact ⟨z16, rfl, ⟨by omega, by omega⟩, rfl⟩
  · intro h1; exfalso; omega
set_option maxHeartbeats 4000000 in
set_option maxRecDepth 20000 in
/-- M.partOf -/
theorem m_245_2 (σ : jM) (hg : GI σ) (k : Int) (hl_k : 0 ≤ k) (hu_k : k ≤ 63) (pre0 : ((m0 σ) ≠ 0 ∧ (m1 σ) ≠ 0 ∧ (m2 σ) ≠ 0)) (pre1 : k < (cm σ)) (fr lo : Nat) (hfr : 1 ≤ fr) (hlo : 23 ≤ lo) : WP 245 0 (lv_args 0 [.ref 117, iV k, iV 2]) [] fr lo σ (fun v τ => ∃ z : Int, v = some (iV z) ∧ (0 ≤ z ∧ z ≤ 63) ∧ σ = τ ∧ (z ≤ 3)) := by
  show WP 245 0 [(0, .ref 117), (1, iV k), (2, iV 2)] [] _ _ _ _
  refine wp_il1 jF_245_0 rfl rfl (pc2 := 1) ?_
  refine wp_z_ne jF_245_1 (m_rgl rfl) rfl (pc2 := 4) ?_ ?_
  · intro h1
    refine wp_il1 jF_245_14 rfl rfl (pc2 := 15) ?_
    refine wp_ic jF_245_15 rfl (pc2 := 16) ?_
    refine wp_i_ne jF_245_16 (m_rgl rfl) (m_rgl rfl) rfl (pc2 := 19) ?_ ?_
    · intro h2
      refine wp_il1 jF_245_35 rfl rfl (pc2 := 36) ?_
      refine wp_al1 jF_245_36 rfl rfl (pc2 := 37) ?_
      refine wp_ic jF_245_37 rfl (pc2 := 38) ?_
      refine wp_cV (as := [iV 0]) (rest := [iV k]) (a := 117) (mx := 4) (ci := 12) jF_245_38 kd117 (by decide) rfl rfl rfl rfl rfl (by omega) (by omega) rfl (pc2 := 41) ?_
      refine wp_use (m_244_0 σ hg   _ _ (by omega) (by omega)) ?_
      rintro _ _ ⟨z6, rfl, h7, rfl, p3⟩
      show WP 245 41 [(0, .ref 117), (1, iV k), (2, iV 2)] [iV z6, iV k] _ _ _ _
      refine wp_al1 jF_245_41 rfl rfl (pc2 := 42) ?_
      refine wp_ic jF_245_42 rfl (pc2 := 43) ?_
      refine wp_cV (as := [iV 1]) (rest := [iV z6, iV k]) (a := 117) (mx := 4) (ci := 12) jF_245_43 kd117 (by decide) rfl rfl rfl rfl rfl (by omega) (by omega) rfl (pc2 := 46) ?_
      refine wp_use (m_244_1 σ hg   _ _ (by omega) (by omega)) ?_
      rintro _ _ ⟨z11, rfl, h12, rfl, p8⟩
      show WP 245 46 [(0, .ref 117), (1, iV k), (2, iV 2)] [iV z11, iV z6, iV k] _ _ _ _
      have n13 := mul_b (a := z6) (b := z11) (A := 4) (B := 4) (by omega) (by omega) (by omega) (by omega)
      refine wp_mul jF_245_46 rfl (pc2 := 47) ?_
      have n16 := div_b (a := k) (b := (z6 * z11)) (by omega) (by omega)
      refine wp_div jF_245_47 ⟨by omega, by omega⟩ (by omega) ⟨by omega, by omega⟩ (by omega) rfl (pc2 := 48) ?_
      refine wp_ri jF_245_48 rfl ?_
      exact ⟨(k / (z6 * z11)), rfl, ⟨by omega, by omega⟩, rfl, (by have e := cm_e (σ := σ); have d := m2_b (σ := σ); have q := pq (a := k) (b := z6 * z11) (c := m2 σ) (by rw [show z6 = m0 σ by omega, show z11 = m1 σ by omega, ← e]; omega) (by omega); omega)⟩
    · intro h2; exfalso; omega
  · intro h1; exfalso; omega
