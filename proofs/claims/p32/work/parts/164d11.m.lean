set_option maxHeartbeats 4000000 in
set_option maxRecDepth 20000 in
/-- Row.sentenceAt -/
theorem m_112_r109 (σ : jM) (hg : GI σ) (pl : Int) (hl_pl : 0 ≤ pl) (hu_pl : pl ≤ 61)  (fr lo : Nat) (hfr : 0 ≤ fr) (hlo : 0 ≤ lo) : WP 112 0 (lv_args 0 [.ref 109, iV pl]) [] fr lo σ (fun v τ => ∃ z : Int, v = some (iV z) ∧ (0 ≤ z ∧ z ≤ 29) ∧ σ = τ ∧ (z = 0 ∨ z < (σ.1 109 6))) := by
  show WP 112 0 [(0, .ref 109), (1, iV pl)] [] _ _ _ _
  refine wp_ic jF_112_0 rfl (pc2 := 1) ?_
  refine wp_is1 (lv2 := [(0, .ref 109), (1, iV pl), (2, iV 0)]) jF_112_1 rfl rfl rfl (pc2 := 2) ?_
  have b1 := GI.b hg 109 6 kd109 (lo := 0) (hi := 30) rfl
  refine wp_loop (α := Int) (fun a => [(0, .ref 109), (1, iV pl), (2, iV (a))]) (fun a τ => (0 ≤ a ∧ a ≤ 29) ∧ σ = τ ∧ ((a) = 0 ∨ (a) < (σ.1 109 6))) (fun a τ => Int.toNat (30 - (a))) (0) σ ?_ ?_
  · skip
    exact ⟨⟨by omega, by omega⟩, rfl, (by omega)⟩
  · rintro x2 _ ⟨h3, rfl, p7⟩ ih8
    show WP 112 2 [(0, .ref 109), (1, iV pl), (2, iV x2)] [] _ _ _ _
    show WP 112 2 [(0, .ref 109), (1, iV pl), (2, iV x2)] [] _ _ _ _
    refine wp_il1 jF_112_2 rfl rfl (pc2 := 3) ?_
    refine wp_ic jF_112_3 rfl (pc2 := 4) ?_
    refine wp_add jF_112_4 rfl (pc2 := 5) ?_
    refine wp_al1 jF_112_5 rfl rfl (pc2 := 6) ?_
    refine wp_gi jF_112_6 kd109 (by decide) rfl rfl rfl (pc2 := 9) ?_
    refine wp_i_ge jF_112_9 ⟨by omega, by omega⟩ (m_rgb b1 rfl) rfl (pc2 := 12) ?_ ?_
    · intro h9
      refine wp_il1 jF_112_30 rfl rfl (pc2 := 31) ?_
      refine wp_ri jF_112_31 rfl ?_
      exact ⟨x2, rfl, ⟨by omega, by omega⟩, rfl, (by omega)⟩
    · intro h9
      refine wp_al1 jF_112_12 rfl rfl (pc2 := 13) ?_
      refine wp_gr (b := 112) jF_112_13 kd109 (by decide) (c := 6) rfl rfl rfl (pc2 := 16) ?_
      refine wp_il1 jF_112_16 rfl rfl (pc2 := 17) ?_
      refine wp_ic jF_112_17 rfl (pc2 := 18) ?_
      refine wp_add jF_112_18 rfl (pc2 := 19) ?_
      have b10 := GI.b hg 112 (x2 + 1).toNat kd112 (lo := 0) (hi := 60) rfl
      refine wp_iald (n := 31) (e := (σ.1 112 (x2 + 1).toNat)) jF_112_19 kd112 (by decide) rfl rfl (by omega) (by omega) rfl rfl (pc2 := 20) ?_
      refine wp_il1 jF_112_20 rfl rfl (pc2 := 21) ?_
      refine wp_i_gt jF_112_21 (m_rgb b10 rfl) ⟨by omega, by omega⟩ rfl (pc2 := 24) ?_ ?_
      · intro h11
        refine wp_il1 jF_112_30 rfl rfl (pc2 := 31) ?_
        refine wp_ri jF_112_31 rfl ?_
        exact ⟨x2, rfl, ⟨by omega, by omega⟩, rfl, (by omega)⟩
      · intro h11
        refine wp_inc (lv2 := [(0, .ref 109), (1, iV pl), (2, iV (x2 + 1))]) jF_112_24 rfl rfl rfl rfl (pc2 := 27) ?_
        refine wp_go jF_112_27 ?_
        exact ih8 ((x2 + 1)) σ ⟨⟨by omega, by omega⟩, rfl, (by omega)⟩ (by show Int.toNat (30 - (x2 + 1)) < Int.toNat (30 - x2); omega)
set_option maxHeartbeats 4000000 in
set_option maxRecDepth 20000 in
/-- Row.goesOn -/
theorem m_109_r109 (σ : jM) (hg : GI σ) (first : Int) (hl_first : 0 ≤ first) (hu_first : first ≤ 61) (st0 : Int) (hl_st0 : (-1) ≤ st0) (hu_st0 : st0 ≤ 4)  (fr lo : Nat) (hfr : 1 ≤ fr) (hlo : 23 ≤ lo) : WP 109 0 (lv_args 0 [.ref 109, iV first, iV st0]) [] fr lo σ (fun v τ => ∃ z : Int, v = some (iV z) ∧ (0 ≤ z ∧ z ≤ 1) ∧ σ = τ) := by
  show WP 109 0 [(0, .ref 109), (1, iV first), (2, iV st0)] [] _ _ _ _
  refine wp_il1 jF_109_0 rfl rfl (pc2 := 1) ?_
  refine wp_is1 (lv2 := [(0, .ref 109), (1, iV first), (2, iV st0), (3, iV st0)]) jF_109_1 rfl rfl rfl (pc2 := 2) ?_
  refine wp_il1 jF_109_2 rfl rfl (pc2 := 3) ?_
  refine wp_is2 (lv2 := [(0, .ref 109), (1, iV first), (2, iV st0), (3, iV st0), (4, iV first)]) jF_109_3 rfl rfl rfl (pc2 := 5) ?_
  refine wp_loop (α := Int × Int) (fun a => [(0, .ref 109), (1, iV first), (2, iV st0), (3, iV (a.1)), (4, iV (a.2))]) (fun a τ => ((-1) ≤ a.1 ∧ a.1 ≤ 4) ∧ (0 ≤ a.2 ∧ a.2 ≤ 61) ∧ σ = τ) (fun a τ => Int.toNat (61 - (a.2))) (st0, first) σ ?_ ?_
  · skip
    exact ⟨⟨by (try dsimp only); omega, by (try dsimp only); omega⟩, ⟨by (try dsimp only); omega, by (try dsimp only); omega⟩, rfl⟩
  · rintro ⟨x1, x2⟩ _ ⟨h3, h4, rfl⟩ ih8
    try dsimp only at h3 h4
    show WP 109 5 [(0, .ref 109), (1, iV first), (2, iV st0), (3, iV x1), (4, iV x2)] [] _ _ _ _
    show WP 109 5 [(0, .ref 109), (1, iV first), (2, iV st0), (3, iV x1), (4, iV x2)] [] _ _ _ _
    refine wp_il2 jF_109_5 rfl rfl (pc2 := 7) ?_
    refine wp_al1 jF_109_7 rfl rfl (pc2 := 8) ?_
    have b9 := GI.b hg 109 1 kd109 (lo := 0) (hi := 60) rfl
    refine wp_gi jF_109_8 kd109 (by decide) rfl rfl rfl (pc2 := 11) ?_
    refine wp_i_ge jF_109_11 (m_rgb h4 rfl) (m_rgb b9 rfl) rfl (pc2 := 14) ?_ ?_
    · intro h10
      refine wp_il1 jF_109_59 rfl rfl (pc2 := 60) ?_
      refine wp_z_ne jF_109_60 (m_rgb h3 rfl) rfl (pc2 := 63) ?_ ?_
      · intro h11
        refine wp_ic jF_109_67 rfl (pc2 := 68) ?_
        refine wp_ri jF_109_68 rfl ?_
        exact ⟨0, rfl, ⟨by omega, by omega⟩, rfl⟩
      · intro h11
        refine wp_ic jF_109_63 rfl (pc2 := 64) ?_
        refine wp_go jF_109_64 ?_
        refine wp_ri jF_109_68 rfl ?_
        exact ⟨1, rfl, ⟨by omega, by omega⟩, rfl⟩
    · intro h10
      refine wp_il1 jF_109_14 rfl rfl (pc2 := 15) ?_
      refine wp_ic jF_109_15 rfl (pc2 := 16) ?_
      refine wp_i_eq jF_109_16 (m_rgb h3 rfl) (m_rgl rfl) rfl (pc2 := 19) ?_ ?_
      · intro h12
        refine wp_il1 jF_109_30 rfl rfl (pc2 := 31) ?_
        refine wp_ic jF_109_31 rfl (pc2 := 32) ?_
        refine wp_i_eq jF_109_32 ⟨by omega, by omega⟩ (m_rgl rfl) rfl (pc2 := 35) ?_ ?_
        · intro h13
          refine wp_ic jF_109_39 rfl (pc2 := 40) ?_
          refine wp_ri jF_109_40 rfl ?_
          exact ⟨0, rfl, ⟨by omega, by omega⟩, rfl⟩
        · intro h13; exfalso; omega
      · intro h12
        refine wp_il1 jF_109_19 rfl rfl (pc2 := 20) ?_
        refine wp_al1 jF_109_20 rfl rfl (pc2 := 21) ?_
        refine wp_gr (b := 111) jF_109_21 kd109 (by decide) (c := 5) rfl rfl rfl (pc2 := 24) ?_
        refine wp_il2 jF_109_24 rfl rfl (pc2 := 26) ?_
        have b14 := GI.b hg 111 x2.toNat kd111 (lo := (-1)) (hi := 4) rfl
        refine wp_iald (n := 61) (e := (σ.1 111 x2.toNat)) jF_109_26 kd111 (by decide) rfl rfl (by omega) (by omega) rfl rfl (pc2 := 27) ?_
        refine wp_i_ne jF_109_27 ⟨by omega, by omega⟩ (m_rgb b14 rfl) rfl (pc2 := 30) ?_ ?_
        · intro h15
          refine wp_il1 jF_109_41 rfl rfl (pc2 := 42) ?_
          refine wp_al1 jF_109_42 rfl rfl (pc2 := 43) ?_
          refine wp_gr (b := 110) jF_109_43 kd109 (by decide) (c := 4) rfl rfl rfl (pc2 := 46) ?_
          refine wp_il2 jF_109_46 rfl rfl (pc2 := 48) ?_
          have b16 := GI.b hg 110 x2.toNat kd110 (lo := 0) (hi := 255) rfl
          refine wp_iald (n := 60) (e := (σ.1 110 x2.toNat)) jF_109_48 kd110 (by decide) rfl rfl (by omega) (by omega) rfl rfl (pc2 := 49) ?_
          refine wp_cS (as := [iV x1, iV (σ.1 110 x2.toNat)]) (rest := []) (mx := 4) jF_109_49 rfl rfl rfl rfl (by omega) (by omega) rfl (pc2 := 52) ?_
          refine wp_use (m_78_r σ hg x1 (by omega) (by omega) (σ.1 110 x2.toNat) (by omega) (by omega)  _ _ (by omega) (by omega)) ?_
          rintro _ _ ⟨z19, rfl, h20, rfl⟩
          show WP 109 52 [(0, .ref 109), (1, iV first), (2, iV st0), (3, iV x1), (4, iV x2)] [iV z19] _ _ _ _
          refine wp_is1 (lv2 := [(0, .ref 109), (1, iV first), (2, iV st0), (3, iV z19), (4, iV x2)]) jF_109_52 rfl rfl rfl (pc2 := 53) ?_
          refine wp_inc (lv2 := [(0, .ref 109), (1, iV first), (2, iV st0), (3, iV z19), (4, iV (x2 + 1))]) jF_109_53 rfl rfl rfl rfl (pc2 := 56) ?_
          refine wp_go jF_109_56 ?_
          exact ih8 (z19, (x2 + 1)) σ ⟨⟨by (try dsimp only); omega, by (try dsimp only); omega⟩, ⟨by (try dsimp only); omega, by (try dsimp only); omega⟩, rfl⟩ (by show Int.toNat (61 - (x2 + 1)) < Int.toNat (61 - x2); omega)
        · intro h15
          refine wp_il1 jF_109_30 rfl rfl (pc2 := 31) ?_
          refine wp_ic jF_109_31 rfl (pc2 := 32) ?_
          refine wp_i_eq jF_109_32 ⟨by omega, by omega⟩ (m_rgl rfl) rfl (pc2 := 35) ?_ ?_
          · intro h21; exfalso; omega
          · intro h21
            refine wp_ic jF_109_35 rfl (pc2 := 36) ?_
            refine wp_go jF_109_36 ?_
            refine wp_ri jF_109_40 rfl ?_
            exact ⟨1, rfl, ⟨by omega, by omega⟩, rfl⟩
