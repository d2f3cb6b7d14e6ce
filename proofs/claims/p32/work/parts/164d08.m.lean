set_option maxHeartbeats 4000000 in
set_option maxRecDepth 20000 in
/-- Row.isLawful -/
theorem m_209_r85_20 (σ : jM) (hg : GI σ)   (fr lo : Nat) (hfr : 1 ≤ fr) (hlo : 23 ≤ lo) : WP 209 0 (lv_args 0 [.ref 85, .ref 20]) [] fr lo σ (fun v τ => ∃ z : Int, v = some (iV z) ∧ (0 ≤ z ∧ z ≤ 1) ∧ σ = τ) := by
  show WP 209 0 [(0, .ref 85), (1, .ref 20)] [] _ _ _ _
  refine wp_ic jF_209_0 rfl (pc2 := 1) ?_
  refine wp_is1 (lv2 := [(0, .ref 85), (1, .ref 20), (2, iV 0)]) jF_209_1 rfl rfl rfl (pc2 := 2) ?_
  refine wp_ic jF_209_2 rfl (pc2 := 3) ?_
  refine wp_is1 (lv2 := [(0, .ref 85), (1, .ref 20), (2, iV 0), (3, iV 0)]) jF_209_3 rfl rfl rfl (pc2 := 4) ?_
  refine wp_loop (α := Int × Int) (fun a => [(0, .ref 85), (1, .ref 20), (2, iV (a.1)), (3, iV (a.2))]) (fun a τ => ((-1) ≤ a.1 ∧ a.1 ≤ 4) ∧ (0 ≤ a.2 ∧ a.2 ≤ 60) ∧ σ = τ) (fun a τ => Int.toNat (60 - (a.2))) (0, 0) σ ?_ ?_
  · skip
    exact ⟨⟨by (try dsimp only); omega, by (try dsimp only); omega⟩, ⟨by (try dsimp only); omega, by (try dsimp only); omega⟩, rfl⟩
  · rintro ⟨x1, x2⟩ _ ⟨h3, h4, rfl⟩ ih8
    try dsimp only at h3 h4
    show WP 209 4 [(0, .ref 85), (1, .ref 20), (2, iV x1), (3, iV x2)] [] _ _ _ _
    show WP 209 4 [(0, .ref 85), (1, .ref 20), (2, iV x1), (3, iV x2)] [] _ _ _ _
    refine wp_il1 jF_209_4 rfl rfl (pc2 := 5) ?_
    refine wp_al1 jF_209_5 rfl rfl (pc2 := 6) ?_
    have b9 := GI.b hg 85 1 kd85 (lo := 0) (hi := 60) rfl
    refine wp_gi jF_209_6 kd85 (by decide) rfl rfl rfl (pc2 := 9) ?_
    refine wp_i_ge jF_209_9 (m_rgb h4 rfl) (m_rgb b9 rfl) rfl (pc2 := 12) ?_ ?_
    · intro h10
      refine wp_il1 jF_209_51 rfl rfl (pc2 := 52) ?_
      refine wp_z_ne jF_209_52 (m_rgb h3 rfl) rfl (pc2 := 55) ?_ ?_
      · intro h11
        refine wp_ic jF_209_70 rfl (pc2 := 71) ?_
        refine wp_ri jF_209_71 rfl ?_
        exact ⟨0, rfl, ⟨by omega, by omega⟩, rfl⟩
      · intro h11
        refine wp_al1 jF_209_55 rfl rfl (pc2 := 56) ?_
        have b12 := GI.b hg 85 2 kd85 (lo := (-2147483648)) (hi := 2147483647) rfl
        refine wp_gi jF_209_56 kd85 (by decide) rfl rfl rfl (pc2 := 59) ?_
        refine wp_al1 jF_209_59 rfl rfl (pc2 := 60) ?_
        have b13 := GI.b hg 20 10 kd20 (lo := (-2147483648)) (hi := 2147483647) rfl
        refine wp_gi jF_209_60 kd20 (by decide) rfl rfl rfl (pc2 := 63) ?_
        refine wp_i_gt jF_209_63 (m_rgb b12 rfl) (m_rgb b13 rfl) rfl (pc2 := 66) ?_ ?_
        · intro h14
          refine wp_ic jF_209_70 rfl (pc2 := 71) ?_
          refine wp_ri jF_209_71 rfl ?_
          exact ⟨0, rfl, ⟨by omega, by omega⟩, rfl⟩
        · intro h14
          refine wp_ic jF_209_66 rfl (pc2 := 67) ?_
          refine wp_go jF_209_67 ?_
          refine wp_ri jF_209_71 rfl ?_
          exact ⟨1, rfl, ⟨by omega, by omega⟩, rfl⟩
    · intro h10
      refine wp_il1 jF_209_12 rfl rfl (pc2 := 13) ?_
      refine wp_ic jF_209_13 rfl (pc2 := 14) ?_
      refine wp_i_eq jF_209_14 (m_rgb h3 rfl) (m_rgl rfl) rfl (pc2 := 17) ?_ ?_
      · intro h15
        refine wp_il1 jF_209_51 rfl rfl (pc2 := 52) ?_
        refine wp_z_ne jF_209_52 ⟨by omega, by omega⟩ rfl (pc2 := 55) ?_ ?_
        · intro h16
          refine wp_ic jF_209_70 rfl (pc2 := 71) ?_
          refine wp_ri jF_209_71 rfl ?_
          exact ⟨0, rfl, ⟨by omega, by omega⟩, rfl⟩
        · intro h16; exfalso; omega
      · intro h15
        refine wp_al1 jF_209_17 rfl rfl (pc2 := 18) ?_
        refine wp_al1 jF_209_18 rfl rfl (pc2 := 19) ?_
        refine wp_gr (b := 86) jF_209_19 kd85 (by decide) (c := 4) rfl rfl rfl (pc2 := 22) ?_
        refine wp_il1 jF_209_22 rfl rfl (pc2 := 23) ?_
        have b17 := GI.b hg 86 x2.toNat kd86 (lo := 0) (hi := 255) rfl
        refine wp_iald (n := 60) (e := (σ.1 86 x2.toNat)) jF_209_23 kd86 (by decide) rfl rfl (by omega) (by omega) rfl rfl (pc2 := 24) ?_
        refine wp_cV (as := [iV (σ.1 86 x2.toNat)]) (rest := []) (a := 20) (mx := 2) (ci := 8) jF_209_24 kd20 (by decide) rfl rfl rfl rfl rfl (by omega) (by omega) rfl (pc2 := 27) ?_
        refine wp_use (m_108_r20 σ hg (σ.1 86 x2.toNat) (by omega) (by omega)  _ _ (by omega) (by omega)) ?_
        rintro _ _ ⟨z20, rfl, h21, rfl⟩
        show WP 209 27 [(0, .ref 85), (1, .ref 20), (2, iV x1), (3, iV x2)] [iV z20] _ _ _ _
        refine wp_z_eq jF_209_27 (m_rgb h21 rfl) rfl (pc2 := 30) ?_ ?_
        · intro h22
          refine wp_ic jF_209_43 rfl (pc2 := 44) ?_
          refine wp_is1 (lv2 := [(0, .ref 85), (1, .ref 20), (2, iV (-1)), (3, iV x2)]) jF_209_44 rfl rfl rfl (pc2 := 45) ?_
          refine wp_inc (lv2 := [(0, .ref 85), (1, .ref 20), (2, iV (-1)), (3, iV (x2 + 1))]) jF_209_45 rfl rfl rfl rfl (pc2 := 48) ?_
          refine wp_go jF_209_48 ?_
          exact ih8 ((-1), (x2 + 1)) σ ⟨⟨by (try dsimp only); omega, by (try dsimp only); omega⟩, ⟨by (try dsimp only); omega, by (try dsimp only); omega⟩, rfl⟩ (by show Int.toNat (60 - (x2 + 1)) < Int.toNat (60 - x2); omega)
        · intro h22
          refine wp_il1 jF_209_30 rfl rfl (pc2 := 31) ?_
          refine wp_al1 jF_209_31 rfl rfl (pc2 := 32) ?_
          refine wp_gr (b := 86) jF_209_32 kd85 (by decide) (c := 4) rfl rfl rfl (pc2 := 35) ?_
          refine wp_il1 jF_209_35 rfl rfl (pc2 := 36) ?_
          refine wp_iald (n := 60) (e := (σ.1 86 x2.toNat)) jF_209_36 kd86 (by decide) rfl rfl (by omega) (by omega) rfl rfl (pc2 := 37) ?_
          refine wp_cS (as := [iV x1, iV (σ.1 86 x2.toNat)]) (rest := []) (mx := 4) jF_209_37 rfl rfl rfl rfl (by omega) (by omega) rfl (pc2 := 40) ?_
          refine wp_use (m_78_r σ hg x1 (by omega) (by omega) (σ.1 86 x2.toNat) (by omega) (by omega)  _ _ (by omega) (by omega)) ?_
          rintro _ _ ⟨z25, rfl, h26, rfl⟩
          show WP 209 40 [(0, .ref 85), (1, .ref 20), (2, iV x1), (3, iV x2)] [iV z25] _ _ _ _
          refine wp_go jF_209_40 ?_
          refine wp_is1 (lv2 := [(0, .ref 85), (1, .ref 20), (2, iV z25), (3, iV x2)]) jF_209_44 rfl rfl rfl (pc2 := 45) ?_
          refine wp_inc (lv2 := [(0, .ref 85), (1, .ref 20), (2, iV z25), (3, iV (x2 + 1))]) jF_209_45 rfl rfl rfl rfl (pc2 := 48) ?_
          refine wp_go jF_209_48 ?_
          exact ih8 (z25, (x2 + 1)) σ ⟨⟨by (try dsimp only); omega, by (try dsimp only); omega⟩, ⟨by (try dsimp only); omega, by (try dsimp only); omega⟩, rfl⟩ (by show Int.toNat (60 - (x2 + 1)) < Int.toNat (60 - x2); omega)
set_option maxHeartbeats 4000000 in
set_option maxRecDepth 20000 in
/-- Row.isLawful -/
theorem m_209_r85_45 (σ : jM) (hg : GI σ)   (fr lo : Nat) (hfr : 1 ≤ fr) (hlo : 23 ≤ lo) : WP 209 0 (lv_args 0 [.ref 85, .ref 45]) [] fr lo σ (fun v τ => ∃ z : Int, v = some (iV z) ∧ (0 ≤ z ∧ z ≤ 1) ∧ σ = τ) := by
  show WP 209 0 [(0, .ref 85), (1, .ref 45)] [] _ _ _ _
  refine wp_ic jF_209_0 rfl (pc2 := 1) ?_
  refine wp_is1 (lv2 := [(0, .ref 85), (1, .ref 45), (2, iV 0)]) jF_209_1 rfl rfl rfl (pc2 := 2) ?_
  refine wp_ic jF_209_2 rfl (pc2 := 3) ?_
  refine wp_is1 (lv2 := [(0, .ref 85), (1, .ref 45), (2, iV 0), (3, iV 0)]) jF_209_3 rfl rfl rfl (pc2 := 4) ?_
  refine wp_loop (α := Int × Int) (fun a => [(0, .ref 85), (1, .ref 45), (2, iV (a.1)), (3, iV (a.2))]) (fun a τ => ((-1) ≤ a.1 ∧ a.1 ≤ 4) ∧ (0 ≤ a.2 ∧ a.2 ≤ 60) ∧ σ = τ) (fun a τ => Int.toNat (60 - (a.2))) (0, 0) σ ?_ ?_
  · skip
    exact ⟨⟨by (try dsimp only); omega, by (try dsimp only); omega⟩, ⟨by (try dsimp only); omega, by (try dsimp only); omega⟩, rfl⟩
  · rintro ⟨x1, x2⟩ _ ⟨h3, h4, rfl⟩ ih8
    try dsimp only at h3 h4
    show WP 209 4 [(0, .ref 85), (1, .ref 45), (2, iV x1), (3, iV x2)] [] _ _ _ _
    show WP 209 4 [(0, .ref 85), (1, .ref 45), (2, iV x1), (3, iV x2)] [] _ _ _ _
    refine wp_il1 jF_209_4 rfl rfl (pc2 := 5) ?_
    refine wp_al1 jF_209_5 rfl rfl (pc2 := 6) ?_
    have b9 := GI.b hg 85 1 kd85 (lo := 0) (hi := 60) rfl
    refine wp_gi jF_209_6 kd85 (by decide) rfl rfl rfl (pc2 := 9) ?_
    refine wp_i_ge jF_209_9 (m_rgb h4 rfl) (m_rgb b9 rfl) rfl (pc2 := 12) ?_ ?_
    · intro h10
      refine wp_il1 jF_209_51 rfl rfl (pc2 := 52) ?_
      refine wp_z_ne jF_209_52 (m_rgb h3 rfl) rfl (pc2 := 55) ?_ ?_
      · intro h11
        refine wp_ic jF_209_70 rfl (pc2 := 71) ?_
        refine wp_ri jF_209_71 rfl ?_
        exact ⟨0, rfl, ⟨by omega, by omega⟩, rfl⟩
      · intro h11
        refine wp_al1 jF_209_55 rfl rfl (pc2 := 56) ?_
        have b12 := GI.b hg 85 2 kd85 (lo := (-2147483648)) (hi := 2147483647) rfl
        refine wp_gi jF_209_56 kd85 (by decide) rfl rfl rfl (pc2 := 59) ?_
        refine wp_al1 jF_209_59 rfl rfl (pc2 := 60) ?_
        have b13 := GI.b hg 45 10 kd45 (lo := (-2147483648)) (hi := 2147483647) rfl
        refine wp_gi jF_209_60 kd45 (by decide) rfl rfl rfl (pc2 := 63) ?_
        refine wp_i_gt jF_209_63 (m_rgb b12 rfl) (m_rgb b13 rfl) rfl (pc2 := 66) ?_ ?_
        · intro h14
          refine wp_ic jF_209_70 rfl (pc2 := 71) ?_
          refine wp_ri jF_209_71 rfl ?_
          exact ⟨0, rfl, ⟨by omega, by omega⟩, rfl⟩
        · intro h14
          refine wp_ic jF_209_66 rfl (pc2 := 67) ?_
          refine wp_go jF_209_67 ?_
          refine wp_ri jF_209_71 rfl ?_
          exact ⟨1, rfl, ⟨by omega, by omega⟩, rfl⟩
    · intro h10
      refine wp_il1 jF_209_12 rfl rfl (pc2 := 13) ?_
      refine wp_ic jF_209_13 rfl (pc2 := 14) ?_
      refine wp_i_eq jF_209_14 (m_rgb h3 rfl) (m_rgl rfl) rfl (pc2 := 17) ?_ ?_
      · intro h15
        refine wp_il1 jF_209_51 rfl rfl (pc2 := 52) ?_
        refine wp_z_ne jF_209_52 ⟨by omega, by omega⟩ rfl (pc2 := 55) ?_ ?_
        · intro h16
          refine wp_ic jF_209_70 rfl (pc2 := 71) ?_
          refine wp_ri jF_209_71 rfl ?_
          exact ⟨0, rfl, ⟨by omega, by omega⟩, rfl⟩
        · intro h16; exfalso; omega
      · intro h15
        refine wp_al1 jF_209_17 rfl rfl (pc2 := 18) ?_
        refine wp_al1 jF_209_18 rfl rfl (pc2 := 19) ?_
        refine wp_gr (b := 86) jF_209_19 kd85 (by decide) (c := 4) rfl rfl rfl (pc2 := 22) ?_
        refine wp_il1 jF_209_22 rfl rfl (pc2 := 23) ?_
        have b17 := GI.b hg 86 x2.toNat kd86 (lo := 0) (hi := 255) rfl
        refine wp_iald (n := 60) (e := (σ.1 86 x2.toNat)) jF_209_23 kd86 (by decide) rfl rfl (by omega) (by omega) rfl rfl (pc2 := 24) ?_
        refine wp_cV (as := [iV (σ.1 86 x2.toNat)]) (rest := []) (a := 45) (mx := 2) (ci := 8) jF_209_24 kd45 (by decide) rfl rfl rfl rfl rfl (by omega) (by omega) rfl (pc2 := 27) ?_
        refine wp_use (m_108_r45 σ hg (σ.1 86 x2.toNat) (by omega) (by omega)  _ _ (by omega) (by omega)) ?_
        rintro _ _ ⟨z20, rfl, h21, rfl⟩
        show WP 209 27 [(0, .ref 85), (1, .ref 45), (2, iV x1), (3, iV x2)] [iV z20] _ _ _ _
        refine wp_z_eq jF_209_27 (m_rgb h21 rfl) rfl (pc2 := 30) ?_ ?_
        · intro h22
          refine wp_ic jF_209_43 rfl (pc2 := 44) ?_
          refine wp_is1 (lv2 := [(0, .ref 85), (1, .ref 45), (2, iV (-1)), (3, iV x2)]) jF_209_44 rfl rfl rfl (pc2 := 45) ?_
          refine wp_inc (lv2 := [(0, .ref 85), (1, .ref 45), (2, iV (-1)), (3, iV (x2 + 1))]) jF_209_45 rfl rfl rfl rfl (pc2 := 48) ?_
          refine wp_go jF_209_48 ?_
          exact ih8 ((-1), (x2 + 1)) σ ⟨⟨by (try dsimp only); omega, by (try dsimp only); omega⟩, ⟨by (try dsimp only); omega, by (try dsimp only); omega⟩, rfl⟩ (by show Int.toNat (60 - (x2 + 1)) < Int.toNat (60 - x2); omega)
        · intro h22
          refine wp_il1 jF_209_30 rfl rfl (pc2 := 31) ?_
          refine wp_al1 jF_209_31 rfl rfl (pc2 := 32) ?_
          refine wp_gr (b := 86) jF_209_32 kd85 (by decide) (c := 4) rfl rfl rfl (pc2 := 35) ?_
          refine wp_il1 jF_209_35 rfl rfl (pc2 := 36) ?_
          refine wp_iald (n := 60) (e := (σ.1 86 x2.toNat)) jF_209_36 kd86 (by decide) rfl rfl (by omega) (by omega) rfl rfl (pc2 := 37) ?_
          refine wp_cS (as := [iV x1, iV (σ.1 86 x2.toNat)]) (rest := []) (mx := 4) jF_209_37 rfl rfl rfl rfl (by omega) (by omega) rfl (pc2 := 40) ?_
          refine wp_use (m_78_r σ hg x1 (by omega) (by omega) (σ.1 86 x2.toNat) (by omega) (by omega)  _ _ (by omega) (by omega)) ?_
          rintro _ _ ⟨z25, rfl, h26, rfl⟩
          show WP 209 40 [(0, .ref 85), (1, .ref 45), (2, iV x1), (3, iV x2)] [iV z25] _ _ _ _
          refine wp_go jF_209_40 ?_
          refine wp_is1 (lv2 := [(0, .ref 85), (1, .ref 45), (2, iV z25), (3, iV x2)]) jF_209_44 rfl rfl rfl (pc2 := 45) ?_
          refine wp_inc (lv2 := [(0, .ref 85), (1, .ref 45), (2, iV z25), (3, iV (x2 + 1))]) jF_209_45 rfl rfl rfl rfl (pc2 := 48) ?_
          refine wp_go jF_209_48 ?_
          exact ih8 (z25, (x2 + 1)) σ ⟨⟨by (try dsimp only); omega, by (try dsimp only); omega⟩, ⟨by (try dsimp only); omega, by (try dsimp only); omega⟩, rfl⟩ (by show Int.toNat (60 - (x2 + 1)) < Int.toNat (60 - x2); omega)
set_option maxHeartbeats 4000000 in
set_option maxRecDepth 20000 in
/-- Row.isSame -/
theorem m_146_r70_75 (σ : jM) (hg : GI σ)   (fr lo : Nat) (hfr : 0 ≤ fr) (hlo : 0 ≤ lo) : WP 146 0 (lv_args 0 [.ref 70, .ref 75]) [] fr lo σ (fun v τ => ∃ z : Int, v = some (iV z) ∧ (0 ≤ z ∧ z ≤ 1) ∧ σ = τ) := by
  show WP 146 0 [(0, .ref 70), (1, .ref 75)] [] _ _ _ _
  refine wp_al1 jF_146_0 rfl rfl (pc2 := 1) ?_
  have b1 := GI.b hg 70 1 kd70 (lo := 0) (hi := 60) rfl
  refine wp_gi jF_146_1 kd70 (by decide) rfl rfl rfl (pc2 := 4) ?_
  refine wp_al1 jF_146_4 rfl rfl (pc2 := 5) ?_
  have b2 := GI.b hg 75 1 kd75 (lo := 0) (hi := 60) rfl
  refine wp_gi jF_146_5 kd75 (by decide) rfl rfl rfl (pc2 := 8) ?_
  refine wp_i_ne jF_146_8 (m_rgb b1 rfl) (m_rgb b2 rfl) rfl (pc2 := 11) ?_ ?_
  · intro h3
    refine wp_ic jF_146_15 rfl (pc2 := 16) ?_
    refine wp_is1 (lv2 := [(0, .ref 70), (1, .ref 75), (2, iV 0)]) jF_146_16 rfl rfl rfl (pc2 := 17) ?_
    refine wp_ic jF_146_17 rfl (pc2 := 18) ?_
    refine wp_is1 (lv2 := [(0, .ref 70), (1, .ref 75), (2, iV 0), (3, iV 0)]) jF_146_18 rfl rfl rfl (pc2 := 19) ?_
    refine wp_loop (α := Int × Int) (fun a => [(0, .ref 70), (1, .ref 75), (2, iV (a.1)), (3, iV (a.2))]) (fun a τ => (0 ≤ a.1 ∧ a.1 ≤ 1) ∧ (0 ≤ a.2 ∧ a.2 ≤ 60) ∧ σ = τ) (fun a τ => Int.toNat (60 - (a.2))) (0, 0) σ ?_ ?_
    · skip
      exact ⟨⟨by (try dsimp only); omega, by (try dsimp only); omega⟩, ⟨by (try dsimp only); omega, by (try dsimp only); omega⟩, rfl⟩
    · rintro ⟨x4, x5⟩ _ ⟨h6, h7, rfl⟩ ih11
      try dsimp only at h6 h7
      show WP 146 19 [(0, .ref 70), (1, .ref 75), (2, iV x4), (3, iV x5)] [] _ _ _ _
      show WP 146 19 [(0, .ref 70), (1, .ref 75), (2, iV x4), (3, iV x5)] [] _ _ _ _
      refine wp_il1 jF_146_19 rfl rfl (pc2 := 20) ?_
      refine wp_al1 jF_146_20 rfl rfl (pc2 := 21) ?_
      refine wp_gi jF_146_21 kd70 (by decide) rfl rfl rfl (pc2 := 24) ?_
      refine wp_i_ge jF_146_24 (m_rgb h7 rfl) (m_rgb b1 rfl) rfl (pc2 := 27) ?_ ?_
      · intro h12
        refine wp_il1 jF_146_58 rfl rfl (pc2 := 59) ?_
        refine wp_ri jF_146_59 (m_fitb (by omega) (by omega)) ?_
        exact ⟨x4, rfl, ⟨by omega, by omega⟩, rfl⟩
      · intro h12
        refine wp_il1 jF_146_27 rfl rfl (pc2 := 28) ?_
        refine wp_z_eq jF_146_28 (m_rgb h6 rfl) rfl (pc2 := 31) ?_ ?_
        · intro h13
          refine wp_il1 jF_146_58 rfl rfl (pc2 := 59) ?_
          refine wp_ri jF_146_59 (m_fitb (by omega) (by omega)) ?_
          exact ⟨x4, rfl, ⟨by omega, by omega⟩, rfl⟩
        · intro h13
          refine wp_al1 jF_146_31 rfl rfl (pc2 := 32) ?_
          refine wp_gr (b := 71) jF_146_32 kd70 (by decide) (c := 4) rfl rfl rfl (pc2 := 35) ?_
          refine wp_il1 jF_146_35 rfl rfl (pc2 := 36) ?_
          have b14 := GI.b hg 71 x5.toNat kd71 (lo := 0) (hi := 255) rfl
          refine wp_iald (n := 60) (e := (σ.1 71 x5.toNat)) jF_146_36 kd71 (by decide) rfl rfl (by omega) (by omega) rfl rfl (pc2 := 37) ?_
          refine wp_al1 jF_146_37 rfl rfl (pc2 := 38) ?_
          refine wp_gr (b := 76) jF_146_38 kd75 (by decide) (c := 4) rfl rfl rfl (pc2 := 41) ?_
          refine wp_il1 jF_146_41 rfl rfl (pc2 := 42) ?_
          have b15 := GI.b hg 76 x5.toNat kd76 (lo := 0) (hi := 255) rfl
          refine wp_iald (n := 60) (e := (σ.1 76 x5.toNat)) jF_146_42 kd76 (by decide) rfl rfl (by omega) (by omega) rfl rfl (pc2 := 43) ?_
          refine wp_i_ne jF_146_43 (m_rgb b14 rfl) (m_rgb b15 rfl) rfl (pc2 := 46) ?_ ?_
          · intro h16
            refine wp_ic jF_146_50 rfl (pc2 := 51) ?_
            refine wp_is1 (lv2 := [(0, .ref 70), (1, .ref 75), (2, iV 0), (3, iV x5)]) jF_146_51 rfl rfl rfl (pc2 := 52) ?_
            refine wp_inc (lv2 := [(0, .ref 70), (1, .ref 75), (2, iV 0), (3, iV (x5 + 1))]) jF_146_52 rfl rfl rfl rfl (pc2 := 55) ?_
            refine wp_go jF_146_55 ?_
            exact ih11 (0, (x5 + 1)) σ ⟨⟨by (try dsimp only); omega, by (try dsimp only); omega⟩, ⟨by (try dsimp only); omega, by (try dsimp only); omega⟩, rfl⟩ (by show Int.toNat (60 - (x5 + 1)) < Int.toNat (60 - x5); omega)
          · intro h16
            refine wp_ic jF_146_46 rfl (pc2 := 47) ?_
            refine wp_go jF_146_47 ?_
            refine wp_is1 (lv2 := [(0, .ref 70), (1, .ref 75), (2, iV 1), (3, iV x5)]) jF_146_51 rfl rfl rfl (pc2 := 52) ?_
            refine wp_inc (lv2 := [(0, .ref 70), (1, .ref 75), (2, iV 1), (3, iV (x5 + 1))]) jF_146_52 rfl rfl rfl rfl (pc2 := 55) ?_
            refine wp_go jF_146_55 ?_
            exact ih11 (1, (x5 + 1)) σ ⟨⟨by (try dsimp only); omega, by (try dsimp only); omega⟩, ⟨by (try dsimp only); omega, by (try dsimp only); omega⟩, rfl⟩ (by show Int.toNat (60 - (x5 + 1)) < Int.toNat (60 - x5); omega)
  · intro h3
    refine wp_ic jF_146_11 rfl (pc2 := 12) ?_
    refine wp_go jF_146_12 ?_
    refine wp_is1 (lv2 := [(0, .ref 70), (1, .ref 75), (2, iV 1)]) jF_146_16 rfl rfl rfl (pc2 := 17) ?_
    refine wp_ic jF_146_17 rfl (pc2 := 18) ?_
    refine wp_is1 (lv2 := [(0, .ref 70), (1, .ref 75), (2, iV 1), (3, iV 0)]) jF_146_18 rfl rfl rfl (pc2 := 19) ?_
    refine wp_loop (α := Int × Int) (fun a => [(0, .ref 70), (1, .ref 75), (2, iV (a.1)), (3, iV (a.2))]) (fun a τ => (0 ≤ a.1 ∧ a.1 ≤ 1) ∧ (0 ≤ a.2 ∧ a.2 ≤ 60) ∧ σ = τ) (fun a τ => Int.toNat (60 - (a.2))) (1, 0) σ ?_ ?_
    · skip
      exact ⟨⟨by (try dsimp only); omega, by (try dsimp only); omega⟩, ⟨by (try dsimp only); omega, by (try dsimp only); omega⟩, rfl⟩
    · rintro ⟨x17, x18⟩ _ ⟨h19, h20, rfl⟩ ih24
      try dsimp only at h19 h20
      show WP 146 19 [(0, .ref 70), (1, .ref 75), (2, iV x17), (3, iV x18)] [] _ _ _ _
      show WP 146 19 [(0, .ref 70), (1, .ref 75), (2, iV x17), (3, iV x18)] [] _ _ _ _
      refine wp_il1 jF_146_19 rfl rfl (pc2 := 20) ?_
      refine wp_al1 jF_146_20 rfl rfl (pc2 := 21) ?_
      refine wp_gi jF_146_21 kd70 (by decide) rfl rfl rfl (pc2 := 24) ?_
      refine wp_i_ge jF_146_24 (m_rgb h20 rfl) (m_rgb b1 rfl) rfl (pc2 := 27) ?_ ?_
      · intro h25
        refine wp_il1 jF_146_58 rfl rfl (pc2 := 59) ?_
        refine wp_ri jF_146_59 (m_fitb (by omega) (by omega)) ?_
        exact ⟨x17, rfl, ⟨by omega, by omega⟩, rfl⟩
      · intro h25
        refine wp_il1 jF_146_27 rfl rfl (pc2 := 28) ?_
        refine wp_z_eq jF_146_28 (m_rgb h19 rfl) rfl (pc2 := 31) ?_ ?_
        · intro h26
          refine wp_il1 jF_146_58 rfl rfl (pc2 := 59) ?_
          refine wp_ri jF_146_59 (m_fitb (by omega) (by omega)) ?_
          exact ⟨x17, rfl, ⟨by omega, by omega⟩, rfl⟩
        · intro h26
          refine wp_al1 jF_146_31 rfl rfl (pc2 := 32) ?_
          refine wp_gr (b := 71) jF_146_32 kd70 (by decide) (c := 4) rfl rfl rfl (pc2 := 35) ?_
          refine wp_il1 jF_146_35 rfl rfl (pc2 := 36) ?_
          have b27 := GI.b hg 71 x18.toNat kd71 (lo := 0) (hi := 255) rfl
          refine wp_iald (n := 60) (e := (σ.1 71 x18.toNat)) jF_146_36 kd71 (by decide) rfl rfl (by omega) (by omega) rfl rfl (pc2 := 37) ?_
          refine wp_al1 jF_146_37 rfl rfl (pc2 := 38) ?_
          refine wp_gr (b := 76) jF_146_38 kd75 (by decide) (c := 4) rfl rfl rfl (pc2 := 41) ?_
          refine wp_il1 jF_146_41 rfl rfl (pc2 := 42) ?_
          have b28 := GI.b hg 76 x18.toNat kd76 (lo := 0) (hi := 255) rfl
          refine wp_iald (n := 60) (e := (σ.1 76 x18.toNat)) jF_146_42 kd76 (by decide) rfl rfl (by omega) (by omega) rfl rfl (pc2 := 43) ?_
          refine wp_i_ne jF_146_43 (m_rgb b27 rfl) (m_rgb b28 rfl) rfl (pc2 := 46) ?_ ?_
          · intro h29
            refine wp_ic jF_146_50 rfl (pc2 := 51) ?_
            refine wp_is1 (lv2 := [(0, .ref 70), (1, .ref 75), (2, iV 0), (3, iV x18)]) jF_146_51 rfl rfl rfl (pc2 := 52) ?_
            refine wp_inc (lv2 := [(0, .ref 70), (1, .ref 75), (2, iV 0), (3, iV (x18 + 1))]) jF_146_52 rfl rfl rfl rfl (pc2 := 55) ?_
            refine wp_go jF_146_55 ?_
            exact ih24 (0, (x18 + 1)) σ ⟨⟨by (try dsimp only); omega, by (try dsimp only); omega⟩, ⟨by (try dsimp only); omega, by (try dsimp only); omega⟩, rfl⟩ (by show Int.toNat (60 - (x18 + 1)) < Int.toNat (60 - x18); omega)
          · intro h29
            refine wp_ic jF_146_46 rfl (pc2 := 47) ?_
            refine wp_go jF_146_47 ?_
            refine wp_is1 (lv2 := [(0, .ref 70), (1, .ref 75), (2, iV 1), (3, iV x18)]) jF_146_51 rfl rfl rfl (pc2 := 52) ?_
            refine wp_inc (lv2 := [(0, .ref 70), (1, .ref 75), (2, iV 1), (3, iV (x18 + 1))]) jF_146_52 rfl rfl rfl rfl (pc2 := 55) ?_
            refine wp_go jF_146_55 ?_
            exact ih24 (1, (x18 + 1)) σ ⟨⟨by (try dsimp only); omega, by (try dsimp only); omega⟩, ⟨by (try dsimp only); omega, by (try dsimp only); omega⟩, rfl⟩ (by show Int.toNat (60 - (x18 + 1)) < Int.toNat (60 - x18); omega)
set_option maxHeartbeats 4000000 in
set_option maxRecDepth 20000 in
/-- Row.idleSentences -/
theorem m_97_r70 (σ : jM) (hg : GI σ)   (fr lo : Nat) (hfr : 1 ≤ fr) (hlo : 20 ≤ lo) : WP 97 0 (lv_args 0 [.ref 70]) [] fr lo σ (fun v τ => ∃ z : Int, v = some (iV z) ∧ ((-2147483648) ≤ z ∧ z ≤ 2147483647) ∧ σ = τ) := by
  show WP 97 0 [(0, .ref 70)] [] _ _ _ _
  refine wp_ic jF_97_0 rfl (pc2 := 1) ?_
  refine wp_is1 (lv2 := [(0, .ref 70), (1, iV 0)]) jF_97_1 rfl rfl rfl (pc2 := 2) ?_
  refine wp_ic jF_97_2 rfl (pc2 := 3) ?_
  refine wp_is1 (lv2 := [(0, .ref 70), (1, iV 0), (2, iV 0)]) jF_97_3 rfl rfl rfl (pc2 := 4) ?_
  refine wp_loop (α := Int × Int) (fun a => [(0, .ref 70), (1, iV (a.1)), (2, iV (a.2))]) (fun a τ => ((-2147483648) ≤ a.1 ∧ a.1 ≤ 2147483647) ∧ (0 ≤ a.2 ∧ a.2 ≤ 30) ∧ σ = τ) (fun a τ => Int.toNat (30 - (a.2))) (0, 0) σ ?_ ?_
  · skip
    exact ⟨⟨by (try dsimp only); omega, by (try dsimp only); omega⟩, ⟨by (try dsimp only); omega, by (try dsimp only); omega⟩, rfl⟩
  · rintro ⟨x1, x2⟩ _ ⟨h3, h4, rfl⟩ ih8
    try dsimp only at h3 h4
    show WP 97 4 [(0, .ref 70), (1, iV x1), (2, iV x2)] [] _ _ _ _
    show WP 97 4 [(0, .ref 70), (1, iV x1), (2, iV x2)] [] _ _ _ _
    refine wp_il1 jF_97_4 rfl rfl (pc2 := 5) ?_
    refine wp_al1 jF_97_5 rfl rfl (pc2 := 6) ?_
    have b9 := GI.b hg 70 6 kd70 (lo := 0) (hi := 30) rfl
    refine wp_gi jF_97_6 kd70 (by decide) rfl rfl rfl (pc2 := 9) ?_
    refine wp_i_ge jF_97_9 (m_rgb h4 rfl) (m_rgb b9 rfl) rfl (pc2 := 12) ?_ ?_
    · intro h10
      refine wp_il1 jF_97_78 rfl rfl (pc2 := 79) ?_
      refine wp_ri jF_97_79 rfl ?_
      exact ⟨x1, rfl, ⟨by omega, by omega⟩, rfl⟩
    · intro h10
      refine wp_lc jF_97_12 rfl (pc2 := 13) ?_
      refine wp_ls1 (lv2 := [(0, .ref 70), (1, iV x1), (2, iV x2), (3, .long (Int64.ofNat 0))]) jF_97_13 rfl rfl rfl (pc2 := 14) ?_
      refine wp_ic jF_97_14 rfl (pc2 := 15) ?_
      refine wp_is2 (lv2 := [(0, .ref 70), (1, iV x1), (2, iV x2), (3, .long (Int64.ofNat 0)), (5, iV 0)]) jF_97_15 rfl rfl rfl (pc2 := 17) ?_
      refine wp_loop (α := Int64 × Int) (fun a => [(0, .ref 70), (1, iV x1), (2, iV x2), (3, .long (a.1)), (5, iV (a.2))]) (fun a τ => (0 ≤ a.2 ∧ a.2 ≤ 30) ∧ σ = τ) (fun a τ => Int.toNat (30 - (a.2))) ((Int64.ofNat 0), 0) σ ?_ ?_
      · skip
        exact ⟨⟨by (try dsimp only); omega, by (try dsimp only); omega⟩, rfl⟩
      · rintro ⟨y11, x12⟩ _ ⟨h13, rfl⟩ ih17
        try dsimp only at h13
        show WP 97 17 [(0, .ref 70), (1, iV x1), (2, iV x2), (3, .long y11), (5, iV x12)] [] _ _ _ _
        show WP 97 17 [(0, .ref 70), (1, iV x1), (2, iV x2), (3, .long y11), (5, iV x12)] [] _ _ _ _
        refine wp_il2 jF_97_17 rfl rfl (pc2 := 19) ?_
        refine wp_al1 jF_97_19 rfl rfl (pc2 := 20) ?_
        refine wp_gi jF_97_20 kd70 (by decide) rfl rfl rfl (pc2 := 23) ?_
        refine wp_i_ge jF_97_23 (m_rgb h13 rfl) (m_rgb b9 rfl) rfl (pc2 := 26) ?_ ?_
        · intro h18
          refine wp_il1 jF_97_52 rfl rfl (pc2 := 53) ?_
          refine wp_ll1 jF_97_53 rfl rfl (pc2 := 54) ?_
          refine wp_al1 jF_97_54 rfl rfl (pc2 := 55) ?_
          refine wp_glA jF_97_55 kd70 (by decide) rfl rfl (pc2 := 58) ?_
          intro y19
          refine wp_anyL (pc2 := 59) jF_97_58 rfl rfl ?_
          intro z20 h21
          refine wp_z_ne jF_97_59 (m_rgb h21 rfl) rfl (pc2 := 62) ?_ ?_
          · intro h22
            refine wp_ic jF_97_66 rfl (pc2 := 67) ?_
            refine wp_cS (as := [iV 0]) (rest := [iV x1]) (mx := 1) jF_97_67 rfl rfl rfl rfl (by omega) (by omega) rfl (pc2 := 70) ?_
            show WP 98 0 [(0, iV 0)] [] _ _ _ _
            refine wp_il1 jF_98_0 rfl rfl (pc2 := 1) ?_
            refine wp_z_eq jF_98_1 (m_rgl rfl) rfl (pc2 := 4) ?_ ?_
            · intro h23
              refine wp_ic jF_98_8 rfl (pc2 := 9) ?_
              refine wp_ri jF_98_9 rfl ?_
              show WP 97 70 [(0, .ref 70), (1, iV x1), (2, iV x2), (3, .long y11), (5, iV x12)] [iV 0, iV x1] _ _ _ _
              refine wp_add jF_97_70 rfl (pc2 := 71) ?_
              refine wp_is1 (lv2 := [(0, .ref 70), (1, iV (x1 + 0)), (2, iV x2), (3, .long y11), (5, iV x12)]) jF_97_71 rfl rfl rfl (pc2 := 72) ?_
              refine wp_inc (lv2 := [(0, .ref 70), (1, iV (x1 + 0)), (2, iV (x2 + 1)), (3, .long y11), (5, iV x12)]) jF_97_72 rfl rfl rfl rfl (pc2 := 75) ?_
              refine wp_go jF_97_75 ?_
              refine wp_less [0, 1, 2] (lv2 := [(0, .ref 70), (1, iV (x1 + 0)), (2, iV (x2 + 1))]) rfl rfl ?_
              exact ih8 ((x1 + 0), (x2 + 1)) σ ⟨⟨by (try dsimp only); omega, by (try dsimp only); omega⟩, ⟨by (try dsimp only); omega, by (try dsimp only); omega⟩, rfl⟩ (by show Int.toNat (30 - (x2 + 1)) < Int.toNat (30 - x2); omega)
            · intro h23; exfalso; omega
          · intro h22
            refine wp_ic jF_97_62 rfl (pc2 := 63) ?_
            refine wp_go jF_97_63 ?_
            refine wp_cS (as := [iV 1]) (rest := [iV x1]) (mx := 1) jF_97_67 rfl rfl rfl rfl (by omega) (by omega) rfl (pc2 := 70) ?_
            show WP 98 0 [(0, iV 1)] [] _ _ _ _
            refine wp_il1 jF_98_0 rfl rfl (pc2 := 1) ?_
            refine wp_z_eq jF_98_1 (m_rgl rfl) rfl (pc2 := 4) ?_ ?_
            · intro h24; exfalso; omega
            · intro h24
              refine wp_ic jF_98_4 rfl (pc2 := 5) ?_
              refine wp_go jF_98_5 ?_
              refine wp_ri jF_98_9 rfl ?_
              show WP 97 70 [(0, .ref 70), (1, iV x1), (2, iV x2), (3, .long y11), (5, iV x12)] [iV 1, iV x1] _ _ _ _
              refine wp_any2 (pc2 := 71) jF_97_70 rfl rfl ?_
              intro z25 h26
              refine wp_is1 (lv2 := [(0, .ref 70), (1, iV z25), (2, iV x2), (3, .long y11), (5, iV x12)]) jF_97_71 rfl rfl rfl (pc2 := 72) ?_
              refine wp_inc (lv2 := [(0, .ref 70), (1, iV z25), (2, iV (x2 + 1)), (3, .long y11), (5, iV x12)]) jF_97_72 rfl rfl rfl rfl (pc2 := 75) ?_
              refine wp_go jF_97_75 ?_
              refine wp_less [0, 1, 2] (lv2 := [(0, .ref 70), (1, iV z25), (2, iV (x2 + 1))]) rfl rfl ?_
              exact ih8 (z25, (x2 + 1)) σ ⟨⟨by (try dsimp only); omega, by (try dsimp only); omega⟩, ⟨by (try dsimp only); omega, by (try dsimp only); omega⟩, rfl⟩ (by show Int.toNat (30 - (x2 + 1)) < Int.toNat (30 - x2); omega)
        · intro h18
          refine wp_ll1 jF_97_26 rfl rfl (pc2 := 27) ?_
          refine wp_il2 jF_97_27 rfl rfl (pc2 := 29) ?_
          refine wp_il1 jF_97_29 rfl rfl (pc2 := 30) ?_
          refine wp_i_ne jF_97_30 ⟨by omega, by omega⟩ ⟨by omega, by omega⟩ rfl (pc2 := 33) ?_ ?_
          · intro h27
            refine wp_al1 jF_97_37 rfl rfl (pc2 := 38) ?_
            refine wp_gr (b := 74) jF_97_38 kd70 (by decide) (c := 7) rfl rfl rfl (pc2 := 41) ?_
            refine wp_il2 jF_97_41 rfl rfl (pc2 := 43) ?_
            refine wp_lald (n := 30) jF_97_43 kd74 (by decide) rfl rfl (by omega) (by omega) rfl (pc2 := 44) ?_
            intro y28
            refine wp_lng (pc2 := 45) jF_97_44 rfl rfl ?_
            intro y29
            refine wp_ls1 (lv2 := [(0, .ref 70), (1, iV x1), (2, iV x2), (3, .long y29), (5, iV x12)]) jF_97_45 rfl rfl rfl (pc2 := 46) ?_
            refine wp_inc (lv2 := [(0, .ref 70), (1, iV x1), (2, iV x2), (3, .long y29), (5, iV (x12 + 1))]) jF_97_46 rfl rfl rfl rfl (pc2 := 49) ?_
            refine wp_go jF_97_49 ?_
            exact ih17 (y29, (x12 + 1)) σ ⟨⟨by (try dsimp only); omega, by (try dsimp only); omega⟩, rfl⟩ (by show Int.toNat (30 - (x12 + 1)) < Int.toNat (30 - x12); omega)
          · intro h27
            refine wp_lc jF_97_33 rfl (pc2 := 34) ?_
            refine wp_go jF_97_34 ?_
            refine wp_lng (pc2 := 45) jF_97_44 rfl rfl ?_
            intro y30
            refine wp_ls1 (lv2 := [(0, .ref 70), (1, iV x1), (2, iV x2), (3, .long y30), (5, iV x12)]) jF_97_45 rfl rfl rfl (pc2 := 46) ?_
            refine wp_inc (lv2 := [(0, .ref 70), (1, iV x1), (2, iV x2), (3, .long y30), (5, iV (x12 + 1))]) jF_97_46 rfl rfl rfl rfl (pc2 := 49) ?_
            refine wp_go jF_97_49 ?_
            exact ih17 (y30, (x12 + 1)) σ ⟨⟨by (try dsimp only); omega, by (try dsimp only); omega⟩, rfl⟩ (by show Int.toNat (30 - (x12 + 1)) < Int.toNat (30 - x12); omega)
set_option maxHeartbeats 4000000 in
set_option maxRecDepth 20000 in
/-- Row.idleSentences -/
theorem m_97_r75 (σ : jM) (hg : GI σ)   (fr lo : Nat) (hfr : 1 ≤ fr) (hlo : 20 ≤ lo) : WP 97 0 (lv_args 0 [.ref 75]) [] fr lo σ (fun v τ => ∃ z : Int, v = some (iV z) ∧ ((-2147483648) ≤ z ∧ z ≤ 2147483647) ∧ σ = τ) := by
  show WP 97 0 [(0, .ref 75)] [] _ _ _ _
  refine wp_ic jF_97_0 rfl (pc2 := 1) ?_
  refine wp_is1 (lv2 := [(0, .ref 75), (1, iV 0)]) jF_97_1 rfl rfl rfl (pc2 := 2) ?_
  refine wp_ic jF_97_2 rfl (pc2 := 3) ?_
  refine wp_is1 (lv2 := [(0, .ref 75), (1, iV 0), (2, iV 0)]) jF_97_3 rfl rfl rfl (pc2 := 4) ?_
  refine wp_loop (α := Int × Int) (fun a => [(0, .ref 75), (1, iV (a.1)), (2, iV (a.2))]) (fun a τ => ((-2147483648) ≤ a.1 ∧ a.1 ≤ 2147483647) ∧ (0 ≤ a.2 ∧ a.2 ≤ 30) ∧ σ = τ) (fun a τ => Int.toNat (30 - (a.2))) (0, 0) σ ?_ ?_
  · skip
    exact ⟨⟨by (try dsimp only); omega, by (try dsimp only); omega⟩, ⟨by (try dsimp only); omega, by (try dsimp only); omega⟩, rfl⟩
  · rintro ⟨x1, x2⟩ _ ⟨h3, h4, rfl⟩ ih8
    try dsimp only at h3 h4
    show WP 97 4 [(0, .ref 75), (1, iV x1), (2, iV x2)] [] _ _ _ _
    show WP 97 4 [(0, .ref 75), (1, iV x1), (2, iV x2)] [] _ _ _ _
    refine wp_il1 jF_97_4 rfl rfl (pc2 := 5) ?_
    refine wp_al1 jF_97_5 rfl rfl (pc2 := 6) ?_
    have b9 := GI.b hg 75 6 kd75 (lo := 0) (hi := 30) rfl
    refine wp_gi jF_97_6 kd75 (by decide) rfl rfl rfl (pc2 := 9) ?_
    refine wp_i_ge jF_97_9 (m_rgb h4 rfl) (m_rgb b9 rfl) rfl (pc2 := 12) ?_ ?_
    · intro h10
      refine wp_il1 jF_97_78 rfl rfl (pc2 := 79) ?_
      refine wp_ri jF_97_79 rfl ?_
      exact ⟨x1, rfl, ⟨by omega, by omega⟩, rfl⟩
    · intro h10
      refine wp_lc jF_97_12 rfl (pc2 := 13) ?_
      refine wp_ls1 (lv2 := [(0, .ref 75), (1, iV x1), (2, iV x2), (3, .long (Int64.ofNat 0))]) jF_97_13 rfl rfl rfl (pc2 := 14) ?_
      refine wp_ic jF_97_14 rfl (pc2 := 15) ?_
      refine wp_is2 (lv2 := [(0, .ref 75), (1, iV x1), (2, iV x2), (3, .long (Int64.ofNat 0)), (5, iV 0)]) jF_97_15 rfl rfl rfl (pc2 := 17) ?_
      refine wp_loop (α := Int64 × Int) (fun a => [(0, .ref 75), (1, iV x1), (2, iV x2), (3, .long (a.1)), (5, iV (a.2))]) (fun a τ => (0 ≤ a.2 ∧ a.2 ≤ 30) ∧ σ = τ) (fun a τ => Int.toNat (30 - (a.2))) ((Int64.ofNat 0), 0) σ ?_ ?_
      · skip
        exact ⟨⟨by (try dsimp only); omega, by (try dsimp only); omega⟩, rfl⟩
      · rintro ⟨y11, x12⟩ _ ⟨h13, rfl⟩ ih17
        try dsimp only at h13
        show WP 97 17 [(0, .ref 75), (1, iV x1), (2, iV x2), (3, .long y11), (5, iV x12)] [] _ _ _ _
        show WP 97 17 [(0, .ref 75), (1, iV x1), (2, iV x2), (3, .long y11), (5, iV x12)] [] _ _ _ _
        refine wp_il2 jF_97_17 rfl rfl (pc2 := 19) ?_
        refine wp_al1 jF_97_19 rfl rfl (pc2 := 20) ?_
        refine wp_gi jF_97_20 kd75 (by decide) rfl rfl rfl (pc2 := 23) ?_
        refine wp_i_ge jF_97_23 (m_rgb h13 rfl) (m_rgb b9 rfl) rfl (pc2 := 26) ?_ ?_
        · intro h18
          refine wp_il1 jF_97_52 rfl rfl (pc2 := 53) ?_
          refine wp_ll1 jF_97_53 rfl rfl (pc2 := 54) ?_
          refine wp_al1 jF_97_54 rfl rfl (pc2 := 55) ?_
          refine wp_glA jF_97_55 kd75 (by decide) rfl rfl (pc2 := 58) ?_
          intro y19
          refine wp_anyL (pc2 := 59) jF_97_58 rfl rfl ?_
          intro z20 h21
          refine wp_z_ne jF_97_59 (m_rgb h21 rfl) rfl (pc2 := 62) ?_ ?_
          · intro h22
            refine wp_ic jF_97_66 rfl (pc2 := 67) ?_
            refine wp_cS (as := [iV 0]) (rest := [iV x1]) (mx := 1) jF_97_67 rfl rfl rfl rfl (by omega) (by omega) rfl (pc2 := 70) ?_
            show WP 98 0 [(0, iV 0)] [] _ _ _ _
            refine wp_il1 jF_98_0 rfl rfl (pc2 := 1) ?_
            refine wp_z_eq jF_98_1 (m_rgl rfl) rfl (pc2 := 4) ?_ ?_
            · intro h23
              refine wp_ic jF_98_8 rfl (pc2 := 9) ?_
              refine wp_ri jF_98_9 rfl ?_
              show WP 97 70 [(0, .ref 75), (1, iV x1), (2, iV x2), (3, .long y11), (5, iV x12)] [iV 0, iV x1] _ _ _ _
              refine wp_add jF_97_70 rfl (pc2 := 71) ?_
              refine wp_is1 (lv2 := [(0, .ref 75), (1, iV (x1 + 0)), (2, iV x2), (3, .long y11), (5, iV x12)]) jF_97_71 rfl rfl rfl (pc2 := 72) ?_
              refine wp_inc (lv2 := [(0, .ref 75), (1, iV (x1 + 0)), (2, iV (x2 + 1)), (3, .long y11), (5, iV x12)]) jF_97_72 rfl rfl rfl rfl (pc2 := 75) ?_
              refine wp_go jF_97_75 ?_
              refine wp_less [0, 1, 2] (lv2 := [(0, .ref 75), (1, iV (x1 + 0)), (2, iV (x2 + 1))]) rfl rfl ?_
              exact ih8 ((x1 + 0), (x2 + 1)) σ ⟨⟨by (try dsimp only); omega, by (try dsimp only); omega⟩, ⟨by (try dsimp only); omega, by (try dsimp only); omega⟩, rfl⟩ (by show Int.toNat (30 - (x2 + 1)) < Int.toNat (30 - x2); omega)
            · intro h23; exfalso; omega
          · intro h22
            refine wp_ic jF_97_62 rfl (pc2 := 63) ?_
            refine wp_go jF_97_63 ?_
            refine wp_cS (as := [iV 1]) (rest := [iV x1]) (mx := 1) jF_97_67 rfl rfl rfl rfl (by omega) (by omega) rfl (pc2 := 70) ?_
            show WP 98 0 [(0, iV 1)] [] _ _ _ _
            refine wp_il1 jF_98_0 rfl rfl (pc2 := 1) ?_
            refine wp_z_eq jF_98_1 (m_rgl rfl) rfl (pc2 := 4) ?_ ?_
            · intro h24; exfalso; omega
            · intro h24
              refine wp_ic jF_98_4 rfl (pc2 := 5) ?_
              refine wp_go jF_98_5 ?_
              refine wp_ri jF_98_9 rfl ?_
              show WP 97 70 [(0, .ref 75), (1, iV x1), (2, iV x2), (3, .long y11), (5, iV x12)] [iV 1, iV x1] _ _ _ _
              refine wp_any2 (pc2 := 71) jF_97_70 rfl rfl ?_
              intro z25 h26
              refine wp_is1 (lv2 := [(0, .ref 75), (1, iV z25), (2, iV x2), (3, .long y11), (5, iV x12)]) jF_97_71 rfl rfl rfl (pc2 := 72) ?_
              refine wp_inc (lv2 := [(0, .ref 75), (1, iV z25), (2, iV (x2 + 1)), (3, .long y11), (5, iV x12)]) jF_97_72 rfl rfl rfl rfl (pc2 := 75) ?_
              refine wp_go jF_97_75 ?_
              refine wp_less [0, 1, 2] (lv2 := [(0, .ref 75), (1, iV z25), (2, iV (x2 + 1))]) rfl rfl ?_
              exact ih8 (z25, (x2 + 1)) σ ⟨⟨by (try dsimp only); omega, by (try dsimp only); omega⟩, ⟨by (try dsimp only); omega, by (try dsimp only); omega⟩, rfl⟩ (by show Int.toNat (30 - (x2 + 1)) < Int.toNat (30 - x2); omega)
        · intro h18
          refine wp_ll1 jF_97_26 rfl rfl (pc2 := 27) ?_
          refine wp_il2 jF_97_27 rfl rfl (pc2 := 29) ?_
          refine wp_il1 jF_97_29 rfl rfl (pc2 := 30) ?_
          refine wp_i_ne jF_97_30 ⟨by omega, by omega⟩ ⟨by omega, by omega⟩ rfl (pc2 := 33) ?_ ?_
          · intro h27
            refine wp_al1 jF_97_37 rfl rfl (pc2 := 38) ?_
            refine wp_gr (b := 79) jF_97_38 kd75 (by decide) (c := 7) rfl rfl rfl (pc2 := 41) ?_
            refine wp_il2 jF_97_41 rfl rfl (pc2 := 43) ?_
            refine wp_lald (n := 30) jF_97_43 kd79 (by decide) rfl rfl (by omega) (by omega) rfl (pc2 := 44) ?_
            intro y28
            refine wp_lng (pc2 := 45) jF_97_44 rfl rfl ?_
            intro y29
            refine wp_ls1 (lv2 := [(0, .ref 75), (1, iV x1), (2, iV x2), (3, .long y29), (5, iV x12)]) jF_97_45 rfl rfl rfl (pc2 := 46) ?_
            refine wp_inc (lv2 := [(0, .ref 75), (1, iV x1), (2, iV x2), (3, .long y29), (5, iV (x12 + 1))]) jF_97_46 rfl rfl rfl rfl (pc2 := 49) ?_
            refine wp_go jF_97_49 ?_
            exact ih17 (y29, (x12 + 1)) σ ⟨⟨by (try dsimp only); omega, by (try dsimp only); omega⟩, rfl⟩ (by show Int.toNat (30 - (x12 + 1)) < Int.toNat (30 - x12); omega)
          · intro h27
            refine wp_lc jF_97_33 rfl (pc2 := 34) ?_
            refine wp_go jF_97_34 ?_
            refine wp_lng (pc2 := 45) jF_97_44 rfl rfl ?_
            intro y30
            refine wp_ls1 (lv2 := [(0, .ref 75), (1, iV x1), (2, iV x2), (3, .long y30), (5, iV x12)]) jF_97_45 rfl rfl rfl (pc2 := 46) ?_
            refine wp_inc (lv2 := [(0, .ref 75), (1, iV x1), (2, iV x2), (3, .long y30), (5, iV (x12 + 1))]) jF_97_46 rfl rfl rfl rfl (pc2 := 49) ?_
            refine wp_go jF_97_49 ?_
            exact ih17 (y30, (x12 + 1)) σ ⟨⟨by (try dsimp only); omega, by (try dsimp only); omega⟩, rfl⟩ (by show Int.toNat (30 - (x12 + 1)) < Int.toNat (30 - x12); omega)
set_option maxHeartbeats 4000000 in
set_option maxRecDepth 20000 in
/-- Row.bearer -/
theorem m_103_r70 (σ : jM) (hg : GI σ) (nb : Int) (hl_nb : (-2147483648) ≤ nb) (hu_nb : nb ≤ 2147483647) (kk : Int) (hl_kk : (-2147483648) ≤ kk) (hu_kk : kk ≤ 2147483647)  (fr lo : Nat) (hfr : 1 ≤ fr) (hlo : 22 ≤ lo) : WP 103 0 (lv_args 0 [.ref 70, iV nb, iV kk]) [] fr lo σ (fun v τ => ∃ z : Int, v = some (iV z) ∧ ((-1) ≤ z ∧ z ≤ 29) ∧ σ = τ) := by
  show WP 103 0 [(0, .ref 70), (1, iV nb), (2, iV kk)] [] _ _ _ _
  refine wp_ic jF_103_0 rfl (pc2 := 1) ?_
  refine wp_is1 (lv2 := [(0, .ref 70), (1, iV nb), (2, iV kk), (3, iV 0)]) jF_103_1 rfl rfl rfl (pc2 := 2) ?_
  refine wp_ic jF_103_2 rfl (pc2 := 3) ?_
  refine wp_is2 (lv2 := [(0, .ref 70), (1, iV nb), (2, iV kk), (3, iV 0), (4, iV 0)]) jF_103_3 rfl rfl rfl (pc2 := 5) ?_
  refine wp_loop (α := Int × Int) (fun a => [(0, .ref 70), (1, iV nb), (2, iV kk), (3, iV (a.1)), (4, iV (a.2))]) (fun a τ => (0 ≤ a.1 ∧ a.1 ≤ 30) ∧ (0 ≤ a.2 ∧ a.2 ≤ 30) ∧ σ = τ ∧ ((a.1) ≤ (a.2))) (fun a τ => Int.toNat (30 - (a.2))) (0, 0) σ ?_ ?_
  · skip
    exact ⟨⟨by (try dsimp only); omega, by (try dsimp only); omega⟩, ⟨by (try dsimp only); omega, by (try dsimp only); omega⟩, rfl, (by (try dsimp only); omega)⟩
  · rintro ⟨x1, x2⟩ _ ⟨h3, h4, rfl, p8⟩ ih9
    try dsimp only at h3 h4 p8
    show WP 103 5 [(0, .ref 70), (1, iV nb), (2, iV kk), (3, iV x1), (4, iV x2)] [] _ _ _ _
    show WP 103 5 [(0, .ref 70), (1, iV nb), (2, iV kk), (3, iV x1), (4, iV x2)] [] _ _ _ _
    refine wp_il2 jF_103_5 rfl rfl (pc2 := 7) ?_
    refine wp_al1 jF_103_7 rfl rfl (pc2 := 8) ?_
    have b10 := GI.b hg 70 6 kd70 (lo := 0) (hi := 30) rfl
    refine wp_gi jF_103_8 kd70 (by decide) rfl rfl rfl (pc2 := 11) ?_
    refine wp_i_ge jF_103_11 (m_rgb h4 rfl) (m_rgb b10 rfl) rfl (pc2 := 14) ?_ ?_
    · intro h11
      refine wp_ic jF_103_45 rfl (pc2 := 46) ?_
      refine wp_ri jF_103_46 rfl ?_
      exact ⟨(-1), rfl, ⟨by omega, by omega⟩, rfl⟩
    · intro h11
      refine wp_al1 jF_103_14 rfl rfl (pc2 := 15) ?_
      refine wp_gr (b := 74) jF_103_15 kd70 (by decide) (c := 7) rfl rfl rfl (pc2 := 18) ?_
      refine wp_il2 jF_103_18 rfl rfl (pc2 := 20) ?_
      refine wp_lald (n := 30) jF_103_20 kd74 (by decide) rfl rfl (by omega) (by omega) rfl (pc2 := 21) ?_
      intro y12
      refine wp_il1 jF_103_21 rfl rfl (pc2 := 22) ?_
      refine wp_cS (as := [.long y12, iV nb]) (rest := []) (mx := 3) jF_103_22 rfl rfl rfl rfl (by omega) (by omega) rfl (pc2 := 25) ?_
      show WP 101 0 [(0, .long y12), (2, iV nb)] [] _ _ _ _
      refine wp_ll1 jF_101_0 rfl rfl (pc2 := 1) ?_
      refine wp_il1 jF_101_1 rfl rfl (pc2 := 2) ?_
      refine wp_lng (pc2 := 3) jF_101_2 rfl rfl ?_
      intro y13
      refine wp_lc jF_101_3 rfl (pc2 := 4) ?_
      refine wp_lng (pc2 := 5) jF_101_4 rfl rfl ?_
      intro y14
      refine wp_lc jF_101_5 rfl (pc2 := 6) ?_
      refine wp_anyL (pc2 := 7) jF_101_6 rfl rfl ?_
      intro z15 h16
      refine wp_z_eq jF_101_7 (m_rgb h16 rfl) rfl (pc2 := 10) ?_ ?_
      · intro h17
        refine wp_ic jF_101_14 rfl (pc2 := 15) ?_
        refine wp_ri jF_101_15 rfl ?_
        show WP 103 25 [(0, .ref 70), (1, iV nb), (2, iV kk), (3, iV x1), (4, iV x2)] [iV 0] _ _ _ _
        refine wp_z_eq jF_103_25 (m_rgl rfl) rfl (pc2 := 28) ?_ ?_
        · intro h18
          refine wp_inc (lv2 := [(0, .ref 70), (1, iV nb), (2, iV kk), (3, iV x1), (4, iV (x2 + 1))]) jF_103_39 rfl rfl rfl rfl (pc2 := 42) ?_
          refine wp_go jF_103_42 ?_
          exact ih9 (x1, (x2 + 1)) σ ⟨⟨by (try dsimp only); omega, by (try dsimp only); omega⟩, ⟨by (try dsimp only); omega, by (try dsimp only); omega⟩, rfl, (by (try dsimp only); omega)⟩ (by show Int.toNat (30 - (x2 + 1)) < Int.toNat (30 - x2); omega)
        · intro h18; exfalso; omega
      · intro h17
        refine wp_ic jF_101_10 rfl (pc2 := 11) ?_
        refine wp_go jF_101_11 ?_
        refine wp_ri jF_101_15 rfl ?_
        show WP 103 25 [(0, .ref 70), (1, iV nb), (2, iV kk), (3, iV x1), (4, iV x2)] [iV 1] _ _ _ _
        refine wp_z_eq jF_103_25 (m_rgl rfl) rfl (pc2 := 28) ?_ ?_
        · intro h19; exfalso; omega
        · intro h19
          refine wp_il1 jF_103_28 rfl rfl (pc2 := 29) ?_
          refine wp_il1 jF_103_29 rfl rfl (pc2 := 30) ?_
          refine wp_i_ne jF_103_30 (m_rgb h3 rfl) ⟨by omega, by omega⟩ rfl (pc2 := 33) ?_ ?_
          · intro h20
            refine wp_inc (lv2 := [(0, .ref 70), (1, iV nb), (2, iV kk), (3, iV (x1 + 1)), (4, iV x2)]) jF_103_36 rfl rfl rfl rfl (pc2 := 39) ?_
            refine wp_inc (lv2 := [(0, .ref 70), (1, iV nb), (2, iV kk), (3, iV (x1 + 1)), (4, iV (x2 + 1))]) jF_103_39 rfl rfl rfl rfl (pc2 := 42) ?_
            refine wp_go jF_103_42 ?_
            exact ih9 ((x1 + 1), (x2 + 1)) σ ⟨⟨by (try dsimp only); omega, by (try dsimp only); omega⟩, ⟨by (try dsimp only); omega, by (try dsimp only); omega⟩, rfl, (by (try dsimp only); omega)⟩ (by show Int.toNat (30 - (x2 + 1)) < Int.toNat (30 - x2); omega)
          · intro h20
            refine wp_il2 jF_103_33 rfl rfl (pc2 := 35) ?_
            refine wp_ri jF_103_35 rfl ?_
            exact ⟨x2, rfl, ⟨by omega, by omega⟩, rfl⟩
set_option maxHeartbeats 4000000 in
set_option maxRecDepth 20000 in
/-- Row.sentenceAt -/
theorem m_112_r70 (σ : jM) (hg : GI σ) (pl : Int) (hl_pl : 0 ≤ pl) (hu_pl : pl ≤ 61)  (fr lo : Nat) (hfr : 0 ≤ fr) (hlo : 0 ≤ lo) : WP 112 0 (lv_args 0 [.ref 70, iV pl]) [] fr lo σ (fun v τ => ∃ z : Int, v = some (iV z) ∧ (0 ≤ z ∧ z ≤ 29) ∧ σ = τ ∧ (z = 0 ∨ z < (σ.1 70 6))) := by
  show WP 112 0 [(0, .ref 70), (1, iV pl)] [] _ _ _ _
  refine wp_ic jF_112_0 rfl (pc2 := 1) ?_
  refine wp_is1 (lv2 := [(0, .ref 70), (1, iV pl), (2, iV 0)]) jF_112_1 rfl rfl rfl (pc2 := 2) ?_
  have b1 := GI.b hg 70 6 kd70 (lo := 0) (hi := 30) rfl
  refine wp_loop (α := Int) (fun a => [(0, .ref 70), (1, iV pl), (2, iV (a))]) (fun a τ => (0 ≤ a ∧ a ≤ 29) ∧ σ = τ ∧ ((a) = 0 ∨ (a) < (σ.1 70 6))) (fun a τ => Int.toNat (30 - (a))) (0) σ ?_ ?_
  · skip
    exact ⟨⟨by omega, by omega⟩, rfl, (by omega)⟩
  · rintro x2 _ ⟨h3, rfl, p7⟩ ih8
    show WP 112 2 [(0, .ref 70), (1, iV pl), (2, iV x2)] [] _ _ _ _
    show WP 112 2 [(0, .ref 70), (1, iV pl), (2, iV x2)] [] _ _ _ _
    refine wp_il1 jF_112_2 rfl rfl (pc2 := 3) ?_
    refine wp_ic jF_112_3 rfl (pc2 := 4) ?_
    refine wp_add jF_112_4 rfl (pc2 := 5) ?_
    refine wp_al1 jF_112_5 rfl rfl (pc2 := 6) ?_
    refine wp_gi jF_112_6 kd70 (by decide) rfl rfl rfl (pc2 := 9) ?_
    refine wp_i_ge jF_112_9 ⟨by omega, by omega⟩ (m_rgb b1 rfl) rfl (pc2 := 12) ?_ ?_
    · intro h9
      refine wp_il1 jF_112_30 rfl rfl (pc2 := 31) ?_
      refine wp_ri jF_112_31 rfl ?_
      exact ⟨x2, rfl, ⟨by omega, by omega⟩, rfl, (by omega)⟩
    · intro h9
      refine wp_al1 jF_112_12 rfl rfl (pc2 := 13) ?_
      refine wp_gr (b := 73) jF_112_13 kd70 (by decide) (c := 6) rfl rfl rfl (pc2 := 16) ?_
      refine wp_il1 jF_112_16 rfl rfl (pc2 := 17) ?_
      refine wp_ic jF_112_17 rfl (pc2 := 18) ?_
      refine wp_add jF_112_18 rfl (pc2 := 19) ?_
      have b10 := GI.b hg 73 (x2 + 1).toNat kd73 (lo := 0) (hi := 60) rfl
      refine wp_iald (n := 31) (e := (σ.1 73 (x2 + 1).toNat)) jF_112_19 kd73 (by decide) rfl rfl (by omega) (by omega) rfl rfl (pc2 := 20) ?_
      refine wp_il1 jF_112_20 rfl rfl (pc2 := 21) ?_
      refine wp_i_gt jF_112_21 (m_rgb b10 rfl) ⟨by omega, by omega⟩ rfl (pc2 := 24) ?_ ?_
      · intro h11
        refine wp_il1 jF_112_30 rfl rfl (pc2 := 31) ?_
        refine wp_ri jF_112_31 rfl ?_
        exact ⟨x2, rfl, ⟨by omega, by omega⟩, rfl, (by omega)⟩
      · intro h11
        refine wp_inc (lv2 := [(0, .ref 70), (1, iV pl), (2, iV (x2 + 1))]) jF_112_24 rfl rfl rfl rfl (pc2 := 27) ?_
        refine wp_go jF_112_27 ?_
        exact ih8 ((x2 + 1)) σ ⟨⟨by omega, by omega⟩, rfl, (by omega)⟩ (by show Int.toNat (30 - (x2 + 1)) < Int.toNat (30 - x2); omega)
set_option maxHeartbeats 4000000 in
set_option maxRecDepth 20000 in
/-- Row.goesOn -/
theorem m_109_r70 (σ : jM) (hg : GI σ) (first : Int) (hl_first : 0 ≤ first) (hu_first : first ≤ 61) (st0 : Int) (hl_st0 : (-1) ≤ st0) (hu_st0 : st0 ≤ 4)  (fr lo : Nat) (hfr : 1 ≤ fr) (hlo : 23 ≤ lo) : WP 109 0 (lv_args 0 [.ref 70, iV first, iV st0]) [] fr lo σ (fun v τ => ∃ z : Int, v = some (iV z) ∧ (0 ≤ z ∧ z ≤ 1) ∧ σ = τ) := by
  show WP 109 0 [(0, .ref 70), (1, iV first), (2, iV st0)] [] _ _ _ _
  refine wp_il1 jF_109_0 rfl rfl (pc2 := 1) ?_
  refine wp_is1 (lv2 := [(0, .ref 70), (1, iV first), (2, iV st0), (3, iV st0)]) jF_109_1 rfl rfl rfl (pc2 := 2) ?_
  refine wp_il1 jF_109_2 rfl rfl (pc2 := 3) ?_
  refine wp_is2 (lv2 := [(0, .ref 70), (1, iV first), (2, iV st0), (3, iV st0), (4, iV first)]) jF_109_3 rfl rfl rfl (pc2 := 5) ?_
  refine wp_loop (α := Int × Int) (fun a => [(0, .ref 70), (1, iV first), (2, iV st0), (3, iV (a.1)), (4, iV (a.2))]) (fun a τ => ((-1) ≤ a.1 ∧ a.1 ≤ 4) ∧ (0 ≤ a.2 ∧ a.2 ≤ 61) ∧ σ = τ) (fun a τ => Int.toNat (61 - (a.2))) (st0, first) σ ?_ ?_
  · skip
    exact ⟨⟨by (try dsimp only); omega, by (try dsimp only); omega⟩, ⟨by (try dsimp only); omega, by (try dsimp only); omega⟩, rfl⟩
  · rintro ⟨x1, x2⟩ _ ⟨h3, h4, rfl⟩ ih8
    try dsimp only at h3 h4
    show WP 109 5 [(0, .ref 70), (1, iV first), (2, iV st0), (3, iV x1), (4, iV x2)] [] _ _ _ _
    show WP 109 5 [(0, .ref 70), (1, iV first), (2, iV st0), (3, iV x1), (4, iV x2)] [] _ _ _ _
    refine wp_il2 jF_109_5 rfl rfl (pc2 := 7) ?_
    refine wp_al1 jF_109_7 rfl rfl (pc2 := 8) ?_
    have b9 := GI.b hg 70 1 kd70 (lo := 0) (hi := 60) rfl
    refine wp_gi jF_109_8 kd70 (by decide) rfl rfl rfl (pc2 := 11) ?_
    refine wp_i_ge jF_109_11 (m_rgb h4 rfl) (m_rgb b9 rfl) rfl (pc2 := 14) ?_ ?_
    · intro h10
      refine wp_il1 jF_109_59 rfl rfl (pc2 := 60) ?_
      refine wp_z_ne jF_109_60 (m_rgb h3 rfl) rfl (pc2 := 63) ?_ ?_
      · intro h11
        refine wp_ic jF_109_67 rfl (pc2 := 68) ?_
        refine wp_ri jF_109_68 rfl ?_
        exact ⟨0, rfl, ⟨by omega, by omega⟩, rfl⟩
      · intro h11
        refine wp_ic jF_109_63 rfl (pc2 := 64) ?_
        refine wp_go jF_109_64 ?_
        refine wp_ri jF_109_68 rfl ?_
        exact ⟨1, rfl, ⟨by omega, by omega⟩, rfl⟩
    · intro h10
      refine wp_il1 jF_109_14 rfl rfl (pc2 := 15) ?_
      refine wp_ic jF_109_15 rfl (pc2 := 16) ?_
      refine wp_i_eq jF_109_16 (m_rgb h3 rfl) (m_rgl rfl) rfl (pc2 := 19) ?_ ?_
      · intro h12
        refine wp_il1 jF_109_30 rfl rfl (pc2 := 31) ?_
        refine wp_ic jF_109_31 rfl (pc2 := 32) ?_
        refine wp_i_eq jF_109_32 ⟨by omega, by omega⟩ (m_rgl rfl) rfl (pc2 := 35) ?_ ?_
        · intro h13
          refine wp_ic jF_109_39 rfl (pc2 := 40) ?_
          refine wp_ri jF_109_40 rfl ?_
          exact ⟨0, rfl, ⟨by omega, by omega⟩, rfl⟩
        · intro h13; exfalso; omega
      · intro h12
        refine wp_il1 jF_109_19 rfl rfl (pc2 := 20) ?_
        refine wp_al1 jF_109_20 rfl rfl (pc2 := 21) ?_
        refine wp_gr (b := 72) jF_109_21 kd70 (by decide) (c := 5) rfl rfl rfl (pc2 := 24) ?_
        refine wp_il2 jF_109_24 rfl rfl (pc2 := 26) ?_
        have b14 := GI.b hg 72 x2.toNat kd72 (lo := (-1)) (hi := 4) rfl
        refine wp_iald (n := 61) (e := (σ.1 72 x2.toNat)) jF_109_26 kd72 (by decide) rfl rfl (by omega) (by omega) rfl rfl (pc2 := 27) ?_
        refine wp_i_ne jF_109_27 ⟨by omega, by omega⟩ (m_rgb b14 rfl) rfl (pc2 := 30) ?_ ?_
        · intro h15
          refine wp_il1 jF_109_41 rfl rfl (pc2 := 42) ?_
          refine wp_al1 jF_109_42 rfl rfl (pc2 := 43) ?_
          refine wp_gr (b := 71) jF_109_43 kd70 (by decide) (c := 4) rfl rfl rfl (pc2 := 46) ?_
          refine wp_il2 jF_109_46 rfl rfl (pc2 := 48) ?_
          have b16 := GI.b hg 71 x2.toNat kd71 (lo := 0) (hi := 255) rfl
          refine wp_iald (n := 60) (e := (σ.1 71 x2.toNat)) jF_109_48 kd71 (by decide) rfl rfl (by omega) (by omega) rfl rfl (pc2 := 49) ?_
          refine wp_cS (as := [iV x1, iV (σ.1 71 x2.toNat)]) (rest := []) (mx := 4) jF_109_49 rfl rfl rfl rfl (by omega) (by omega) rfl (pc2 := 52) ?_
          refine wp_use (m_78_r σ hg x1 (by omega) (by omega) (σ.1 71 x2.toNat) (by omega) (by omega)  _ _ (by omega) (by omega)) ?_
          rintro _ _ ⟨z19, rfl, h20, rfl⟩
          show WP 109 52 [(0, .ref 70), (1, iV first), (2, iV st0), (3, iV x1), (4, iV x2)] [iV z19] _ _ _ _
          refine wp_is1 (lv2 := [(0, .ref 70), (1, iV first), (2, iV st0), (3, iV z19), (4, iV x2)]) jF_109_52 rfl rfl rfl (pc2 := 53) ?_
          refine wp_inc (lv2 := [(0, .ref 70), (1, iV first), (2, iV st0), (3, iV z19), (4, iV (x2 + 1))]) jF_109_53 rfl rfl rfl rfl (pc2 := 56) ?_
          refine wp_go jF_109_56 ?_
          exact ih8 (z19, (x2 + 1)) σ ⟨⟨by (try dsimp only); omega, by (try dsimp only); omega⟩, ⟨by (try dsimp only); omega, by (try dsimp only); omega⟩, rfl⟩ (by show Int.toNat (61 - (x2 + 1)) < Int.toNat (61 - x2); omega)
        · intro h15
          refine wp_il1 jF_109_30 rfl rfl (pc2 := 31) ?_
          refine wp_ic jF_109_31 rfl (pc2 := 32) ?_
          refine wp_i_eq jF_109_32 ⟨by omega, by omega⟩ (m_rgl rfl) rfl (pc2 := 35) ?_ ?_
          · intro h21; exfalso; omega
          · intro h21
            refine wp_ic jF_109_35 rfl (pc2 := 36) ?_
            refine wp_go jF_109_36 ?_
            refine wp_ri jF_109_40 rfl ?_
            exact ⟨1, rfl, ⟨by omega, by omega⟩, rfl⟩
