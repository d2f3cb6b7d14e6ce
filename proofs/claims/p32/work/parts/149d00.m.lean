set_option maxHeartbeats 4000000 in
set_option maxRecDepth 20000 in
/-- M.sign -/
theorem m_268 (σ : jM) (hg : GI σ) (other : Int) (hl_other : 0 ≤ other) (hu_other : other ≤ 1) (k : Int) (hl_k : (-2147483648) ≤ k) (hu_k : k ≤ 2147483647)  (fr lo : Nat) (hfr : 1 ≤ fr) (hlo : 25 ≤ lo) : WP 268 0 (lv_args 0 [.ref 117, iV other, iV k]) [] fr lo σ (fun v τ => ∃ z : Int, v = some (iV z) ∧ ((-2147483648) ≤ z ∧ z ≤ 2147483647) ∧ σ = τ) := by
  show WP 268 0 [(0, .ref 117), (1, iV other), (2, iV k)] [] _ _ _ _
  refine wp_il1 jF_268_0 rfl rfl (pc2 := 1) ?_
  refine wp_cS (as := [iV other]) (rest := []) (mx := 1) jF_268_1 rfl rfl rfl rfl (by omega) (by omega) rfl (pc2 := 4) ?_
  show WP 269 0 [(0, iV other)] [] _ _ _ _
  refine wp_il1 jF_269_0 rfl rfl (pc2 := 1) ?_
  refine wp_z_eq jF_269_1 ⟨by omega, by omega⟩ rfl (pc2 := 4) ?_ ?_
  · intro h1
    refine wp_ic jF_269_8 rfl (pc2 := 9) ?_
    refine wp_ri jF_269_9 rfl ?_
    show WP 268 4 [(0, .ref 117), (1, iV other), (2, iV k)] [iV 0] _ _ _ _
    refine wp_is1 (lv2 := [(0, .ref 117), (1, iV other), (2, iV k), (3, iV 0)]) jF_268_4 rfl rfl rfl (pc2 := 5) ?_
    refine wp_il1 jF_268_5 rfl rfl (pc2 := 6) ?_
    refine wp_ic jF_268_6 rfl (pc2 := 7) ?_
    refine wp_i_ne jF_268_7 ⟨by omega, by omega⟩ (m_rgl rfl) rfl (pc2 := 10) ?_ ?_
    · intro h2
      refine wp_il1 jF_268_19 rfl rfl (pc2 := 20) ?_
      refine wp_i2l jF_268_20 rfl (pc2 := 21) ?_
      refine wp_lc jF_268_21 rfl (pc2 := 22) ?_
      refine wp_al1 jF_268_22 rfl rfl (pc2 := 23) ?_
      refine wp_gr (b := 148) jF_268_23 kd117 (by decide) (c := 248) rfl rfl rfl (pc2 := 26) ?_
      refine wp_il1 jF_268_26 rfl rfl (pc2 := 27) ?_
      have b3 := GI.b hg 148 0 kd148 (lo := 0) (hi := 60) rfl
      refine wp_iald (n := 2) (e := (σ.1 148 0)) jF_268_27 kd148 (by decide) rfl rfl (by omega) (by omega) rfl rfl (pc2 := 28) ?_
      refine wp_ic jF_268_28 rfl (pc2 := 29) ?_
      refine wp_sub jF_268_29 rfl (pc2 := 30) ?_
      refine wp_i2l jF_268_30 rfl (pc2 := 31) ?_
      refine wp_cS (as := [.long (Int32.toInt64 (Int32.ofInt k)), .long (Int64.ofNat 0), .long (Int32.toInt64 (Int32.ofInt ((σ.1 148 0) - 1)))]) (rest := []) (mx := 6) jF_268_31 rfl rfl rfl rfl (by omega) (by omega) rfl (pc2 := 34) ?_
      show WP 232 0 [(0, .long (Int32.toInt64 (Int32.ofInt k))), (2, .long (Int64.ofNat 0)), (4, .long (Int32.toInt64 (Int32.ofInt ((σ.1 148 0) - 1))))] [] _ _ _ _
      refine wp_ll1 jF_232_0 rfl rfl (pc2 := 1) ?_
      refine wp_ll1 jF_232_1 rfl rfl (pc2 := 2) ?_
      refine wp_lcmp2 (a := k) (b := 0) jF_232_2 (m_i2lt ⟨by omega, by omega⟩) (by decide) rfl (pc2 := 3) ?_
      intro z4 h5
      refine wp_z_lt jF_232_3 ⟨by omega, by omega⟩ rfl (pc2 := 6) ?_ ?_
      · intro h6
        refine wp_ic jF_232_17 rfl (pc2 := 18) ?_
        refine wp_ri jF_232_18 rfl ?_
        show WP 268 34 [(0, .ref 117), (1, iV other), (2, iV k), (3, iV 0)] [iV 0] _ _ _ _
        refine wp_z_eq jF_268_34 (m_rgl rfl) rfl (pc2 := 37) ?_ ?_
        · intro h7
          refine wp_ic jF_268_51 rfl (pc2 := 52) ?_
          refine wp_ri jF_268_52 rfl ?_
          exact ⟨(-1), rfl, ⟨by omega, by omega⟩, rfl⟩
        · intro h7; exfalso; omega
      · intro h6
        refine wp_ll1 jF_232_6 rfl rfl (pc2 := 7) ?_
        refine wp_ll2 jF_232_7 rfl rfl (pc2 := 9) ?_
        refine wp_lcmp2 (a := k) (b := ((σ.1 148 0) - 1)) jF_232_9 (m_i2lt ⟨by omega, by omega⟩) (m_i2lt ⟨by omega, by omega⟩) rfl (pc2 := 10) ?_
        intro z8 h9
        refine wp_z_gt jF_232_10 ⟨by omega, by omega⟩ rfl (pc2 := 13) ?_ ?_
        · intro h10
          refine wp_ic jF_232_17 rfl (pc2 := 18) ?_
          refine wp_ri jF_232_18 rfl ?_
          show WP 268 34 [(0, .ref 117), (1, iV other), (2, iV k), (3, iV 0)] [iV 0] _ _ _ _
          refine wp_z_eq jF_268_34 (m_rgl rfl) rfl (pc2 := 37) ?_ ?_
          · intro h11
            refine wp_ic jF_268_51 rfl (pc2 := 52) ?_
            refine wp_ri jF_268_52 rfl ?_
            exact ⟨(-1), rfl, ⟨by omega, by omega⟩, rfl⟩
          · intro h11; exfalso; omega
        · intro h10
          refine wp_ic jF_232_13 rfl (pc2 := 14) ?_
          refine wp_go jF_232_14 ?_
          refine wp_ri jF_232_18 rfl ?_
          show WP 268 34 [(0, .ref 117), (1, iV other), (2, iV k), (3, iV 0)] [iV 1] _ _ _ _
          refine wp_z_eq jF_268_34 (m_rgl rfl) rfl (pc2 := 37) ?_ ?_
          · intro h12; exfalso; omega
          · intro h12
            refine wp_al1 jF_268_37 rfl rfl (pc2 := 38) ?_
            refine wp_gr (b := 147) jF_268_38 kd117 (by decide) (c := 247) rfl rfl rfl (pc2 := 41) ?_
            refine wp_bi jF_268_41 (by decide) rfl (pc2 := 43) ?_
            refine wp_il1 jF_268_43 rfl rfl (pc2 := 44) ?_
            refine wp_mul jF_268_44 rfl (pc2 := 45) ?_
            refine wp_il1 jF_268_45 rfl rfl (pc2 := 46) ?_
            refine wp_add jF_268_46 rfl (pc2 := 47) ?_
            have b13 := GI.b hg 147 ((64 * 0) + k).toNat kd147 (lo := 0) (hi := 255) rfl
            refine wp_iald (n := 128) (e := (σ.1 147 ((64 * 0) + k).toNat)) jF_268_47 kd147 (by decide) rfl rfl (by omega) (by omega) rfl rfl (pc2 := 48) ?_
            refine wp_go jF_268_48 ?_
            refine wp_ri jF_268_52 rfl ?_
            exact ⟨(σ.1 147 ((64 * 0) + k).toNat), rfl, ⟨by omega, by omega⟩, rfl⟩
    · intro h2
      refine wp_al1 jF_268_10 rfl rfl (pc2 := 11) ?_
      refine wp_gr (b := 148) jF_268_11 kd117 (by decide) (c := 248) rfl rfl rfl (pc2 := 14) ?_
      refine wp_il1 jF_268_14 rfl rfl (pc2 := 15) ?_
      have b14 := GI.b hg 148 0 kd148 (lo := 0) (hi := 60) rfl
      refine wp_iald (n := 2) (e := (σ.1 148 0)) jF_268_15 kd148 (by decide) rfl rfl (by omega) (by omega) rfl rfl (pc2 := 16) ?_
      refine wp_go jF_268_16 ?_
      refine wp_ri jF_268_52 rfl ?_
      exact ⟨(σ.1 148 0), rfl, ⟨by omega, by omega⟩, rfl⟩
  · intro h1
    refine wp_ic jF_269_4 rfl (pc2 := 5) ?_
    refine wp_go jF_269_5 ?_
    refine wp_ri jF_269_9 rfl ?_
    show WP 268 4 [(0, .ref 117), (1, iV other), (2, iV k)] [iV 1] _ _ _ _
    refine wp_is1 (lv2 := [(0, .ref 117), (1, iV other), (2, iV k), (3, iV 1)]) jF_268_4 rfl rfl rfl (pc2 := 5) ?_
    refine wp_il1 jF_268_5 rfl rfl (pc2 := 6) ?_
    refine wp_ic jF_268_6 rfl (pc2 := 7) ?_
    refine wp_i_ne jF_268_7 ⟨by omega, by omega⟩ (m_rgl rfl) rfl (pc2 := 10) ?_ ?_
    · intro h15
      refine wp_il1 jF_268_19 rfl rfl (pc2 := 20) ?_
      refine wp_i2l jF_268_20 rfl (pc2 := 21) ?_
      refine wp_lc jF_268_21 rfl (pc2 := 22) ?_
      refine wp_al1 jF_268_22 rfl rfl (pc2 := 23) ?_
      refine wp_gr (b := 148) jF_268_23 kd117 (by decide) (c := 248) rfl rfl rfl (pc2 := 26) ?_
      refine wp_il1 jF_268_26 rfl rfl (pc2 := 27) ?_
      have b16 := GI.b hg 148 1 kd148 (lo := 0) (hi := 60) rfl
      refine wp_iald (n := 2) (e := (σ.1 148 1)) jF_268_27 kd148 (by decide) rfl rfl (by omega) (by omega) rfl rfl (pc2 := 28) ?_
      refine wp_ic jF_268_28 rfl (pc2 := 29) ?_
      refine wp_sub jF_268_29 rfl (pc2 := 30) ?_
      refine wp_i2l jF_268_30 rfl (pc2 := 31) ?_
      refine wp_cS (as := [.long (Int32.toInt64 (Int32.ofInt k)), .long (Int64.ofNat 0), .long (Int32.toInt64 (Int32.ofInt ((σ.1 148 1) - 1)))]) (rest := []) (mx := 6) jF_268_31 rfl rfl rfl rfl (by omega) (by omega) rfl (pc2 := 34) ?_
      show WP 232 0 [(0, .long (Int32.toInt64 (Int32.ofInt k))), (2, .long (Int64.ofNat 0)), (4, .long (Int32.toInt64 (Int32.ofInt ((σ.1 148 1) - 1))))] [] _ _ _ _
      refine wp_ll1 jF_232_0 rfl rfl (pc2 := 1) ?_
      refine wp_ll1 jF_232_1 rfl rfl (pc2 := 2) ?_
      refine wp_lcmp2 (a := k) (b := 0) jF_232_2 (m_i2lt ⟨by omega, by omega⟩) (by decide) rfl (pc2 := 3) ?_
      intro z17 h18
      refine wp_z_lt jF_232_3 ⟨by omega, by omega⟩ rfl (pc2 := 6) ?_ ?_
      · intro h19
        refine wp_ic jF_232_17 rfl (pc2 := 18) ?_
        refine wp_ri jF_232_18 rfl ?_
        show WP 268 34 [(0, .ref 117), (1, iV other), (2, iV k), (3, iV 1)] [iV 0] _ _ _ _
        refine wp_z_eq jF_268_34 (m_rgl rfl) rfl (pc2 := 37) ?_ ?_
        · intro h20
          refine wp_ic jF_268_51 rfl (pc2 := 52) ?_
          refine wp_ri jF_268_52 rfl ?_
          exact ⟨(-1), rfl, ⟨by omega, by omega⟩, rfl⟩
        · intro h20; exfalso; omega
      · intro h19
        refine wp_ll1 jF_232_6 rfl rfl (pc2 := 7) ?_
        refine wp_ll2 jF_232_7 rfl rfl (pc2 := 9) ?_
        refine wp_lcmp2 (a := k) (b := ((σ.1 148 1) - 1)) jF_232_9 (m_i2lt ⟨by omega, by omega⟩) (m_i2lt ⟨by omega, by omega⟩) rfl (pc2 := 10) ?_
        intro z21 h22
        refine wp_z_gt jF_232_10 ⟨by omega, by omega⟩ rfl (pc2 := 13) ?_ ?_
        · intro h23
          refine wp_ic jF_232_17 rfl (pc2 := 18) ?_
          refine wp_ri jF_232_18 rfl ?_
          show WP 268 34 [(0, .ref 117), (1, iV other), (2, iV k), (3, iV 1)] [iV 0] _ _ _ _
          refine wp_z_eq jF_268_34 (m_rgl rfl) rfl (pc2 := 37) ?_ ?_
          · intro h24
            refine wp_ic jF_268_51 rfl (pc2 := 52) ?_
            refine wp_ri jF_268_52 rfl ?_
            exact ⟨(-1), rfl, ⟨by omega, by omega⟩, rfl⟩
          · intro h24; exfalso; omega
        · intro h23
          refine wp_ic jF_232_13 rfl (pc2 := 14) ?_
          refine wp_go jF_232_14 ?_
          refine wp_ri jF_232_18 rfl ?_
          show WP 268 34 [(0, .ref 117), (1, iV other), (2, iV k), (3, iV 1)] [iV 1] _ _ _ _
          refine wp_z_eq jF_268_34 (m_rgl rfl) rfl (pc2 := 37) ?_ ?_
          · intro h25; exfalso; omega
          · intro h25
            refine wp_al1 jF_268_37 rfl rfl (pc2 := 38) ?_
            refine wp_gr (b := 147) jF_268_38 kd117 (by decide) (c := 247) rfl rfl rfl (pc2 := 41) ?_
            refine wp_bi jF_268_41 (by decide) rfl (pc2 := 43) ?_
            refine wp_il1 jF_268_43 rfl rfl (pc2 := 44) ?_
            refine wp_mul jF_268_44 rfl (pc2 := 45) ?_
            refine wp_il1 jF_268_45 rfl rfl (pc2 := 46) ?_
            refine wp_add jF_268_46 rfl (pc2 := 47) ?_
            have b26 := GI.b hg 147 ((64 * 1) + k).toNat kd147 (lo := 0) (hi := 255) rfl
            refine wp_iald (n := 128) (e := (σ.1 147 ((64 * 1) + k).toNat)) jF_268_47 kd147 (by decide) rfl rfl (by omega) (by omega) rfl rfl (pc2 := 48) ?_
            refine wp_go jF_268_48 ?_
            refine wp_ri jF_268_52 rfl ?_
            exact ⟨(σ.1 147 ((64 * 1) + k).toNat), rfl, ⟨by omega, by omega⟩, rfl⟩
    · intro h15
      refine wp_al1 jF_268_10 rfl rfl (pc2 := 11) ?_
      refine wp_gr (b := 148) jF_268_11 kd117 (by decide) (c := 248) rfl rfl rfl (pc2 := 14) ?_
      refine wp_il1 jF_268_14 rfl rfl (pc2 := 15) ?_
      have b27 := GI.b hg 148 1 kd148 (lo := 0) (hi := 60) rfl
      refine wp_iald (n := 2) (e := (σ.1 148 1)) jF_268_15 kd148 (by decide) rfl rfl (by omega) (by omega) rfl rfl (pc2 := 16) ?_
      refine wp_go jF_268_16 ?_
      refine wp_ri jF_268_52 rfl ?_
      exact ⟨(σ.1 148 1), rfl, ⟨by omega, by omega⟩, rfl⟩
set_option maxHeartbeats 4000000 in
set_option maxRecDepth 20000 in
/-- M.isParty -/
theorem m_312 (σ : jM) (hg : GI σ) (k : Int) (hl_k : (-2147483648) ≤ k) (hu_k : k ≤ 2147483647)  (fr lo : Nat) (hfr : 1 ≤ fr) (hlo : 25 ≤ lo) : WP 312 0 (lv_args 0 [.ref 117, iV k]) [] fr lo σ (fun v τ => ∃ z : Int, v = some (iV z) ∧ (0 ≤ z ∧ z ≤ 1) ∧ σ = τ) := by
  show WP 312 0 [(0, .ref 117), (1, iV k)] [] _ _ _ _
  refine wp_il1 jF_312_0 rfl rfl (pc2 := 1) ?_
  refine wp_i2l jF_312_1 rfl (pc2 := 2) ?_
  refine wp_lc jF_312_2 rfl (pc2 := 3) ?_
  refine wp_al1 jF_312_3 rfl rfl (pc2 := 4) ?_
  have b1 := GI.b hg 117 34 kd117 (lo := 0) (hi := 5) rfl
  refine wp_gi jF_312_4 kd117 (by decide) rfl rfl rfl (pc2 := 7) ?_
  refine wp_ic jF_312_7 rfl (pc2 := 8) ?_
  refine wp_sub jF_312_8 rfl (pc2 := 9) ?_
  refine wp_i2l jF_312_9 rfl (pc2 := 10) ?_
  refine wp_cS (as := [.long (Int32.toInt64 (Int32.ofInt k)), .long (Int64.ofNat 0), .long (Int32.toInt64 (Int32.ofInt ((σ.1 117 34) - 1)))]) (rest := []) (mx := 6) jF_312_10 rfl rfl rfl rfl (by omega) (by omega) rfl (pc2 := 13) ?_
  show WP 232 0 [(0, .long (Int32.toInt64 (Int32.ofInt k))), (2, .long (Int64.ofNat 0)), (4, .long (Int32.toInt64 (Int32.ofInt ((σ.1 117 34) - 1))))] [] _ _ _ _
  refine wp_ll1 jF_232_0 rfl rfl (pc2 := 1) ?_
  refine wp_ll1 jF_232_1 rfl rfl (pc2 := 2) ?_
  refine wp_lcmp2 (a := k) (b := 0) jF_232_2 (m_i2lt ⟨by omega, by omega⟩) (by decide) rfl (pc2 := 3) ?_
  intro z2 h3
  refine wp_z_lt jF_232_3 ⟨by omega, by omega⟩ rfl (pc2 := 6) ?_ ?_
  · intro h4
    refine wp_ic jF_232_17 rfl (pc2 := 18) ?_
    refine wp_ri jF_232_18 rfl ?_
    show WP 312 13 [(0, .ref 117), (1, iV k)] [iV 0] _ _ _ _
    refine wp_ri jF_312_13 rfl ?_
    exact ⟨0, rfl, ⟨by omega, by omega⟩, rfl⟩
  · intro h4
    refine wp_ll1 jF_232_6 rfl rfl (pc2 := 7) ?_
    refine wp_ll2 jF_232_7 rfl rfl (pc2 := 9) ?_
    refine wp_lcmp2 (a := k) (b := ((σ.1 117 34) - 1)) jF_232_9 (m_i2lt ⟨by omega, by omega⟩) (m_i2lt ⟨by omega, by omega⟩) rfl (pc2 := 10) ?_
    intro z5 h6
    refine wp_z_gt jF_232_10 ⟨by omega, by omega⟩ rfl (pc2 := 13) ?_ ?_
    · intro h7
      refine wp_ic jF_232_17 rfl (pc2 := 18) ?_
      refine wp_ri jF_232_18 rfl ?_
      show WP 312 13 [(0, .ref 117), (1, iV k)] [iV 0] _ _ _ _
      refine wp_ri jF_312_13 rfl ?_
      exact ⟨0, rfl, ⟨by omega, by omega⟩, rfl⟩
    · intro h7
      refine wp_ic jF_232_13 rfl (pc2 := 14) ?_
      refine wp_go jF_232_14 ?_
      refine wp_ri jF_232_18 rfl ?_
      show WP 312 13 [(0, .ref 117), (1, iV k)] [iV 1] _ _ _ _
      refine wp_ri jF_312_13 rfl ?_
      exact ⟨1, rfl, ⟨by omega, by omega⟩, rfl⟩
set_option maxHeartbeats 4000000 in
set_option maxRecDepth 20000 in
/-- M.bitAt -/
theorem m_309 (σ : jM) (hg : GI σ) (set : Int64) (n : Int) (hl_n : (-2147483648) ≤ n) (hu_n : n ≤ 2147483647)  (fr lo : Nat) (hfr : 0 ≤ fr) (hlo : 0 ≤ lo) : WP 309 0 (lv_args 0 [.long set, iV n]) [] fr lo σ (fun v τ => ∃ z : Int, v = some (iV z) ∧ ((-1) ≤ z ∧ z ≤ 63) ∧ σ = τ) := by
  show WP 309 0 [(0, .long set), (2, iV n)] [] _ _ _ _
  refine wp_ic jF_309_0 rfl (pc2 := 1) ?_
  refine wp_is1 (lv2 := [(0, .long set), (2, iV n), (3, iV 0)]) jF_309_1 rfl rfl rfl (pc2 := 2) ?_
  refine wp_ic jF_309_2 rfl (pc2 := 3) ?_
  refine wp_is2 (lv2 := [(0, .long set), (2, iV n), (3, iV 0), (4, iV 0)]) jF_309_3 rfl rfl rfl (pc2 := 5) ?_
  refine wp_loop (α := Int × Int) (fun a => [(0, .long set), (2, iV n), (3, iV (a.1)), (4, iV (a.2))]) (fun a τ => (0 ≤ a.1 ∧ a.1 ≤ 64) ∧ (0 ≤ a.2 ∧ a.2 ≤ 64) ∧ σ = τ ∧ ((a.1) ≤ (a.2))) (fun a τ => Int.toNat (64 - (a.2))) (0, 0) σ ?_ ?_
  · skip
    exact ⟨⟨by (try dsimp only); omega, by (try dsimp only); omega⟩, ⟨by (try dsimp only); omega, by (try dsimp only); omega⟩, rfl, (by (try dsimp only); omega)⟩
  · rintro ⟨x1, x2⟩ _ ⟨h3, h4, rfl, p8⟩ ih9
    try dsimp only at h3 h4 p8
    show WP 309 5 [(0, .long set), (2, iV n), (3, iV x1), (4, iV x2)] [] _ _ _ _
    show WP 309 5 [(0, .long set), (2, iV n), (3, iV x1), (4, iV x2)] [] _ _ _ _
    refine wp_il2 jF_309_5 rfl rfl (pc2 := 7) ?_
    refine wp_bi jF_309_7 (by decide) rfl (pc2 := 9) ?_
    refine wp_i_ge jF_309_9 (m_rgb h4 rfl) (m_rgl rfl) rfl (pc2 := 12) ?_ ?_
    · intro h10
      refine wp_ic jF_309_43 rfl (pc2 := 44) ?_
      refine wp_ri jF_309_44 rfl ?_
      exact ⟨(-1), rfl, ⟨by omega, by omega⟩, rfl⟩
    · intro h10
      refine wp_ll1 jF_309_12 rfl rfl (pc2 := 13) ?_
      refine wp_il2 jF_309_13 rfl rfl (pc2 := 15) ?_
      refine wp_lng (pc2 := 16) jF_309_15 rfl rfl ?_
      intro y11
      refine wp_lc jF_309_16 rfl (pc2 := 17) ?_
      refine wp_lng (pc2 := 18) jF_309_17 rfl rfl ?_
      intro y12
      refine wp_lc jF_309_18 rfl (pc2 := 19) ?_
      refine wp_anyL (pc2 := 20) jF_309_19 rfl rfl ?_
      intro z13 h14
      refine wp_z_ne jF_309_20 (m_rgb h14 rfl) rfl (pc2 := 23) ?_ ?_
      · intro h15
        refine wp_il1 jF_309_26 rfl rfl (pc2 := 27) ?_
        refine wp_il1 jF_309_27 rfl rfl (pc2 := 28) ?_
        refine wp_i_ne jF_309_28 (m_rgb h3 rfl) ⟨by omega, by omega⟩ rfl (pc2 := 31) ?_ ?_
        · intro h16
          refine wp_inc (lv2 := [(0, .long set), (2, iV n), (3, iV (x1 + 1)), (4, iV x2)]) jF_309_34 rfl rfl rfl rfl (pc2 := 37) ?_
          refine wp_inc (lv2 := [(0, .long set), (2, iV n), (3, iV (x1 + 1)), (4, iV (x2 + 1))]) jF_309_37 rfl rfl rfl rfl (pc2 := 40) ?_
          refine wp_go jF_309_40 ?_
          exact ih9 ((x1 + 1), (x2 + 1)) σ ⟨⟨by (try dsimp only); omega, by (try dsimp only); omega⟩, ⟨by (try dsimp only); omega, by (try dsimp only); omega⟩, rfl, (by (try dsimp only); omega)⟩ (by show Int.toNat (64 - (x2 + 1)) < Int.toNat (64 - x2); omega)
        · intro h16
          refine wp_il2 jF_309_31 rfl rfl (pc2 := 33) ?_
          refine wp_ri jF_309_33 rfl ?_
          exact ⟨x2, rfl, ⟨by omega, by omega⟩, rfl⟩
      · intro h15
        refine wp_go jF_309_23 ?_
        refine wp_inc (lv2 := [(0, .long set), (2, iV n), (3, iV x1), (4, iV (x2 + 1))]) jF_309_37 rfl rfl rfl rfl (pc2 := 40) ?_
        refine wp_go jF_309_40 ?_
        exact ih9 (x1, (x2 + 1)) σ ⟨⟨by (try dsimp only); omega, by (try dsimp only); omega⟩, ⟨by (try dsimp only); omega, by (try dsimp only); omega⟩, rfl, (by (try dsimp only); omega)⟩ (by show Int.toNat (64 - (x2 + 1)) < Int.toNat (64 - x2); omega)
set_option maxHeartbeats 4000000 in
set_option maxRecDepth 20000 in
/-- M.hole -/
theorem m_308 (σ : jM) (hg : GI σ) (other : Int) (hl_other : 0 ≤ other) (hu_other : other ≤ 1) (n : Int) (hl_n : (-2147483648) ≤ n) (hu_n : n ≤ 2147483647) (pre0 : (l0 σ) = 22) (pre1 : (l1 σ) = 22) (fr lo : Nat) (hfr : 3 ≤ fr) (hlo : 76 ≤ lo) : WP 308 0 (lv_args 0 [.ref 117, iV other, iV n]) [] fr lo σ (fun v τ => ∃ z : Int, v = some (iV z) ∧ ((-2147483648) ≤ z ∧ z ≤ 2147483647) ∧ GI τ ∧ FR Wtr σ τ) := by
  show WP 308 0 [(0, .ref 117), (1, iV other), (2, iV n)] [] _ _ _ _
  refine wp_al1 jF_308_0 rfl rfl (pc2 := 1) ?_
  refine wp_ic jF_308_1 rfl (pc2 := 2) ?_
  refine wp_cV (as := [iV 0]) (rest := []) (a := 117) (mx := 2) (ci := 12) jF_308_2 kd117 (by decide) rfl rfl rfl rfl rfl (by omega) (by omega) rfl (pc2 := 5) ?_
  have b1 := GI.b hg 148 0 kd148 (lo := 0) (hi := 60) rfl
  refine wp_use (m_277_0 σ hg  (by omega) _ _ (by omega) (by omega)) ?_
  rintro _ τ4 ⟨y7, rfl, g5, f6, p2, p3⟩
  show WP 308 5 [(0, .ref 117), (1, iV other), (2, iV n)] [.long y7] _ _ _ _
  refine wp_ls1 (lv2 := [(0, .ref 117), (1, iV other), (2, iV n), (3, .long y7)]) jF_308_5 rfl rfl rfl (pc2 := 6) ?_
  refine wp_al1 jF_308_6 rfl rfl (pc2 := 7) ?_
  refine wp_ic jF_308_7 rfl (pc2 := 8) ?_
  refine wp_cV (as := [iV 1]) (rest := []) (a := 117) (mx := 2) (ci := 12) jF_308_8 kd117 (by decide) rfl rfl rfl rfl rfl (by omega) (by omega) rfl (pc2 := 11) ?_
  have q8 : (l1 τ4) = (l1 σ) := (l1_fr f6 rfl (fun _ => rfl))
  have b9 := GI.b hg 148 1 kd148 (lo := 0) (hi := 60) rfl
  have q10 : (τ4.1 148 1) = (σ.1 148 1) := (FR.at f6 148 1 rfl)
  refine wp_use (m_277_1 τ4 g5  (by omega) _ _ (by omega) (by omega)) ?_
  rintro _ τ13 ⟨y16, rfl, g14, f15, p11, p12⟩
  show WP 308 11 [(0, .ref 117), (1, iV other), (2, iV n), (3, .long y7)] [.long y16] _ _ _ _
  refine wp_ls2 (lv2 := [(0, .ref 117), (1, iV other), (2, iV n), (3, .long y7), (5, .long y16)]) jF_308_11 rfl rfl rfl (pc2 := 13) ?_
  refine wp_il1 jF_308_13 rfl rfl (pc2 := 14) ?_
  refine wp_z_eq jF_308_14 ⟨by omega, by omega⟩ rfl (pc2 := 17) ?_ ?_
  · intro h17
    refine wp_ll1 jF_308_28 rfl rfl (pc2 := 29) ?_
    refine wp_ll2 jF_308_29 rfl rfl (pc2 := 31) ?_
    refine wp_ld jF_308_31 rfl (pc2 := 34) ?_
    refine wp_lng (pc2 := 35) jF_308_34 rfl rfl ?_
    intro y18
    refine wp_lng (pc2 := 36) jF_308_35 rfl rfl ?_
    intro y19
    refine wp_il1 jF_308_36 rfl rfl (pc2 := 37) ?_
    refine wp_cS (as := [.long y19, iV n]) (rest := []) (mx := 5) jF_308_37 rfl rfl rfl rfl (by omega) (by omega) rfl (pc2 := 40) ?_
    refine wp_use (m_309 τ13 g14 y19 n (by omega) (by omega)  _ _ (by omega) (by omega)) ?_
    rintro _ _ ⟨z22, rfl, h23, rfl⟩
    show WP 308 40 [(0, .ref 117), (1, iV other), (2, iV n), (3, .long y7), (5, .long y16)] [iV z22] _ _ _ _
    refine wp_ri jF_308_40 rfl ?_
    exact ⟨z22, rfl, ⟨by omega, by omega⟩, g14, (FR.up f6 f15 sb_Wtr_Wtr)⟩
  · intro h17
    refine wp_ll2 jF_308_17 rfl rfl (pc2 := 19) ?_
    refine wp_ll1 jF_308_19 rfl rfl (pc2 := 20) ?_
    refine wp_ld jF_308_20 rfl (pc2 := 23) ?_
    refine wp_lng (pc2 := 24) jF_308_23 rfl rfl ?_
    intro y24
    refine wp_lng (pc2 := 25) jF_308_24 rfl rfl ?_
    intro y25
    refine wp_go jF_308_25 ?_
    refine wp_il1 jF_308_36 rfl rfl (pc2 := 37) ?_
    refine wp_cS (as := [.long y25, iV n]) (rest := []) (mx := 5) jF_308_37 rfl rfl rfl rfl (by omega) (by omega) rfl (pc2 := 40) ?_
    refine wp_use (m_309 τ13 g14 y25 n (by omega) (by omega)  _ _ (by omega) (by omega)) ?_
    rintro _ _ ⟨z28, rfl, h29, rfl⟩
    show WP 308 40 [(0, .ref 117), (1, iV other), (2, iV n), (3, .long y7), (5, .long y16)] [iV z28] _ _ _ _
    refine wp_ri jF_308_40 rfl ?_
    exact ⟨z28, rfl, ⟨by omega, by omega⟩, g14, (FR.up f6 f15 sb_Wtr_Wtr)⟩
set_option maxHeartbeats 4000000 in
set_option maxRecDepth 20000 in
/-- M.parts -/
theorem m_310 (σ : jM) (hg : GI σ)  (pre0 : (l0 σ) = 22) (pre1 : (l1 σ) = 22) (fr lo : Nat) (hfr : 3 ≤ fr) (hlo : 76 ≤ lo) : WP 310 0 (lv_args 0 [.ref 117]) [] fr lo σ (fun v τ => ∃ z : Int, v = some (iV z) ∧ ((-2147483648) ≤ z ∧ z ≤ 2147483647) ∧ GI τ ∧ FR Wtr σ τ) := by
  show WP 310 0 [(0, .ref 117)] [] _ _ _ _
  refine wp_al1 jF_310_0 rfl rfl (pc2 := 1) ?_
  refine wp_ic jF_310_1 rfl (pc2 := 2) ?_
  refine wp_cV (as := [iV 0]) (rest := []) (a := 117) (mx := 2) (ci := 12) jF_310_2 kd117 (by decide) rfl rfl rfl rfl rfl (by omega) (by omega) rfl (pc2 := 5) ?_
  have b1 := GI.b hg 148 0 kd148 (lo := 0) (hi := 60) rfl
  refine wp_use (m_277_0 σ hg  (by omega) _ _ (by omega) (by omega)) ?_
  rintro _ τ4 ⟨y7, rfl, g5, f6, p2, p3⟩
  show WP 310 5 [(0, .ref 117)] [.long y7] _ _ _ _
  refine wp_al1 jF_310_5 rfl rfl (pc2 := 6) ?_
  refine wp_ic jF_310_6 rfl (pc2 := 7) ?_
  refine wp_cV (as := [iV 1]) (rest := [.long y7]) (a := 117) (mx := 2) (ci := 12) jF_310_7 kd117 (by decide) rfl rfl rfl rfl rfl (by omega) (by omega) rfl (pc2 := 10) ?_
  have q8 : (l1 τ4) = (l1 σ) := (l1_fr f6 rfl (fun _ => rfl))
  have b9 := GI.b hg 148 1 kd148 (lo := 0) (hi := 60) rfl
  have q10 : (τ4.1 148 1) = (σ.1 148 1) := (FR.at f6 148 1 rfl)
  refine wp_use (m_277_1 τ4 g5  (by omega) _ _ (by omega) (by omega)) ?_
  rintro _ τ13 ⟨y16, rfl, g14, f15, p11, p12⟩
  show WP 310 10 [(0, .ref 117)] [.long y16, .long y7] _ _ _ _
  refine wp_lng (pc2 := 11) jF_310_10 rfl rfl ?_
  intro y17
  refine wp_ic jF_310_11 rfl (pc2 := 12) ?_
  refine wp_cS (as := [.long y17, iV 0]) (rest := []) (mx := 5) jF_310_12 rfl rfl rfl rfl (by omega) (by omega) rfl (pc2 := 15) ?_
  refine wp_use (m_309 τ13 g14 y17 0 (by omega) (by omega)  _ _ (by omega) (by omega)) ?_
  rintro _ _ ⟨z20, rfl, h21, rfl⟩
  show WP 310 15 [(0, .ref 117)] [iV z20] _ _ _ _
  refine wp_ri jF_310_15 rfl ?_
  exact ⟨z20, rfl, ⟨by omega, by omega⟩, g14, (FR.up f6 f15 sb_Wtr_Wtr)⟩
set_option maxHeartbeats 4000000 in
set_option maxRecDepth 20000 in
/-- M.fewest -/
theorem m_294 (σ : jM) (hg : GI σ) (other : Int) (hl_other : 0 ≤ other) (hu_other : other ≤ 1) (what : Int) (hl_what : (-2147483648) ≤ what) (hu_what : what ≤ 2147483647) (pre0 : (l0 σ) = 22) (pre1 : (l1 σ) = 22) (fr lo : Nat) (hfr : 3 ≤ fr) (hlo : 76 ≤ lo) : WP 294 0 (lv_args 0 [.ref 117, iV other, iV what]) [] fr lo σ (fun v τ => ∃ z : Int, v = some (iV z) ∧ ((-2147483648) ≤ z ∧ z ≤ 2147483647) ∧ GI τ ∧ FR Wfe σ τ) := by
  show WP 294 0 [(0, .ref 117), (1, iV other), (2, iV what)] [] _ _ _ _
  refine wp_il1 jF_294_0 rfl rfl (pc2 := 1) ?_
  refine wp_i2l jF_294_1 rfl (pc2 := 2) ?_
  refine wp_lc jF_294_2 rfl (pc2 := 3) ?_
  refine wp_ld jF_294_3 rfl (pc2 := 6) ?_
  refine wp_cS (as := [.long (Int32.toInt64 (Int32.ofInt what)), .long (Int64.ofNat 0), .long (3)]) (rest := []) (mx := 6) jF_294_6 rfl rfl rfl rfl (by omega) (by omega) rfl (pc2 := 9) ?_
  show WP 232 0 [(0, .long (Int32.toInt64 (Int32.ofInt what))), (2, .long (Int64.ofNat 0)), (4, .long (3))] [] _ _ _ _
  refine wp_ll1 jF_232_0 rfl rfl (pc2 := 1) ?_
  refine wp_ll1 jF_232_1 rfl rfl (pc2 := 2) ?_
  refine wp_lcmp2 (a := what) (b := 0) jF_232_2 (m_i2lt ⟨by omega, by omega⟩) (by decide) rfl (pc2 := 3) ?_
  intro z1 h2
  refine wp_z_lt jF_232_3 ⟨by omega, by omega⟩ rfl (pc2 := 6) ?_ ?_
  · intro h3
    refine wp_ic jF_232_17 rfl (pc2 := 18) ?_
    refine wp_ri jF_232_18 rfl ?_
    show WP 294 9 [(0, .ref 117), (1, iV other), (2, iV what)] [iV 0] _ _ _ _
    refine wp_z_ne jF_294_9 (m_rgl rfl) rfl (pc2 := 12) ?_ ?_
    · intro h4; exfalso; omega
    · intro h4
      refine wp_ic jF_294_12 rfl (pc2 := 13) ?_
      refine wp_ri jF_294_13 rfl ?_
      exact ⟨(-1), rfl, ⟨by omega, by omega⟩, hg, FR.rf⟩
  · intro h3
    refine wp_ll1 jF_232_6 rfl rfl (pc2 := 7) ?_
    refine wp_ll2 jF_232_7 rfl rfl (pc2 := 9) ?_
    refine wp_lcmp2 (a := what) (b := 3) jF_232_9 (m_i2lt ⟨by omega, by omega⟩) (by decide) rfl (pc2 := 10) ?_
    intro z5 h6
    refine wp_z_gt jF_232_10 ⟨by omega, by omega⟩ rfl (pc2 := 13) ?_ ?_
    · intro h7
      refine wp_ic jF_232_17 rfl (pc2 := 18) ?_
      refine wp_ri jF_232_18 rfl ?_
      show WP 294 9 [(0, .ref 117), (1, iV other), (2, iV what)] [iV 0] _ _ _ _
      refine wp_z_ne jF_294_9 (m_rgl rfl) rfl (pc2 := 12) ?_ ?_
      · intro h8; exfalso; omega
      · intro h8
        refine wp_ic jF_294_12 rfl (pc2 := 13) ?_
        refine wp_ri jF_294_13 rfl ?_
        exact ⟨(-1), rfl, ⟨by omega, by omega⟩, hg, FR.rf⟩
    · intro h7
      refine wp_ic jF_232_13 rfl (pc2 := 14) ?_
      refine wp_go jF_232_14 ?_
      refine wp_ri jF_232_18 rfl ?_
      show WP 294 9 [(0, .ref 117), (1, iV other), (2, iV what)] [iV 1] _ _ _ _
      refine wp_z_ne jF_294_9 (m_rgl rfl) rfl (pc2 := 12) ?_ ?_
      · intro h9
        refine wp_al1 jF_294_14 rfl rfl (pc2 := 15) ?_
        refine wp_al1 jF_294_15 rfl rfl (pc2 := 16) ?_
        refine wp_il1 jF_294_16 rfl rfl (pc2 := 17) ?_
        refine wp_cS (as := [iV other]) (rest := [.ref 117, .ref 117]) (mx := 1) jF_294_17 rfl rfl rfl rfl (by omega) (by omega) rfl (pc2 := 20) ?_
        show WP 269 0 [(0, iV other)] [] _ _ _ _
        refine wp_il1 jF_269_0 rfl rfl (pc2 := 1) ?_
        refine wp_z_eq jF_269_1 ⟨by omega, by omega⟩ rfl (pc2 := 4) ?_ ?_
        · intro h10
          refine wp_ic jF_269_8 rfl (pc2 := 9) ?_
          refine wp_ri jF_269_9 rfl ?_
          show WP 294 20 [(0, .ref 117), (1, iV other), (2, iV what)] [iV 0, .ref 117, .ref 117] _ _ _ _
          refine wp_cV (as := [iV 0]) (rest := [.ref 117]) (a := 117) (mx := 2) (ci := 12) jF_294_20 kd117 (by decide) rfl rfl rfl rfl rfl (by omega) (by omega) rfl (pc2 := 23) ?_
          have b11 := GI.b hg 148 0 kd148 (lo := 0) (hi := 60) rfl
          refine wp_use (m_277_0 σ hg  (by omega) _ _ (by omega) (by omega)) ?_
          rintro _ τ14 ⟨y17, rfl, g15, f16, p12, p13⟩
          show WP 294 23 [(0, .ref 117), (1, iV other), (2, iV what)] [.long y17, .ref 117] _ _ _ _
          refine wp_cV (as := [.long y17]) (rest := []) (a := 117) (mx := 5) (ci := 12) jF_294_23 kd117 (by decide) rfl rfl rfl rfl rfl (by omega) (by omega) rfl (pc2 := 26) ?_
          refine wp_use (m_295 τ14 g15 y17  _ _ (by omega) (by omega)) ?_
          rintro _ τ18 ⟨rfl, g19, f20⟩
          show WP 294 26 [(0, .ref 117), (1, iV other), (2, iV what)] [] _ _ _ _
          refine wp_al1 jF_294_26 rfl rfl (pc2 := 27) ?_
          have b21 := GI.b g19 117 59 kd117 (lo := (-2147483648)) (hi := 2147483647) rfl
          refine wp_gi jF_294_27 kd117 (by decide) rfl rfl rfl (pc2 := 30) ?_
          refine wp_ic jF_294_30 rfl (pc2 := 31) ?_
          refine wp_i_ne jF_294_31 (m_rgb b21 rfl) (m_rgl rfl) rfl (pc2 := 34) ?_ ?_
          · intro h22
            refine wp_il1 jF_294_36 rfl rfl (pc2 := 37) ?_
            rcases m_tsw what 0 2 with h23 | h23
            · refine wp_tswd (tgt := 100) jF_294_37 ⟨by omega, by omega⟩ h23 (by decide) ?_
              refine wp_al1 jF_294_100 rfl rfl (pc2 := 101) ?_
              have b24 := GI.b g19 117 61 kd117 (lo := (-2147483648)) (hi := 2147483647) rfl
              refine wp_gi jF_294_101 kd117 (by decide) rfl rfl rfl (pc2 := 104) ?_
              refine wp_ri jF_294_104 rfl ?_
              exact ⟨(τ18.1 117 61), rfl, ⟨by omega, by omega⟩, g19, (FR.up (FR.up FR.rf f16 sb_Wtr_Wfe) f20 sb_Wfw_Wfe)⟩
            · have h23c : what = 0 ∨ what = 1 ∨ what = 2 := by omega
              rcases h23c with hh | hh | hh
              · refine wp_tswx (x := 0) (tgt := 64) jF_294_37 hh (by decide) ?_
                refine wp_al1 jF_294_64 rfl rfl (pc2 := 65) ?_
                refine wp_gi jF_294_65 kd117 (by decide) rfl rfl rfl (pc2 := 68) ?_
                refine wp_ri jF_294_68 rfl ?_
                exact ⟨(τ18.1 117 59), rfl, ⟨by omega, by omega⟩, g19, (FR.up (FR.up FR.rf f16 sb_Wtr_Wfe) f20 sb_Wfw_Wfe)⟩
              · refine wp_tswx (x := 1) (tgt := 69) jF_294_37 hh (by decide) ?_
                refine wp_al1 jF_294_69 rfl rfl (pc2 := 70) ?_
                have b25 := GI.b g19 117 60 kd117 (lo := (-2147483648)) (hi := 2147483647) rfl
                refine wp_gi jF_294_70 kd117 (by decide) rfl rfl rfl (pc2 := 73) ?_
                refine wp_ic jF_294_73 rfl (pc2 := 74) ?_
                refine wp_i_ne jF_294_74 (m_rgb b25 rfl) (m_rgl rfl) rfl (pc2 := 77) ?_ ?_
                · intro h26
                  refine wp_al1 jF_294_81 rfl rfl (pc2 := 82) ?_
                  have b27 := GI.b g19 117 61 kd117 (lo := (-2147483648)) (hi := 2147483647) rfl
                  refine wp_gi jF_294_82 kd117 (by decide) rfl rfl rfl (pc2 := 85) ?_
                  refine wp_ic jF_294_85 rfl (pc2 := 86) ?_
                  refine wp_i_ne jF_294_86 (m_rgb b27 rfl) (m_rgl rfl) rfl (pc2 := 89) ?_ ?_
                  · intro h28
                    refine wp_ic jF_294_93 rfl (pc2 := 94) ?_
                    refine wp_ri jF_294_94 rfl ?_
                    exact ⟨2, rfl, ⟨by omega, by omega⟩, g19, (FR.up (FR.up FR.rf f16 sb_Wtr_Wfe) f20 sb_Wfw_Wfe)⟩
                  · intro h28
                    refine wp_ic jF_294_89 rfl (pc2 := 90) ?_
                    refine wp_go jF_294_90 ?_
                    refine wp_ri jF_294_94 rfl ?_
                    exact ⟨1, rfl, ⟨by omega, by omega⟩, g19, (FR.up (FR.up FR.rf f16 sb_Wtr_Wfe) f20 sb_Wfw_Wfe)⟩
                · intro h26
                  refine wp_ic jF_294_77 rfl (pc2 := 78) ?_
                  refine wp_go jF_294_78 ?_
                  refine wp_ri jF_294_94 rfl ?_
                  exact ⟨0, rfl, ⟨by omega, by omega⟩, g19, (FR.up (FR.up FR.rf f16 sb_Wtr_Wfe) f20 sb_Wfw_Wfe)⟩
              · refine wp_tswx (x := 2) (tgt := 95) jF_294_37 hh (by decide) ?_
                refine wp_al1 jF_294_95 rfl rfl (pc2 := 96) ?_
                have b29 := GI.b g19 117 60 kd117 (lo := (-2147483648)) (hi := 2147483647) rfl
                refine wp_gi jF_294_96 kd117 (by decide) rfl rfl rfl (pc2 := 99) ?_
                refine wp_ri jF_294_99 rfl ?_
                exact ⟨(τ18.1 117 60), rfl, ⟨by omega, by omega⟩, g19, (FR.up (FR.up FR.rf f16 sb_Wtr_Wfe) f20 sb_Wfw_Wfe)⟩
          · intro h22
            refine wp_ic jF_294_34 rfl (pc2 := 35) ?_
            refine wp_ri jF_294_35 rfl ?_
            exact ⟨(-1), rfl, ⟨by omega, by omega⟩, g19, (FR.up (FR.up FR.rf f16 sb_Wtr_Wfe) f20 sb_Wfw_Wfe)⟩
        · intro h10
          refine wp_ic jF_269_4 rfl (pc2 := 5) ?_
          refine wp_go jF_269_5 ?_
          refine wp_ri jF_269_9 rfl ?_
          show WP 294 20 [(0, .ref 117), (1, iV other), (2, iV what)] [iV 1, .ref 117, .ref 117] _ _ _ _
          refine wp_cV (as := [iV 1]) (rest := [.ref 117]) (a := 117) (mx := 2) (ci := 12) jF_294_20 kd117 (by decide) rfl rfl rfl rfl rfl (by omega) (by omega) rfl (pc2 := 23) ?_
          have b30 := GI.b hg 148 1 kd148 (lo := 0) (hi := 60) rfl
          refine wp_use (m_277_1 σ hg  (by omega) _ _ (by omega) (by omega)) ?_
          rintro _ τ33 ⟨y36, rfl, g34, f35, p31, p32⟩
          show WP 294 23 [(0, .ref 117), (1, iV other), (2, iV what)] [.long y36, .ref 117] _ _ _ _
          refine wp_cV (as := [.long y36]) (rest := []) (a := 117) (mx := 5) (ci := 12) jF_294_23 kd117 (by decide) rfl rfl rfl rfl rfl (by omega) (by omega) rfl (pc2 := 26) ?_
          refine wp_use (m_295 τ33 g34 y36  _ _ (by omega) (by omega)) ?_
          rintro _ τ37 ⟨rfl, g38, f39⟩
          show WP 294 26 [(0, .ref 117), (1, iV other), (2, iV what)] [] _ _ _ _
          refine wp_al1 jF_294_26 rfl rfl (pc2 := 27) ?_
          have b40 := GI.b g38 117 59 kd117 (lo := (-2147483648)) (hi := 2147483647) rfl
          refine wp_gi jF_294_27 kd117 (by decide) rfl rfl rfl (pc2 := 30) ?_
          refine wp_ic jF_294_30 rfl (pc2 := 31) ?_
          refine wp_i_ne jF_294_31 (m_rgb b40 rfl) (m_rgl rfl) rfl (pc2 := 34) ?_ ?_
          · intro h41
            refine wp_il1 jF_294_36 rfl rfl (pc2 := 37) ?_
            rcases m_tsw what 0 2 with h42 | h42
            · refine wp_tswd (tgt := 100) jF_294_37 ⟨by omega, by omega⟩ h42 (by decide) ?_
              refine wp_al1 jF_294_100 rfl rfl (pc2 := 101) ?_
              have b43 := GI.b g38 117 61 kd117 (lo := (-2147483648)) (hi := 2147483647) rfl
              refine wp_gi jF_294_101 kd117 (by decide) rfl rfl rfl (pc2 := 104) ?_
              refine wp_ri jF_294_104 rfl ?_
              exact ⟨(τ37.1 117 61), rfl, ⟨by omega, by omega⟩, g38, (FR.up (FR.up FR.rf f35 sb_Wtr_Wfe) f39 sb_Wfw_Wfe)⟩
            · have h42c : what = 0 ∨ what = 1 ∨ what = 2 := by omega
              rcases h42c with hh | hh | hh
              · refine wp_tswx (x := 0) (tgt := 64) jF_294_37 hh (by decide) ?_
                refine wp_al1 jF_294_64 rfl rfl (pc2 := 65) ?_
                refine wp_gi jF_294_65 kd117 (by decide) rfl rfl rfl (pc2 := 68) ?_
                refine wp_ri jF_294_68 rfl ?_
                exact ⟨(τ37.1 117 59), rfl, ⟨by omega, by omega⟩, g38, (FR.up (FR.up FR.rf f35 sb_Wtr_Wfe) f39 sb_Wfw_Wfe)⟩
              · refine wp_tswx (x := 1) (tgt := 69) jF_294_37 hh (by decide) ?_
                refine wp_al1 jF_294_69 rfl rfl (pc2 := 70) ?_
                have b44 := GI.b g38 117 60 kd117 (lo := (-2147483648)) (hi := 2147483647) rfl
                refine wp_gi jF_294_70 kd117 (by decide) rfl rfl rfl (pc2 := 73) ?_
                refine wp_ic jF_294_73 rfl (pc2 := 74) ?_
                refine wp_i_ne jF_294_74 (m_rgb b44 rfl) (m_rgl rfl) rfl (pc2 := 77) ?_ ?_
                · intro h45
                  refine wp_al1 jF_294_81 rfl rfl (pc2 := 82) ?_
                  have b46 := GI.b g38 117 61 kd117 (lo := (-2147483648)) (hi := 2147483647) rfl
                  refine wp_gi jF_294_82 kd117 (by decide) rfl rfl rfl (pc2 := 85) ?_
                  refine wp_ic jF_294_85 rfl (pc2 := 86) ?_
                  refine wp_i_ne jF_294_86 (m_rgb b46 rfl) (m_rgl rfl) rfl (pc2 := 89) ?_ ?_
                  · intro h47
                    refine wp_ic jF_294_93 rfl (pc2 := 94) ?_
                    refine wp_ri jF_294_94 rfl ?_
                    exact ⟨2, rfl, ⟨by omega, by omega⟩, g38, (FR.up (FR.up FR.rf f35 sb_Wtr_Wfe) f39 sb_Wfw_Wfe)⟩
                  · intro h47
                    refine wp_ic jF_294_89 rfl (pc2 := 90) ?_
                    refine wp_go jF_294_90 ?_
                    refine wp_ri jF_294_94 rfl ?_
                    exact ⟨1, rfl, ⟨by omega, by omega⟩, g38, (FR.up (FR.up FR.rf f35 sb_Wtr_Wfe) f39 sb_Wfw_Wfe)⟩
                · intro h45
                  refine wp_ic jF_294_77 rfl (pc2 := 78) ?_
                  refine wp_go jF_294_78 ?_
                  refine wp_ri jF_294_94 rfl ?_
                  exact ⟨0, rfl, ⟨by omega, by omega⟩, g38, (FR.up (FR.up FR.rf f35 sb_Wtr_Wfe) f39 sb_Wfw_Wfe)⟩
              · refine wp_tswx (x := 2) (tgt := 95) jF_294_37 hh (by decide) ?_
                refine wp_al1 jF_294_95 rfl rfl (pc2 := 96) ?_
                have b48 := GI.b g38 117 60 kd117 (lo := (-2147483648)) (hi := 2147483647) rfl
                refine wp_gi jF_294_96 kd117 (by decide) rfl rfl rfl (pc2 := 99) ?_
                refine wp_ri jF_294_99 rfl ?_
                exact ⟨(τ37.1 117 60), rfl, ⟨by omega, by omega⟩, g38, (FR.up (FR.up FR.rf f35 sb_Wtr_Wfe) f39 sb_Wfw_Wfe)⟩
          · intro h41
            refine wp_ic jF_294_34 rfl (pc2 := 35) ?_
            refine wp_ri jF_294_35 rfl ?_
            exact ⟨(-1), rfl, ⟨by omega, by omega⟩, g38, (FR.up (FR.up FR.rf f35 sb_Wtr_Wfe) f39 sb_Wfw_Wfe)⟩
      · intro h9; exfalso; omega
set_option maxHeartbeats 4000000 in
set_option maxRecDepth 20000 in
/-- M.triesCoded -/
theorem m_306_0 (σ : jM) (hg : GI σ) (code : Int) (hl_code : 0 ≤ code) (hu_code : code ≤ 6143)  (fr lo : Nat) (hfr : 2 ≤ fr) (hlo : 49 ≤ lo) : WP 306 0 (lv_args 0 [.ref 117, iV 0, iV code]) [] fr lo σ (fun v τ => ∃ z : Int, v = some (iV z) ∧ (0 ≤ z ∧ z ≤ 1) ∧ GI τ ∧ FR Wtr σ τ) := by
  show WP 306 0 [(0, .ref 117), (1, iV 0), (2, iV code)] [] _ _ _ _
  refine wp_al1 jF_306_0 rfl rfl (pc2 := 1) ?_
  refine wp_il1 jF_306_1 rfl rfl (pc2 := 2) ?_
  refine wp_il1 jF_306_2 rfl rfl (pc2 := 3) ?_
  refine wp_si jF_306_3 (by decide) rfl (pc2 := 6) ?_
  refine wp_div jF_306_6 ⟨by omega, by omega⟩ (by omega) (m_rgl rfl) (by omega) rfl (pc2 := 7) ?_
  refine wp_il1 jF_306_7 rfl rfl (pc2 := 8) ?_
  refine wp_bi jF_306_8 (by decide) rfl (pc2 := 10) ?_
  refine wp_div jF_306_10 ⟨by omega, by omega⟩ (by omega) (m_rgl rfl) (by omega) rfl (pc2 := 11) ?_
  refine wp_bi jF_306_11 (by decide) rfl (pc2 := 13) ?_
  refine wp_rem jF_306_13 ⟨by omega, by omega⟩ (by omega) (m_rgl rfl) (by omega) rfl (pc2 := 14) ?_
  refine wp_il1 jF_306_14 rfl rfl (pc2 := 15) ?_
  refine wp_bi jF_306_15 (by decide) rfl (pc2 := 17) ?_
  refine wp_rem jF_306_17 ⟨by omega, by omega⟩ (by omega) (m_rgl rfl) (by omega) rfl (pc2 := 18) ?_
  refine wp_cV (as := [iV 0, iV (code / 2048), iV ((code / 32) % 64), iV (code % 32)]) (rest := []) (a := 117) (mx := 5) (ci := 12) jF_306_18 kd117 (by decide) rfl rfl rfl rfl rfl (by omega) (by omega) rfl (pc2 := 21) ?_
  refine wp_use (m_288_0 σ hg (code / 2048) (by omega) (by omega) ((code / 32) % 64) (by omega) (by omega) (code % 32) (by omega) (by omega)  _ _ (by omega) (by omega)) ?_
  rintro _ τ1 ⟨z4, rfl, h5, g2, f3⟩
  show WP 306 21 [(0, .ref 117), (1, iV 0), (2, iV code)] [iV z4] _ _ _ _
  refine wp_ri jF_306_21 (m_fitb (by omega) (by omega)) ?_
  exact ⟨z4, rfl, ⟨by omega, by omega⟩, g2, f3⟩
