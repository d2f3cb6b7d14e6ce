set_option maxHeartbeats 4000000 in
set_option maxRecDepth 20000 in
/-- Row.next -/
theorem m_78_r (σ : jM) (hg : GI σ) (state : Int) (hl_state : (-1) ≤ state) (hu_state : state ≤ 4) (sg : Int) (hl_sg : (-1) ≤ sg) (hu_sg : sg ≤ 1000)  (fr lo : Nat) (hfr : 0 ≤ fr) (hlo : 0 ≤ lo) : WP 78 0 (lv_args 0 [iV state, iV sg]) [] fr lo σ (fun v τ => ∃ z : Int, v = some (iV z) ∧ ((-1) ≤ z ∧ z ≤ 4) ∧ σ = τ) := by
  show WP 78 0 [(0, iV state), (1, iV sg)] [] _ _ _ _
  refine wp_il1 jF_78_0 rfl rfl (pc2 := 1) ?_
  refine wp_bi jF_78_1 (by decide) rfl (pc2 := 3) ?_
  refine wp_i_ge jF_78_3 ⟨by omega, by omega⟩ (m_rgl rfl) rfl (pc2 := 6) ?_ ?_
  · intro h1
    refine wp_il1 jF_78_10 rfl rfl (pc2 := 11) ?_
    refine wp_bi jF_78_11 (by decide) rfl (pc2 := 13) ?_
    refine wp_i_gt jF_78_13 ⟨by omega, by omega⟩ (m_rgl rfl) rfl (pc2 := 16) ?_ ?_
    · intro h2
      refine wp_il1 jF_78_20 rfl rfl (pc2 := 21) ?_
      refine wp_bi jF_78_21 (by decide) rfl (pc2 := 23) ?_
      refine wp_sub jF_78_23 rfl (pc2 := 24) ?_
      refine wp_is1 (lv2 := [(0, iV state), (1, iV sg), (2, iV (sg - 18))]) jF_78_24 rfl rfl rfl (pc2 := 25) ?_
      refine wp_il1 jF_78_25 rfl rfl (pc2 := 26) ?_
      refine wp_ic jF_78_26 rfl (pc2 := 27) ?_
      refine wp_mul jF_78_27 rfl (pc2 := 28) ?_
      refine wp_il1 jF_78_28 rfl rfl (pc2 := 29) ?_
      refine wp_add jF_78_29 rfl (pc2 := 30) ?_
      refine wp_is1 (lv2 := [(0, iV state), (1, iV sg), (2, iV (sg - 18)), (3, iV ((state * 5) + (sg - 18)))]) jF_78_30 rfl rfl rfl (pc2 := 31) ?_
      refine wp_il1 jF_78_31 rfl rfl (pc2 := 32) ?_
      refine wp_z_lt jF_78_32 ⟨by omega, by omega⟩ rfl (pc2 := 35) ?_ ?_
      · intro h3
        refine wp_ic jF_78_56 rfl (pc2 := 57) ?_
        refine wp_ri jF_78_57 rfl ?_
        exact ⟨(-1), rfl, ⟨by omega, by omega⟩, rfl⟩
      · intro h3
        refine wp_il1 jF_78_35 rfl rfl (pc2 := 36) ?_
        refine wp_ic jF_78_36 rfl (pc2 := 37) ?_
        refine wp_i_ge jF_78_37 ⟨by omega, by omega⟩ (m_rgl rfl) rfl (pc2 := 40) ?_ ?_
        · intro h4
          refine wp_ic jF_78_56 rfl (pc2 := 57) ?_
          refine wp_ri jF_78_57 rfl ?_
          exact ⟨(-1), rfl, ⟨by omega, by omega⟩, rfl⟩
        · intro h4
          refine wp_il1 jF_78_40 rfl rfl (pc2 := 41) ?_
          refine wp_gs jF_78_41 rfl (pc2 := 44) ?_
          refine wp_nlen jF_78_44 rfl (pc2 := 45) ?_
          refine wp_i_ge jF_78_45 ⟨by omega, by omega⟩ (m_rgl rfl) rfl (pc2 := 48) ?_ ?_
          · intro h5
            refine wp_ic jF_78_56 rfl (pc2 := 57) ?_
            refine wp_ri jF_78_57 rfl ?_
            exact ⟨(-1), rfl, ⟨by omega, by omega⟩, rfl⟩
          · intro h5
            refine wp_gs jF_78_48 rfl (pc2 := 51) ?_
            refine wp_il1 jF_78_51 rfl rfl (pc2 := 52) ?_
            refine wp_next jF_78_52 (by omega) (by omega) rfl (pc2 := 53) ?_
            intro z6 h7
            refine wp_go jF_78_53 ?_
            refine wp_ri jF_78_57 rfl ?_
            exact ⟨z6, rfl, ⟨by omega, by omega⟩, rfl⟩
    · intro h2
      refine wp_ic jF_78_16 rfl (pc2 := 17) ?_
      refine wp_go jF_78_17 ?_
      refine wp_is1 (lv2 := [(0, iV state), (1, iV sg), (2, iV 1)]) jF_78_24 rfl rfl rfl (pc2 := 25) ?_
      refine wp_il1 jF_78_25 rfl rfl (pc2 := 26) ?_
      refine wp_ic jF_78_26 rfl (pc2 := 27) ?_
      refine wp_mul jF_78_27 rfl (pc2 := 28) ?_
      refine wp_il1 jF_78_28 rfl rfl (pc2 := 29) ?_
      refine wp_add jF_78_29 rfl (pc2 := 30) ?_
      refine wp_is1 (lv2 := [(0, iV state), (1, iV sg), (2, iV 1), (3, iV ((state * 5) + 1))]) jF_78_30 rfl rfl rfl (pc2 := 31) ?_
      refine wp_il1 jF_78_31 rfl rfl (pc2 := 32) ?_
      refine wp_z_lt jF_78_32 ⟨by omega, by omega⟩ rfl (pc2 := 35) ?_ ?_
      · intro h8
        refine wp_ic jF_78_56 rfl (pc2 := 57) ?_
        refine wp_ri jF_78_57 rfl ?_
        exact ⟨(-1), rfl, ⟨by omega, by omega⟩, rfl⟩
      · intro h8
        refine wp_il1 jF_78_35 rfl rfl (pc2 := 36) ?_
        refine wp_ic jF_78_36 rfl (pc2 := 37) ?_
        refine wp_i_ge jF_78_37 (m_rgl rfl) (m_rgl rfl) rfl (pc2 := 40) ?_ ?_
        · intro h9; exfalso; omega
        · intro h9
          refine wp_il1 jF_78_40 rfl rfl (pc2 := 41) ?_
          refine wp_gs jF_78_41 rfl (pc2 := 44) ?_
          refine wp_nlen jF_78_44 rfl (pc2 := 45) ?_
          refine wp_i_ge jF_78_45 ⟨by omega, by omega⟩ (m_rgl rfl) rfl (pc2 := 48) ?_ ?_
          · intro h10; exfalso; omega
          · intro h10
            refine wp_gs jF_78_48 rfl (pc2 := 51) ?_
            refine wp_il1 jF_78_51 rfl rfl (pc2 := 52) ?_
            refine wp_next jF_78_52 (by omega) (by omega) rfl (pc2 := 53) ?_
            intro z11 h12
            refine wp_go jF_78_53 ?_
            refine wp_ri jF_78_57 rfl ?_
            exact ⟨z11, rfl, ⟨by omega, by omega⟩, rfl⟩
  · intro h1
    refine wp_ic jF_78_6 rfl (pc2 := 7) ?_
    refine wp_go jF_78_7 ?_
    refine wp_is1 (lv2 := [(0, iV state), (1, iV sg), (2, iV 0)]) jF_78_24 rfl rfl rfl (pc2 := 25) ?_
    refine wp_il1 jF_78_25 rfl rfl (pc2 := 26) ?_
    refine wp_ic jF_78_26 rfl (pc2 := 27) ?_
    refine wp_mul jF_78_27 rfl (pc2 := 28) ?_
    refine wp_il1 jF_78_28 rfl rfl (pc2 := 29) ?_
    refine wp_add jF_78_29 rfl (pc2 := 30) ?_
    refine wp_is1 (lv2 := [(0, iV state), (1, iV sg), (2, iV 0), (3, iV ((state * 5) + 0))]) jF_78_30 rfl rfl rfl (pc2 := 31) ?_
    refine wp_il1 jF_78_31 rfl rfl (pc2 := 32) ?_
    refine wp_z_lt jF_78_32 ⟨by omega, by omega⟩ rfl (pc2 := 35) ?_ ?_
    · intro h13
      refine wp_ic jF_78_56 rfl (pc2 := 57) ?_
      refine wp_ri jF_78_57 rfl ?_
      exact ⟨(-1), rfl, ⟨by omega, by omega⟩, rfl⟩
    · intro h13
      refine wp_il1 jF_78_35 rfl rfl (pc2 := 36) ?_
      refine wp_ic jF_78_36 rfl (pc2 := 37) ?_
      refine wp_i_ge jF_78_37 (m_rgl rfl) (m_rgl rfl) rfl (pc2 := 40) ?_ ?_
      · intro h14; exfalso; omega
      · intro h14
        refine wp_il1 jF_78_40 rfl rfl (pc2 := 41) ?_
        refine wp_gs jF_78_41 rfl (pc2 := 44) ?_
        refine wp_nlen jF_78_44 rfl (pc2 := 45) ?_
        refine wp_i_ge jF_78_45 ⟨by omega, by omega⟩ (m_rgl rfl) rfl (pc2 := 48) ?_ ?_
        · intro h15; exfalso; omega
        · intro h15
          refine wp_gs jF_78_48 rfl (pc2 := 51) ?_
          refine wp_il1 jF_78_51 rfl rfl (pc2 := 52) ?_
          refine wp_next jF_78_52 (by omega) (by omega) rfl (pc2 := 53) ?_
          intro z16 h17
          refine wp_go jF_78_53 ?_
          refine wp_ri jF_78_57 rfl ?_
          exact ⟨z16, rfl, ⟨by omega, by omega⟩, rfl⟩
set_option maxHeartbeats 4000000 in
set_option maxRecDepth 20000 in
/-- Tape.octetAt -/
theorem m_39_r10 (σ : jM) (hg : GI σ) (k : Int) (hl_k : (-2147483648) ≤ k) (hu_k : k ≤ 2147483647)  (fr lo : Nat) (hfr : 0 ≤ fr) (hlo : 0 ≤ lo) : WP 39 0 (lv_args 0 [.ref 10, iV k]) [] fr lo σ (fun v τ => ∃ z : Int, v = some (iV z) ∧ ((-1) ≤ z ∧ z ≤ 255) ∧ σ = τ ∧ (z ≠ -1 → (0 ≤ k ∧ k < (σ.1 10 1))) ∧ ((0 ≤ k ∧ k < (σ.1 10 1)) → 0 ≤ z)) := by
  show WP 39 0 [(0, .ref 10), (1, iV k)] [] _ _ _ _
  refine wp_il1 jF_39_0 rfl rfl (pc2 := 1) ?_
  refine wp_z_lt jF_39_1 ⟨by omega, by omega⟩ rfl (pc2 := 4) ?_ ?_
  · intro h1
    refine wp_ic jF_39_21 rfl (pc2 := 22) ?_
    refine wp_ri jF_39_22 rfl ?_
    have b2 := GI.b hg 10 1 kd10 (lo := 0) (hi := 1600) rfl
    exact ⟨(-1), rfl, ⟨by omega, by omega⟩, rfl, (by omega), (by omega)⟩
  · intro h1
    refine wp_il1 jF_39_4 rfl rfl (pc2 := 5) ?_
    refine wp_al1 jF_39_5 rfl rfl (pc2 := 6) ?_
    have b3 := GI.b hg 10 1 kd10 (lo := 0) (hi := 1600) rfl
    refine wp_gi jF_39_6 kd10 (by decide) rfl rfl rfl (pc2 := 9) ?_
    refine wp_i_ge jF_39_9 ⟨by omega, by omega⟩ (m_rgb b3 rfl) rfl (pc2 := 12) ?_ ?_
    · intro h4
      refine wp_ic jF_39_21 rfl (pc2 := 22) ?_
      refine wp_ri jF_39_22 rfl ?_
      exact ⟨(-1), rfl, ⟨by omega, by omega⟩, rfl, (by omega), (by omega)⟩
    · intro h4
      refine wp_al1 jF_39_12 rfl rfl (pc2 := 13) ?_
      refine wp_gr (b := 11) jF_39_13 kd10 (by decide) (c := 111) rfl rfl rfl (pc2 := 16) ?_
      refine wp_il1 jF_39_16 rfl rfl (pc2 := 17) ?_
      have b5 := GI.b hg 11 k.toNat kd11 (lo := 0) (hi := 255) rfl
      refine wp_iald (n := 1600) (e := (σ.1 11 k.toNat)) jF_39_17 kd11 (by decide) rfl rfl (by omega) (by omega) rfl rfl (pc2 := 18) ?_
      refine wp_go jF_39_18 ?_
      refine wp_ri jF_39_22 rfl ?_
      exact ⟨(σ.1 11 k.toNat), rfl, ⟨by omega, by omega⟩, rfl, (by omega), (by omega)⟩
set_option maxHeartbeats 4000000 in
set_option maxRecDepth 20000 in
/-- Tape.begin -/
theorem m_34_r10 (σ : jM) (hg : GI σ)   (fr lo : Nat) (hfr : 0 ≤ fr) (hlo : 0 ≤ lo) : WP 34 0 (lv_args 0 [.ref 10]) [] fr lo σ (fun v τ => v = none ∧ GI τ ∧ FR Wtp σ τ) := by
  show WP 34 0 [(0, .ref 10)] [] _ _ _ _
  refine wp_al1 jF_34_0 rfl rfl (pc2 := 1) ?_
  refine wp_ic jF_34_1 rfl (pc2 := 2) ?_
  refine wp_pi jF_34_2 kd10 (by decide) rfl rfl rfl (pc2 := 5) hg (lo := 0) (hi := 1600) rfl (by omega) (by omega) ?_
  intro τ1 g2 f3 e4
  refine wp_al1 jF_34_5 rfl rfl (pc2 := 6) ?_
  refine wp_ic jF_34_6 rfl (pc2 := 7) ?_
  refine wp_pi jF_34_7 kd10 (by decide) rfl rfl rfl (pc2 := 10) g2 (lo := (-2147483648)) (hi := 2147483647) rfl (by omega) (by omega) ?_
  intro τ5 g6 f7 e8
  refine wp_al1 jF_34_10 rfl rfl (pc2 := 11) ?_
  refine wp_ic jF_34_11 rfl (pc2 := 12) ?_
  refine wp_pi jF_34_12 kd10 (by decide) rfl rfl rfl (pc2 := 15) g6 (lo := (-2147483648)) (hi := 2147483647) rfl (by omega) (by omega) ?_
  intro τ9 g10 f11 e12
  refine wp_rv jF_34_15 ?_
  exact ⟨rfl, g10, (FR.w (FR.w (FR.w FR.rf f3 rfl) f7 rfl) f11 rfl)⟩
set_option maxHeartbeats 4000000 in
set_option maxRecDepth 20000 in
/-- Tape.blame -/
theorem m_42_r10 (σ : jM) (hg : GI σ) (kind : Int) (hl_kind : (-2147483648) ≤ kind) (hu_kind : kind ≤ 2147483647) (pl : Int) (hl_pl : (-2147483648) ≤ pl) (hu_pl : pl ≤ 2147483647)  (fr lo : Nat) (hfr : 0 ≤ fr) (hlo : 0 ≤ lo) : WP 42 0 (lv_args 0 [.ref 10, iV kind, iV pl]) [] fr lo σ (fun v τ => ∃ z : Int, v = some (iV z) ∧ (0 ≤ z ∧ z ≤ 0) ∧ GI τ ∧ FR Wtp σ τ) := by
  show WP 42 0 [(0, .ref 10), (1, iV kind), (2, iV pl)] [] _ _ _ _
  refine wp_al1 jF_42_0 rfl rfl (pc2 := 1) ?_
  refine wp_il1 jF_42_1 rfl rfl (pc2 := 2) ?_
  refine wp_pi jF_42_2 kd10 (by decide) rfl rfl rfl (pc2 := 5) hg (lo := (-2147483648)) (hi := 2147483647) rfl (by omega) (by omega) ?_
  intro τ1 g2 f3 e4
  refine wp_al1 jF_42_5 rfl rfl (pc2 := 6) ?_
  refine wp_il1 jF_42_6 rfl rfl (pc2 := 7) ?_
  refine wp_pi jF_42_7 kd10 (by decide) rfl rfl rfl (pc2 := 10) g2 (lo := (-2147483648)) (hi := 2147483647) rfl (by omega) (by omega) ?_
  intro τ5 g6 f7 e8
  refine wp_ic jF_42_10 rfl (pc2 := 11) ?_
  refine wp_ri jF_42_11 rfl ?_
  exact ⟨0, rfl, ⟨by omega, by omega⟩, g6, (FR.w (FR.w FR.rf f3 rfl) f7 rfl)⟩
set_option maxHeartbeats 4000000 in
set_option maxRecDepth 20000 in
/-- Tape.look -/
theorem m_35_r10 (σ : jM) (hg : GI σ)   (fr lo : Nat) (hfr : 0 ≤ fr) (hlo : 0 ≤ lo) : WP 35 0 (lv_args 0 [.ref 10]) [] fr lo σ (fun v τ => ∃ z : Int, v = some (iV z) ∧ ((-1) ≤ z ∧ z ≤ 255) ∧ GI τ ∧ FR Wtp σ τ ∧ (0 ≤ z → (τ.1 10 2) < (σ.1 10 1))) := by
  show WP 35 0 [(0, .ref 10)] [] _ _ _ _
  refine wp_loop (α := Unit) (fun a => [(0, .ref 10)]) (fun a τ => GI τ ∧ FR Wtp σ τ) (fun a τ => Int.toNat (1700 - (τ.1 10 2))) () σ ?_ ?_
  · skip
    exact ⟨hg, FR.rf⟩
  · rintro ⟨⟩ τ1 ⟨g2, f3⟩ ih4
    show WP 35 0 [(0, .ref 10)] [] _ _ _ _
    show WP 35 0 [(0, .ref 10)] [] _ _ _ _
    refine wp_al1 jF_35_0 rfl rfl (pc2 := 1) ?_
    have b5 := GI.b g2 10 2 kd10 (lo := 0) (hi := 1600) rfl
    refine wp_gi jF_35_1 kd10 (by decide) rfl rfl rfl (pc2 := 4) ?_
    refine wp_al1 jF_35_4 rfl rfl (pc2 := 5) ?_
    have b6 := GI.b hg 10 1 kd10 (lo := 0) (hi := 1600) rfl
    refine wp_gi jF_35_5 kd10 (by decide) rfl (FR.at f3 10 1 rfl) rfl (pc2 := 8) ?_
    refine wp_i_ge jF_35_8 (m_rgb b5 rfl) (m_rgb b6 rfl) rfl (pc2 := 11) ?_ ?_
    · intro h7
      refine wp_al1 jF_35_52 rfl rfl (pc2 := 53) ?_
      refine wp_gi jF_35_53 kd10 (by decide) rfl rfl rfl (pc2 := 56) ?_
      refine wp_al1 jF_35_56 rfl rfl (pc2 := 57) ?_
      refine wp_gi jF_35_57 kd10 (by decide) rfl (FR.at f3 10 1 rfl) rfl (pc2 := 60) ?_
      refine wp_i_ge jF_35_60 (m_rgb b5 rfl) (m_rgb b6 rfl) rfl (pc2 := 63) ?_ ?_
      · intro h8
        refine wp_ic jF_35_75 rfl (pc2 := 76) ?_
        refine wp_ri jF_35_76 rfl ?_
        exact ⟨(-1), rfl, ⟨by omega, by omega⟩, g2, f3, (by omega)⟩
      · intro h8
        refine wp_al1 jF_35_63 rfl rfl (pc2 := 64) ?_
        refine wp_gr (b := 11) jF_35_64 kd10 (by decide) (c := 111) rfl rfl rfl (pc2 := 67) ?_
        refine wp_al1 jF_35_67 rfl rfl (pc2 := 68) ?_
        refine wp_gi jF_35_68 kd10 (by decide) rfl rfl rfl (pc2 := 71) ?_
        have b9 := GI.b hg 11 (τ1.1 10 2).toNat kd11 (lo := 0) (hi := 255) rfl
        refine wp_iald (n := 1600) (e := (σ.1 11 (τ1.1 10 2).toNat)) jF_35_71 kd11 (by decide) rfl rfl (by omega) (by omega) (FR.at f3 11 (τ1.1 10 2).toNat rfl) rfl (pc2 := 72) ?_
        refine wp_go jF_35_72 ?_
        refine wp_ri jF_35_76 rfl ?_
        exact ⟨(σ.1 11 (τ1.1 10 2).toNat), rfl, ⟨by omega, by omega⟩, g2, f3, (by omega)⟩
    · intro h7
      refine wp_al1 jF_35_11 rfl rfl (pc2 := 12) ?_
      refine wp_gr (b := 11) jF_35_12 kd10 (by decide) (c := 111) rfl rfl rfl (pc2 := 15) ?_
      refine wp_al1 jF_35_15 rfl rfl (pc2 := 16) ?_
      refine wp_gi jF_35_16 kd10 (by decide) rfl rfl rfl (pc2 := 19) ?_
      have b10 := GI.b hg 11 (τ1.1 10 2).toNat kd11 (lo := 0) (hi := 255) rfl
      refine wp_iald (n := 1600) (e := (σ.1 11 (τ1.1 10 2).toNat)) jF_35_19 kd11 (by decide) rfl rfl (by omega) (by omega) (FR.at f3 11 (τ1.1 10 2).toNat rfl) rfl (pc2 := 20) ?_
      refine wp_bi jF_35_20 (by decide) rfl (pc2 := 22) ?_
      refine wp_i_eq jF_35_22 (m_rgb b10 rfl) (m_rgl rfl) rfl (pc2 := 25) ?_ ?_
      · intro h11
        refine wp_al1 jF_35_39 rfl rfl (pc2 := 40) ?_
        refine wp_dup jF_35_40 rfl rfl (pc2 := 41) ?_
        refine wp_gi jF_35_41 kd10 (by decide) rfl rfl rfl (pc2 := 44) ?_
        refine wp_ic jF_35_44 rfl (pc2 := 45) ?_
        refine wp_add jF_35_45 rfl (pc2 := 46) ?_
        refine wp_pi jF_35_46 kd10 (by decide) rfl rfl rfl (pc2 := 49) g2 (lo := 0) (hi := 1600) rfl (by omega) (by omega) ?_
        intro τ12 g13 f14 e15
        refine wp_go jF_35_49 ?_
        have q16 : (τ12.1 10 2) = ((τ1.1 10 2) + 1) := e15
        exact ih4 () τ12 ⟨g13, (FR.w f3 f14 rfl)⟩ (by show Int.toNat (1700 - (τ12.1 10 2)) < Int.toNat (1700 - (τ1.1 10 2)); omega)
      · intro h11
        refine wp_al1 jF_35_25 rfl rfl (pc2 := 26) ?_
        refine wp_gr (b := 11) jF_35_26 kd10 (by decide) (c := 111) rfl rfl rfl (pc2 := 29) ?_
        refine wp_al1 jF_35_29 rfl rfl (pc2 := 30) ?_
        refine wp_gi jF_35_30 kd10 (by decide) rfl rfl rfl (pc2 := 33) ?_
        refine wp_iald (n := 1600) (e := (σ.1 11 (τ1.1 10 2).toNat)) jF_35_33 kd11 (by decide) rfl rfl (by omega) (by omega) (FR.at f3 11 (τ1.1 10 2).toNat rfl) rfl (pc2 := 34) ?_
        refine wp_bi jF_35_34 (by decide) rfl (pc2 := 36) ?_
        refine wp_i_ne jF_35_36 (m_rgb b10 rfl) (m_rgl rfl) rfl (pc2 := 39) ?_ ?_
        · intro h17
          refine wp_al1 jF_35_52 rfl rfl (pc2 := 53) ?_
          refine wp_gi jF_35_53 kd10 (by decide) rfl rfl rfl (pc2 := 56) ?_
          refine wp_al1 jF_35_56 rfl rfl (pc2 := 57) ?_
          refine wp_gi jF_35_57 kd10 (by decide) rfl (FR.at f3 10 1 rfl) rfl (pc2 := 60) ?_
          refine wp_i_ge jF_35_60 (m_rgb b5 rfl) (m_rgb b6 rfl) rfl (pc2 := 63) ?_ ?_
          · intro h18
            refine wp_ic jF_35_75 rfl (pc2 := 76) ?_
            refine wp_ri jF_35_76 rfl ?_
            exact ⟨(-1), rfl, ⟨by omega, by omega⟩, g2, f3, (by omega)⟩
          · intro h18
            refine wp_al1 jF_35_63 rfl rfl (pc2 := 64) ?_
            refine wp_gr (b := 11) jF_35_64 kd10 (by decide) (c := 111) rfl rfl rfl (pc2 := 67) ?_
            refine wp_al1 jF_35_67 rfl rfl (pc2 := 68) ?_
            refine wp_gi jF_35_68 kd10 (by decide) rfl rfl rfl (pc2 := 71) ?_
            refine wp_iald (n := 1600) (e := (σ.1 11 (τ1.1 10 2).toNat)) jF_35_71 kd11 (by decide) rfl rfl (by omega) (by omega) (FR.at f3 11 (τ1.1 10 2).toNat rfl) rfl (pc2 := 72) ?_
            refine wp_go jF_35_72 ?_
            refine wp_ri jF_35_76 rfl ?_
            exact ⟨(σ.1 11 (τ1.1 10 2).toNat), rfl, ⟨by omega, by omega⟩, g2, f3, (by omega)⟩
        · intro h17
          refine wp_al1 jF_35_39 rfl rfl (pc2 := 40) ?_
          refine wp_dup jF_35_40 rfl rfl (pc2 := 41) ?_
          refine wp_gi jF_35_41 kd10 (by decide) rfl rfl rfl (pc2 := 44) ?_
          refine wp_ic jF_35_44 rfl (pc2 := 45) ?_
          refine wp_add jF_35_45 rfl (pc2 := 46) ?_
          refine wp_pi jF_35_46 kd10 (by decide) rfl rfl rfl (pc2 := 49) g2 (lo := 0) (hi := 1600) rfl (by omega) (by omega) ?_
          intro τ19 g20 f21 e22
          refine wp_go jF_35_49 ?_
          have q23 : (τ19.1 10 2) = ((τ1.1 10 2) + 1) := e22
          exact ih4 () τ19 ⟨g20, (FR.w f3 f21 rfl)⟩ (by show Int.toNat (1700 - (τ19.1 10 2)) < Int.toNat (1700 - (τ1.1 10 2)); omega)
