set_option maxHeartbeats 4000000 in
set_option maxRecDepth 20000 in
/-- M.bits -/
theorem m_273 (σ : jM) (hg : GI σ) (set : Int64)  (fr lo : Nat) (hfr : 0 ≤ fr) (hlo : 0 ≤ lo) : WP 273 0 (lv_args 0 [.long set]) [] fr lo σ (fun v τ => ∃ z : Int, v = some (iV z) ∧ ((-2147483648) ≤ z ∧ z ≤ 2147483647) ∧ σ = τ) := by
  show WP 273 0 [(0, .long set)] [] _ _ _ _
  refine wp_ic jF_273_0 rfl (pc2 := 1) ?_
  refine wp_is1 (lv2 := [(0, .long set), (2, iV 0)]) jF_273_1 rfl rfl rfl (pc2 := 2) ?_
  refine wp_ll1 jF_273_2 rfl rfl (pc2 := 3) ?_
  refine wp_ls1 (lv2 := [(0, .long set), (2, iV 0), (3, .long set)]) jF_273_3 rfl rfl rfl (pc2 := 4) ?_
  refine wp_loop (α := Int × Int64) (fun a => [(0, .long set), (2, iV (a.1)), (3, .long (a.2))]) (fun a τ => ((-2147483648) ≤ a.1 ∧ a.1 ≤ 2147483647) ∧ σ = τ) (fun a τ => Int.toNat ((((a.2)).toBitVec.toNat : Int))) (0, set) σ ?_ ?_
  · skip
    exact ⟨⟨by (try dsimp only); omega, by (try dsimp only); omega⟩, rfl⟩
  · rintro ⟨x1, y2⟩ _ ⟨h3, rfl⟩ ih7
    try dsimp only at h3
    show WP 273 4 [(0, .long set), (2, iV x1), (3, .long y2)] [] _ _ _ _
    show WP 273 4 [(0, .long set), (2, iV x1), (3, .long y2)] [] _ _ _ _
    refine wp_ll1 jF_273_4 rfl rfl (pc2 := 5) ?_
    refine wp_lc jF_273_5 rfl (pc2 := 6) ?_
    refine wp_lcmp2 (a := (Int64.toInt y2)) (b := 0) jF_273_6 rfl (by decide) rfl (pc2 := 7) ?_
    intro z8 h9
    refine wp_z_eq jF_273_7 ⟨by omega, by omega⟩ rfl (pc2 := 10) ?_ ?_
    · intro h10
      refine wp_il1 jF_273_22 rfl rfl (pc2 := 23) ?_
      refine wp_ri jF_273_23 rfl ?_
      exact ⟨x1, rfl, ⟨by omega, by omega⟩, rfl⟩
    · intro h10
      have n11 := bits_lt (x := y2) (by omega)
      refine wp_inca (lv2 := fun z12 => [(0, .long set), (2, iV z12), (3, .long y2)]) jF_273_10 rfl rfl (fun _ => rfl) rfl ?_
      intro z12 h13
      refine wp_ll1 jF_273_13 rfl rfl (pc2 := 14) ?_
      refine wp_ll1 jF_273_14 rfl rfl (pc2 := 15) ?_
      refine wp_lc jF_273_15 rfl (pc2 := 16) ?_
      refine wp_lgx (y2 - (Int64.ofNat 1)) jF_273_16 rfl rfl (pc2 := 17) ?_
      refine wp_lgx (y2 &&& (y2 - (Int64.ofNat 1))) jF_273_17 rfl rfl (pc2 := 18) ?_
      refine wp_ls1 (lv2 := [(0, .long set), (2, iV z12), (3, .long (y2 &&& (y2 - (Int64.ofNat 1))))]) jF_273_18 rfl rfl rfl (pc2 := 19) ?_
      refine wp_go jF_273_19 ?_
      exact ih7 (z12, (y2 &&& (y2 - (Int64.ofNat 1)))) σ ⟨⟨by (try dsimp only); omega, by (try dsimp only); omega⟩, rfl⟩ (by show Int.toNat ((((y2 &&& (y2 - (Int64.ofNat 1)))).toBitVec.toNat : Int)) < Int.toNat (((y2).toBitVec.toNat : Int)); omega)
set_option maxHeartbeats 4000000 in
set_option maxRecDepth 20000 in
/-- M.size -/
theorem m_270_0 (σ : jM) (hg : GI σ) (what : Int) (hl_what : (-2147483648) ≤ what) (hu_what : what ≤ 2147483647) (pre0 : (σ.1 143 4) ≤ 8) (pre1 : (l0 σ) = 22) (pre2 : (l1 σ) = 22) (fr lo : Nat) (hfr : 3 ≤ fr) (hlo : 82 ≤ lo) : WP 270 0 (lv_args 0 [.ref 117, iV 0, iV what]) [] fr lo σ (fun v τ => ∃ z : Int, v = some (iV z) ∧ ((-2147483648) ≤ z ∧ z ≤ 2147483647) ∧ GI τ ∧ FR Wtr σ τ) := by
  show WP 270 0 [(0, .ref 117), (1, iV 0), (2, iV what)] [] _ _ _ _
  refine wp_al1 jF_270_0 rfl rfl (pc2 := 1) ?_
  refine wp_il1 jF_270_1 rfl rfl (pc2 := 2) ?_
  refine wp_cS (as := [iV 0]) (rest := [.ref 117]) (mx := 1) jF_270_2 rfl rfl rfl rfl (by omega) (by omega) rfl (pc2 := 5) ?_
  show WP 269 0 [(0, iV 0)] [] _ _ _ _
  refine wp_il1 jF_269_0 rfl rfl (pc2 := 1) ?_
  refine wp_z_eq jF_269_1 (m_rgl rfl) rfl (pc2 := 4) ?_ ?_
  · intro h1
    refine wp_ic jF_269_8 rfl (pc2 := 9) ?_
    refine wp_ri jF_269_9 rfl ?_
    show WP 270 5 [(0, .ref 117), (1, iV 0), (2, iV what)] [iV 0, .ref 117] _ _ _ _
    refine wp_cV (as := [iV 0]) (rest := []) (a := 117) (mx := 3) (ci := 12) jF_270_5 kd117 (by decide) rfl rfl rfl rfl rfl (by omega) (by omega) rfl (pc2 := 8) ?_
    have b2 := GI.b hg 148 0 kd148 (lo := 0) (hi := 60) rfl
    refine wp_use (m_271_0 σ hg   _ _ (by omega) (by omega)) ?_
    rintro _ τ5 ⟨rfl, g6, f7, p3, p4⟩
    show WP 270 8 [(0, .ref 117), (1, iV 0), (2, iV what)] [] _ _ _ _
    refine wp_il1 jF_270_8 rfl rfl (pc2 := 9) ?_
    rcases m_tsw what 0 4 with h8 | h8
    · refine wp_tswd (tgt := 93) jF_270_9 ⟨by omega, by omega⟩ h8 (by decide) ?_
      refine wp_ic jF_270_93 rfl (pc2 := 94) ?_
      refine wp_ri jF_270_94 rfl ?_
      exact ⟨(-1), rfl, ⟨by omega, by omega⟩, g6, f7⟩
    · have h8c : what = 0 ∨ what = 1 ∨ what = 2 ∨ what = 3 ∨ what = 4 := by omega
      rcases h8c with hh | hh | hh | hh | hh
      · refine wp_tswx (x := 0) (tgt := 44) jF_270_9 hh (by decide) ?_
        refine wp_al1 jF_270_44 rfl rfl (pc2 := 45) ?_
        refine wp_cV (as := []) (rest := []) (a := 117) (mx := 3) (ci := 12) jF_270_45 kd117 (by decide) rfl rfl rfl rfl rfl (by omega) (by omega) rfl (pc2 := 48) ?_
        refine wp_use (m_272 τ5 g6   _ _ (by omega) (by omega)) ?_
        rintro _ _ ⟨z11, rfl, h12, rfl⟩
        show WP 270 48 [(0, .ref 117), (1, iV 0), (2, iV what)] [iV z11] _ _ _ _
        refine wp_ri jF_270_48 rfl ?_
        exact ⟨z11, rfl, ⟨by omega, by omega⟩, g6, f7⟩
      · refine wp_tswx (x := 1) (tgt := 49) jF_270_9 hh (by decide) ?_
        refine wp_al1 jF_270_49 rfl rfl (pc2 := 50) ?_
        have b13 := GI.b g6 117 49 kd117 (lo := 0) (hi := 61) rfl
        refine wp_gi jF_270_50 kd117 (by decide) rfl rfl rfl (pc2 := 53) ?_
        refine wp_al1 jF_270_53 rfl rfl (pc2 := 54) ?_
        refine wp_cV (as := []) (rest := [iV (τ5.1 117 49)]) (a := 117) (mx := 3) (ci := 12) jF_270_54 kd117 (by decide) rfl rfl rfl rfl rfl (by omega) (by omega) rfl (pc2 := 57) ?_
        refine wp_use (m_272 τ5 g6   _ _ (by omega) (by omega)) ?_
        rintro _ _ ⟨z16, rfl, h17, rfl⟩
        show WP 270 57 [(0, .ref 117), (1, iV 0), (2, iV what)] [iV z16, iV (τ5.1 117 49)] _ _ _ _
        refine wp_sub jF_270_57 rfl (pc2 := 58) ?_
        refine wp_ri jF_270_58 rfl ?_
        exact ⟨((τ5.1 117 49) - z16), rfl, ⟨by omega, by omega⟩, g6, f7⟩
      · refine wp_tswx (x := 2) (tgt := 59) jF_270_9 hh (by decide) ?_
        refine wp_al1 jF_270_59 rfl rfl (pc2 := 60) ?_
        refine wp_cV (as := []) (rest := []) (a := 117) (mx := 4) (ci := 12) jF_270_60 kd117 (by decide) rfl rfl rfl rfl rfl (by omega) (by omega) rfl (pc2 := 63) ?_
        refine wp_use (m_259 τ5 g6  (by omega) _ _ (by omega) (by omega)) ?_
        rintro _ _ ⟨y20, rfl, rfl⟩
        show WP 270 63 [(0, .ref 117), (1, iV 0), (2, iV what)] [.long y20] _ _ _ _
        refine wp_cS (as := [.long y20]) (rest := []) (mx := 5) jF_270_63 rfl rfl rfl rfl (by omega) (by omega) rfl (pc2 := 66) ?_
        refine wp_use (m_273 τ5 g6 y20  _ _ (by omega) (by omega)) ?_
        rintro _ _ ⟨z23, rfl, h24, rfl⟩
        show WP 270 66 [(0, .ref 117), (1, iV 0), (2, iV what)] [iV z23] _ _ _ _
        refine wp_ri jF_270_66 rfl ?_
        exact ⟨z23, rfl, ⟨by omega, by omega⟩, g6, f7⟩
      · refine wp_tswx (x := 3) (tgt := 67) jF_270_9 hh (by decide) ?_
        refine wp_al1 jF_270_67 rfl rfl (pc2 := 68) ?_
        refine wp_cV (as := []) (rest := []) (a := 117) (mx := 8) (ci := 12) jF_270_68 kd117 (by decide) rfl rfl rfl rfl rfl (by omega) (by omega) rfl (pc2 := 71) ?_
        refine wp_use (m_274 τ5 g6  (by omega) _ _ (by omega) (by omega)) ?_
        rintro _ _ ⟨z27, rfl, h28, rfl⟩
        show WP 270 71 [(0, .ref 117), (1, iV 0), (2, iV what)] [iV z27] _ _ _ _
        refine wp_ri jF_270_71 rfl ?_
        exact ⟨z27, rfl, ⟨by omega, by omega⟩, g6, f7⟩
      · refine wp_tswx (x := 4) (tgt := 72) jF_270_9 hh (by decide) ?_
        refine wp_il1 jF_270_72 rfl rfl (pc2 := 73) ?_
        refine wp_z_eq jF_270_73 (m_rgl rfl) rfl (pc2 := 76) ?_ ?_
        · intro h29
          refine wp_al1 jF_270_80 rfl rfl (pc2 := 81) ?_
          refine wp_cV (as := []) (rest := []) (a := 117) (mx := 6) (ci := 12) jF_270_81 kd117 (by decide) rfl rfl rfl rfl rfl (by omega) (by omega) rfl (pc2 := 84) ?_
          have b30 := GI.b hg 143 4 kd143 (lo := 0) (hi := 16) rfl
          have q31 : (τ5.1 143 4) = (σ.1 143 4) := (FR.at f7 143 4 rfl)
          refine wp_use (m_258 τ5 g6  (by omega) (by omega) _ _ (by omega) (by omega)) ?_
          rintro _ _ ⟨z34, rfl, h35, rfl⟩
          show WP 270 84 [(0, .ref 117), (1, iV 0), (2, iV what)] [iV z34] _ _ _ _
          refine wp_z_eq jF_270_84 (m_rgb h35 rfl) rfl (pc2 := 87) ?_ ?_
          · intro h36
            refine wp_ic jF_270_91 rfl (pc2 := 92) ?_
            refine wp_ri jF_270_92 rfl ?_
            exact ⟨0, rfl, ⟨by omega, by omega⟩, g6, f7⟩
          · intro h36
            refine wp_ic jF_270_87 rfl (pc2 := 88) ?_
            refine wp_go jF_270_88 ?_
            refine wp_ri jF_270_92 rfl ?_
            exact ⟨1, rfl, ⟨by omega, by omega⟩, g6, f7⟩
        · intro h29; exfalso; omega
  · intro h1; exfalso; omega
set_option maxHeartbeats 4000000 in
set_option maxRecDepth 20000 in
/-- M.size -/
theorem m_270_1 (σ : jM) (hg : GI σ) (what : Int) (hl_what : (-2147483648) ≤ what) (hu_what : what ≤ 2147483647) (pre0 : (σ.1 143 4) ≤ 8) (pre1 : (l0 σ) = 22) (pre2 : (l1 σ) = 22) (fr lo : Nat) (hfr : 3 ≤ fr) (hlo : 82 ≤ lo) : WP 270 0 (lv_args 0 [.ref 117, iV 1, iV what]) [] fr lo σ (fun v τ => ∃ z : Int, v = some (iV z) ∧ ((-2147483648) ≤ z ∧ z ≤ 2147483647) ∧ GI τ ∧ FR Wtr σ τ) := by
  show WP 270 0 [(0, .ref 117), (1, iV 1), (2, iV what)] [] _ _ _ _
  refine wp_al1 jF_270_0 rfl rfl (pc2 := 1) ?_
  refine wp_il1 jF_270_1 rfl rfl (pc2 := 2) ?_
  refine wp_cS (as := [iV 1]) (rest := [.ref 117]) (mx := 1) jF_270_2 rfl rfl rfl rfl (by omega) (by omega) rfl (pc2 := 5) ?_
  show WP 269 0 [(0, iV 1)] [] _ _ _ _
  refine wp_il1 jF_269_0 rfl rfl (pc2 := 1) ?_
  refine wp_z_eq jF_269_1 (m_rgl rfl) rfl (pc2 := 4) ?_ ?_
  · intro h1; exfalso; omega
  · intro h1
    refine wp_ic jF_269_4 rfl (pc2 := 5) ?_
    refine wp_go jF_269_5 ?_
    refine wp_ri jF_269_9 rfl ?_
    show WP 270 5 [(0, .ref 117), (1, iV 1), (2, iV what)] [iV 1, .ref 117] _ _ _ _
    refine wp_cV (as := [iV 1]) (rest := []) (a := 117) (mx := 3) (ci := 12) jF_270_5 kd117 (by decide) rfl rfl rfl rfl rfl (by omega) (by omega) rfl (pc2 := 8) ?_
    have b2 := GI.b hg 148 1 kd148 (lo := 0) (hi := 60) rfl
    refine wp_use (m_271_1 σ hg   _ _ (by omega) (by omega)) ?_
    rintro _ τ5 ⟨rfl, g6, f7, p3, p4⟩
    show WP 270 8 [(0, .ref 117), (1, iV 1), (2, iV what)] [] _ _ _ _
    refine wp_il1 jF_270_8 rfl rfl (pc2 := 9) ?_
    rcases m_tsw what 0 4 with h8 | h8
    · refine wp_tswd (tgt := 93) jF_270_9 ⟨by omega, by omega⟩ h8 (by decide) ?_
      refine wp_ic jF_270_93 rfl (pc2 := 94) ?_
      refine wp_ri jF_270_94 rfl ?_
      exact ⟨(-1), rfl, ⟨by omega, by omega⟩, g6, f7⟩
    · have h8c : what = 0 ∨ what = 1 ∨ what = 2 ∨ what = 3 ∨ what = 4 := by omega
      rcases h8c with hh | hh | hh | hh | hh
      · refine wp_tswx (x := 0) (tgt := 44) jF_270_9 hh (by decide) ?_
        refine wp_al1 jF_270_44 rfl rfl (pc2 := 45) ?_
        refine wp_cV (as := []) (rest := []) (a := 117) (mx := 3) (ci := 12) jF_270_45 kd117 (by decide) rfl rfl rfl rfl rfl (by omega) (by omega) rfl (pc2 := 48) ?_
        refine wp_use (m_272 τ5 g6   _ _ (by omega) (by omega)) ?_
        rintro _ _ ⟨z11, rfl, h12, rfl⟩
        show WP 270 48 [(0, .ref 117), (1, iV 1), (2, iV what)] [iV z11] _ _ _ _
        refine wp_ri jF_270_48 rfl ?_
        exact ⟨z11, rfl, ⟨by omega, by omega⟩, g6, f7⟩
      · refine wp_tswx (x := 1) (tgt := 49) jF_270_9 hh (by decide) ?_
        refine wp_al1 jF_270_49 rfl rfl (pc2 := 50) ?_
        have b13 := GI.b g6 117 49 kd117 (lo := 0) (hi := 61) rfl
        refine wp_gi jF_270_50 kd117 (by decide) rfl rfl rfl (pc2 := 53) ?_
        refine wp_al1 jF_270_53 rfl rfl (pc2 := 54) ?_
        refine wp_cV (as := []) (rest := [iV (τ5.1 117 49)]) (a := 117) (mx := 3) (ci := 12) jF_270_54 kd117 (by decide) rfl rfl rfl rfl rfl (by omega) (by omega) rfl (pc2 := 57) ?_
        refine wp_use (m_272 τ5 g6   _ _ (by omega) (by omega)) ?_
        rintro _ _ ⟨z16, rfl, h17, rfl⟩
        show WP 270 57 [(0, .ref 117), (1, iV 1), (2, iV what)] [iV z16, iV (τ5.1 117 49)] _ _ _ _
        refine wp_sub jF_270_57 rfl (pc2 := 58) ?_
        refine wp_ri jF_270_58 rfl ?_
        exact ⟨((τ5.1 117 49) - z16), rfl, ⟨by omega, by omega⟩, g6, f7⟩
      · refine wp_tswx (x := 2) (tgt := 59) jF_270_9 hh (by decide) ?_
        refine wp_al1 jF_270_59 rfl rfl (pc2 := 60) ?_
        refine wp_cV (as := []) (rest := []) (a := 117) (mx := 4) (ci := 12) jF_270_60 kd117 (by decide) rfl rfl rfl rfl rfl (by omega) (by omega) rfl (pc2 := 63) ?_
        refine wp_use (m_259 τ5 g6  (by omega) _ _ (by omega) (by omega)) ?_
        rintro _ _ ⟨y20, rfl, rfl⟩
        show WP 270 63 [(0, .ref 117), (1, iV 1), (2, iV what)] [.long y20] _ _ _ _
        refine wp_cS (as := [.long y20]) (rest := []) (mx := 5) jF_270_63 rfl rfl rfl rfl (by omega) (by omega) rfl (pc2 := 66) ?_
        refine wp_use (m_273 τ5 g6 y20  _ _ (by omega) (by omega)) ?_
        rintro _ _ ⟨z23, rfl, h24, rfl⟩
        show WP 270 66 [(0, .ref 117), (1, iV 1), (2, iV what)] [iV z23] _ _ _ _
        refine wp_ri jF_270_66 rfl ?_
        exact ⟨z23, rfl, ⟨by omega, by omega⟩, g6, f7⟩
      · refine wp_tswx (x := 3) (tgt := 67) jF_270_9 hh (by decide) ?_
        refine wp_al1 jF_270_67 rfl rfl (pc2 := 68) ?_
        refine wp_cV (as := []) (rest := []) (a := 117) (mx := 8) (ci := 12) jF_270_68 kd117 (by decide) rfl rfl rfl rfl rfl (by omega) (by omega) rfl (pc2 := 71) ?_
        refine wp_use (m_274 τ5 g6  (by omega) _ _ (by omega) (by omega)) ?_
        rintro _ _ ⟨z27, rfl, h28, rfl⟩
        show WP 270 71 [(0, .ref 117), (1, iV 1), (2, iV what)] [iV z27] _ _ _ _
        refine wp_ri jF_270_71 rfl ?_
        exact ⟨z27, rfl, ⟨by omega, by omega⟩, g6, f7⟩
      · refine wp_tswx (x := 4) (tgt := 72) jF_270_9 hh (by decide) ?_
        refine wp_il1 jF_270_72 rfl rfl (pc2 := 73) ?_
        refine wp_z_eq jF_270_73 (m_rgl rfl) rfl (pc2 := 76) ?_ ?_
        · intro h29; exfalso; omega
        · intro h29
          refine wp_ic jF_270_76 rfl (pc2 := 77) ?_
          refine wp_go jF_270_77 ?_
          refine wp_ri jF_270_92 rfl ?_
          exact ⟨(-1), rfl, ⟨by omega, by omega⟩, g6, f7⟩
set_option maxHeartbeats 4000000 in
set_option maxRecDepth 20000 in
/-- M.price -/
theorem m_284 (σ : jM) (hg : GI σ) (place : Int) (hl_place : (-2147483648) ≤ place) (hu_place : place ≤ 2147483647) (pre0 : (σ.1 143 4) ≤ 8) (pre1 : (l0 σ) = 22) (pre2 : (l1 σ) = 22) (fr lo : Nat) (hfr : 3 ≤ fr) (hlo : 76 ≤ lo) : WP 284 0 (lv_args 0 [.ref 117, iV place]) [] fr lo σ (fun v τ => ∃ z : Int, v = some (iV z) ∧ ((-2147483648) ≤ z ∧ z ≤ 2147483647) ∧ GI τ ∧ FR Wtr σ τ) := by
  show WP 284 0 [(0, .ref 117), (1, iV place)] [] _ _ _ _
  refine wp_il1 jF_284_0 rfl rfl (pc2 := 1) ?_
  refine wp_i2l jF_284_1 rfl (pc2 := 2) ?_
  refine wp_lc jF_284_2 rfl (pc2 := 3) ?_
  refine wp_al1 jF_284_3 rfl rfl (pc2 := 4) ?_
  refine wp_gr (b := 148) jF_284_4 kd117 (by decide) (c := 248) rfl rfl rfl (pc2 := 7) ?_
  refine wp_ic jF_284_7 rfl (pc2 := 8) ?_
  have b1 := GI.b hg 148 0 kd148 (lo := 0) (hi := 60) rfl
  refine wp_iald (n := 2) (e := (σ.1 148 0)) jF_284_8 kd148 (by decide) rfl rfl (by omega) (by omega) rfl rfl (pc2 := 9) ?_
  refine wp_ic jF_284_9 rfl (pc2 := 10) ?_
  refine wp_sub jF_284_10 rfl (pc2 := 11) ?_
  refine wp_i2l jF_284_11 rfl (pc2 := 12) ?_
  refine wp_cS (as := [.long (Int32.toInt64 (Int32.ofInt place)), .long (Int64.ofNat 0), .long (Int32.toInt64 (Int32.ofInt ((σ.1 148 0) - 1)))]) (rest := []) (mx := 6) jF_284_12 rfl rfl rfl rfl (by omega) (by omega) rfl (pc2 := 15) ?_
  show WP 232 0 [(0, .long (Int32.toInt64 (Int32.ofInt place))), (2, .long (Int64.ofNat 0)), (4, .long (Int32.toInt64 (Int32.ofInt ((σ.1 148 0) - 1))))] [] _ _ _ _
  refine wp_ll1 jF_232_0 rfl rfl (pc2 := 1) ?_
  refine wp_ll1 jF_232_1 rfl rfl (pc2 := 2) ?_
  refine wp_lcmp2 (a := place) (b := 0) jF_232_2 (m_i2lt ⟨by omega, by omega⟩) (by decide) rfl (pc2 := 3) ?_
  intro z2 h3
  refine wp_z_lt jF_232_3 ⟨by omega, by omega⟩ rfl (pc2 := 6) ?_ ?_
  · intro h4
    refine wp_ic jF_232_17 rfl (pc2 := 18) ?_
    refine wp_ri jF_232_18 rfl ?_
    show WP 284 15 [(0, .ref 117), (1, iV place)] [iV 0] _ _ _ _
    refine wp_z_ne jF_284_15 (m_rgl rfl) rfl (pc2 := 18) ?_ ?_
    · intro h5; exfalso; omega
    · intro h5
      refine wp_ic jF_284_18 rfl (pc2 := 19) ?_
      refine wp_ri jF_284_19 rfl ?_
      exact ⟨(-1), rfl, ⟨by omega, by omega⟩, hg, FR.rf⟩
  · intro h4
    refine wp_ll1 jF_232_6 rfl rfl (pc2 := 7) ?_
    refine wp_ll2 jF_232_7 rfl rfl (pc2 := 9) ?_
    refine wp_lcmp2 (a := place) (b := ((σ.1 148 0) - 1)) jF_232_9 (m_i2lt ⟨by omega, by omega⟩) (m_i2lt ⟨by omega, by omega⟩) rfl (pc2 := 10) ?_
    intro z6 h7
    refine wp_z_gt jF_232_10 ⟨by omega, by omega⟩ rfl (pc2 := 13) ?_ ?_
    · intro h8
      refine wp_ic jF_232_17 rfl (pc2 := 18) ?_
      refine wp_ri jF_232_18 rfl ?_
      show WP 284 15 [(0, .ref 117), (1, iV place)] [iV 0] _ _ _ _
      refine wp_z_ne jF_284_15 (m_rgl rfl) rfl (pc2 := 18) ?_ ?_
      · intro h9; exfalso; omega
      · intro h9
        refine wp_ic jF_284_18 rfl (pc2 := 19) ?_
        refine wp_ri jF_284_19 rfl ?_
        exact ⟨(-1), rfl, ⟨by omega, by omega⟩, hg, FR.rf⟩
    · intro h8
      refine wp_ic jF_232_13 rfl (pc2 := 14) ?_
      refine wp_go jF_232_14 ?_
      refine wp_ri jF_232_18 rfl ?_
      show WP 284 15 [(0, .ref 117), (1, iV place)] [iV 1] _ _ _ _
      refine wp_z_ne jF_284_15 (m_rgl rfl) rfl (pc2 := 18) ?_ ?_
      · intro h10
        refine wp_al1 jF_284_20 rfl rfl (pc2 := 21) ?_
        refine wp_ic jF_284_21 rfl (pc2 := 22) ?_
        refine wp_cV (as := [iV 0]) (rest := []) (a := 117) (mx := 2) (ci := 12) jF_284_22 kd117 (by decide) rfl rfl rfl rfl rfl (by omega) (by omega) rfl (pc2 := 25) ?_
        refine wp_use (m_277_0 σ hg  (by omega) _ _ (by omega) (by omega)) ?_
        rintro _ τ13 ⟨y16, rfl, g14, f15, p11, p12⟩
        show WP 284 25 [(0, .ref 117), (1, iV place)] [.long y16] _ _ _ _
        refine wp_ls1 (lv2 := [(0, .ref 117), (1, iV place), (2, .long y16)]) jF_284_25 rfl rfl rfl (pc2 := 26) ?_
        refine wp_al1 jF_284_26 rfl rfl (pc2 := 27) ?_
        refine wp_il1 jF_284_27 rfl rfl (pc2 := 28) ?_
        refine wp_cV (as := [iV place]) (rest := []) (a := 117) (mx := 3) (ci := 12) jF_284_28 kd117 (by decide) rfl rfl rfl rfl rfl (by omega) (by omega) rfl (pc2 := 31) ?_
        have b17 := GI.b g14 117 49 kd117 (lo := 0) (hi := 61) rfl
        refine wp_use (m_281 τ13 g14 place (by omega) (by omega) (by omega) _ _ (by omega) (by omega)) ?_
        rintro _ τ19 ⟨rfl, g20, f21, p18⟩
        show WP 284 31 [(0, .ref 117), (1, iV place), (2, .long y16)] [] _ _ _ _
        refine wp_al1 jF_284_31 rfl rfl (pc2 := 32) ?_
        refine wp_cV (as := []) (rest := []) (a := 117) (mx := 7) (ci := 12) jF_284_32 kd117 (by decide) rfl rfl rfl rfl rfl (by omega) (by omega) rfl (pc2 := 35) ?_
        have b22 := GI.b g20 117 49 kd117 (lo := 0) (hi := 61) rfl
        refine wp_use (m_282 τ19 g20   _ _ (by omega) (by omega)) ?_
        rintro _ _ ⟨z26, rfl, h27, rfl, p23⟩
        show WP 284 35 [(0, .ref 117), (1, iV place), (2, .long y16)] [iV z26] _ _ _ _
        refine wp_z_eq jF_284_35 (m_rgb h27 rfl) rfl (pc2 := 38) ?_ ?_
        · intro h28
          clear p23
          refine wp_ic jF_284_50 rfl (pc2 := 51) ?_
          refine wp_ri jF_284_51 rfl ?_
          exact ⟨(-1), rfl, ⟨by omega, by omega⟩, g20, (FR.up f15 f21 sb_Wtr_Wtr)⟩
        · intro h28
          replace p23 := p23 (by omega)
          refine wp_ll1 jF_284_38 rfl rfl (pc2 := 39) ?_
          refine wp_al1 jF_284_39 rfl rfl (pc2 := 40) ?_
          refine wp_cV (as := []) (rest := [.long y16]) (a := 117) (mx := 4) (ci := 12) jF_284_40 kd117 (by decide) rfl rfl rfl rfl rfl (by omega) (by omega) rfl (pc2 := 43) ?_
          refine wp_use (m_259 τ19 g20  (by omega) _ _ (by omega) (by omega)) ?_
          rintro _ _ ⟨y31, rfl, rfl⟩
          show WP 284 43 [(0, .ref 117), (1, iV place), (2, .long y16)] [.long y31, .long y16] _ _ _ _
          refine wp_lng (pc2 := 44) jF_284_43 rfl rfl ?_
          intro y32
          refine wp_cS (as := [.long y32]) (rest := []) (mx := 5) jF_284_44 rfl rfl rfl rfl (by omega) (by omega) rfl (pc2 := 47) ?_
          refine wp_use (m_273 τ19 g20 y32  _ _ (by omega) (by omega)) ?_
          rintro _ _ ⟨z35, rfl, h36, rfl⟩
          show WP 284 47 [(0, .ref 117), (1, iV place), (2, .long y16)] [iV z35] _ _ _ _
          refine wp_go jF_284_47 ?_
          refine wp_ri jF_284_51 rfl ?_
          exact ⟨z35, rfl, ⟨by omega, by omega⟩, g20, (FR.up f15 f21 sb_Wtr_Wtr)⟩
      · intro h10; exfalso; omega
set_option maxHeartbeats 4000000 in
set_option maxRecDepth 20000 in
/-- M.worthOf -/
theorem m_313 (σ : jM) (hg : GI σ) (set : Int64) (k : Int) (hl_k : (-2147483648) ≤ k) (hu_k : k ≤ 2147483647) (pre0 : (σ.1 143 3) ≤ 16) (fr lo : Nat) (hfr : 1 ≤ fr) (hlo : 24 ≤ lo) : WP 313 0 (lv_args 0 [.ref 117, .long set, iV k]) [] fr lo σ (fun v τ => ∃ z : Int, v = some (iV z) ∧ ((-2147483648) ≤ z ∧ z ≤ 2147483647) ∧ σ = τ) := by
  show WP 313 0 [(0, .ref 117), (1, .long set), (3, iV k)] [] _ _ _ _
  refine wp_ic jF_313_0 rfl (pc2 := 1) ?_
  refine wp_is2 (lv2 := [(0, .ref 117), (1, .long set), (3, iV k), (4, iV 0)]) jF_313_1 rfl rfl rfl (pc2 := 3) ?_
  refine wp_ic jF_313_3 rfl (pc2 := 4) ?_
  refine wp_is2 (lv2 := [(0, .ref 117), (1, .long set), (3, iV k), (4, iV 0), (5, iV 0)]) jF_313_4 rfl rfl rfl (pc2 := 6) ?_
  refine wp_loop (α := Int × Int) (fun a => [(0, .ref 117), (1, .long set), (3, iV k), (4, iV (a.1)), (5, iV (a.2))]) (fun a τ => ((-2147483648) ≤ a.1 ∧ a.1 ≤ 2147483647) ∧ (0 ≤ a.2 ∧ a.2 ≤ 16) ∧ σ = τ) (fun a τ => Int.toNat (16 - (a.2))) (0, 0) σ ?_ ?_
  · skip
    exact ⟨⟨by (try dsimp only); omega, by (try dsimp only); omega⟩, ⟨by (try dsimp only); omega, by (try dsimp only); omega⟩, rfl⟩
  · rintro ⟨x1, x2⟩ _ ⟨h3, h4, rfl⟩ ih8
    try dsimp only at h3 h4
    show WP 313 6 [(0, .ref 117), (1, .long set), (3, iV k), (4, iV x1), (5, iV x2)] [] _ _ _ _
    show WP 313 6 [(0, .ref 117), (1, .long set), (3, iV k), (4, iV x1), (5, iV x2)] [] _ _ _ _
    refine wp_il2 jF_313_6 rfl rfl (pc2 := 8) ?_
    refine wp_al1 jF_313_8 rfl rfl (pc2 := 9) ?_
    refine wp_gr (b := 143) jF_313_9 kd117 (by decide) (c := 243) rfl rfl rfl (pc2 := 12) ?_
    refine wp_ic jF_313_12 rfl (pc2 := 13) ?_
    have b9 := GI.b hg 143 3 kd143 (lo := 0) (hi := 16) rfl
    refine wp_iald (n := 6) (e := (σ.1 143 3)) jF_313_13 kd143 (by decide) rfl rfl (by omega) (by omega) rfl rfl (pc2 := 14) ?_
    refine wp_i_ge jF_313_14 (m_rgb h4 rfl) (m_rgb b9 rfl) rfl (pc2 := 17) ?_ ?_
    · intro h10
      refine wp_il2 jF_313_103 rfl rfl (pc2 := 105) ?_
      refine wp_ri jF_313_105 rfl ?_
      exact ⟨x1, rfl, ⟨by omega, by omega⟩, rfl⟩
    · intro h10
      refine wp_si jF_313_17 (by decide) rfl (pc2 := 20) ?_
      refine wp_bi jF_313_20 (by decide) rfl (pc2 := 22) ?_
      refine wp_il2 jF_313_22 rfl rfl (pc2 := 24) ?_
      refine wp_mul jF_313_24 rfl (pc2 := 25) ?_
      refine wp_add jF_313_25 rfl (pc2 := 26) ?_
      refine wp_is2 (lv2 := [(0, .ref 117), (1, .long set), (3, iV k), (4, iV x1), (5, iV x2), (6, iV (204 + (6 * x2)))]) jF_313_26 rfl rfl rfl (pc2 := 28) ?_
      refine wp_al1 jF_313_28 rfl rfl (pc2 := 29) ?_
      refine wp_gr (b := 142) jF_313_29 kd117 (by decide) (c := 242) rfl rfl rfl (pc2 := 32) ?_
      refine wp_il2 jF_313_32 rfl rfl (pc2 := 34) ?_
      refine wp_ic jF_313_34 rfl (pc2 := 35) ?_
      refine wp_add jF_313_35 rfl (pc2 := 36) ?_
      have b11 := GI.b hg 142 ((204 + (6 * x2)) + 4).toNat kd142 (lo := (-2147483648)) (hi := 2147483647) rfl
      refine wp_iald (n := 408) (e := (σ.1 142 ((204 + (6 * x2)) + 4).toNat)) jF_313_36 kd142 (by decide) rfl rfl (by omega) (by omega) rfl rfl (pc2 := 37) ?_
      refine wp_il1 jF_313_37 rfl rfl (pc2 := 38) ?_
      refine wp_i_ne jF_313_38 (m_rgb b11 rfl) ⟨by omega, by omega⟩ rfl (pc2 := 41) ?_ ?_
      · intro h12
        refine wp_inc (lv2 := [(0, .ref 117), (1, .long set), (3, iV k), (4, iV x1), (5, iV (x2 + 1)), (6, iV (204 + (6 * x2)))]) jF_313_97 rfl rfl rfl rfl (pc2 := 100) ?_
        refine wp_go jF_313_100 ?_
        refine wp_less [0, 1, 3, 4, 5] (lv2 := [(0, .ref 117), (1, .long set), (3, iV k), (4, iV x1), (5, iV (x2 + 1))]) rfl rfl ?_
        exact ih8 (x1, (x2 + 1)) σ ⟨⟨by (try dsimp only); omega, by (try dsimp only); omega⟩, ⟨by (try dsimp only); omega, by (try dsimp only); omega⟩, rfl⟩ (by show Int.toNat (16 - (x2 + 1)) < Int.toNat (16 - x2); omega)
      · intro h12
        refine wp_il2 jF_313_41 rfl rfl (pc2 := 43) ?_
        refine wp_al1 jF_313_43 rfl rfl (pc2 := 44) ?_
        refine wp_gr (b := 142) jF_313_44 kd117 (by decide) (c := 242) rfl rfl rfl (pc2 := 47) ?_
        refine wp_il2 jF_313_47 rfl rfl (pc2 := 49) ?_
        refine wp_ic jF_313_49 rfl (pc2 := 50) ?_
        refine wp_add jF_313_50 rfl (pc2 := 51) ?_
        have b13 := GI.b hg 142 ((204 + (6 * x2)) + 5).toNat kd142 (lo := (-2147483648)) (hi := 2147483647) rfl
        refine wp_iald (n := 408) (e := (σ.1 142 ((204 + (6 * x2)) + 5).toNat)) jF_313_51 kd142 (by decide) rfl rfl (by omega) (by omega) rfl rfl (pc2 := 52) ?_
        refine wp_al1 jF_313_52 rfl rfl (pc2 := 53) ?_
        refine wp_gr (b := 142) jF_313_53 kd117 (by decide) (c := 242) rfl rfl rfl (pc2 := 56) ?_
        refine wp_il2 jF_313_56 rfl rfl (pc2 := 58) ?_
        refine wp_ic jF_313_58 rfl (pc2 := 59) ?_
        refine wp_add jF_313_59 rfl (pc2 := 60) ?_
        have b14 := GI.b hg 142 ((204 + (6 * x2)) + 3).toNat kd142 (lo := (-2147483648)) (hi := 2147483647) rfl
        refine wp_iald (n := 408) (e := (σ.1 142 ((204 + (6 * x2)) + 3).toNat)) jF_313_60 kd142 (by decide) rfl rfl (by omega) (by omega) rfl rfl (pc2 := 61) ?_
        refine wp_ic jF_313_61 rfl (pc2 := 62) ?_
        refine wp_i_ne jF_313_62 (m_rgb b14 rfl) (m_rgl rfl) rfl (pc2 := 65) ?_ ?_
        · intro h15
          refine wp_al1 jF_313_77 rfl rfl (pc2 := 78) ?_
          refine wp_gr (b := 145) jF_313_78 kd117 (by decide) (c := 245) rfl rfl rfl (pc2 := 81) ?_
          refine wp_il2 jF_313_81 rfl rfl (pc2 := 83) ?_
          refine wp_lald (n := 34) jF_313_83 kd145 (by decide) rfl rfl (by omega) (by omega) rfl (pc2 := 84) ?_
          intro y16
          refine wp_ll1 jF_313_84 rfl rfl (pc2 := 85) ?_
          refine wp_ld jF_313_85 rfl (pc2 := 88) ?_
          refine wp_lng (pc2 := 89) jF_313_88 rfl rfl ?_
          intro y17
          refine wp_lng (pc2 := 90) jF_313_89 rfl rfl ?_
          intro y18
          refine wp_cS (as := [.long y18]) (rest := [iV (σ.1 142 ((204 + (6 * x2)) + 5).toNat), iV x1]) (mx := 5) jF_313_90 rfl rfl rfl rfl (by omega) (by omega) rfl (pc2 := 93) ?_
          refine wp_use (m_273 σ hg y18  _ _ (by omega) (by omega)) ?_
          rintro _ _ ⟨z21, rfl, h22, rfl⟩
          show WP 313 93 [(0, .ref 117), (1, .long set), (3, iV k), (4, iV x1), (5, iV x2), (6, iV (204 + (6 * x2)))] [iV z21, iV (σ.1 142 ((204 + (6 * x2)) + 5).toNat), iV x1] _ _ _ _
          refine wp_any2 (pc2 := 94) jF_313_93 rfl rfl ?_
          intro z23 h24
          refine wp_any2 (pc2 := 95) jF_313_94 rfl rfl ?_
          intro z25 h26
          refine wp_is2 (lv2 := [(0, .ref 117), (1, .long set), (3, iV k), (4, iV z25), (5, iV x2), (6, iV (204 + (6 * x2)))]) jF_313_95 rfl rfl rfl (pc2 := 97) ?_
          refine wp_inc (lv2 := [(0, .ref 117), (1, .long set), (3, iV k), (4, iV z25), (5, iV (x2 + 1)), (6, iV (204 + (6 * x2)))]) jF_313_97 rfl rfl rfl rfl (pc2 := 100) ?_
          refine wp_go jF_313_100 ?_
          refine wp_less [0, 1, 3, 4, 5] (lv2 := [(0, .ref 117), (1, .long set), (3, iV k), (4, iV z25), (5, iV (x2 + 1))]) rfl rfl ?_
          exact ih8 (z25, (x2 + 1)) σ ⟨⟨by (try dsimp only); omega, by (try dsimp only); omega⟩, ⟨by (try dsimp only); omega, by (try dsimp only); omega⟩, rfl⟩ (by show Int.toNat (16 - (x2 + 1)) < Int.toNat (16 - x2); omega)
        · intro h15
          refine wp_al1 jF_313_65 rfl rfl (pc2 := 66) ?_
          refine wp_gr (b := 145) jF_313_66 kd117 (by decide) (c := 245) rfl rfl rfl (pc2 := 69) ?_
          refine wp_il2 jF_313_69 rfl rfl (pc2 := 71) ?_
          refine wp_lald (n := 34) jF_313_71 kd145 (by decide) rfl rfl (by omega) (by omega) rfl (pc2 := 72) ?_
          intro y27
          refine wp_ll1 jF_313_72 rfl rfl (pc2 := 73) ?_
          refine wp_lng (pc2 := 74) jF_313_73 rfl rfl ?_
          intro y28
          refine wp_go jF_313_74 ?_
          refine wp_cS (as := [.long y28]) (rest := [iV (σ.1 142 ((204 + (6 * x2)) + 5).toNat), iV x1]) (mx := 5) jF_313_90 rfl rfl rfl rfl (by omega) (by omega) rfl (pc2 := 93) ?_
          refine wp_use (m_273 σ hg y28  _ _ (by omega) (by omega)) ?_
          rintro _ _ ⟨z31, rfl, h32, rfl⟩
          show WP 313 93 [(0, .ref 117), (1, .long set), (3, iV k), (4, iV x1), (5, iV x2), (6, iV (204 + (6 * x2)))] [iV z31, iV (σ.1 142 ((204 + (6 * x2)) + 5).toNat), iV x1] _ _ _ _
          refine wp_any2 (pc2 := 94) jF_313_93 rfl rfl ?_
          intro z33 h34
          refine wp_any2 (pc2 := 95) jF_313_94 rfl rfl ?_
          intro z35 h36
          refine wp_is2 (lv2 := [(0, .ref 117), (1, .long set), (3, iV k), (4, iV z35), (5, iV x2), (6, iV (204 + (6 * x2)))]) jF_313_95 rfl rfl rfl (pc2 := 97) ?_
          refine wp_inc (lv2 := [(0, .ref 117), (1, .long set), (3, iV k), (4, iV z35), (5, iV (x2 + 1)), (6, iV (204 + (6 * x2)))]) jF_313_97 rfl rfl rfl rfl (pc2 := 100) ?_
          refine wp_go jF_313_100 ?_
          refine wp_less [0, 1, 3, 4, 5] (lv2 := [(0, .ref 117), (1, .long set), (3, iV k), (4, iV z35), (5, iV (x2 + 1))]) rfl rfl ?_
          exact ih8 (z35, (x2 + 1)) σ ⟨⟨by (try dsimp only); omega, by (try dsimp only); omega⟩, ⟨by (try dsimp only); omega, by (try dsimp only); omega⟩, rfl⟩ (by show Int.toNat (16 - (x2 + 1)) < Int.toNat (16 - x2); omega)
set_option maxHeartbeats 4000000 in
set_option maxRecDepth 20000 in
/-- M.worth -/
theorem m_311 (σ : jM) (hg : GI σ) (other : Int) (hl_other : 0 ≤ other) (hu_other : other ≤ 1) (k : Int) (hl_k : (-2147483648) ≤ k) (hu_k : k ≤ 2147483647) (pre0 : (σ.1 143 3) ≤ 16) (pre1 : (l0 σ) = 22) (pre2 : (l1 σ) = 22) (fr lo : Nat) (hfr : 3 ≤ fr) (hlo : 76 ≤ lo) : WP 311 0 (lv_args 0 [.ref 117, iV other, iV k]) [] fr lo σ (fun v τ => ∃ z : Int, v = some (iV z) ∧ ((-2147483648) ≤ z ∧ z ≤ 2147483647) ∧ GI τ ∧ FR Wtr σ τ) := by
  show WP 311 0 [(0, .ref 117), (1, iV other), (2, iV k)] [] _ _ _ _
  refine wp_al1 jF_311_0 rfl rfl (pc2 := 1) ?_
  refine wp_il1 jF_311_1 rfl rfl (pc2 := 2) ?_
  refine wp_cV (as := [iV k]) (rest := []) (a := 117) (mx := 2) (ci := 12) jF_311_2 kd117 (by decide) rfl rfl rfl rfl rfl (by omega) (by omega) rfl (pc2 := 5) ?_
  refine wp_use (m_312 σ hg k (by omega) (by omega)  _ _ (by omega) (by omega)) ?_
  rintro _ _ ⟨z3, rfl, h4, rfl⟩
  show WP 311 5 [(0, .ref 117), (1, iV other), (2, iV k)] [iV z3] _ _ _ _
  refine wp_z_eq jF_311_5 (m_rgb h4 rfl) rfl (pc2 := 8) ?_ ?_
  · intro h5
    refine wp_ic jF_311_24 rfl (pc2 := 25) ?_
    refine wp_ri jF_311_25 rfl ?_
    exact ⟨(-1), rfl, ⟨by omega, by omega⟩, hg, FR.rf⟩
  · intro h5
    refine wp_al1 jF_311_8 rfl rfl (pc2 := 9) ?_
    refine wp_al1 jF_311_9 rfl rfl (pc2 := 10) ?_
    refine wp_il1 jF_311_10 rfl rfl (pc2 := 11) ?_
    refine wp_cS (as := [iV other]) (rest := [.ref 117, .ref 117]) (mx := 1) jF_311_11 rfl rfl rfl rfl (by omega) (by omega) rfl (pc2 := 14) ?_
    show WP 269 0 [(0, iV other)] [] _ _ _ _
    refine wp_il1 jF_269_0 rfl rfl (pc2 := 1) ?_
    refine wp_z_eq jF_269_1 ⟨by omega, by omega⟩ rfl (pc2 := 4) ?_ ?_
    · intro h6
      refine wp_ic jF_269_8 rfl (pc2 := 9) ?_
      refine wp_ri jF_269_9 rfl ?_
      show WP 311 14 [(0, .ref 117), (1, iV other), (2, iV k)] [iV 0, .ref 117, .ref 117] _ _ _ _
      refine wp_cV (as := [iV 0]) (rest := [.ref 117]) (a := 117) (mx := 2) (ci := 12) jF_311_14 kd117 (by decide) rfl rfl rfl rfl rfl (by omega) (by omega) rfl (pc2 := 17) ?_
      have b7 := GI.b hg 148 0 kd148 (lo := 0) (hi := 60) rfl
      refine wp_use (m_277_0 σ hg  (by omega) _ _ (by omega) (by omega)) ?_
      rintro _ τ10 ⟨y13, rfl, g11, f12, p8, p9⟩
      show WP 311 17 [(0, .ref 117), (1, iV other), (2, iV k)] [.long y13, .ref 117] _ _ _ _
      refine wp_il1 jF_311_17 rfl rfl (pc2 := 18) ?_
      refine wp_cV (as := [.long y13, iV k]) (rest := []) (a := 117) (mx := 7) (ci := 12) jF_311_18 kd117 (by decide) rfl rfl rfl rfl rfl (by omega) (by omega) rfl (pc2 := 21) ?_
      have b14 := GI.b hg 143 3 kd143 (lo := 0) (hi := 16) rfl
      have q15 : (τ10.1 143 3) = (σ.1 143 3) := (FR.at f12 143 3 rfl)
      refine wp_use (m_313 τ10 g11 y13 k (by omega) (by omega) (by omega) _ _ (by omega) (by omega)) ?_
      rintro _ _ ⟨z18, rfl, h19, rfl⟩
      show WP 311 21 [(0, .ref 117), (1, iV other), (2, iV k)] [iV z18] _ _ _ _
      refine wp_go jF_311_21 ?_
      refine wp_ri jF_311_25 rfl ?_
      exact ⟨z18, rfl, ⟨by omega, by omega⟩, g11, f12⟩
    · intro h6
      refine wp_ic jF_269_4 rfl (pc2 := 5) ?_
      refine wp_go jF_269_5 ?_
      refine wp_ri jF_269_9 rfl ?_
      show WP 311 14 [(0, .ref 117), (1, iV other), (2, iV k)] [iV 1, .ref 117, .ref 117] _ _ _ _
      refine wp_cV (as := [iV 1]) (rest := [.ref 117]) (a := 117) (mx := 2) (ci := 12) jF_311_14 kd117 (by decide) rfl rfl rfl rfl rfl (by omega) (by omega) rfl (pc2 := 17) ?_
      have b20 := GI.b hg 148 1 kd148 (lo := 0) (hi := 60) rfl
      refine wp_use (m_277_1 σ hg  (by omega) _ _ (by omega) (by omega)) ?_
      rintro _ τ23 ⟨y26, rfl, g24, f25, p21, p22⟩
      show WP 311 17 [(0, .ref 117), (1, iV other), (2, iV k)] [.long y26, .ref 117] _ _ _ _
      refine wp_il1 jF_311_17 rfl rfl (pc2 := 18) ?_
      refine wp_cV (as := [.long y26, iV k]) (rest := []) (a := 117) (mx := 7) (ci := 12) jF_311_18 kd117 (by decide) rfl rfl rfl rfl rfl (by omega) (by omega) rfl (pc2 := 21) ?_
      have b27 := GI.b hg 143 3 kd143 (lo := 0) (hi := 16) rfl
      have q28 : (τ23.1 143 3) = (σ.1 143 3) := (FR.at f25 143 3 rfl)
      refine wp_use (m_313 τ23 g24 y26 k (by omega) (by omega) (by omega) _ _ (by omega) (by omega)) ?_
      rintro _ _ ⟨z31, rfl, h32, rfl⟩
      show WP 311 21 [(0, .ref 117), (1, iV other), (2, iV k)] [iV z31] _ _ _ _
      refine wp_go jF_311_21 ?_
      refine wp_ri jF_311_25 rfl ?_
      exact ⟨z31, rfl, ⟨by omega, by omega⟩, g24, f25⟩
set_option maxHeartbeats 4000000 in
set_option maxRecDepth 20000 in
/-- M.votesFor -/
theorem m_315 (σ : jM) (hg : GI σ) (sa : Int64) (sb : Int64) (pre0 : (σ.1 143 3) ≤ 16) (fr lo : Nat) (hfr : 2 ≤ fr) (hlo : 50 ≤ lo) : WP 315 0 (lv_args 0 [.ref 117, .long sa, .long sb]) [] fr lo σ (fun v τ => ∃ z : Int, v = some (iV z) ∧ ((-2147483648) ≤ z ∧ z ≤ 2147483647) ∧ σ = τ) := by
  show WP 315 0 [(0, .ref 117), (1, .long sa), (3, .long sb)] [] _ _ _ _
  refine wp_ic jF_315_0 rfl (pc2 := 1) ?_
  refine wp_is2 (lv2 := [(0, .ref 117), (1, .long sa), (3, .long sb), (5, iV 0)]) jF_315_1 rfl rfl rfl (pc2 := 3) ?_
  refine wp_ic jF_315_3 rfl (pc2 := 4) ?_
  refine wp_is2 (lv2 := [(0, .ref 117), (1, .long sa), (3, .long sb), (5, iV 0), (6, iV 0)]) jF_315_4 rfl rfl rfl (pc2 := 6) ?_
  refine wp_loop (α := Int × Int) (fun a => [(0, .ref 117), (1, .long sa), (3, .long sb), (5, iV (a.1)), (6, iV (a.2))]) (fun a τ => ((-2147483648) ≤ a.1 ∧ a.1 ≤ 2147483647) ∧ (0 ≤ a.2 ∧ a.2 ≤ 5) ∧ σ = τ) (fun a τ => Int.toNat (5 - (a.2))) (0, 0) σ ?_ ?_
  · skip
    exact ⟨⟨by (try dsimp only); omega, by (try dsimp only); omega⟩, ⟨by (try dsimp only); omega, by (try dsimp only); omega⟩, rfl⟩
  · rintro ⟨x1, x2⟩ _ ⟨h3, h4, rfl⟩ ih8
    try dsimp only at h3 h4
    show WP 315 6 [(0, .ref 117), (1, .long sa), (3, .long sb), (5, iV x1), (6, iV x2)] [] _ _ _ _
    show WP 315 6 [(0, .ref 117), (1, .long sa), (3, .long sb), (5, iV x1), (6, iV x2)] [] _ _ _ _
    refine wp_il2 jF_315_6 rfl rfl (pc2 := 8) ?_
    refine wp_al1 jF_315_8 rfl rfl (pc2 := 9) ?_
    have b9 := GI.b hg 117 34 kd117 (lo := 0) (hi := 5) rfl
    refine wp_gi jF_315_9 kd117 (by decide) rfl rfl rfl (pc2 := 12) ?_
    refine wp_i_ge jF_315_12 (m_rgb h4 rfl) (m_rgb b9 rfl) rfl (pc2 := 15) ?_ ?_
    · intro h10
      refine wp_il2 jF_315_52 rfl rfl (pc2 := 54) ?_
      refine wp_ri jF_315_54 rfl ?_
      exact ⟨x1, rfl, ⟨by omega, by omega⟩, rfl⟩
    · intro h10
      refine wp_al1 jF_315_15 rfl rfl (pc2 := 16) ?_
      refine wp_ll1 jF_315_16 rfl rfl (pc2 := 17) ?_
      refine wp_il2 jF_315_17 rfl rfl (pc2 := 19) ?_
      refine wp_cV (as := [.long sa, iV x2]) (rest := []) (a := 117) (mx := 7) (ci := 12) jF_315_19 kd117 (by decide) rfl rfl rfl rfl rfl (by omega) (by omega) rfl (pc2 := 22) ?_
      have b11 := GI.b hg 143 3 kd143 (lo := 0) (hi := 16) rfl
      refine wp_use (m_313 σ hg sa x2 (by omega) (by omega) (by omega) _ _ (by omega) (by omega)) ?_
      rintro _ _ ⟨z14, rfl, h15, rfl⟩
      show WP 315 22 [(0, .ref 117), (1, .long sa), (3, .long sb), (5, iV x1), (6, iV x2)] [iV z14] _ _ _ _
      refine wp_al1 jF_315_22 rfl rfl (pc2 := 23) ?_
      refine wp_ll1 jF_315_23 rfl rfl (pc2 := 24) ?_
      refine wp_il2 jF_315_24 rfl rfl (pc2 := 26) ?_
      refine wp_cV (as := [.long sb, iV x2]) (rest := [iV z14]) (a := 117) (mx := 7) (ci := 12) jF_315_26 kd117 (by decide) rfl rfl rfl rfl rfl (by omega) (by omega) rfl (pc2 := 29) ?_
      refine wp_use (m_313 σ hg sb x2 (by omega) (by omega) (by omega) _ _ (by omega) (by omega)) ?_
      rintro _ _ ⟨z18, rfl, h19, rfl⟩
      show WP 315 29 [(0, .ref 117), (1, .long sa), (3, .long sb), (5, iV x1), (6, iV x2)] [iV z18, iV z14] _ _ _ _
      refine wp_i_le jF_315_29 (m_rgb h15 rfl) (m_rgb h19 rfl) rfl (pc2 := 32) ?_ ?_
      · intro h20
        refine wp_inc (lv2 := [(0, .ref 117), (1, .long sa), (3, .long sb), (5, iV x1), (6, iV (x2 + 1))]) jF_315_46 rfl rfl rfl rfl (pc2 := 49) ?_
        refine wp_go jF_315_49 ?_
        exact ih8 (x1, (x2 + 1)) σ ⟨⟨by (try dsimp only); omega, by (try dsimp only); omega⟩, ⟨by (try dsimp only); omega, by (try dsimp only); omega⟩, rfl⟩ (by show Int.toNat (5 - (x2 + 1)) < Int.toNat (5 - x2); omega)
      · intro h20
        refine wp_il2 jF_315_32 rfl rfl (pc2 := 34) ?_
        refine wp_al1 jF_315_34 rfl rfl (pc2 := 35) ?_
        refine wp_gr (b := 141) jF_315_35 kd117 (by decide) (c := 241) rfl rfl rfl (pc2 := 38) ?_
        refine wp_ic jF_315_38 rfl (pc2 := 39) ?_
        refine wp_il2 jF_315_39 rfl rfl (pc2 := 41) ?_
        refine wp_add jF_315_41 rfl (pc2 := 42) ?_
        have b21 := GI.b hg 141 (5 + x2).toNat kd141 (lo := (-2147483648)) (hi := 2147483647) rfl
        refine wp_iald (n := 10) (e := (σ.1 141 (5 + x2).toNat)) jF_315_42 kd141 (by decide) rfl rfl (by omega) (by omega) rfl rfl (pc2 := 43) ?_
        refine wp_any2 (pc2 := 44) jF_315_43 rfl rfl ?_
        intro z22 h23
        refine wp_is2 (lv2 := [(0, .ref 117), (1, .long sa), (3, .long sb), (5, iV z22), (6, iV x2)]) jF_315_44 rfl rfl rfl (pc2 := 46) ?_
        refine wp_inc (lv2 := [(0, .ref 117), (1, .long sa), (3, .long sb), (5, iV z22), (6, iV (x2 + 1))]) jF_315_46 rfl rfl rfl rfl (pc2 := 49) ?_
        refine wp_go jF_315_49 ?_
        exact ih8 (z22, (x2 + 1)) σ ⟨⟨by (try dsimp only); omega, by (try dsimp only); omega⟩, ⟨by (try dsimp only); omega, by (try dsimp only); omega⟩, rfl⟩ (by show Int.toNat (5 - (x2 + 1)) < Int.toNat (5 - x2); omega)
