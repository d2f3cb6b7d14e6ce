set_option maxHeartbeats 4000000 in
set_option maxRecDepth 20000 in
/-- M.votes -/
theorem m_314 (σ : jM) (hg : GI σ) (other : Int) (hl_other : 0 ≤ other) (hu_other : other ≤ 1) (pre0 : (σ.1 143 3) ≤ 16) (pre1 : (l0 σ) = 22) (pre2 : (l1 σ) = 22) (fr lo : Nat) (hfr : 3 ≤ fr) (hlo : 76 ≤ lo) : WP 314 0 (lv_args 0 [.ref 117, iV other]) [] fr lo σ (fun v τ => ∃ z : Int, v = some (iV z) ∧ ((-2147483648) ≤ z ∧ z ≤ 2147483647) ∧ GI τ ∧ FR Wtr σ τ) := by
  show WP 314 0 [(0, .ref 117), (1, iV other)] [] _ _ _ _
  refine wp_al1 jF_314_0 rfl rfl (pc2 := 1) ?_
  refine wp_ic jF_314_1 rfl (pc2 := 2) ?_
  refine wp_cV (as := [iV 0]) (rest := []) (a := 117) (mx := 2) (ci := 12) jF_314_2 kd117 (by decide) rfl rfl rfl rfl rfl (by omega) (by omega) rfl (pc2 := 5) ?_
  have b1 := GI.b hg 148 0 kd148 (lo := 0) (hi := 60) rfl
  refine wp_use (m_277_0 σ hg  (by omega) _ _ (by omega) (by omega)) ?_
  rintro _ τ4 ⟨y7, rfl, g5, f6, p2, p3⟩
  show WP 314 5 [(0, .ref 117), (1, iV other)] [.long y7] _ _ _ _
  refine wp_ls1 (lv2 := [(0, .ref 117), (1, iV other), (2, .long y7)]) jF_314_5 rfl rfl rfl (pc2 := 6) ?_
  refine wp_al1 jF_314_6 rfl rfl (pc2 := 7) ?_
  refine wp_ic jF_314_7 rfl (pc2 := 8) ?_
  refine wp_cV (as := [iV 1]) (rest := []) (a := 117) (mx := 2) (ci := 12) jF_314_8 kd117 (by decide) rfl rfl rfl rfl rfl (by omega) (by omega) rfl (pc2 := 11) ?_
  have q8 : (l1 τ4) = (l1 σ) := (l1_fr f6 rfl (fun _ => rfl))
  have b9 := GI.b hg 148 1 kd148 (lo := 0) (hi := 60) rfl
  have q10 : (τ4.1 148 1) = (σ.1 148 1) := (FR.at f6 148 1 rfl)
  refine wp_use (m_277_1 τ4 g5  (by omega) _ _ (by omega) (by omega)) ?_
  rintro _ τ13 ⟨y16, rfl, g14, f15, p11, p12⟩
  show WP 314 11 [(0, .ref 117), (1, iV other), (2, .long y7)] [.long y16] _ _ _ _
  refine wp_ls2 (lv2 := [(0, .ref 117), (1, iV other), (2, .long y7), (4, .long y16)]) jF_314_11 rfl rfl rfl (pc2 := 13) ?_
  refine wp_il1 jF_314_13 rfl rfl (pc2 := 14) ?_
  refine wp_z_eq jF_314_14 ⟨by omega, by omega⟩ rfl (pc2 := 17) ?_ ?_
  · intro h17
    refine wp_al1 jF_314_27 rfl rfl (pc2 := 28) ?_
    refine wp_ll1 jF_314_28 rfl rfl (pc2 := 29) ?_
    refine wp_ll2 jF_314_29 rfl rfl (pc2 := 31) ?_
    refine wp_cV (as := [.long y7, .long y16]) (rest := []) (a := 117) (mx := 7) (ci := 12) jF_314_31 kd117 (by decide) rfl rfl rfl rfl rfl (by omega) (by omega) rfl (pc2 := 34) ?_
    have b18 := GI.b hg 143 3 kd143 (lo := 0) (hi := 16) rfl
    have q19 : (τ13.1 143 3) = (σ.1 143 3) := ((FR.at f15 143 3 rfl).trans (FR.at f6 143 3 rfl))
    refine wp_use (m_315 τ13 g14 y7 y16 (by omega) _ _ (by omega) (by omega)) ?_
    rintro _ _ ⟨z22, rfl, h23, rfl⟩
    show WP 314 34 [(0, .ref 117), (1, iV other), (2, .long y7), (4, .long y16)] [iV z22] _ _ _ _
    refine wp_ri jF_314_34 rfl ?_
    exact ⟨z22, rfl, ⟨by omega, by omega⟩, g14, (FR.up f6 f15 sb_Wtr_Wtr)⟩
  · intro h17
    refine wp_al1 jF_314_17 rfl rfl (pc2 := 18) ?_
    refine wp_ll2 jF_314_18 rfl rfl (pc2 := 20) ?_
    refine wp_ll1 jF_314_20 rfl rfl (pc2 := 21) ?_
    refine wp_cV (as := [.long y16, .long y7]) (rest := []) (a := 117) (mx := 7) (ci := 12) jF_314_21 kd117 (by decide) rfl rfl rfl rfl rfl (by omega) (by omega) rfl (pc2 := 24) ?_
    have b24 := GI.b hg 143 3 kd143 (lo := 0) (hi := 16) rfl
    have q25 : (τ13.1 143 3) = (σ.1 143 3) := ((FR.at f15 143 3 rfl).trans (FR.at f6 143 3 rfl))
    refine wp_use (m_315 τ13 g14 y16 y7 (by omega) _ _ (by omega) (by omega)) ?_
    rintro _ _ ⟨z28, rfl, h29, rfl⟩
    show WP 314 24 [(0, .ref 117), (1, iV other), (2, .long y7), (4, .long y16)] [iV z28] _ _ _ _
    refine wp_go jF_314_24 ?_
    refine wp_ri jF_314_34 rfl ?_
    exact ⟨z28, rfl, ⟨by omega, by omega⟩, g14, (FR.up f6 f15 sb_Wtr_Wtr)⟩
set_option maxHeartbeats 4000000 in
set_option maxRecDepth 20000 in
/-- M.isVoted -/
theorem m_318 (σ : jM) (hg : GI σ) (sa : Int64) (pre0 : (σ.1 143 3) ≤ 16) (pre1 : (σ.1 143 4) ≤ 8) (fr lo : Nat) (hfr : 4 ≤ fr) (hlo : 100 ≤ lo) : WP 318 0 (lv_args 0 [.ref 117, .long sa]) [] fr lo σ (fun v τ => ∃ z : Int, v = some (iV z) ∧ (0 ≤ z ∧ z ≤ 1) ∧ σ = τ ∧ (z = 1 → ((tl σ) = 22 ∧ (σ.1 117 49) ≤ 60))) := by
  show WP 318 0 [(0, .ref 117), (1, .long sa)] [] _ _ _ _
  refine wp_al1 jF_318_0 rfl rfl (pc2 := 1) ?_
  refine wp_cV (as := []) (rest := []) (a := 117) (mx := 1) (ci := 12) jF_318_1 kd117 (by decide) rfl rfl rfl rfl rfl (by omega) (by omega) rfl (pc2 := 4) ?_
  have b1 := GI.b hg 117 49 kd117 (lo := 0) (hi := 61) rfl
  have b2 := GI.b hg 143 4 kd143 (lo := 0) (hi := 16) rfl
  refine wp_use (m_290 σ hg  (by omega) _ _ (by omega) (by omega)) ?_
  rintro _ _ ⟨z6, rfl, h7, rfl, p3⟩
  show WP 318 4 [(0, .ref 117), (1, .long sa)] [iV z6] _ _ _ _
  refine wp_z_ne jF_318_4 (m_rgb h7 rfl) rfl (pc2 := 7) ?_ ?_
  · intro h8
    replace p3 := p3 (by omega)
    refine wp_al1 jF_318_9 rfl rfl (pc2 := 10) ?_
    refine wp_cV (as := []) (rest := []) (a := 117) (mx := 4) (ci := 12) jF_318_10 kd117 (by decide) rfl rfl rfl rfl rfl (by omega) (by omega) rfl (pc2 := 13) ?_
    refine wp_use (m_259 σ hg  (by omega) _ _ (by omega) (by omega)) ?_
    rintro _ _ ⟨y11, rfl, rfl⟩
    show WP 318 13 [(0, .ref 117), (1, .long sa)] [.long y11] _ _ _ _
    refine wp_ls1 (lv2 := [(0, .ref 117), (1, .long sa), (3, .long y11)]) jF_318_13 rfl rfl rfl (pc2 := 14) ?_
    refine wp_ll1 jF_318_14 rfl rfl (pc2 := 15) ?_
    refine wp_ll1 jF_318_15 rfl rfl (pc2 := 16) ?_
    refine wp_anyL (pc2 := 17) jF_318_16 rfl rfl ?_
    intro z12 h13
    refine wp_z_eq jF_318_17 (m_rgb h13 rfl) rfl (pc2 := 20) ?_ ?_
    · intro h14
      refine wp_ic jF_318_39 rfl (pc2 := 40) ?_
      refine wp_ri jF_318_40 rfl ?_
      exact ⟨0, rfl, ⟨by omega, by omega⟩, rfl, (by omega)⟩
    · intro h14
      refine wp_al1 jF_318_20 rfl rfl (pc2 := 21) ?_
      refine wp_ll1 jF_318_21 rfl rfl (pc2 := 22) ?_
      refine wp_ll1 jF_318_22 rfl rfl (pc2 := 23) ?_
      refine wp_cV (as := [.long y11, .long sa]) (rest := []) (a := 117) (mx := 7) (ci := 12) jF_318_23 kd117 (by decide) rfl rfl rfl rfl rfl (by omega) (by omega) rfl (pc2 := 26) ?_
      have b15 := GI.b hg 143 3 kd143 (lo := 0) (hi := 16) rfl
      refine wp_use (m_315 σ hg y11 sa (by omega) _ _ (by omega) (by omega)) ?_
      rintro _ _ ⟨z18, rfl, h19, rfl⟩
      show WP 318 26 [(0, .ref 117), (1, .long sa), (3, .long y11)] [iV z18] _ _ _ _
      refine wp_al1 jF_318_26 rfl rfl (pc2 := 27) ?_
      refine wp_ll1 jF_318_27 rfl rfl (pc2 := 28) ?_
      refine wp_ll1 jF_318_28 rfl rfl (pc2 := 29) ?_
      refine wp_cV (as := [.long sa, .long y11]) (rest := [iV z18]) (a := 117) (mx := 7) (ci := 12) jF_318_29 kd117 (by decide) rfl rfl rfl rfl rfl (by omega) (by omega) rfl (pc2 := 32) ?_
      refine wp_use (m_315 σ hg sa y11 (by omega) _ _ (by omega) (by omega)) ?_
      rintro _ _ ⟨z22, rfl, h23, rfl⟩
      show WP 318 32 [(0, .ref 117), (1, .long sa), (3, .long y11)] [iV z22, iV z18] _ _ _ _
      refine wp_i_le jF_318_32 (m_rgb h19 rfl) (m_rgb h23 rfl) rfl (pc2 := 35) ?_ ?_
      · intro h24
        refine wp_ic jF_318_39 rfl (pc2 := 40) ?_
        refine wp_ri jF_318_40 rfl ?_
        exact ⟨0, rfl, ⟨by omega, by omega⟩, rfl, (by omega)⟩
      · intro h24
        refine wp_ic jF_318_35 rfl (pc2 := 36) ?_
        refine wp_go jF_318_36 ?_
        refine wp_ri jF_318_40 rfl ?_
        exact ⟨1, rfl, ⟨by omega, by omega⟩, rfl, (by omega)⟩
  · intro h8
    clear p3
    refine wp_ic jF_318_7 rfl (pc2 := 8) ?_
    refine wp_ri jF_318_8 rfl ?_
    exact ⟨0, rfl, ⟨by omega, by omega⟩, rfl, (by omega)⟩
set_option maxHeartbeats 4000000 in
set_option maxRecDepth 20000 in
/-- M.triesVoted -/
theorem m_317 (σ : jM) (hg : GI σ)  (pre0 : (σ.1 143 3) ≤ 16) (pre1 : (σ.1 143 4) ≤ 8) (pre2 : (l0 σ) = 22) (fr lo : Nat) (hfr : 5 ≤ fr) (hlo : 124 ≤ lo) : WP 317 0 (lv_args 0 [.ref 117]) [] fr lo σ (fun v τ => ∃ z : Int, v = some (iV z) ∧ (0 ≤ z ∧ z ≤ 1) ∧ GI τ ∧ FR Wtr σ τ ∧ (z = 1 → ((tl τ) = 22 ∧ (τ.1 117 49) ≤ 60))) := by
  show WP 317 0 [(0, .ref 117)] [] _ _ _ _
  refine wp_al1 jF_317_0 rfl rfl (pc2 := 1) ?_
  refine wp_ic jF_317_1 rfl (pc2 := 2) ?_
  refine wp_cV (as := [iV 0]) (rest := []) (a := 117) (mx := 2) (ci := 12) jF_317_2 kd117 (by decide) rfl rfl rfl rfl rfl (by omega) (by omega) rfl (pc2 := 5) ?_
  have b1 := GI.b hg 148 0 kd148 (lo := 0) (hi := 60) rfl
  refine wp_use (m_277_0 σ hg  (by omega) _ _ (by omega) (by omega)) ?_
  rintro _ τ4 ⟨y7, rfl, g5, f6, p2, p3⟩
  show WP 317 5 [(0, .ref 117)] [.long y7] _ _ _ _
  refine wp_ls1 (lv2 := [(0, .ref 117), (1, .long y7)]) jF_317_5 rfl rfl rfl (pc2 := 6) ?_
  refine wp_ic jF_317_6 rfl (pc2 := 7) ?_
  refine wp_is1 (lv2 := [(0, .ref 117), (1, .long y7), (3, iV 0)]) jF_317_7 rfl rfl rfl (pc2 := 8) ?_
  refine wp_loop (α := Int) (fun a => [(0, .ref 117), (1, .long y7), (3, iV (a))]) (fun a τ => (0 ≤ a ∧ a ≤ 61) ∧ GI τ ∧ FR Wtr τ4 τ) (fun a τ => Int.toNat (61 - (a))) (0) τ4 ?_ ?_
  · skip
    exact ⟨⟨by omega, by omega⟩, g5, FR.rf⟩
  · rintro x8 τ10 ⟨h9, g11, f12⟩ ih13
    show WP 317 8 [(0, .ref 117), (1, .long y7), (3, iV x8)] [] _ _ _ _
    show WP 317 8 [(0, .ref 117), (1, .long y7), (3, iV x8)] [] _ _ _ _
    refine wp_il1 jF_317_8 rfl rfl (pc2 := 9) ?_
    refine wp_al1 jF_317_9 rfl rfl (pc2 := 10) ?_
    refine wp_gr (b := 148) jF_317_10 kd117 (by decide) (c := 248) rfl rfl rfl (pc2 := 13) ?_
    refine wp_ic jF_317_13 rfl (pc2 := 14) ?_
    refine wp_iald (n := 2) (e := (σ.1 148 0)) jF_317_14 kd148 (by decide) rfl rfl (by omega) (by omega) ((FR.at f12 148 0 rfl).trans (FR.at f6 148 0 rfl)) rfl (pc2 := 15) ?_
    refine wp_i_gt jF_317_15 (m_rgb h9 rfl) (m_rgb b1 rfl) rfl (pc2 := 18) ?_ ?_
    · intro h14
      refine wp_ic jF_317_121 rfl (pc2 := 122) ?_
      refine wp_ri jF_317_122 rfl ?_
      have b15 := GI.b g11 117 49 kd117 (lo := 0) (hi := 61) rfl
      exact ⟨0, rfl, ⟨by omega, by omega⟩, g11, (FR.up f6 f12 sb_Wtr_Wtr), (by omega)⟩
    · intro h14
      refine wp_al1 jF_317_18 rfl rfl (pc2 := 19) ?_
      refine wp_ic jF_317_19 rfl (pc2 := 20) ?_
      refine wp_ic jF_317_20 rfl (pc2 := 21) ?_
      refine wp_il1 jF_317_21 rfl rfl (pc2 := 22) ?_
      refine wp_ic jF_317_22 rfl (pc2 := 23) ?_
      refine wp_cV (as := [iV 0, iV 1, iV x8, iV 0]) (rest := []) (a := 117) (mx := 5) (ci := 12) jF_317_23 kd117 (by decide) rfl rfl rfl rfl rfl (by omega) (by omega) rfl (pc2 := 26) ?_
      refine wp_use (m_288_0 τ10 g11 1 (by omega) (by omega) x8 (by omega) (by omega) 0 (by omega) (by omega)  _ _ (by omega) (by omega)) ?_
      rintro _ τ16 ⟨z19, rfl, h20, g17, f18⟩
      show WP 317 26 [(0, .ref 117), (1, .long y7), (3, iV x8)] [iV z19] _ _ _ _
      refine wp_z_eq jF_317_26 (m_rgb h20 rfl) rfl (pc2 := 29) ?_ ?_
      · intro h21
        refine wp_ic jF_317_39 rfl (pc2 := 40) ?_
        refine wp_is2 (lv2 := [(0, .ref 117), (1, .long y7), (3, iV x8), (4, iV 0)]) jF_317_40 rfl rfl rfl (pc2 := 42) ?_
        refine wp_loop (α := Int) (fun a => [(0, .ref 117), (1, .long y7), (3, iV x8), (4, iV (a))]) (fun a τ => (0 ≤ a ∧ a ≤ 23) ∧ GI τ ∧ FR Wtr τ16 τ) (fun a τ => Int.toNat (23 - (a))) (0) τ16 ?_ ?_
        · skip
          exact ⟨⟨by omega, by omega⟩, g17, FR.rf⟩
        · rintro x22 τ24 ⟨h23, g25, f26⟩ ih27
          show WP 317 42 [(0, .ref 117), (1, .long y7), (3, iV x8), (4, iV x22)] [] _ _ _ _
          show WP 317 42 [(0, .ref 117), (1, .long y7), (3, iV x8), (4, iV x22)] [] _ _ _ _
          refine wp_il2 jF_317_42 rfl rfl (pc2 := 44) ?_
          refine wp_bi jF_317_44 (by decide) rfl (pc2 := 46) ?_
          refine wp_i_ge jF_317_46 (m_rgb h23 rfl) (m_rgl rfl) rfl (pc2 := 49) ?_ ?_
          · intro h28
            refine wp_ic jF_317_77 rfl (pc2 := 78) ?_
            refine wp_is2 (lv2 := [(0, .ref 117), (1, .long y7), (3, iV x8), (4, iV 0)]) jF_317_78 rfl rfl rfl (pc2 := 80) ?_
            refine wp_loop (α := Int) (fun a => [(0, .ref 117), (1, .long y7), (3, iV x8), (4, iV (a))]) (fun a τ => (0 ≤ a ∧ a ≤ 23) ∧ GI τ ∧ FR Wtr τ24 τ) (fun a τ => Int.toNat (23 - (a))) (0) τ24 ?_ ?_
            · skip
              exact ⟨⟨by omega, by omega⟩, g25, FR.rf⟩
            · rintro x29 τ31 ⟨h30, g32, f33⟩ ih34
              show WP 317 80 [(0, .ref 117), (1, .long y7), (3, iV x8), (4, iV x29)] [] _ _ _ _
              show WP 317 80 [(0, .ref 117), (1, .long y7), (3, iV x8), (4, iV x29)] [] _ _ _ _
              refine wp_il2 jF_317_80 rfl rfl (pc2 := 82) ?_
              refine wp_bi jF_317_82 (by decide) rfl (pc2 := 84) ?_
              refine wp_i_ge jF_317_84 (m_rgb h30 rfl) (m_rgl rfl) rfl (pc2 := 87) ?_ ?_
              · intro h35
                refine wp_inc (lv2 := [(0, .ref 117), (1, .long y7), (3, iV (x8 + 1)), (4, iV x29)]) jF_317_115 rfl rfl rfl rfl (pc2 := 118) ?_
                refine wp_go jF_317_118 ?_
                refine wp_less [0, 1, 3] (lv2 := [(0, .ref 117), (1, .long y7), (3, iV (x8 + 1))]) rfl rfl ?_
                exact ih13 ((x8 + 1)) τ31 ⟨⟨by omega, by omega⟩, g32, (FR.up (FR.up (FR.up f12 f18 sb_Wtr_Wtr) f26 sb_Wtr_Wtr) f33 sb_Wtr_Wtr)⟩ (by show Int.toNat (61 - (x8 + 1)) < Int.toNat (61 - x8); omega)
              · intro h35
                refine wp_al1 jF_317_87 rfl rfl (pc2 := 88) ?_
                refine wp_ic jF_317_88 rfl (pc2 := 89) ?_
                refine wp_ic jF_317_89 rfl (pc2 := 90) ?_
                refine wp_il1 jF_317_90 rfl rfl (pc2 := 91) ?_
                refine wp_il2 jF_317_91 rfl rfl (pc2 := 93) ?_
                refine wp_cV (as := [iV 0, iV 0, iV x8, iV x29]) (rest := []) (a := 117) (mx := 5) (ci := 12) jF_317_93 kd117 (by decide) rfl rfl rfl rfl rfl (by omega) (by omega) rfl (pc2 := 96) ?_
                refine wp_use (m_288_0 τ31 g32 0 (by omega) (by omega) x8 (by omega) (by omega) x29 (by omega) (by omega)  _ _ (by omega) (by omega)) ?_
                rintro _ τ36 ⟨z39, rfl, h40, g37, f38⟩
                show WP 317 96 [(0, .ref 117), (1, .long y7), (3, iV x8), (4, iV x29)] [iV z39] _ _ _ _
                refine wp_z_eq jF_317_96 (m_rgb h40 rfl) rfl (pc2 := 99) ?_ ?_
                · intro h41
                  refine wp_inc (lv2 := [(0, .ref 117), (1, .long y7), (3, iV x8), (4, iV (x29 + 1))]) jF_317_109 rfl rfl rfl rfl (pc2 := 112) ?_
                  refine wp_go jF_317_112 ?_
                  exact ih34 ((x29 + 1)) τ36 ⟨⟨by omega, by omega⟩, g37, (FR.up f33 f38 sb_Wtr_Wtr)⟩ (by show Int.toNat (23 - (x29 + 1)) < Int.toNat (23 - x29); omega)
                · intro h41
                  refine wp_al1 jF_317_99 rfl rfl (pc2 := 100) ?_
                  refine wp_ll1 jF_317_100 rfl rfl (pc2 := 101) ?_
                  refine wp_cV (as := [.long y7]) (rest := []) (a := 117) (mx := 5) (ci := 12) jF_317_101 kd117 (by decide) rfl rfl rfl rfl rfl (by omega) (by omega) rfl (pc2 := 104) ?_
                  have b42 := GI.b g37 117 49 kd117 (lo := 0) (hi := 61) rfl
                  have b43 := GI.b hg 143 3 kd143 (lo := 0) (hi := 16) rfl
                  have q44 : (τ36.1 143 3) = (σ.1 143 3) := ((FR.at f38 143 3 rfl).trans ((FR.at f33 143 3 rfl).trans ((FR.at f26 143 3 rfl).trans ((FR.at f18 143 3 rfl).trans ((FR.at f12 143 3 rfl).trans (FR.at f6 143 3 rfl))))))
                  have b45 := GI.b hg 143 4 kd143 (lo := 0) (hi := 16) rfl
                  have q46 : (τ36.1 143 4) = (σ.1 143 4) := ((FR.at f38 143 4 rfl).trans ((FR.at f33 143 4 rfl).trans ((FR.at f26 143 4 rfl).trans ((FR.at f18 143 4 rfl).trans ((FR.at f12 143 4 rfl).trans (FR.at f6 143 4 rfl))))))
                  refine wp_use (m_318 τ36 g37 y7 (by omega) (by omega) _ _ (by omega) (by omega)) ?_
                  rintro _ _ ⟨z50, rfl, h51, rfl, p47⟩
                  show WP 317 104 [(0, .ref 117), (1, .long y7), (3, iV x8), (4, iV x29)] [iV z50] _ _ _ _
                  refine wp_z_eq jF_317_104 (m_rgb h51 rfl) rfl (pc2 := 107) ?_ ?_
                  · intro h52
                    clear p47
                    refine wp_inc (lv2 := [(0, .ref 117), (1, .long y7), (3, iV x8), (4, iV (x29 + 1))]) jF_317_109 rfl rfl rfl rfl (pc2 := 112) ?_
                    refine wp_go jF_317_112 ?_
                    exact ih34 ((x29 + 1)) τ36 ⟨⟨by omega, by omega⟩, g37, (FR.up f33 f38 sb_Wtr_Wtr)⟩ (by show Int.toNat (23 - (x29 + 1)) < Int.toNat (23 - x29); omega)
                  · intro h52
                    replace p47 := p47 (by omega)
                    refine wp_ic jF_317_107 rfl (pc2 := 108) ?_
                    refine wp_ri jF_317_108 rfl ?_
                    exact ⟨1, rfl, ⟨by omega, by omega⟩, g37, (FR.up (FR.up (FR.up (FR.up (FR.up f6 f12 sb_Wtr_Wtr) f18 sb_Wtr_Wtr) f26 sb_Wtr_Wtr) f33 sb_Wtr_Wtr) f38 sb_Wtr_Wtr), (by omega)⟩
          · intro h28
            refine wp_al1 jF_317_49 rfl rfl (pc2 := 50) ?_
            refine wp_ic jF_317_50 rfl (pc2 := 51) ?_
            refine wp_ic jF_317_51 rfl (pc2 := 52) ?_
            refine wp_il1 jF_317_52 rfl rfl (pc2 := 53) ?_
            refine wp_il2 jF_317_53 rfl rfl (pc2 := 55) ?_
            refine wp_cV (as := [iV 0, iV 2, iV x8, iV x22]) (rest := []) (a := 117) (mx := 5) (ci := 12) jF_317_55 kd117 (by decide) rfl rfl rfl rfl rfl (by omega) (by omega) rfl (pc2 := 58) ?_
            refine wp_use (m_288_0 τ24 g25 2 (by omega) (by omega) x8 (by omega) (by omega) x22 (by omega) (by omega)  _ _ (by omega) (by omega)) ?_
            rintro _ τ53 ⟨z56, rfl, h57, g54, f55⟩
            show WP 317 58 [(0, .ref 117), (1, .long y7), (3, iV x8), (4, iV x22)] [iV z56] _ _ _ _
            refine wp_z_eq jF_317_58 (m_rgb h57 rfl) rfl (pc2 := 61) ?_ ?_
            · intro h58
              refine wp_inc (lv2 := [(0, .ref 117), (1, .long y7), (3, iV x8), (4, iV (x22 + 1))]) jF_317_71 rfl rfl rfl rfl (pc2 := 74) ?_
              refine wp_go jF_317_74 ?_
              exact ih27 ((x22 + 1)) τ53 ⟨⟨by omega, by omega⟩, g54, (FR.up f26 f55 sb_Wtr_Wtr)⟩ (by show Int.toNat (23 - (x22 + 1)) < Int.toNat (23 - x22); omega)
            · intro h58
              refine wp_al1 jF_317_61 rfl rfl (pc2 := 62) ?_
              refine wp_ll1 jF_317_62 rfl rfl (pc2 := 63) ?_
              refine wp_cV (as := [.long y7]) (rest := []) (a := 117) (mx := 5) (ci := 12) jF_317_63 kd117 (by decide) rfl rfl rfl rfl rfl (by omega) (by omega) rfl (pc2 := 66) ?_
              have b59 := GI.b g54 117 49 kd117 (lo := 0) (hi := 61) rfl
              have b60 := GI.b hg 143 3 kd143 (lo := 0) (hi := 16) rfl
              have q61 : (τ53.1 143 3) = (σ.1 143 3) := ((FR.at f55 143 3 rfl).trans ((FR.at f26 143 3 rfl).trans ((FR.at f18 143 3 rfl).trans ((FR.at f12 143 3 rfl).trans (FR.at f6 143 3 rfl)))))
              have b62 := GI.b hg 143 4 kd143 (lo := 0) (hi := 16) rfl
              have q63 : (τ53.1 143 4) = (σ.1 143 4) := ((FR.at f55 143 4 rfl).trans ((FR.at f26 143 4 rfl).trans ((FR.at f18 143 4 rfl).trans ((FR.at f12 143 4 rfl).trans (FR.at f6 143 4 rfl)))))
              refine wp_use (m_318 τ53 g54 y7 (by omega) (by omega) _ _ (by omega) (by omega)) ?_
              rintro _ _ ⟨z67, rfl, h68, rfl, p64⟩
              show WP 317 66 [(0, .ref 117), (1, .long y7), (3, iV x8), (4, iV x22)] [iV z67] _ _ _ _
              refine wp_z_eq jF_317_66 (m_rgb h68 rfl) rfl (pc2 := 69) ?_ ?_
              · intro h69
                clear p64
                refine wp_inc (lv2 := [(0, .ref 117), (1, .long y7), (3, iV x8), (4, iV (x22 + 1))]) jF_317_71 rfl rfl rfl rfl (pc2 := 74) ?_
                refine wp_go jF_317_74 ?_
                exact ih27 ((x22 + 1)) τ53 ⟨⟨by omega, by omega⟩, g54, (FR.up f26 f55 sb_Wtr_Wtr)⟩ (by show Int.toNat (23 - (x22 + 1)) < Int.toNat (23 - x22); omega)
              · intro h69
                replace p64 := p64 (by omega)
                refine wp_ic jF_317_69 rfl (pc2 := 70) ?_
                refine wp_ri jF_317_70 rfl ?_
                exact ⟨1, rfl, ⟨by omega, by omega⟩, g54, (FR.up (FR.up (FR.up (FR.up f6 f12 sb_Wtr_Wtr) f18 sb_Wtr_Wtr) f26 sb_Wtr_Wtr) f55 sb_Wtr_Wtr), (by omega)⟩
      · intro h21
        refine wp_al1 jF_317_29 rfl rfl (pc2 := 30) ?_
        refine wp_ll1 jF_317_30 rfl rfl (pc2 := 31) ?_
        refine wp_cV (as := [.long y7]) (rest := []) (a := 117) (mx := 5) (ci := 12) jF_317_31 kd117 (by decide) rfl rfl rfl rfl rfl (by omega) (by omega) rfl (pc2 := 34) ?_
        have b70 := GI.b g17 117 49 kd117 (lo := 0) (hi := 61) rfl
        have b71 := GI.b hg 143 3 kd143 (lo := 0) (hi := 16) rfl
        have q72 : (τ16.1 143 3) = (σ.1 143 3) := ((FR.at f18 143 3 rfl).trans ((FR.at f12 143 3 rfl).trans (FR.at f6 143 3 rfl)))
        have b73 := GI.b hg 143 4 kd143 (lo := 0) (hi := 16) rfl
        have q74 : (τ16.1 143 4) = (σ.1 143 4) := ((FR.at f18 143 4 rfl).trans ((FR.at f12 143 4 rfl).trans (FR.at f6 143 4 rfl)))
        refine wp_use (m_318 τ16 g17 y7 (by omega) (by omega) _ _ (by omega) (by omega)) ?_
        rintro _ _ ⟨z78, rfl, h79, rfl, p75⟩
        show WP 317 34 [(0, .ref 117), (1, .long y7), (3, iV x8)] [iV z78] _ _ _ _
        refine wp_z_eq jF_317_34 (m_rgb h79 rfl) rfl (pc2 := 37) ?_ ?_
        · intro h80
          clear p75
          refine wp_ic jF_317_39 rfl (pc2 := 40) ?_
          refine wp_is2 (lv2 := [(0, .ref 117), (1, .long y7), (3, iV x8), (4, iV 0)]) jF_317_40 rfl rfl rfl (pc2 := 42) ?_
          refine wp_loop (α := Int) (fun a => [(0, .ref 117), (1, .long y7), (3, iV x8), (4, iV (a))]) (fun a τ => (0 ≤ a ∧ a ≤ 23) ∧ GI τ ∧ FR Wtr τ16 τ) (fun a τ => Int.toNat (23 - (a))) (0) τ16 ?_ ?_
          · skip
            exact ⟨⟨by omega, by omega⟩, g17, FR.rf⟩
          · rintro x81 τ83 ⟨h82, g84, f85⟩ ih86
            show WP 317 42 [(0, .ref 117), (1, .long y7), (3, iV x8), (4, iV x81)] [] _ _ _ _
            show WP 317 42 [(0, .ref 117), (1, .long y7), (3, iV x8), (4, iV x81)] [] _ _ _ _
            refine wp_il2 jF_317_42 rfl rfl (pc2 := 44) ?_
            refine wp_bi jF_317_44 (by decide) rfl (pc2 := 46) ?_
            refine wp_i_ge jF_317_46 (m_rgb h82 rfl) (m_rgl rfl) rfl (pc2 := 49) ?_ ?_
            · intro h87
              refine wp_ic jF_317_77 rfl (pc2 := 78) ?_
              refine wp_is2 (lv2 := [(0, .ref 117), (1, .long y7), (3, iV x8), (4, iV 0)]) jF_317_78 rfl rfl rfl (pc2 := 80) ?_
              refine wp_loop (α := Int) (fun a => [(0, .ref 117), (1, .long y7), (3, iV x8), (4, iV (a))]) (fun a τ => (0 ≤ a ∧ a ≤ 23) ∧ GI τ ∧ FR Wtr τ83 τ) (fun a τ => Int.toNat (23 - (a))) (0) τ83 ?_ ?_
              · skip
                exact ⟨⟨by omega, by omega⟩, g84, FR.rf⟩
              · rintro x88 τ90 ⟨h89, g91, f92⟩ ih93
                show WP 317 80 [(0, .ref 117), (1, .long y7), (3, iV x8), (4, iV x88)] [] _ _ _ _
                show WP 317 80 [(0, .ref 117), (1, .long y7), (3, iV x8), (4, iV x88)] [] _ _ _ _
                refine wp_il2 jF_317_80 rfl rfl (pc2 := 82) ?_
                refine wp_bi jF_317_82 (by decide) rfl (pc2 := 84) ?_
                refine wp_i_ge jF_317_84 (m_rgb h89 rfl) (m_rgl rfl) rfl (pc2 := 87) ?_ ?_
                · intro h94
                  refine wp_inc (lv2 := [(0, .ref 117), (1, .long y7), (3, iV (x8 + 1)), (4, iV x88)]) jF_317_115 rfl rfl rfl rfl (pc2 := 118) ?_
                  refine wp_go jF_317_118 ?_
                  refine wp_less [0, 1, 3] (lv2 := [(0, .ref 117), (1, .long y7), (3, iV (x8 + 1))]) rfl rfl ?_
                  exact ih13 ((x8 + 1)) τ90 ⟨⟨by omega, by omega⟩, g91, (FR.up (FR.up (FR.up f12 f18 sb_Wtr_Wtr) f85 sb_Wtr_Wtr) f92 sb_Wtr_Wtr)⟩ (by show Int.toNat (61 - (x8 + 1)) < Int.toNat (61 - x8); omega)
                · intro h94
                  refine wp_al1 jF_317_87 rfl rfl (pc2 := 88) ?_
                  refine wp_ic jF_317_88 rfl (pc2 := 89) ?_
                  refine wp_ic jF_317_89 rfl (pc2 := 90) ?_
                  refine wp_il1 jF_317_90 rfl rfl (pc2 := 91) ?_
                  refine wp_il2 jF_317_91 rfl rfl (pc2 := 93) ?_
                  refine wp_cV (as := [iV 0, iV 0, iV x8, iV x88]) (rest := []) (a := 117) (mx := 5) (ci := 12) jF_317_93 kd117 (by decide) rfl rfl rfl rfl rfl (by omega) (by omega) rfl (pc2 := 96) ?_
                  refine wp_use (m_288_0 τ90 g91 0 (by omega) (by omega) x8 (by omega) (by omega) x88 (by omega) (by omega)  _ _ (by omega) (by omega)) ?_
                  rintro _ τ95 ⟨z98, rfl, h99, g96, f97⟩
                  show WP 317 96 [(0, .ref 117), (1, .long y7), (3, iV x8), (4, iV x88)] [iV z98] _ _ _ _
                  refine wp_z_eq jF_317_96 (m_rgb h99 rfl) rfl (pc2 := 99) ?_ ?_
                  · intro h100
                    refine wp_inc (lv2 := [(0, .ref 117), (1, .long y7), (3, iV x8), (4, iV (x88 + 1))]) jF_317_109 rfl rfl rfl rfl (pc2 := 112) ?_
                    refine wp_go jF_317_112 ?_
                    exact ih93 ((x88 + 1)) τ95 ⟨⟨by omega, by omega⟩, g96, (FR.up f92 f97 sb_Wtr_Wtr)⟩ (by show Int.toNat (23 - (x88 + 1)) < Int.toNat (23 - x88); omega)
                  · intro h100
                    refine wp_al1 jF_317_99 rfl rfl (pc2 := 100) ?_
                    refine wp_ll1 jF_317_100 rfl rfl (pc2 := 101) ?_
                    refine wp_cV (as := [.long y7]) (rest := []) (a := 117) (mx := 5) (ci := 12) jF_317_101 kd117 (by decide) rfl rfl rfl rfl rfl (by omega) (by omega) rfl (pc2 := 104) ?_
                    have b101 := GI.b g96 117 49 kd117 (lo := 0) (hi := 61) rfl
                    have q102 : (τ95.1 143 3) = (σ.1 143 3) := ((FR.at f97 143 3 rfl).trans ((FR.at f92 143 3 rfl).trans ((FR.at f85 143 3 rfl).trans ((FR.at f18 143 3 rfl).trans ((FR.at f12 143 3 rfl).trans (FR.at f6 143 3 rfl))))))
                    have q103 : (τ95.1 143 4) = (σ.1 143 4) := ((FR.at f97 143 4 rfl).trans ((FR.at f92 143 4 rfl).trans ((FR.at f85 143 4 rfl).trans ((FR.at f18 143 4 rfl).trans ((FR.at f12 143 4 rfl).trans (FR.at f6 143 4 rfl))))))
                    refine wp_use (m_318 τ95 g96 y7 (by omega) (by omega) _ _ (by omega) (by omega)) ?_
                    rintro _ _ ⟨z107, rfl, h108, rfl, p104⟩
                    show WP 317 104 [(0, .ref 117), (1, .long y7), (3, iV x8), (4, iV x88)] [iV z107] _ _ _ _
                    refine wp_z_eq jF_317_104 (m_rgb h108 rfl) rfl (pc2 := 107) ?_ ?_
                    · intro h109
                      clear p104
                      refine wp_inc (lv2 := [(0, .ref 117), (1, .long y7), (3, iV x8), (4, iV (x88 + 1))]) jF_317_109 rfl rfl rfl rfl (pc2 := 112) ?_
                      refine wp_go jF_317_112 ?_
                      exact ih93 ((x88 + 1)) τ95 ⟨⟨by omega, by omega⟩, g96, (FR.up f92 f97 sb_Wtr_Wtr)⟩ (by show Int.toNat (23 - (x88 + 1)) < Int.toNat (23 - x88); omega)
                    · intro h109
                      replace p104 := p104 (by omega)
                      refine wp_ic jF_317_107 rfl (pc2 := 108) ?_
                      refine wp_ri jF_317_108 rfl ?_
                      exact ⟨1, rfl, ⟨by omega, by omega⟩, g96, (FR.up (FR.up (FR.up (FR.up (FR.up f6 f12 sb_Wtr_Wtr) f18 sb_Wtr_Wtr) f85 sb_Wtr_Wtr) f92 sb_Wtr_Wtr) f97 sb_Wtr_Wtr), (by omega)⟩
            · intro h87
              refine wp_al1 jF_317_49 rfl rfl (pc2 := 50) ?_
              refine wp_ic jF_317_50 rfl (pc2 := 51) ?_
              refine wp_ic jF_317_51 rfl (pc2 := 52) ?_
              refine wp_il1 jF_317_52 rfl rfl (pc2 := 53) ?_
              refine wp_il2 jF_317_53 rfl rfl (pc2 := 55) ?_
              refine wp_cV (as := [iV 0, iV 2, iV x8, iV x81]) (rest := []) (a := 117) (mx := 5) (ci := 12) jF_317_55 kd117 (by decide) rfl rfl rfl rfl rfl (by omega) (by omega) rfl (pc2 := 58) ?_
              refine wp_use (m_288_0 τ83 g84 2 (by omega) (by omega) x8 (by omega) (by omega) x81 (by omega) (by omega)  _ _ (by omega) (by omega)) ?_
              rintro _ τ110 ⟨z113, rfl, h114, g111, f112⟩
              show WP 317 58 [(0, .ref 117), (1, .long y7), (3, iV x8), (4, iV x81)] [iV z113] _ _ _ _
              refine wp_z_eq jF_317_58 (m_rgb h114 rfl) rfl (pc2 := 61) ?_ ?_
              · intro h115
                refine wp_inc (lv2 := [(0, .ref 117), (1, .long y7), (3, iV x8), (4, iV (x81 + 1))]) jF_317_71 rfl rfl rfl rfl (pc2 := 74) ?_
                refine wp_go jF_317_74 ?_
                exact ih86 ((x81 + 1)) τ110 ⟨⟨by omega, by omega⟩, g111, (FR.up f85 f112 sb_Wtr_Wtr)⟩ (by show Int.toNat (23 - (x81 + 1)) < Int.toNat (23 - x81); omega)
              · intro h115
                refine wp_al1 jF_317_61 rfl rfl (pc2 := 62) ?_
                refine wp_ll1 jF_317_62 rfl rfl (pc2 := 63) ?_
                refine wp_cV (as := [.long y7]) (rest := []) (a := 117) (mx := 5) (ci := 12) jF_317_63 kd117 (by decide) rfl rfl rfl rfl rfl (by omega) (by omega) rfl (pc2 := 66) ?_
                have b116 := GI.b g111 117 49 kd117 (lo := 0) (hi := 61) rfl
                have q117 : (τ110.1 143 3) = (σ.1 143 3) := ((FR.at f112 143 3 rfl).trans ((FR.at f85 143 3 rfl).trans ((FR.at f18 143 3 rfl).trans ((FR.at f12 143 3 rfl).trans (FR.at f6 143 3 rfl)))))
                have q118 : (τ110.1 143 4) = (σ.1 143 4) := ((FR.at f112 143 4 rfl).trans ((FR.at f85 143 4 rfl).trans ((FR.at f18 143 4 rfl).trans ((FR.at f12 143 4 rfl).trans (FR.at f6 143 4 rfl)))))
                refine wp_use (m_318 τ110 g111 y7 (by omega) (by omega) _ _ (by omega) (by omega)) ?_
                rintro _ _ ⟨z122, rfl, h123, rfl, p119⟩
                show WP 317 66 [(0, .ref 117), (1, .long y7), (3, iV x8), (4, iV x81)] [iV z122] _ _ _ _
                refine wp_z_eq jF_317_66 (m_rgb h123 rfl) rfl (pc2 := 69) ?_ ?_
                · intro h124
                  clear p119
                  refine wp_inc (lv2 := [(0, .ref 117), (1, .long y7), (3, iV x8), (4, iV (x81 + 1))]) jF_317_71 rfl rfl rfl rfl (pc2 := 74) ?_
                  refine wp_go jF_317_74 ?_
                  exact ih86 ((x81 + 1)) τ110 ⟨⟨by omega, by omega⟩, g111, (FR.up f85 f112 sb_Wtr_Wtr)⟩ (by show Int.toNat (23 - (x81 + 1)) < Int.toNat (23 - x81); omega)
                · intro h124
                  replace p119 := p119 (by omega)
                  refine wp_ic jF_317_69 rfl (pc2 := 70) ?_
                  refine wp_ri jF_317_70 rfl ?_
                  exact ⟨1, rfl, ⟨by omega, by omega⟩, g111, (FR.up (FR.up (FR.up (FR.up f6 f12 sb_Wtr_Wtr) f18 sb_Wtr_Wtr) f85 sb_Wtr_Wtr) f112 sb_Wtr_Wtr), (by omega)⟩
        · intro h80
          replace p75 := p75 (by omega)
          refine wp_ic jF_317_37 rfl (pc2 := 38) ?_
          refine wp_ri jF_317_38 rfl ?_
          exact ⟨1, rfl, ⟨by omega, by omega⟩, g17, (FR.up (FR.up f6 f12 sb_Wtr_Wtr) f18 sb_Wtr_Wtr), (by omega)⟩
set_option maxHeartbeats 4000000 in
set_option maxRecDepth 20000 in
/-- M.rest -/
theorem m_316 (σ : jM) (hg : GI σ)  (pre0 : (σ.1 143 3) ≤ 16) (pre1 : (σ.1 143 4) ≤ 8) (pre2 : (l0 σ) = 22) (fr lo : Nat) (hfr : 6 ≤ fr) (hlo : 148 ≤ lo) : WP 316 0 (lv_args 0 [.ref 117]) [] fr lo σ (fun v τ => ∃ z : Int, v = some (iV z) ∧ (0 ≤ z ∧ z ≤ 1) ∧ GI τ ∧ FR Wtr σ τ) := by
  show WP 316 0 [(0, .ref 117)] [] _ _ _ _
  refine wp_al1 jF_316_0 rfl rfl (pc2 := 1) ?_
  refine wp_cV (as := []) (rest := []) (a := 117) (mx := 5) (ci := 12) jF_316_1 kd117 (by decide) rfl rfl rfl rfl rfl (by omega) (by omega) rfl (pc2 := 4) ?_
  have b1 := GI.b hg 143 3 kd143 (lo := 0) (hi := 16) rfl
  have b2 := GI.b hg 143 4 kd143 (lo := 0) (hi := 16) rfl
  refine wp_use (m_317 σ hg  (by omega) (by omega) (by omega) _ _ (by omega) (by omega)) ?_
  rintro _ τ4 ⟨z7, rfl, h8, g5, f6, p3⟩
  show WP 316 4 [(0, .ref 117)] [iV z7] _ _ _ _
  refine wp_z_eq jF_316_4 (m_rgb h8 rfl) rfl (pc2 := 7) ?_ ?_
  · intro h9
    clear p3
    refine wp_ic jF_316_11 rfl (pc2 := 12) ?_
    refine wp_ri jF_316_12 rfl ?_
    exact ⟨1, rfl, ⟨by omega, by omega⟩, g5, f6⟩
  · intro h9
    replace p3 := p3 (by omega)
    refine wp_ic jF_316_7 rfl (pc2 := 8) ?_
    refine wp_go jF_316_8 ?_
    refine wp_ri jF_316_12 rfl ?_
    exact ⟨0, rfl, ⟨by omega, by omega⟩, g5, f6⟩
