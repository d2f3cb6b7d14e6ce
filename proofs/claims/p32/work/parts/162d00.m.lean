set_option maxHeartbeats 4000000 in
set_option maxRecDepth 20000 in
/-- M.feed -/
theorem m_212_z (σ : jM) (hg : GI σ) (f1 : Int) (hl_f1 : (-2147483648) ≤ f1) (hu_f1 : f1 ≤ 2147483647) (f2 : Int) (hl_f2 : (-2147483648) ≤ f2) (hu_f2 : f2 ≤ 2147483647) (f3 : Int) (hl_f3 : (-2147483648) ≤ f3) (hu_f3 : f3 ≤ 2147483647) (f4 : Int) (hl_f4 : (-2147483648) ≤ f4) (hu_f4 : f4 ≤ 2147483647) (f5 : Int) (hl_f5 : (-2147483648) ≤ f5) (hu_f5 : f5 ≤ 2147483647)  (fr lo : Nat) (hfr : 0 ≤ fr) (hlo : 0 ≤ lo) : WP 212 0 (lv_args 0 [.ref 117, iV f1, iV f2, iV f3, iV f4, iV f5]) [] fr lo σ (fun v τ => ∃ z : Int, v = some (iV z) ∧ ((-2147483648) ≤ z ∧ z ≤ 2147483647) ∧ GI τ ∧ FR Wfd σ τ ∧ ((σ.1 117 1) ≤ 1580 → ((τ.1 117 1) = (σ.1 117 1) + 20 ∧ z = (σ.1 117 1) + 20)) ∧ (1581 ≤ (σ.1 117 1) → ((τ.1 117 1) = (σ.1 117 1) ∧ z = -1))) := by
  show WP 212 0 [(0, .ref 117), (1, iV f1), (2, iV f2), (3, iV f3), (4, iV f4), (5, iV f5)] [] _ _ _ _
  refine wp_al1 jF_212_0 rfl rfl (pc2 := 1) ?_
  have b1 := GI.b hg 117 1 kd117 (lo := 0) (hi := 1600) rfl
  refine wp_gi jF_212_1 kd117 (by decide) rfl rfl rfl (pc2 := 4) ?_
  refine wp_bi jF_212_4 (by decide) rfl (pc2 := 6) ?_
  refine wp_add jF_212_6 rfl (pc2 := 7) ?_
  refine wp_si jF_212_7 (by decide) rfl (pc2 := 10) ?_
  refine wp_i_le jF_212_10 ⟨by omega, by omega⟩ (m_rgl rfl) rfl (pc2 := 13) ?_ ?_
  · intro h2
    refine wp_ic jF_212_25 rfl (pc2 := 26) ?_
    refine wp_is2 (lv2 := [(0, .ref 117), (1, iV f1), (2, iV f2), (3, iV f3), (4, iV f4), (5, iV f5), (6, iV 0)]) jF_212_26 rfl rfl rfl (pc2 := 28) ?_
    refine wp_loop (α := Int) (fun a => [(0, .ref 117), (1, iV f1), (2, iV f2), (3, iV f3), (4, iV f4), (5, iV f5), (6, iV (a))]) (fun a τ => (0 ≤ a ∧ a ≤ 20) ∧ GI τ ∧ FR Wfd σ τ ∧ ((τ.1 117 1) = (σ.1 117 1) + (a))) (fun a τ => Int.toNat (20 - (a))) (0) σ ?_ ?_
    · skip
      exact ⟨⟨by omega, by omega⟩, hg, FR.rf, (by omega)⟩
    · rintro x3 τ5 ⟨h4, g6, f7, p8⟩ ih9
      have b10 := GI.b g6 117 1 kd117 (lo := 0) (hi := 1600) rfl
      show WP 212 28 [(0, .ref 117), (1, iV f1), (2, iV f2), (3, iV f3), (4, iV f4), (5, iV f5), (6, iV x3)] [] _ _ _ _
      show WP 212 28 [(0, .ref 117), (1, iV f1), (2, iV f2), (3, iV f3), (4, iV f4), (5, iV f5), (6, iV x3)] [] _ _ _ _
      refine wp_il2 jF_212_28 rfl rfl (pc2 := 30) ?_
      refine wp_bi jF_212_30 (by decide) rfl (pc2 := 32) ?_
      refine wp_i_ge jF_212_32 (m_rgb h4 rfl) (m_rgl rfl) rfl (pc2 := 35) ?_ ?_
      · intro h11
        refine wp_al1 jF_212_124 rfl rfl (pc2 := 125) ?_
        refine wp_gi jF_212_125 kd117 (by decide) rfl rfl rfl (pc2 := 128) ?_
        refine wp_ri jF_212_128 rfl ?_
        exact ⟨(τ5.1 117 1), rfl, ⟨by omega, by omega⟩, g6, f7, (by omega), (by omega)⟩
      · intro h11
        refine wp_il2 jF_212_35 rfl rfl (pc2 := 37) ?_
        refine wp_ic jF_212_37 rfl (pc2 := 38) ?_
        refine wp_i_ge jF_212_38 ⟨by omega, by omega⟩ (m_rgl rfl) rfl (pc2 := 41) ?_ ?_
        · intro h12
          refine wp_il2 jF_212_45 rfl rfl (pc2 := 47) ?_
          refine wp_bi jF_212_47 (by decide) rfl (pc2 := 49) ?_
          refine wp_i_ge jF_212_49 ⟨by omega, by omega⟩ (m_rgl rfl) rfl (pc2 := 52) ?_ ?_
          · intro h13
            refine wp_il2 jF_212_56 rfl rfl (pc2 := 58) ?_
            refine wp_bi jF_212_58 (by decide) rfl (pc2 := 60) ?_
            refine wp_i_ge jF_212_60 ⟨by omega, by omega⟩ (m_rgl rfl) rfl (pc2 := 63) ?_ ?_
            · intro h14
              refine wp_il2 jF_212_67 rfl rfl (pc2 := 69) ?_
              refine wp_bi jF_212_69 (by decide) rfl (pc2 := 71) ?_
              refine wp_i_ge jF_212_71 ⟨by omega, by omega⟩ (m_rgl rfl) rfl (pc2 := 74) ?_ ?_
              · intro h15
                refine wp_il2 jF_212_79 rfl rfl (pc2 := 81) ?_
                refine wp_is2 (lv2 := [(0, .ref 117), (1, iV f1), (2, iV f2), (3, iV f3), (4, iV f4), (5, iV f5), (6, iV x3), (7, iV f5)]) jF_212_81 rfl rfl rfl (pc2 := 83) ?_
                refine wp_al1 jF_212_83 rfl rfl (pc2 := 84) ?_
                refine wp_gr (b := 118) jF_212_84 kd117 (by decide) (c := 218) rfl rfl rfl (pc2 := 87) ?_
                refine wp_al1 jF_212_87 rfl rfl (pc2 := 88) ?_
                refine wp_gi jF_212_88 kd117 (by decide) rfl rfl rfl (pc2 := 91) ?_
                refine wp_il2 jF_212_91 rfl rfl (pc2 := 93) ?_
                refine wp_bi jF_212_93 (by decide) rfl (pc2 := 95) ?_
                refine wp_ic jF_212_95 rfl (pc2 := 96) ?_
                refine wp_il2 jF_212_96 rfl rfl (pc2 := 98) ?_
                refine wp_ic jF_212_98 rfl (pc2 := 99) ?_
                refine wp_rem jF_212_99 ⟨by omega, by omega⟩ (by omega) (m_rgl rfl) (by omega) rfl (pc2 := 100) ?_
                refine wp_sub jF_212_100 rfl (pc2 := 101) ?_
                refine wp_mul jF_212_101 rfl (pc2 := 102) ?_
                refine wp_any2 (pc2 := 103) jF_212_102 rfl rfl ?_
                intro z16 h17
                refine wp_si jF_212_103 (by decide) rfl (pc2 := 106) ?_
                refine wp_andl jF_212_106 rfl rfl (pc2 := 107) ?_
                intro z18 h19
                refine wp_iast (n := 1600) jF_212_107 kd118 (by decide) rfl rfl (by omega) (by omega) rfl (pc2 := 108) g6 (lo := 0) (hi := 255) rfl (by omega) (by omega) ?_
                intro τ20 g21 f22 e23
                refine wp_al1 jF_212_108 rfl rfl (pc2 := 109) ?_
                refine wp_dup jF_212_109 rfl rfl (pc2 := 110) ?_
                refine wp_gi jF_212_110 kd117 (by decide) rfl (FRw.na f22 (by decide)) rfl (pc2 := 113) ?_
                refine wp_ic jF_212_113 rfl (pc2 := 114) ?_
                refine wp_add jF_212_114 rfl (pc2 := 115) ?_
                refine wp_pi jF_212_115 kd117 (by decide) rfl rfl rfl (pc2 := 118) g21 (lo := 0) (hi := 1600) rfl (by omega) (by omega) ?_
                intro τ24 g25 f26 e27
                refine wp_inc (lv2 := [(0, .ref 117), (1, iV f1), (2, iV f2), (3, iV f3), (4, iV f4), (5, iV f5), (6, iV (x3 + 1)), (7, iV f5)]) jF_212_118 rfl rfl rfl rfl (pc2 := 121) ?_
                refine wp_go jF_212_121 ?_
                have q28 : (τ24.1 117 1) = ((τ5.1 117 1) + 1) := e27
                refine wp_less [0, 1, 2, 3, 4, 5, 6] (lv2 := [(0, .ref 117), (1, iV f1), (2, iV f2), (3, iV f3), (4, iV f4), (5, iV f5), (6, iV (x3 + 1))]) rfl rfl ?_
                exact ih9 ((x3 + 1)) τ24 ⟨⟨by omega, by omega⟩, g25, (FR.w (FR.w f7 f22 rfl) f26 rfl), (by omega)⟩ (by show Int.toNat (20 - (x3 + 1)) < Int.toNat (20 - x3); omega)
              · intro h15
                refine wp_il2 jF_212_74 rfl rfl (pc2 := 76) ?_
                refine wp_go jF_212_76 ?_
                refine wp_is2 (lv2 := [(0, .ref 117), (1, iV f1), (2, iV f2), (3, iV f3), (4, iV f4), (5, iV f5), (6, iV x3), (7, iV f4)]) jF_212_81 rfl rfl rfl (pc2 := 83) ?_
                refine wp_al1 jF_212_83 rfl rfl (pc2 := 84) ?_
                refine wp_gr (b := 118) jF_212_84 kd117 (by decide) (c := 218) rfl rfl rfl (pc2 := 87) ?_
                refine wp_al1 jF_212_87 rfl rfl (pc2 := 88) ?_
                refine wp_gi jF_212_88 kd117 (by decide) rfl rfl rfl (pc2 := 91) ?_
                refine wp_il2 jF_212_91 rfl rfl (pc2 := 93) ?_
                refine wp_bi jF_212_93 (by decide) rfl (pc2 := 95) ?_
                refine wp_ic jF_212_95 rfl (pc2 := 96) ?_
                refine wp_il2 jF_212_96 rfl rfl (pc2 := 98) ?_
                refine wp_ic jF_212_98 rfl (pc2 := 99) ?_
                refine wp_rem jF_212_99 ⟨by omega, by omega⟩ (by omega) (m_rgl rfl) (by omega) rfl (pc2 := 100) ?_
                refine wp_sub jF_212_100 rfl (pc2 := 101) ?_
                refine wp_mul jF_212_101 rfl (pc2 := 102) ?_
                refine wp_any2 (pc2 := 103) jF_212_102 rfl rfl ?_
                intro z29 h30
                refine wp_si jF_212_103 (by decide) rfl (pc2 := 106) ?_
                refine wp_andl jF_212_106 rfl rfl (pc2 := 107) ?_
                intro z31 h32
                refine wp_iast (n := 1600) jF_212_107 kd118 (by decide) rfl rfl (by omega) (by omega) rfl (pc2 := 108) g6 (lo := 0) (hi := 255) rfl (by omega) (by omega) ?_
                intro τ33 g34 f35 e36
                refine wp_al1 jF_212_108 rfl rfl (pc2 := 109) ?_
                refine wp_dup jF_212_109 rfl rfl (pc2 := 110) ?_
                refine wp_gi jF_212_110 kd117 (by decide) rfl (FRw.na f35 (by decide)) rfl (pc2 := 113) ?_
                refine wp_ic jF_212_113 rfl (pc2 := 114) ?_
                refine wp_add jF_212_114 rfl (pc2 := 115) ?_
                refine wp_pi jF_212_115 kd117 (by decide) rfl rfl rfl (pc2 := 118) g34 (lo := 0) (hi := 1600) rfl (by omega) (by omega) ?_
                intro τ37 g38 f39 e40
                refine wp_inc (lv2 := [(0, .ref 117), (1, iV f1), (2, iV f2), (3, iV f3), (4, iV f4), (5, iV f5), (6, iV (x3 + 1)), (7, iV f4)]) jF_212_118 rfl rfl rfl rfl (pc2 := 121) ?_
                refine wp_go jF_212_121 ?_
                have q41 : (τ37.1 117 1) = ((τ5.1 117 1) + 1) := e40
                refine wp_less [0, 1, 2, 3, 4, 5, 6] (lv2 := [(0, .ref 117), (1, iV f1), (2, iV f2), (3, iV f3), (4, iV f4), (5, iV f5), (6, iV (x3 + 1))]) rfl rfl ?_
                exact ih9 ((x3 + 1)) τ37 ⟨⟨by omega, by omega⟩, g38, (FR.w (FR.w f7 f35 rfl) f39 rfl), (by omega)⟩ (by show Int.toNat (20 - (x3 + 1)) < Int.toNat (20 - x3); omega)
            · intro h14
              refine wp_il1 jF_212_63 rfl rfl (pc2 := 64) ?_
              refine wp_go jF_212_64 ?_
              refine wp_is2 (lv2 := [(0, .ref 117), (1, iV f1), (2, iV f2), (3, iV f3), (4, iV f4), (5, iV f5), (6, iV x3), (7, iV f3)]) jF_212_81 rfl rfl rfl (pc2 := 83) ?_
              refine wp_al1 jF_212_83 rfl rfl (pc2 := 84) ?_
              refine wp_gr (b := 118) jF_212_84 kd117 (by decide) (c := 218) rfl rfl rfl (pc2 := 87) ?_
              refine wp_al1 jF_212_87 rfl rfl (pc2 := 88) ?_
              refine wp_gi jF_212_88 kd117 (by decide) rfl rfl rfl (pc2 := 91) ?_
              refine wp_il2 jF_212_91 rfl rfl (pc2 := 93) ?_
              refine wp_bi jF_212_93 (by decide) rfl (pc2 := 95) ?_
              refine wp_ic jF_212_95 rfl (pc2 := 96) ?_
              refine wp_il2 jF_212_96 rfl rfl (pc2 := 98) ?_
              refine wp_ic jF_212_98 rfl (pc2 := 99) ?_
              refine wp_rem jF_212_99 ⟨by omega, by omega⟩ (by omega) (m_rgl rfl) (by omega) rfl (pc2 := 100) ?_
              refine wp_sub jF_212_100 rfl (pc2 := 101) ?_
              refine wp_mul jF_212_101 rfl (pc2 := 102) ?_
              refine wp_any2 (pc2 := 103) jF_212_102 rfl rfl ?_
              intro z42 h43
              refine wp_si jF_212_103 (by decide) rfl (pc2 := 106) ?_
              refine wp_andl jF_212_106 rfl rfl (pc2 := 107) ?_
              intro z44 h45
              refine wp_iast (n := 1600) jF_212_107 kd118 (by decide) rfl rfl (by omega) (by omega) rfl (pc2 := 108) g6 (lo := 0) (hi := 255) rfl (by omega) (by omega) ?_
              intro τ46 g47 f48 e49
              refine wp_al1 jF_212_108 rfl rfl (pc2 := 109) ?_
              refine wp_dup jF_212_109 rfl rfl (pc2 := 110) ?_
              refine wp_gi jF_212_110 kd117 (by decide) rfl (FRw.na f48 (by decide)) rfl (pc2 := 113) ?_
              refine wp_ic jF_212_113 rfl (pc2 := 114) ?_
              refine wp_add jF_212_114 rfl (pc2 := 115) ?_
              refine wp_pi jF_212_115 kd117 (by decide) rfl rfl rfl (pc2 := 118) g47 (lo := 0) (hi := 1600) rfl (by omega) (by omega) ?_
              intro τ50 g51 f52 e53
              refine wp_inc (lv2 := [(0, .ref 117), (1, iV f1), (2, iV f2), (3, iV f3), (4, iV f4), (5, iV f5), (6, iV (x3 + 1)), (7, iV f3)]) jF_212_118 rfl rfl rfl rfl (pc2 := 121) ?_
              refine wp_go jF_212_121 ?_
              have q54 : (τ50.1 117 1) = ((τ5.1 117 1) + 1) := e53
              refine wp_less [0, 1, 2, 3, 4, 5, 6] (lv2 := [(0, .ref 117), (1, iV f1), (2, iV f2), (3, iV f3), (4, iV f4), (5, iV f5), (6, iV (x3 + 1))]) rfl rfl ?_
              exact ih9 ((x3 + 1)) τ50 ⟨⟨by omega, by omega⟩, g51, (FR.w (FR.w f7 f48 rfl) f52 rfl), (by omega)⟩ (by show Int.toNat (20 - (x3 + 1)) < Int.toNat (20 - x3); omega)
          · intro h13
            refine wp_il1 jF_212_52 rfl rfl (pc2 := 53) ?_
            refine wp_go jF_212_53 ?_
            refine wp_is2 (lv2 := [(0, .ref 117), (1, iV f1), (2, iV f2), (3, iV f3), (4, iV f4), (5, iV f5), (6, iV x3), (7, iV f2)]) jF_212_81 rfl rfl rfl (pc2 := 83) ?_
            refine wp_al1 jF_212_83 rfl rfl (pc2 := 84) ?_
            refine wp_gr (b := 118) jF_212_84 kd117 (by decide) (c := 218) rfl rfl rfl (pc2 := 87) ?_
            refine wp_al1 jF_212_87 rfl rfl (pc2 := 88) ?_
            refine wp_gi jF_212_88 kd117 (by decide) rfl rfl rfl (pc2 := 91) ?_
            refine wp_il2 jF_212_91 rfl rfl (pc2 := 93) ?_
            refine wp_bi jF_212_93 (by decide) rfl (pc2 := 95) ?_
            refine wp_ic jF_212_95 rfl (pc2 := 96) ?_
            refine wp_il2 jF_212_96 rfl rfl (pc2 := 98) ?_
            refine wp_ic jF_212_98 rfl (pc2 := 99) ?_
            refine wp_rem jF_212_99 ⟨by omega, by omega⟩ (by omega) (m_rgl rfl) (by omega) rfl (pc2 := 100) ?_
            refine wp_sub jF_212_100 rfl (pc2 := 101) ?_
            refine wp_mul jF_212_101 rfl (pc2 := 102) ?_
            refine wp_any2 (pc2 := 103) jF_212_102 rfl rfl ?_
            intro z55 h56
            refine wp_si jF_212_103 (by decide) rfl (pc2 := 106) ?_
            refine wp_andl jF_212_106 rfl rfl (pc2 := 107) ?_
            intro z57 h58
            refine wp_iast (n := 1600) jF_212_107 kd118 (by decide) rfl rfl (by omega) (by omega) rfl (pc2 := 108) g6 (lo := 0) (hi := 255) rfl (by omega) (by omega) ?_
            intro τ59 g60 f61 e62
            refine wp_al1 jF_212_108 rfl rfl (pc2 := 109) ?_
            refine wp_dup jF_212_109 rfl rfl (pc2 := 110) ?_
            refine wp_gi jF_212_110 kd117 (by decide) rfl (FRw.na f61 (by decide)) rfl (pc2 := 113) ?_
            refine wp_ic jF_212_113 rfl (pc2 := 114) ?_
            refine wp_add jF_212_114 rfl (pc2 := 115) ?_
            refine wp_pi jF_212_115 kd117 (by decide) rfl rfl rfl (pc2 := 118) g60 (lo := 0) (hi := 1600) rfl (by omega) (by omega) ?_
            intro τ63 g64 f65 e66
            refine wp_inc (lv2 := [(0, .ref 117), (1, iV f1), (2, iV f2), (3, iV f3), (4, iV f4), (5, iV f5), (6, iV (x3 + 1)), (7, iV f2)]) jF_212_118 rfl rfl rfl rfl (pc2 := 121) ?_
            refine wp_go jF_212_121 ?_
            have q67 : (τ63.1 117 1) = ((τ5.1 117 1) + 1) := e66
            refine wp_less [0, 1, 2, 3, 4, 5, 6] (lv2 := [(0, .ref 117), (1, iV f1), (2, iV f2), (3, iV f3), (4, iV f4), (5, iV f5), (6, iV (x3 + 1))]) rfl rfl ?_
            exact ih9 ((x3 + 1)) τ63 ⟨⟨by omega, by omega⟩, g64, (FR.w (FR.w f7 f61 rfl) f65 rfl), (by omega)⟩ (by show Int.toNat (20 - (x3 + 1)) < Int.toNat (20 - x3); omega)
        · intro h12
          refine wp_il1 jF_212_41 rfl rfl (pc2 := 42) ?_
          refine wp_go jF_212_42 ?_
          refine wp_is2 (lv2 := [(0, .ref 117), (1, iV f1), (2, iV f2), (3, iV f3), (4, iV f4), (5, iV f5), (6, iV x3), (7, iV f1)]) jF_212_81 rfl rfl rfl (pc2 := 83) ?_
          refine wp_al1 jF_212_83 rfl rfl (pc2 := 84) ?_
          refine wp_gr (b := 118) jF_212_84 kd117 (by decide) (c := 218) rfl rfl rfl (pc2 := 87) ?_
          refine wp_al1 jF_212_87 rfl rfl (pc2 := 88) ?_
          refine wp_gi jF_212_88 kd117 (by decide) rfl rfl rfl (pc2 := 91) ?_
          refine wp_il2 jF_212_91 rfl rfl (pc2 := 93) ?_
          refine wp_bi jF_212_93 (by decide) rfl (pc2 := 95) ?_
          refine wp_ic jF_212_95 rfl (pc2 := 96) ?_
          refine wp_il2 jF_212_96 rfl rfl (pc2 := 98) ?_
          refine wp_ic jF_212_98 rfl (pc2 := 99) ?_
          refine wp_rem jF_212_99 ⟨by omega, by omega⟩ (by omega) (m_rgl rfl) (by omega) rfl (pc2 := 100) ?_
          refine wp_sub jF_212_100 rfl (pc2 := 101) ?_
          refine wp_mul jF_212_101 rfl (pc2 := 102) ?_
          refine wp_any2 (pc2 := 103) jF_212_102 rfl rfl ?_
          intro z68 h69
          refine wp_si jF_212_103 (by decide) rfl (pc2 := 106) ?_
          refine wp_andl jF_212_106 rfl rfl (pc2 := 107) ?_
          intro z70 h71
          refine wp_iast (n := 1600) jF_212_107 kd118 (by decide) rfl rfl (by omega) (by omega) rfl (pc2 := 108) g6 (lo := 0) (hi := 255) rfl (by omega) (by omega) ?_
          intro τ72 g73 f74 e75
          refine wp_al1 jF_212_108 rfl rfl (pc2 := 109) ?_
          refine wp_dup jF_212_109 rfl rfl (pc2 := 110) ?_
          refine wp_gi jF_212_110 kd117 (by decide) rfl (FRw.na f74 (by decide)) rfl (pc2 := 113) ?_
          refine wp_ic jF_212_113 rfl (pc2 := 114) ?_
          refine wp_add jF_212_114 rfl (pc2 := 115) ?_
          refine wp_pi jF_212_115 kd117 (by decide) rfl rfl rfl (pc2 := 118) g73 (lo := 0) (hi := 1600) rfl (by omega) (by omega) ?_
          intro τ76 g77 f78 e79
          refine wp_inc (lv2 := [(0, .ref 117), (1, iV f1), (2, iV f2), (3, iV f3), (4, iV f4), (5, iV f5), (6, iV (x3 + 1)), (7, iV f1)]) jF_212_118 rfl rfl rfl rfl (pc2 := 121) ?_
          refine wp_go jF_212_121 ?_
          have q80 : (τ76.1 117 1) = ((τ5.1 117 1) + 1) := e79
          refine wp_less [0, 1, 2, 3, 4, 5, 6] (lv2 := [(0, .ref 117), (1, iV f1), (2, iV f2), (3, iV f3), (4, iV f4), (5, iV f5), (6, iV (x3 + 1))]) rfl rfl ?_
          exact ih9 ((x3 + 1)) τ76 ⟨⟨by omega, by omega⟩, g77, (FR.w (FR.w f7 f74 rfl) f78 rfl), (by omega)⟩ (by show Int.toNat (20 - (x3 + 1)) < Int.toNat (20 - x3); omega)
  · intro h2
    refine wp_al1 jF_212_13 rfl rfl (pc2 := 14) ?_
    refine wp_gr (b := 119) jF_212_14 kd117 (by decide) (c := 219) rfl rfl rfl (pc2 := 17) ?_
    refine wp_ic jF_212_17 rfl (pc2 := 18) ?_
    refine wp_du2 jF_212_18 rfl rfl (pc2 := 19) ?_
    have b81 := GI.b hg 119 0 kd119 (lo := (-2147483648)) (hi := 2147483647) rfl
    refine wp_iald (n := 6) (e := (σ.1 119 0)) jF_212_19 kd119 (by decide) rfl rfl (by omega) (by omega) rfl rfl (pc2 := 20) ?_
    refine wp_ic jF_212_20 rfl (pc2 := 21) ?_
    refine wp_any2 (pc2 := 22) jF_212_21 rfl rfl ?_
    intro z82 h83
    refine wp_iast (n := 6) jF_212_22 kd119 (by decide) rfl rfl (by omega) (by omega) rfl (pc2 := 23) hg (lo := (-2147483648)) (hi := 2147483647) rfl (by omega) (by omega) ?_
    intro τ84 g85 f86 e87
    refine wp_ic jF_212_23 rfl (pc2 := 24) ?_
    refine wp_ri jF_212_24 rfl ?_
    have q88 : (τ84.1 117 1) = (σ.1 117 1) := (FRw.na f86 (by decide))
    exact ⟨(-1), rfl, ⟨by omega, by omega⟩, g85, (FR.w FR.rf f86 rfl), (by omega), (by omega)⟩
set_option maxHeartbeats 4000000 in
set_option maxRecDepth 20000 in
/-- M.end -/
theorem m_213_z (σ : jM) (hg : GI σ) (n : Int) (hl_n : (-2147483648) ≤ n) (hu_n : n ≤ 2147483647)  (fr lo : Nat) (hfr : 0 ≤ fr) (hlo : 0 ≤ lo) : WP 213 0 (lv_args 0 [.ref 117, iV n]) [] fr lo σ (fun v τ => ∃ z : Int, v = some (iV z) ∧ (0 ≤ z ∧ z ≤ 1) ∧ GI τ ∧ FR Wend σ τ ∧ (0 ≤ n → n ≤ (σ.1 117 1) → (τ.1 117 1) = n) ∧ ((n < 0 ∨ (σ.1 117 1) < n) → (τ.1 117 1) = (σ.1 117 1))) := by
  show WP 213 0 [(0, .ref 117), (1, iV n)] [] _ _ _ _
  refine wp_il1 jF_213_0 rfl rfl (pc2 := 1) ?_
  refine wp_z_lt jF_213_1 ⟨by omega, by omega⟩ rfl (pc2 := 4) ?_ ?_
  · intro h1
    refine wp_al1 jF_213_12 rfl rfl (pc2 := 13) ?_
    refine wp_gr (b := 119) jF_213_13 kd117 (by decide) (c := 219) rfl rfl rfl (pc2 := 16) ?_
    refine wp_ic jF_213_16 rfl (pc2 := 17) ?_
    refine wp_du2 jF_213_17 rfl rfl (pc2 := 18) ?_
    have b2 := GI.b hg 119 0 kd119 (lo := (-2147483648)) (hi := 2147483647) rfl
    refine wp_iald (n := 6) (e := (σ.1 119 0)) jF_213_18 kd119 (by decide) rfl rfl (by omega) (by omega) rfl rfl (pc2 := 19) ?_
    refine wp_ic jF_213_19 rfl (pc2 := 20) ?_
    refine wp_any2 (pc2 := 21) jF_213_20 rfl rfl ?_
    intro z3 h4
    refine wp_iast (n := 6) jF_213_21 kd119 (by decide) rfl rfl (by omega) (by omega) rfl (pc2 := 22) hg (lo := (-2147483648)) (hi := 2147483647) rfl (by omega) (by omega) ?_
    intro τ5 g6 f7 e8
    refine wp_ic jF_213_22 rfl (pc2 := 23) ?_
    refine wp_ri jF_213_23 rfl ?_
    have b9 := GI.b hg 117 1 kd117 (lo := 0) (hi := 1600) rfl
    have q10 : (τ5.1 117 1) = (σ.1 117 1) := (FRw.na f7 (by decide))
    exact ⟨0, rfl, ⟨by omega, by omega⟩, g6, (FR.w FR.rf f7 rfl), (by omega), (by omega)⟩
  · intro h1
    refine wp_il1 jF_213_4 rfl rfl (pc2 := 5) ?_
    refine wp_al1 jF_213_5 rfl rfl (pc2 := 6) ?_
    have b11 := GI.b hg 117 1 kd117 (lo := 0) (hi := 1600) rfl
    refine wp_gi jF_213_6 kd117 (by decide) rfl rfl rfl (pc2 := 9) ?_
    refine wp_i_le jF_213_9 ⟨by omega, by omega⟩ (m_rgb b11 rfl) rfl (pc2 := 12) ?_ ?_
    · intro h12
      refine wp_al1 jF_213_24 rfl rfl (pc2 := 25) ?_
      refine wp_il1 jF_213_25 rfl rfl (pc2 := 26) ?_
      refine wp_pi jF_213_26 kd117 (by decide) rfl rfl rfl (pc2 := 29) hg (lo := 0) (hi := 1600) rfl (by omega) (by omega) ?_
      intro τ13 g14 f15 e16
      refine wp_ic jF_213_29 rfl (pc2 := 30) ?_
      refine wp_ri jF_213_30 rfl ?_
      have q17 : (τ13.1 117 1) = n := e16
      exact ⟨1, rfl, ⟨by omega, by omega⟩, g14, (FR.w FR.rf f15 rfl), (by omega), (by omega)⟩
    · intro h12
      refine wp_al1 jF_213_12 rfl rfl (pc2 := 13) ?_
      refine wp_gr (b := 119) jF_213_13 kd117 (by decide) (c := 219) rfl rfl rfl (pc2 := 16) ?_
      refine wp_ic jF_213_16 rfl (pc2 := 17) ?_
      refine wp_du2 jF_213_17 rfl rfl (pc2 := 18) ?_
      have b18 := GI.b hg 119 0 kd119 (lo := (-2147483648)) (hi := 2147483647) rfl
      refine wp_iald (n := 6) (e := (σ.1 119 0)) jF_213_18 kd119 (by decide) rfl rfl (by omega) (by omega) rfl rfl (pc2 := 19) ?_
      refine wp_ic jF_213_19 rfl (pc2 := 20) ?_
      refine wp_any2 (pc2 := 21) jF_213_20 rfl rfl ?_
      intro z19 h20
      refine wp_iast (n := 6) jF_213_21 kd119 (by decide) rfl rfl (by omega) (by omega) rfl (pc2 := 22) hg (lo := (-2147483648)) (hi := 2147483647) rfl (by omega) (by omega) ?_
      intro τ21 g22 f23 e24
      refine wp_ic jF_213_22 rfl (pc2 := 23) ?_
      refine wp_ri jF_213_23 rfl ?_
      have q25 : (τ21.1 117 1) = (σ.1 117 1) := (FRw.na f23 (by decide))
      exact ⟨0, rfl, ⟨by omega, by omega⟩, g22, (FR.w FR.rf f23 rfl), (by omega), (by omega)⟩
