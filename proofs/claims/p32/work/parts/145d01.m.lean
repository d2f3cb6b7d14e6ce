set_option maxHeartbeats 4000000 in
set_option maxRecDepth 20000 in
/-- M.apart -/
theorem m_303 (σ : jM) (hg : GI σ)   (fr lo : Nat) (hfr : 0 ≤ fr) (hlo : 0 ≤ lo) : WP 303 0 (lv_args 0 [.ref 117]) [] fr lo σ (fun v τ => ∃ z : Int, v = some (iV z) ∧ (0 ≤ z ∧ z ≤ 2) ∧ σ = τ) := by
  show WP 303 0 [(0, .ref 117)] [] _ _ _ _
  refine wp_al1 jF_303_0 rfl rfl (pc2 := 1) ?_
  have b1 := GI.b hg 117 49 kd117 (lo := 0) (hi := 61) rfl
  refine wp_gi jF_303_1 kd117 (by decide) rfl rfl rfl (pc2 := 4) ?_
  refine wp_al1 jF_303_4 rfl rfl (pc2 := 5) ?_
  have b2 := GI.b hg 117 65 kd117 (lo := 0) (hi := 61) rfl
  refine wp_gi jF_303_5 kd117 (by decide) rfl rfl rfl (pc2 := 8) ?_
  refine wp_i_ge jF_303_8 (m_rgb b1 rfl) (m_rgb b2 rfl) rfl (pc2 := 11) ?_ ?_
  · intro h3
    refine wp_al1 jF_303_18 rfl rfl (pc2 := 19) ?_
    refine wp_gi jF_303_19 kd117 (by decide) rfl rfl rfl (pc2 := 22) ?_
    refine wp_is1 (lv2 := [(0, .ref 117), (1, iV (σ.1 117 65))]) jF_303_22 rfl rfl rfl (pc2 := 23) ?_
    refine wp_al1 jF_303_23 rfl rfl (pc2 := 24) ?_
    refine wp_gi jF_303_24 kd117 (by decide) rfl rfl rfl (pc2 := 27) ?_
    refine wp_al1 jF_303_27 rfl rfl (pc2 := 28) ?_
    refine wp_gi jF_303_28 kd117 (by decide) rfl rfl rfl (pc2 := 31) ?_
    refine wp_add jF_303_31 rfl (pc2 := 32) ?_
    refine wp_ic jF_303_32 rfl (pc2 := 33) ?_
    refine wp_il1 jF_303_33 rfl rfl (pc2 := 34) ?_
    refine wp_mul jF_303_34 rfl (pc2 := 35) ?_
    refine wp_sub jF_303_35 rfl (pc2 := 36) ?_
    refine wp_is1 (lv2 := [(0, .ref 117), (1, iV (σ.1 117 65)), (2, iV (((σ.1 117 49) + (σ.1 117 65)) - (2 * (σ.1 117 65))))]) jF_303_36 rfl rfl rfl (pc2 := 37) ?_
    refine wp_il1 jF_303_37 rfl rfl (pc2 := 38) ?_
    refine wp_ic jF_303_38 rfl (pc2 := 39) ?_
    refine wp_i_le jF_303_39 ⟨by omega, by omega⟩ (m_rgl rfl) rfl (pc2 := 42) ?_ ?_
    · intro h4
      refine wp_ic jF_303_44 rfl (pc2 := 45) ?_
      refine wp_is1 (lv2 := [(0, .ref 117), (1, iV (σ.1 117 65)), (2, iV (((σ.1 117 49) + (σ.1 117 65)) - (2 * (σ.1 117 65)))), (3, iV 0)]) jF_303_45 rfl rfl rfl (pc2 := 46) ?_
      refine wp_loop (α := Int) (fun a => [(0, .ref 117), (1, iV (σ.1 117 65)), (2, iV (((σ.1 117 49) + (σ.1 117 65)) - (2 * (σ.1 117 65)))), (3, iV (a))]) (fun a τ => (0 ≤ a ∧ a ≤ 61) ∧ σ = τ ∧ ((a) ≤ (σ.1 117 65))) (fun a τ => Int.toNat ((σ.1 117 65) - (a))) (0) σ ?_ ?_
      · skip
        exact ⟨⟨by omega, by omega⟩, rfl, (by omega)⟩
      · rintro x5 _ ⟨h6, rfl, p10⟩ ih11
        show WP 303 46 [(0, .ref 117), (1, iV (σ.1 117 65)), (2, iV (((σ.1 117 49) + (σ.1 117 65)) - (2 * (σ.1 117 65)))), (3, iV x5)] [] _ _ _ _
        show WP 303 46 [(0, .ref 117), (1, iV (σ.1 117 65)), (2, iV (((σ.1 117 49) + (σ.1 117 65)) - (2 * (σ.1 117 65)))), (3, iV x5)] [] _ _ _ _
        refine wp_il1 jF_303_46 rfl rfl (pc2 := 47) ?_
        refine wp_il1 jF_303_47 rfl rfl (pc2 := 48) ?_
        refine wp_i_ge jF_303_48 (m_rgb h6 rfl) (m_rgb b2 rfl) rfl (pc2 := 51) ?_ ?_
        · intro h12
          refine wp_ic jF_303_72 rfl (pc2 := 73) ?_
          refine wp_is2 (lv2 := [(0, .ref 117), (1, iV (σ.1 117 65)), (2, iV (((σ.1 117 49) + (σ.1 117 65)) - (2 * (σ.1 117 65)))), (3, iV x5), (4, iV 0)]) jF_303_73 rfl rfl rfl (pc2 := 75) ?_
          refine wp_loop (α := Int) (fun a => [(0, .ref 117), (1, iV (σ.1 117 65)), (2, iV (((σ.1 117 49) + (σ.1 117 65)) - (2 * (σ.1 117 65)))), (3, iV x5), (4, iV (a))]) (fun a τ => (0 ≤ a ∧ a ≤ 61) ∧ σ = τ ∧ ((a) ≤ (σ.1 117 65) - x5)) (fun a τ => Int.toNat ((σ.1 117 65) - (a))) (0) σ ?_ ?_
          · skip
            exact ⟨⟨by omega, by omega⟩, rfl, (by omega)⟩
          · rintro x13 _ ⟨h14, rfl, p18⟩ ih19
            show WP 303 75 [(0, .ref 117), (1, iV (σ.1 117 65)), (2, iV (((σ.1 117 49) + (σ.1 117 65)) - (2 * (σ.1 117 65)))), (3, iV x5), (4, iV x13)] [] _ _ _ _
            show WP 303 75 [(0, .ref 117), (1, iV (σ.1 117 65)), (2, iV (((σ.1 117 49) + (σ.1 117 65)) - (2 * (σ.1 117 65)))), (3, iV x5), (4, iV x13)] [] _ _ _ _
            refine wp_il2 jF_303_75 rfl rfl (pc2 := 77) ?_
            refine wp_il1 jF_303_77 rfl rfl (pc2 := 78) ?_
            refine wp_il1 jF_303_78 rfl rfl (pc2 := 79) ?_
            refine wp_sub jF_303_79 rfl (pc2 := 80) ?_
            refine wp_i_ge jF_303_80 (m_rgb h14 rfl) ⟨by omega, by omega⟩ rfl (pc2 := 83) ?_ ?_
            · intro h20
              refine wp_il1 jF_303_120 rfl rfl (pc2 := 121) ?_
              refine wp_il1 jF_303_121 rfl rfl (pc2 := 122) ?_
              refine wp_sub jF_303_122 rfl (pc2 := 123) ?_
              refine wp_il2 jF_303_123 rfl rfl (pc2 := 125) ?_
              refine wp_sub jF_303_125 rfl (pc2 := 126) ?_
              refine wp_il1 jF_303_126 rfl rfl (pc2 := 127) ?_
              refine wp_add jF_303_127 rfl (pc2 := 128) ?_
              refine wp_ic jF_303_128 rfl (pc2 := 129) ?_
              refine wp_i_le jF_303_129 ⟨by omega, by omega⟩ (m_rgl rfl) rfl (pc2 := 132) ?_ ?_
              · intro h21
                refine wp_il1 jF_303_136 rfl rfl (pc2 := 137) ?_
                refine wp_il1 jF_303_137 rfl rfl (pc2 := 138) ?_
                refine wp_sub jF_303_138 rfl (pc2 := 139) ?_
                refine wp_il2 jF_303_139 rfl rfl (pc2 := 141) ?_
                refine wp_sub jF_303_141 rfl (pc2 := 142) ?_
                refine wp_il1 jF_303_142 rfl rfl (pc2 := 143) ?_
                refine wp_add jF_303_143 rfl (pc2 := 144) ?_
                refine wp_ri jF_303_144 rfl ?_
                exact ⟨((((σ.1 117 65) - x5) - x13) + (((σ.1 117 49) + (σ.1 117 65)) - (2 * (σ.1 117 65)))), rfl, ⟨by omega, by omega⟩, rfl⟩
              · intro h21
                refine wp_ic jF_303_132 rfl (pc2 := 133) ?_
                refine wp_go jF_303_133 ?_
                refine wp_ri jF_303_144 rfl ?_
                exact ⟨2, rfl, ⟨by omega, by omega⟩, rfl⟩
            · intro h20
              refine wp_al1 jF_303_83 rfl rfl (pc2 := 84) ?_
              refine wp_gr (b := 149) jF_303_84 kd117 (by decide) (c := 249) rfl rfl rfl (pc2 := 87) ?_
              refine wp_al1 jF_303_87 rfl rfl (pc2 := 88) ?_
              refine wp_gi jF_303_88 kd117 (by decide) rfl rfl rfl (pc2 := 91) ?_
              refine wp_ic jF_303_91 rfl (pc2 := 92) ?_
              refine wp_sub jF_303_92 rfl (pc2 := 93) ?_
              refine wp_il2 jF_303_93 rfl rfl (pc2 := 95) ?_
              refine wp_sub jF_303_95 rfl (pc2 := 96) ?_
              have b22 := GI.b hg 149 (((σ.1 117 49) - 1) - x13).toNat kd149 (lo := 0) (hi := 255) rfl
              refine wp_iald (n := 64) (e := (σ.1 149 (((σ.1 117 49) - 1) - x13).toNat)) jF_303_96 kd149 (by decide) rfl rfl (by omega) (by omega) rfl rfl (pc2 := 97) ?_
              refine wp_al1 jF_303_97 rfl rfl (pc2 := 98) ?_
              refine wp_gr (b := 156) jF_303_98 kd117 (by decide) (c := 256) rfl rfl rfl (pc2 := 101) ?_
              refine wp_al1 jF_303_101 rfl rfl (pc2 := 102) ?_
              refine wp_gi jF_303_102 kd117 (by decide) rfl rfl rfl (pc2 := 105) ?_
              refine wp_ic jF_303_105 rfl (pc2 := 106) ?_
              refine wp_sub jF_303_106 rfl (pc2 := 107) ?_
              refine wp_il2 jF_303_107 rfl rfl (pc2 := 109) ?_
              refine wp_sub jF_303_109 rfl (pc2 := 110) ?_
              have b23 := GI.b hg 156 (((σ.1 117 65) - 1) - x13).toNat kd156 (lo := 0) (hi := 255) rfl
              refine wp_iald (n := 64) (e := (σ.1 156 (((σ.1 117 65) - 1) - x13).toNat)) jF_303_110 kd156 (by decide) rfl rfl (by omega) (by omega) rfl rfl (pc2 := 111) ?_
              refine wp_i_ne jF_303_111 (m_rgb b22 rfl) (m_rgb b23 rfl) rfl (pc2 := 114) ?_ ?_
              · intro h24
                refine wp_il1 jF_303_120 rfl rfl (pc2 := 121) ?_
                refine wp_il1 jF_303_121 rfl rfl (pc2 := 122) ?_
                refine wp_sub jF_303_122 rfl (pc2 := 123) ?_
                refine wp_il2 jF_303_123 rfl rfl (pc2 := 125) ?_
                refine wp_sub jF_303_125 rfl (pc2 := 126) ?_
                refine wp_il1 jF_303_126 rfl rfl (pc2 := 127) ?_
                refine wp_add jF_303_127 rfl (pc2 := 128) ?_
                refine wp_ic jF_303_128 rfl (pc2 := 129) ?_
                refine wp_i_le jF_303_129 ⟨by omega, by omega⟩ (m_rgl rfl) rfl (pc2 := 132) ?_ ?_
                · intro h25
                  refine wp_il1 jF_303_136 rfl rfl (pc2 := 137) ?_
                  refine wp_il1 jF_303_137 rfl rfl (pc2 := 138) ?_
                  refine wp_sub jF_303_138 rfl (pc2 := 139) ?_
                  refine wp_il2 jF_303_139 rfl rfl (pc2 := 141) ?_
                  refine wp_sub jF_303_141 rfl (pc2 := 142) ?_
                  refine wp_il1 jF_303_142 rfl rfl (pc2 := 143) ?_
                  refine wp_add jF_303_143 rfl (pc2 := 144) ?_
                  refine wp_ri jF_303_144 rfl ?_
                  exact ⟨((((σ.1 117 65) - x5) - x13) + (((σ.1 117 49) + (σ.1 117 65)) - (2 * (σ.1 117 65)))), rfl, ⟨by omega, by omega⟩, rfl⟩
                · intro h25
                  refine wp_ic jF_303_132 rfl (pc2 := 133) ?_
                  refine wp_go jF_303_133 ?_
                  refine wp_ri jF_303_144 rfl ?_
                  exact ⟨2, rfl, ⟨by omega, by omega⟩, rfl⟩
              · intro h24
                refine wp_inc (lv2 := [(0, .ref 117), (1, iV (σ.1 117 65)), (2, iV (((σ.1 117 49) + (σ.1 117 65)) - (2 * (σ.1 117 65)))), (3, iV x5), (4, iV (x13 + 1))]) jF_303_114 rfl rfl rfl rfl (pc2 := 117) ?_
                refine wp_go jF_303_117 ?_
                exact ih19 ((x13 + 1)) σ ⟨⟨by omega, by omega⟩, rfl, (by omega)⟩ (by show Int.toNat ((σ.1 117 65) - (x13 + 1)) < Int.toNat ((σ.1 117 65) - x13); omega)
        · intro h12
          refine wp_al1 jF_303_51 rfl rfl (pc2 := 52) ?_
          refine wp_gr (b := 149) jF_303_52 kd117 (by decide) (c := 249) rfl rfl rfl (pc2 := 55) ?_
          refine wp_il1 jF_303_55 rfl rfl (pc2 := 56) ?_
          have b26 := GI.b hg 149 x5.toNat kd149 (lo := 0) (hi := 255) rfl
          refine wp_iald (n := 64) (e := (σ.1 149 x5.toNat)) jF_303_56 kd149 (by decide) rfl rfl (by omega) (by omega) rfl rfl (pc2 := 57) ?_
          refine wp_al1 jF_303_57 rfl rfl (pc2 := 58) ?_
          refine wp_gr (b := 156) jF_303_58 kd117 (by decide) (c := 256) rfl rfl rfl (pc2 := 61) ?_
          refine wp_il1 jF_303_61 rfl rfl (pc2 := 62) ?_
          have b27 := GI.b hg 156 x5.toNat kd156 (lo := 0) (hi := 255) rfl
          refine wp_iald (n := 64) (e := (σ.1 156 x5.toNat)) jF_303_62 kd156 (by decide) rfl rfl (by omega) (by omega) rfl rfl (pc2 := 63) ?_
          refine wp_i_ne jF_303_63 (m_rgb b26 rfl) (m_rgb b27 rfl) rfl (pc2 := 66) ?_ ?_
          · intro h28
            refine wp_ic jF_303_72 rfl (pc2 := 73) ?_
            refine wp_is2 (lv2 := [(0, .ref 117), (1, iV (σ.1 117 65)), (2, iV (((σ.1 117 49) + (σ.1 117 65)) - (2 * (σ.1 117 65)))), (3, iV x5), (4, iV 0)]) jF_303_73 rfl rfl rfl (pc2 := 75) ?_
            refine wp_loop (α := Int) (fun a => [(0, .ref 117), (1, iV (σ.1 117 65)), (2, iV (((σ.1 117 49) + (σ.1 117 65)) - (2 * (σ.1 117 65)))), (3, iV x5), (4, iV (a))]) (fun a τ => (0 ≤ a ∧ a ≤ 61) ∧ σ = τ ∧ ((a) ≤ (σ.1 117 65) - x5)) (fun a τ => Int.toNat ((σ.1 117 65) - (a))) (0) σ ?_ ?_
            · skip
              exact ⟨⟨by omega, by omega⟩, rfl, (by omega)⟩
            · rintro x29 _ ⟨h30, rfl, p34⟩ ih35
              show WP 303 75 [(0, .ref 117), (1, iV (σ.1 117 65)), (2, iV (((σ.1 117 49) + (σ.1 117 65)) - (2 * (σ.1 117 65)))), (3, iV x5), (4, iV x29)] [] _ _ _ _
              show WP 303 75 [(0, .ref 117), (1, iV (σ.1 117 65)), (2, iV (((σ.1 117 49) + (σ.1 117 65)) - (2 * (σ.1 117 65)))), (3, iV x5), (4, iV x29)] [] _ _ _ _
              refine wp_il2 jF_303_75 rfl rfl (pc2 := 77) ?_
              refine wp_il1 jF_303_77 rfl rfl (pc2 := 78) ?_
              refine wp_il1 jF_303_78 rfl rfl (pc2 := 79) ?_
              refine wp_sub jF_303_79 rfl (pc2 := 80) ?_
              refine wp_i_ge jF_303_80 (m_rgb h30 rfl) ⟨by omega, by omega⟩ rfl (pc2 := 83) ?_ ?_
              · intro h36
                refine wp_il1 jF_303_120 rfl rfl (pc2 := 121) ?_
                refine wp_il1 jF_303_121 rfl rfl (pc2 := 122) ?_
                refine wp_sub jF_303_122 rfl (pc2 := 123) ?_
                refine wp_il2 jF_303_123 rfl rfl (pc2 := 125) ?_
                refine wp_sub jF_303_125 rfl (pc2 := 126) ?_
                refine wp_il1 jF_303_126 rfl rfl (pc2 := 127) ?_
                refine wp_add jF_303_127 rfl (pc2 := 128) ?_
                refine wp_ic jF_303_128 rfl (pc2 := 129) ?_
                refine wp_i_le jF_303_129 ⟨by omega, by omega⟩ (m_rgl rfl) rfl (pc2 := 132) ?_ ?_
                · intro h37
                  refine wp_il1 jF_303_136 rfl rfl (pc2 := 137) ?_
                  refine wp_il1 jF_303_137 rfl rfl (pc2 := 138) ?_
                  refine wp_sub jF_303_138 rfl (pc2 := 139) ?_
                  refine wp_il2 jF_303_139 rfl rfl (pc2 := 141) ?_
                  refine wp_sub jF_303_141 rfl (pc2 := 142) ?_
                  refine wp_il1 jF_303_142 rfl rfl (pc2 := 143) ?_
                  refine wp_add jF_303_143 rfl (pc2 := 144) ?_
                  refine wp_ri jF_303_144 rfl ?_
                  exact ⟨((((σ.1 117 65) - x5) - x29) + (((σ.1 117 49) + (σ.1 117 65)) - (2 * (σ.1 117 65)))), rfl, ⟨by omega, by omega⟩, rfl⟩
                · intro h37
                  refine wp_ic jF_303_132 rfl (pc2 := 133) ?_
                  refine wp_go jF_303_133 ?_
                  refine wp_ri jF_303_144 rfl ?_
                  exact ⟨2, rfl, ⟨by omega, by omega⟩, rfl⟩
              · intro h36
                refine wp_al1 jF_303_83 rfl rfl (pc2 := 84) ?_
                refine wp_gr (b := 149) jF_303_84 kd117 (by decide) (c := 249) rfl rfl rfl (pc2 := 87) ?_
                refine wp_al1 jF_303_87 rfl rfl (pc2 := 88) ?_
                refine wp_gi jF_303_88 kd117 (by decide) rfl rfl rfl (pc2 := 91) ?_
                refine wp_ic jF_303_91 rfl (pc2 := 92) ?_
                refine wp_sub jF_303_92 rfl (pc2 := 93) ?_
                refine wp_il2 jF_303_93 rfl rfl (pc2 := 95) ?_
                refine wp_sub jF_303_95 rfl (pc2 := 96) ?_
                have b38 := GI.b hg 149 (((σ.1 117 49) - 1) - x29).toNat kd149 (lo := 0) (hi := 255) rfl
                refine wp_iald (n := 64) (e := (σ.1 149 (((σ.1 117 49) - 1) - x29).toNat)) jF_303_96 kd149 (by decide) rfl rfl (by omega) (by omega) rfl rfl (pc2 := 97) ?_
                refine wp_al1 jF_303_97 rfl rfl (pc2 := 98) ?_
                refine wp_gr (b := 156) jF_303_98 kd117 (by decide) (c := 256) rfl rfl rfl (pc2 := 101) ?_
                refine wp_al1 jF_303_101 rfl rfl (pc2 := 102) ?_
                refine wp_gi jF_303_102 kd117 (by decide) rfl rfl rfl (pc2 := 105) ?_
                refine wp_ic jF_303_105 rfl (pc2 := 106) ?_
                refine wp_sub jF_303_106 rfl (pc2 := 107) ?_
                refine wp_il2 jF_303_107 rfl rfl (pc2 := 109) ?_
                refine wp_sub jF_303_109 rfl (pc2 := 110) ?_
                have b39 := GI.b hg 156 (((σ.1 117 65) - 1) - x29).toNat kd156 (lo := 0) (hi := 255) rfl
                refine wp_iald (n := 64) (e := (σ.1 156 (((σ.1 117 65) - 1) - x29).toNat)) jF_303_110 kd156 (by decide) rfl rfl (by omega) (by omega) rfl rfl (pc2 := 111) ?_
                refine wp_i_ne jF_303_111 (m_rgb b38 rfl) (m_rgb b39 rfl) rfl (pc2 := 114) ?_ ?_
                · intro h40
                  refine wp_il1 jF_303_120 rfl rfl (pc2 := 121) ?_
                  refine wp_il1 jF_303_121 rfl rfl (pc2 := 122) ?_
                  refine wp_sub jF_303_122 rfl (pc2 := 123) ?_
                  refine wp_il2 jF_303_123 rfl rfl (pc2 := 125) ?_
                  refine wp_sub jF_303_125 rfl (pc2 := 126) ?_
                  refine wp_il1 jF_303_126 rfl rfl (pc2 := 127) ?_
                  refine wp_add jF_303_127 rfl (pc2 := 128) ?_
                  refine wp_ic jF_303_128 rfl (pc2 := 129) ?_
                  refine wp_i_le jF_303_129 ⟨by omega, by omega⟩ (m_rgl rfl) rfl (pc2 := 132) ?_ ?_
                  · intro h41
                    refine wp_il1 jF_303_136 rfl rfl (pc2 := 137) ?_
                    refine wp_il1 jF_303_137 rfl rfl (pc2 := 138) ?_
                    refine wp_sub jF_303_138 rfl (pc2 := 139) ?_
                    refine wp_il2 jF_303_139 rfl rfl (pc2 := 141) ?_
                    refine wp_sub jF_303_141 rfl (pc2 := 142) ?_
                    refine wp_il1 jF_303_142 rfl rfl (pc2 := 143) ?_
                    refine wp_add jF_303_143 rfl (pc2 := 144) ?_
                    refine wp_ri jF_303_144 rfl ?_
                    exact ⟨((((σ.1 117 65) - x5) - x29) + (((σ.1 117 49) + (σ.1 117 65)) - (2 * (σ.1 117 65)))), rfl, ⟨by omega, by omega⟩, rfl⟩
                  · intro h41
                    refine wp_ic jF_303_132 rfl (pc2 := 133) ?_
                    refine wp_go jF_303_133 ?_
                    refine wp_ri jF_303_144 rfl ?_
                    exact ⟨2, rfl, ⟨by omega, by omega⟩, rfl⟩
                · intro h40
                  refine wp_inc (lv2 := [(0, .ref 117), (1, iV (σ.1 117 65)), (2, iV (((σ.1 117 49) + (σ.1 117 65)) - (2 * (σ.1 117 65)))), (3, iV x5), (4, iV (x29 + 1))]) jF_303_114 rfl rfl rfl rfl (pc2 := 117) ?_
                  refine wp_go jF_303_117 ?_
                  exact ih35 ((x29 + 1)) σ ⟨⟨by omega, by omega⟩, rfl, (by omega)⟩ (by show Int.toNat ((σ.1 117 65) - (x29 + 1)) < Int.toNat ((σ.1 117 65) - x29); omega)
          · intro h28
            refine wp_inc (lv2 := [(0, .ref 117), (1, iV (σ.1 117 65)), (2, iV (((σ.1 117 49) + (σ.1 117 65)) - (2 * (σ.1 117 65)))), (3, iV (x5 + 1))]) jF_303_66 rfl rfl rfl rfl (pc2 := 69) ?_
            refine wp_go jF_303_69 ?_
            exact ih11 ((x5 + 1)) σ ⟨⟨by omega, by omega⟩, rfl, (by omega)⟩ (by show Int.toNat ((σ.1 117 65) - (x5 + 1)) < Int.toNat ((σ.1 117 65) - x5); omega)
    · intro h4
      refine wp_ic jF_303_42 rfl (pc2 := 43) ?_
      refine wp_ri jF_303_43 rfl ?_
      exact ⟨2, rfl, ⟨by omega, by omega⟩, rfl⟩
  · intro h3
    refine wp_al1 jF_303_11 rfl rfl (pc2 := 12) ?_
    refine wp_gi jF_303_12 kd117 (by decide) rfl rfl rfl (pc2 := 15) ?_
    refine wp_go jF_303_15 ?_
    refine wp_is1 (lv2 := [(0, .ref 117), (1, iV (σ.1 117 49))]) jF_303_22 rfl rfl rfl (pc2 := 23) ?_
    refine wp_al1 jF_303_23 rfl rfl (pc2 := 24) ?_
    refine wp_gi jF_303_24 kd117 (by decide) rfl rfl rfl (pc2 := 27) ?_
    refine wp_al1 jF_303_27 rfl rfl (pc2 := 28) ?_
    refine wp_gi jF_303_28 kd117 (by decide) rfl rfl rfl (pc2 := 31) ?_
    refine wp_add jF_303_31 rfl (pc2 := 32) ?_
    refine wp_ic jF_303_32 rfl (pc2 := 33) ?_
    refine wp_il1 jF_303_33 rfl rfl (pc2 := 34) ?_
    refine wp_mul jF_303_34 rfl (pc2 := 35) ?_
    refine wp_sub jF_303_35 rfl (pc2 := 36) ?_
    refine wp_is1 (lv2 := [(0, .ref 117), (1, iV (σ.1 117 49)), (2, iV (((σ.1 117 49) + (σ.1 117 65)) - (2 * (σ.1 117 49))))]) jF_303_36 rfl rfl rfl (pc2 := 37) ?_
    refine wp_il1 jF_303_37 rfl rfl (pc2 := 38) ?_
    refine wp_ic jF_303_38 rfl (pc2 := 39) ?_
    refine wp_i_le jF_303_39 ⟨by omega, by omega⟩ (m_rgl rfl) rfl (pc2 := 42) ?_ ?_
    · intro h42
      refine wp_ic jF_303_44 rfl (pc2 := 45) ?_
      refine wp_is1 (lv2 := [(0, .ref 117), (1, iV (σ.1 117 49)), (2, iV (((σ.1 117 49) + (σ.1 117 65)) - (2 * (σ.1 117 49)))), (3, iV 0)]) jF_303_45 rfl rfl rfl (pc2 := 46) ?_
      refine wp_loop (α := Int) (fun a => [(0, .ref 117), (1, iV (σ.1 117 49)), (2, iV (((σ.1 117 49) + (σ.1 117 65)) - (2 * (σ.1 117 49)))), (3, iV (a))]) (fun a τ => (0 ≤ a ∧ a ≤ 61) ∧ σ = τ ∧ ((a) ≤ (σ.1 117 49))) (fun a τ => Int.toNat ((σ.1 117 49) - (a))) (0) σ ?_ ?_
      · skip
        exact ⟨⟨by omega, by omega⟩, rfl, (by omega)⟩
      · rintro x43 _ ⟨h44, rfl, p48⟩ ih49
        show WP 303 46 [(0, .ref 117), (1, iV (σ.1 117 49)), (2, iV (((σ.1 117 49) + (σ.1 117 65)) - (2 * (σ.1 117 49)))), (3, iV x43)] [] _ _ _ _
        show WP 303 46 [(0, .ref 117), (1, iV (σ.1 117 49)), (2, iV (((σ.1 117 49) + (σ.1 117 65)) - (2 * (σ.1 117 49)))), (3, iV x43)] [] _ _ _ _
        refine wp_il1 jF_303_46 rfl rfl (pc2 := 47) ?_
        refine wp_il1 jF_303_47 rfl rfl (pc2 := 48) ?_
        refine wp_i_ge jF_303_48 (m_rgb h44 rfl) (m_rgb b1 rfl) rfl (pc2 := 51) ?_ ?_
        · intro h50
          refine wp_ic jF_303_72 rfl (pc2 := 73) ?_
          refine wp_is2 (lv2 := [(0, .ref 117), (1, iV (σ.1 117 49)), (2, iV (((σ.1 117 49) + (σ.1 117 65)) - (2 * (σ.1 117 49)))), (3, iV x43), (4, iV 0)]) jF_303_73 rfl rfl rfl (pc2 := 75) ?_
          refine wp_loop (α := Int) (fun a => [(0, .ref 117), (1, iV (σ.1 117 49)), (2, iV (((σ.1 117 49) + (σ.1 117 65)) - (2 * (σ.1 117 49)))), (3, iV x43), (4, iV (a))]) (fun a τ => (0 ≤ a ∧ a ≤ 61) ∧ σ = τ ∧ ((a) ≤ (σ.1 117 49) - x43)) (fun a τ => Int.toNat ((σ.1 117 49) - (a))) (0) σ ?_ ?_
          · skip
            exact ⟨⟨by omega, by omega⟩, rfl, (by omega)⟩
          · rintro x51 _ ⟨h52, rfl, p56⟩ ih57
            show WP 303 75 [(0, .ref 117), (1, iV (σ.1 117 49)), (2, iV (((σ.1 117 49) + (σ.1 117 65)) - (2 * (σ.1 117 49)))), (3, iV x43), (4, iV x51)] [] _ _ _ _
            show WP 303 75 [(0, .ref 117), (1, iV (σ.1 117 49)), (2, iV (((σ.1 117 49) + (σ.1 117 65)) - (2 * (σ.1 117 49)))), (3, iV x43), (4, iV x51)] [] _ _ _ _
            refine wp_il2 jF_303_75 rfl rfl (pc2 := 77) ?_
            refine wp_il1 jF_303_77 rfl rfl (pc2 := 78) ?_
            refine wp_il1 jF_303_78 rfl rfl (pc2 := 79) ?_
            refine wp_sub jF_303_79 rfl (pc2 := 80) ?_
            refine wp_i_ge jF_303_80 (m_rgb h52 rfl) ⟨by omega, by omega⟩ rfl (pc2 := 83) ?_ ?_
            · intro h58
              refine wp_il1 jF_303_120 rfl rfl (pc2 := 121) ?_
              refine wp_il1 jF_303_121 rfl rfl (pc2 := 122) ?_
              refine wp_sub jF_303_122 rfl (pc2 := 123) ?_
              refine wp_il2 jF_303_123 rfl rfl (pc2 := 125) ?_
              refine wp_sub jF_303_125 rfl (pc2 := 126) ?_
              refine wp_il1 jF_303_126 rfl rfl (pc2 := 127) ?_
              refine wp_add jF_303_127 rfl (pc2 := 128) ?_
              refine wp_ic jF_303_128 rfl (pc2 := 129) ?_
              refine wp_i_le jF_303_129 ⟨by omega, by omega⟩ (m_rgl rfl) rfl (pc2 := 132) ?_ ?_
              · intro h59
                refine wp_il1 jF_303_136 rfl rfl (pc2 := 137) ?_
                refine wp_il1 jF_303_137 rfl rfl (pc2 := 138) ?_
                refine wp_sub jF_303_138 rfl (pc2 := 139) ?_
                refine wp_il2 jF_303_139 rfl rfl (pc2 := 141) ?_
                refine wp_sub jF_303_141 rfl (pc2 := 142) ?_
                refine wp_il1 jF_303_142 rfl rfl (pc2 := 143) ?_
                refine wp_add jF_303_143 rfl (pc2 := 144) ?_
                refine wp_ri jF_303_144 rfl ?_
                exact ⟨((((σ.1 117 49) - x43) - x51) + (((σ.1 117 49) + (σ.1 117 65)) - (2 * (σ.1 117 49)))), rfl, ⟨by omega, by omega⟩, rfl⟩
              · intro h59
                refine wp_ic jF_303_132 rfl (pc2 := 133) ?_
                refine wp_go jF_303_133 ?_
                refine wp_ri jF_303_144 rfl ?_
                exact ⟨2, rfl, ⟨by omega, by omega⟩, rfl⟩
            · intro h58
              refine wp_al1 jF_303_83 rfl rfl (pc2 := 84) ?_
              refine wp_gr (b := 149) jF_303_84 kd117 (by decide) (c := 249) rfl rfl rfl (pc2 := 87) ?_
              refine wp_al1 jF_303_87 rfl rfl (pc2 := 88) ?_
              refine wp_gi jF_303_88 kd117 (by decide) rfl rfl rfl (pc2 := 91) ?_
              refine wp_ic jF_303_91 rfl (pc2 := 92) ?_
              refine wp_sub jF_303_92 rfl (pc2 := 93) ?_
              refine wp_il2 jF_303_93 rfl rfl (pc2 := 95) ?_
              refine wp_sub jF_303_95 rfl (pc2 := 96) ?_
              have b60 := GI.b hg 149 (((σ.1 117 49) - 1) - x51).toNat kd149 (lo := 0) (hi := 255) rfl
              refine wp_iald (n := 64) (e := (σ.1 149 (((σ.1 117 49) - 1) - x51).toNat)) jF_303_96 kd149 (by decide) rfl rfl (by omega) (by omega) rfl rfl (pc2 := 97) ?_
              refine wp_al1 jF_303_97 rfl rfl (pc2 := 98) ?_
              refine wp_gr (b := 156) jF_303_98 kd117 (by decide) (c := 256) rfl rfl rfl (pc2 := 101) ?_
              refine wp_al1 jF_303_101 rfl rfl (pc2 := 102) ?_
              refine wp_gi jF_303_102 kd117 (by decide) rfl rfl rfl (pc2 := 105) ?_
              refine wp_ic jF_303_105 rfl (pc2 := 106) ?_
              refine wp_sub jF_303_106 rfl (pc2 := 107) ?_
              refine wp_il2 jF_303_107 rfl rfl (pc2 := 109) ?_
              refine wp_sub jF_303_109 rfl (pc2 := 110) ?_
              have b61 := GI.b hg 156 (((σ.1 117 65) - 1) - x51).toNat kd156 (lo := 0) (hi := 255) rfl
              refine wp_iald (n := 64) (e := (σ.1 156 (((σ.1 117 65) - 1) - x51).toNat)) jF_303_110 kd156 (by decide) rfl rfl (by omega) (by omega) rfl rfl (pc2 := 111) ?_
              refine wp_i_ne jF_303_111 (m_rgb b60 rfl) (m_rgb b61 rfl) rfl (pc2 := 114) ?_ ?_
              · intro h62
                refine wp_il1 jF_303_120 rfl rfl (pc2 := 121) ?_
                refine wp_il1 jF_303_121 rfl rfl (pc2 := 122) ?_
                refine wp_sub jF_303_122 rfl (pc2 := 123) ?_
                refine wp_il2 jF_303_123 rfl rfl (pc2 := 125) ?_
                refine wp_sub jF_303_125 rfl (pc2 := 126) ?_
                refine wp_il1 jF_303_126 rfl rfl (pc2 := 127) ?_
                refine wp_add jF_303_127 rfl (pc2 := 128) ?_
                refine wp_ic jF_303_128 rfl (pc2 := 129) ?_
                refine wp_i_le jF_303_129 ⟨by omega, by omega⟩ (m_rgl rfl) rfl (pc2 := 132) ?_ ?_
                · intro h63
                  refine wp_il1 jF_303_136 rfl rfl (pc2 := 137) ?_
                  refine wp_il1 jF_303_137 rfl rfl (pc2 := 138) ?_
                  refine wp_sub jF_303_138 rfl (pc2 := 139) ?_
                  refine wp_il2 jF_303_139 rfl rfl (pc2 := 141) ?_
                  refine wp_sub jF_303_141 rfl (pc2 := 142) ?_
                  refine wp_il1 jF_303_142 rfl rfl (pc2 := 143) ?_
                  refine wp_add jF_303_143 rfl (pc2 := 144) ?_
                  refine wp_ri jF_303_144 rfl ?_
                  exact ⟨((((σ.1 117 49) - x43) - x51) + (((σ.1 117 49) + (σ.1 117 65)) - (2 * (σ.1 117 49)))), rfl, ⟨by omega, by omega⟩, rfl⟩
                · intro h63
                  refine wp_ic jF_303_132 rfl (pc2 := 133) ?_
                  refine wp_go jF_303_133 ?_
                  refine wp_ri jF_303_144 rfl ?_
                  exact ⟨2, rfl, ⟨by omega, by omega⟩, rfl⟩
              · intro h62
                refine wp_inc (lv2 := [(0, .ref 117), (1, iV (σ.1 117 49)), (2, iV (((σ.1 117 49) + (σ.1 117 65)) - (2 * (σ.1 117 49)))), (3, iV x43), (4, iV (x51 + 1))]) jF_303_114 rfl rfl rfl rfl (pc2 := 117) ?_
                refine wp_go jF_303_117 ?_
                exact ih57 ((x51 + 1)) σ ⟨⟨by omega, by omega⟩, rfl, (by omega)⟩ (by show Int.toNat ((σ.1 117 49) - (x51 + 1)) < Int.toNat ((σ.1 117 49) - x51); omega)
        · intro h50
          refine wp_al1 jF_303_51 rfl rfl (pc2 := 52) ?_
          refine wp_gr (b := 149) jF_303_52 kd117 (by decide) (c := 249) rfl rfl rfl (pc2 := 55) ?_
          refine wp_il1 jF_303_55 rfl rfl (pc2 := 56) ?_
          have b64 := GI.b hg 149 x43.toNat kd149 (lo := 0) (hi := 255) rfl
          refine wp_iald (n := 64) (e := (σ.1 149 x43.toNat)) jF_303_56 kd149 (by decide) rfl rfl (by omega) (by omega) rfl rfl (pc2 := 57) ?_
          refine wp_al1 jF_303_57 rfl rfl (pc2 := 58) ?_
          refine wp_gr (b := 156) jF_303_58 kd117 (by decide) (c := 256) rfl rfl rfl (pc2 := 61) ?_
          refine wp_il1 jF_303_61 rfl rfl (pc2 := 62) ?_
          have b65 := GI.b hg 156 x43.toNat kd156 (lo := 0) (hi := 255) rfl
          refine wp_iald (n := 64) (e := (σ.1 156 x43.toNat)) jF_303_62 kd156 (by decide) rfl rfl (by omega) (by omega) rfl rfl (pc2 := 63) ?_
          refine wp_i_ne jF_303_63 (m_rgb b64 rfl) (m_rgb b65 rfl) rfl (pc2 := 66) ?_ ?_
          · intro h66
            refine wp_ic jF_303_72 rfl (pc2 := 73) ?_
            refine wp_is2 (lv2 := [(0, .ref 117), (1, iV (σ.1 117 49)), (2, iV (((σ.1 117 49) + (σ.1 117 65)) - (2 * (σ.1 117 49)))), (3, iV x43), (4, iV 0)]) jF_303_73 rfl rfl rfl (pc2 := 75) ?_
            refine wp_loop (α := Int) (fun a => [(0, .ref 117), (1, iV (σ.1 117 49)), (2, iV (((σ.1 117 49) + (σ.1 117 65)) - (2 * (σ.1 117 49)))), (3, iV x43), (4, iV (a))]) (fun a τ => (0 ≤ a ∧ a ≤ 61) ∧ σ = τ ∧ ((a) ≤ (σ.1 117 49) - x43)) (fun a τ => Int.toNat ((σ.1 117 49) - (a))) (0) σ ?_ ?_
            · skip
              exact ⟨⟨by omega, by omega⟩, rfl, (by omega)⟩
            · rintro x67 _ ⟨h68, rfl, p72⟩ ih73
              show WP 303 75 [(0, .ref 117), (1, iV (σ.1 117 49)), (2, iV (((σ.1 117 49) + (σ.1 117 65)) - (2 * (σ.1 117 49)))), (3, iV x43), (4, iV x67)] [] _ _ _ _
              show WP 303 75 [(0, .ref 117), (1, iV (σ.1 117 49)), (2, iV (((σ.1 117 49) + (σ.1 117 65)) - (2 * (σ.1 117 49)))), (3, iV x43), (4, iV x67)] [] _ _ _ _
              refine wp_il2 jF_303_75 rfl rfl (pc2 := 77) ?_
              refine wp_il1 jF_303_77 rfl rfl (pc2 := 78) ?_
              refine wp_il1 jF_303_78 rfl rfl (pc2 := 79) ?_
              refine wp_sub jF_303_79 rfl (pc2 := 80) ?_
              refine wp_i_ge jF_303_80 (m_rgb h68 rfl) ⟨by omega, by omega⟩ rfl (pc2 := 83) ?_ ?_
              · intro h74
                refine wp_il1 jF_303_120 rfl rfl (pc2 := 121) ?_
                refine wp_il1 jF_303_121 rfl rfl (pc2 := 122) ?_
                refine wp_sub jF_303_122 rfl (pc2 := 123) ?_
                refine wp_il2 jF_303_123 rfl rfl (pc2 := 125) ?_
                refine wp_sub jF_303_125 rfl (pc2 := 126) ?_
                refine wp_il1 jF_303_126 rfl rfl (pc2 := 127) ?_
                refine wp_add jF_303_127 rfl (pc2 := 128) ?_
                refine wp_ic jF_303_128 rfl (pc2 := 129) ?_
                refine wp_i_le jF_303_129 ⟨by omega, by omega⟩ (m_rgl rfl) rfl (pc2 := 132) ?_ ?_
                · intro h75
                  refine wp_il1 jF_303_136 rfl rfl (pc2 := 137) ?_
                  refine wp_il1 jF_303_137 rfl rfl (pc2 := 138) ?_
                  refine wp_sub jF_303_138 rfl (pc2 := 139) ?_
                  refine wp_il2 jF_303_139 rfl rfl (pc2 := 141) ?_
                  refine wp_sub jF_303_141 rfl (pc2 := 142) ?_
                  refine wp_il1 jF_303_142 rfl rfl (pc2 := 143) ?_
                  refine wp_add jF_303_143 rfl (pc2 := 144) ?_
                  refine wp_ri jF_303_144 rfl ?_
                  exact ⟨((((σ.1 117 49) - x43) - x67) + (((σ.1 117 49) + (σ.1 117 65)) - (2 * (σ.1 117 49)))), rfl, ⟨by omega, by omega⟩, rfl⟩
                · intro h75
                  refine wp_ic jF_303_132 rfl (pc2 := 133) ?_
                  refine wp_go jF_303_133 ?_
                  refine wp_ri jF_303_144 rfl ?_
                  exact ⟨2, rfl, ⟨by omega, by omega⟩, rfl⟩
              · intro h74
                refine wp_al1 jF_303_83 rfl rfl (pc2 := 84) ?_
                refine wp_gr (b := 149) jF_303_84 kd117 (by decide) (c := 249) rfl rfl rfl (pc2 := 87) ?_
                refine wp_al1 jF_303_87 rfl rfl (pc2 := 88) ?_
                refine wp_gi jF_303_88 kd117 (by decide) rfl rfl rfl (pc2 := 91) ?_
                refine wp_ic jF_303_91 rfl (pc2 := 92) ?_
                refine wp_sub jF_303_92 rfl (pc2 := 93) ?_
                refine wp_il2 jF_303_93 rfl rfl (pc2 := 95) ?_
                refine wp_sub jF_303_95 rfl (pc2 := 96) ?_
                have b76 := GI.b hg 149 (((σ.1 117 49) - 1) - x67).toNat kd149 (lo := 0) (hi := 255) rfl
                refine wp_iald (n := 64) (e := (σ.1 149 (((σ.1 117 49) - 1) - x67).toNat)) jF_303_96 kd149 (by decide) rfl rfl (by omega) (by omega) rfl rfl (pc2 := 97) ?_
                refine wp_al1 jF_303_97 rfl rfl (pc2 := 98) ?_
                refine wp_gr (b := 156) jF_303_98 kd117 (by decide) (c := 256) rfl rfl rfl (pc2 := 101) ?_
                refine wp_al1 jF_303_101 rfl rfl (pc2 := 102) ?_
                refine wp_gi jF_303_102 kd117 (by decide) rfl rfl rfl (pc2 := 105) ?_
                refine wp_ic jF_303_105 rfl (pc2 := 106) ?_
                refine wp_sub jF_303_106 rfl (pc2 := 107) ?_
                refine wp_il2 jF_303_107 rfl rfl (pc2 := 109) ?_
                refine wp_sub jF_303_109 rfl (pc2 := 110) ?_
                have b77 := GI.b hg 156 (((σ.1 117 65) - 1) - x67).toNat kd156 (lo := 0) (hi := 255) rfl
                refine wp_iald (n := 64) (e := (σ.1 156 (((σ.1 117 65) - 1) - x67).toNat)) jF_303_110 kd156 (by decide) rfl rfl (by omega) (by omega) rfl rfl (pc2 := 111) ?_
                refine wp_i_ne jF_303_111 (m_rgb b76 rfl) (m_rgb b77 rfl) rfl (pc2 := 114) ?_ ?_
                · intro h78
                  refine wp_il1 jF_303_120 rfl rfl (pc2 := 121) ?_
                  refine wp_il1 jF_303_121 rfl rfl (pc2 := 122) ?_
                  refine wp_sub jF_303_122 rfl (pc2 := 123) ?_
                  refine wp_il2 jF_303_123 rfl rfl (pc2 := 125) ?_
                  refine wp_sub jF_303_125 rfl (pc2 := 126) ?_
                  refine wp_il1 jF_303_126 rfl rfl (pc2 := 127) ?_
                  refine wp_add jF_303_127 rfl (pc2 := 128) ?_
                  refine wp_ic jF_303_128 rfl (pc2 := 129) ?_
                  refine wp_i_le jF_303_129 ⟨by omega, by omega⟩ (m_rgl rfl) rfl (pc2 := 132) ?_ ?_
                  · intro h79
                    refine wp_il1 jF_303_136 rfl rfl (pc2 := 137) ?_
                    refine wp_il1 jF_303_137 rfl rfl (pc2 := 138) ?_
                    refine wp_sub jF_303_138 rfl (pc2 := 139) ?_
                    refine wp_il2 jF_303_139 rfl rfl (pc2 := 141) ?_
                    refine wp_sub jF_303_141 rfl (pc2 := 142) ?_
                    refine wp_il1 jF_303_142 rfl rfl (pc2 := 143) ?_
                    refine wp_add jF_303_143 rfl (pc2 := 144) ?_
                    refine wp_ri jF_303_144 rfl ?_
                    exact ⟨((((σ.1 117 49) - x43) - x67) + (((σ.1 117 49) + (σ.1 117 65)) - (2 * (σ.1 117 49)))), rfl, ⟨by omega, by omega⟩, rfl⟩
                  · intro h79
                    refine wp_ic jF_303_132 rfl (pc2 := 133) ?_
                    refine wp_go jF_303_133 ?_
                    refine wp_ri jF_303_144 rfl ?_
                    exact ⟨2, rfl, ⟨by omega, by omega⟩, rfl⟩
                · intro h78
                  refine wp_inc (lv2 := [(0, .ref 117), (1, iV (σ.1 117 49)), (2, iV (((σ.1 117 49) + (σ.1 117 65)) - (2 * (σ.1 117 49)))), (3, iV x43), (4, iV (x67 + 1))]) jF_303_114 rfl rfl rfl rfl (pc2 := 117) ?_
                  refine wp_go jF_303_117 ?_
                  exact ih73 ((x67 + 1)) σ ⟨⟨by omega, by omega⟩, rfl, (by omega)⟩ (by show Int.toNat ((σ.1 117 49) - (x67 + 1)) < Int.toNat ((σ.1 117 49) - x67); omega)
          · intro h66
            refine wp_inc (lv2 := [(0, .ref 117), (1, iV (σ.1 117 49)), (2, iV (((σ.1 117 49) + (σ.1 117 65)) - (2 * (σ.1 117 49)))), (3, iV (x43 + 1))]) jF_303_66 rfl rfl rfl rfl (pc2 := 69) ?_
            refine wp_go jF_303_69 ?_
            exact ih49 ((x43 + 1)) σ ⟨⟨by omega, by omega⟩, rfl, (by omega)⟩ (by show Int.toNat ((σ.1 117 49) - (x43 + 1)) < Int.toNat ((σ.1 117 49) - x43); omega)
    · intro h42
      refine wp_ic jF_303_42 rfl (pc2 := 43) ?_
      refine wp_ri jF_303_43 rfl ?_
      exact ⟨2, rfl, ⟨by omega, by omega⟩, rfl⟩
