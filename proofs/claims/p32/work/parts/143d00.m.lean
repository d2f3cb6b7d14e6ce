set_option maxHeartbeats 4000000 in
set_option maxRecDepth 20000 in
/-- M.isLawful -/
theorem m_282 (σ : jM) (hg : GI σ)   (fr lo : Nat) (hfr : 1 ≤ fr) (hlo : 21 ≤ lo) : WP 282 0 (lv_args 0 [.ref 117]) [] fr lo σ (fun v τ => ∃ z : Int, v = some (iV z) ∧ (0 ≤ z ∧ z ≤ 1) ∧ σ = τ ∧ (z = 1 → ((tl σ) = 22 ∧ (σ.1 117 49) ≤ 60))) := by
  show WP 282 0 [(0, .ref 117)] [] _ _ _ _
  refine wp_ic jF_282_0 rfl (pc2 := 1) ?_
  refine wp_is1 (lv2 := [(0, .ref 117), (1, iV 0)]) jF_282_1 rfl rfl rfl (pc2 := 2) ?_
  refine wp_ic jF_282_2 rfl (pc2 := 3) ?_
  refine wp_is1 (lv2 := [(0, .ref 117), (1, iV 0), (2, iV 1)]) jF_282_3 rfl rfl rfl (pc2 := 4) ?_
  refine wp_ic jF_282_4 rfl (pc2 := 5) ?_
  refine wp_is1 (lv2 := [(0, .ref 117), (1, iV 0), (2, iV 1), (3, iV 0)]) jF_282_5 rfl rfl rfl (pc2 := 6) ?_
  refine wp_ic jF_282_6 rfl (pc2 := 7) ?_
  refine wp_is2 (lv2 := [(0, .ref 117), (1, iV 0), (2, iV 1), (3, iV 0), (4, iV 0)]) jF_282_7 rfl rfl rfl (pc2 := 9) ?_
  refine wp_ic jF_282_9 rfl (pc2 := 10) ?_
  refine wp_is2 (lv2 := [(0, .ref 117), (1, iV 0), (2, iV 1), (3, iV 0), (4, iV 0), (5, iV 0)]) jF_282_10 rfl rfl rfl (pc2 := 12) ?_
  have b1 := GI.b hg 117 49 kd117 (lo := 0) (hi := 61) rfl
  refine wp_loop (α := Int × Int × Int × Int × Int) (fun a => [(0, .ref 117), (1, iV (a.1)), (2, iV (a.2.1)), (3, iV (a.2.2.1)), (4, iV (a.2.2.2.1)), (5, iV (a.2.2.2.2))]) (fun a τ => (0 ≤ a.1 ∧ a.1 ≤ 61) ∧ (0 ≤ a.2.1 ∧ a.2.1 ≤ 1) ∧ (0 ≤ a.2.2.1 ∧ a.2.2.1 ≤ 1) ∧ (0 ≤ a.2.2.2.1 ∧ a.2.2.2.1 ≤ 1) ∧ (0 ≤ a.2.2.2.2 ∧ a.2.2.2.2 ≤ 61) ∧ σ = τ ∧ ((a.1) ≤ (a.2.2.2.2)) ∧ ((a.2.2.2.2) ≤ (σ.1 117 49)) ∧ ((a.2.1) = 0 → (a.2.2.2.1) = 1) ∧ ((a.2.2.2.1) = 0 → (tz σ (a.2.2.2.2)) = 22)) (fun a τ => Int.toNat ((σ.1 117 49) - (a.2.2.2.2))) (0, 1, 0, 0, 0) σ ?_ ?_
  · skip
    exact ⟨⟨by (try dsimp only); omega, by (try dsimp only); omega⟩, ⟨by (try dsimp only); omega, by (try dsimp only); omega⟩, ⟨by (try dsimp only); omega, by (try dsimp only); omega⟩, ⟨by (try dsimp only); omega, by (try dsimp only); omega⟩, ⟨by (try dsimp only); omega, by (try dsimp only); omega⟩, rfl, (by (try dsimp only); omega), (by (try dsimp only); omega), (by (try dsimp only); omega), (fun _ => tz_0)⟩
  · rintro ⟨x2, x3, x4, x5, x6⟩ _ ⟨h7, h8, h9, h10, h11, rfl, p15, p16, p17, p18⟩ ih19
    try dsimp only at h7 h8 h9 h10 h11 p15 p16 p17 p18
    show WP 282 12 [(0, .ref 117), (1, iV x2), (2, iV x3), (3, iV x4), (4, iV x5), (5, iV x6)] [] _ _ _ _
    show WP 282 12 [(0, .ref 117), (1, iV x2), (2, iV x3), (3, iV x4), (4, iV x5), (5, iV x6)] [] _ _ _ _
    refine wp_il2 jF_282_12 rfl rfl (pc2 := 14) ?_
    refine wp_al1 jF_282_14 rfl rfl (pc2 := 15) ?_
    refine wp_gi jF_282_15 kd117 (by decide) rfl rfl rfl (pc2 := 18) ?_
    refine wp_i_ge jF_282_18 (m_rgb h11 rfl) (m_rgb b1 rfl) rfl (pc2 := 21) ?_ ?_
    · intro h20
      refine wp_il2 jF_282_153 rfl rfl (pc2 := 155) ?_
      refine wp_z_ne jF_282_155 (m_rgb h10 rfl) rfl (pc2 := 158) ?_ ?_
      · intro h21
        clear p18
        refine wp_ic jF_282_179 rfl (pc2 := 180) ?_
        refine wp_ri jF_282_180 rfl ?_
        exact ⟨0, rfl, ⟨by omega, by omega⟩, rfl, (by omega)⟩
      · intro h21
        replace p18 := p18 (by omega)
        refine wp_il1 jF_282_158 rfl rfl (pc2 := 159) ?_
        refine wp_al1 jF_282_159 rfl rfl (pc2 := 160) ?_
        have b22 := GI.b hg 117 38 kd117 (lo := (-2147483648)) (hi := 2147483647) rfl
        refine wp_gi jF_282_160 kd117 (by decide) rfl rfl rfl (pc2 := 163) ?_
        refine wp_i_gt jF_282_163 (m_rgb h7 rfl) (m_rgb b22 rfl) rfl (pc2 := 166) ?_ ?_
        · intro h23
          refine wp_ic jF_282_179 rfl (pc2 := 180) ?_
          refine wp_ri jF_282_180 rfl ?_
          exact ⟨0, rfl, ⟨by omega, by omega⟩, rfl, (by omega)⟩
        · intro h23
          refine wp_al1 jF_282_166 rfl rfl (pc2 := 167) ?_
          refine wp_gi jF_282_167 kd117 (by decide) rfl rfl rfl (pc2 := 170) ?_
          refine wp_bi jF_282_170 (by decide) rfl (pc2 := 172) ?_
          refine wp_i_gt jF_282_172 (m_rgb b1 rfl) (m_rgl rfl) rfl (pc2 := 175) ?_ ?_
          · intro h24
            refine wp_ic jF_282_179 rfl (pc2 := 180) ?_
            refine wp_ri jF_282_180 rfl ?_
            exact ⟨0, rfl, ⟨by omega, by omega⟩, rfl, (by omega)⟩
          · intro h24
            refine wp_ic jF_282_175 rfl (pc2 := 176) ?_
            refine wp_go jF_282_176 ?_
            refine wp_ri jF_282_180 rfl ?_
            exact ⟨1, rfl, ⟨by omega, by omega⟩, rfl, (fun _ => ⟨(tl_tz (k := x6) (by omega)).trans (by omega), by omega⟩)⟩
    · intro h20
      refine wp_al1 jF_282_21 rfl rfl (pc2 := 22) ?_
      refine wp_gr (b := 149) jF_282_22 kd117 (by decide) (c := 249) rfl rfl rfl (pc2 := 25) ?_
      refine wp_il2 jF_282_25 rfl rfl (pc2 := 27) ?_
      have b25 := GI.b hg 149 x6.toNat kd149 (lo := 0) (hi := 255) rfl
      refine wp_iald (n := 64) (e := (σ.1 149 x6.toNat)) jF_282_27 kd149 (by decide) rfl rfl (by omega) (by omega) rfl rfl (pc2 := 28) ?_
      refine wp_is2 (lv2 := [(0, .ref 117), (1, iV x2), (2, iV x3), (3, iV x4), (4, iV x5), (5, iV x6), (6, iV (σ.1 149 x6.toNat))]) jF_282_28 rfl rfl rfl (pc2 := 30) ?_
      refine wp_il2 jF_282_30 rfl rfl (pc2 := 32) ?_
      refine wp_bi jF_282_32 (by decide) rfl (pc2 := 34) ?_
      refine wp_i_eq jF_282_34 (m_rgb b25 rfl) (m_rgl rfl) rfl (pc2 := 37) ?_ ?_
      · intro h26
        refine wp_il1 jF_282_40 rfl rfl (pc2 := 41) ?_
        refine wp_z_eq jF_282_41 (m_rgb h8 rfl) rfl (pc2 := 44) ?_ ?_
        · intro h27
          replace p17 := p17 (by omega)
          clear p18
          refine wp_il2 jF_282_81 rfl rfl (pc2 := 83) ?_
          refine wp_bi jF_282_83 (by decide) rfl (pc2 := 85) ?_
          refine wp_i_eq jF_282_85 ⟨by omega, by omega⟩ (m_rgl rfl) rfl (pc2 := 88) ?_ ?_
          · intro h28; exfalso; omega
          · intro h28
            refine wp_il2 jF_282_88 rfl rfl (pc2 := 90) ?_
            refine wp_bi jF_282_90 (by decide) rfl (pc2 := 92) ?_
            refine wp_i_eq jF_282_92 ⟨by omega, by omega⟩ (m_rgl rfl) rfl (pc2 := 95) ?_ ?_
            · intro h29; exfalso; omega
            · intro h29
              refine wp_il2 jF_282_95 rfl rfl (pc2 := 97) ?_
              refine wp_bi jF_282_97 (by decide) rfl (pc2 := 99) ?_
              refine wp_i_ne jF_282_99 ⟨by omega, by omega⟩ (m_rgl rfl) rfl (pc2 := 102) ?_ ?_
              · intro h30
                refine wp_il2 jF_282_128 rfl rfl (pc2 := 130) ?_
                refine wp_bi jF_282_130 (by decide) rfl (pc2 := 132) ?_
                refine wp_i_ne jF_282_132 ⟨by omega, by omega⟩ (m_rgl rfl) rfl (pc2 := 135) ?_ ?_
                · intro h31; exfalso; omega
                · intro h31
                  have n32 := tz_s (k := x6) h31 (by omega)
                  refine wp_ic jF_282_135 rfl (pc2 := 136) ?_
                  refine wp_is1 (lv2 := [(0, .ref 117), (1, iV x2), (2, iV x3), (3, iV 0), (4, iV x5), (5, iV x6), (6, iV (σ.1 149 x6.toNat))]) jF_282_136 rfl rfl rfl (pc2 := 137) ?_
                  refine wp_ic jF_282_137 rfl (pc2 := 138) ?_
                  refine wp_is2 (lv2 := [(0, .ref 117), (1, iV x2), (2, iV x3), (3, iV 0), (4, iV 0), (5, iV x6), (6, iV (σ.1 149 x6.toNat))]) jF_282_138 rfl rfl rfl (pc2 := 140) ?_
                  refine wp_ic jF_282_140 rfl (pc2 := 141) ?_
                  refine wp_is1 (lv2 := [(0, .ref 117), (1, iV x2), (2, iV 1), (3, iV 0), (4, iV 0), (5, iV x6), (6, iV (σ.1 149 x6.toNat))]) jF_282_141 rfl rfl rfl (pc2 := 142) ?_
                  refine wp_go jF_282_142 ?_
                  refine wp_inc (lv2 := [(0, .ref 117), (1, iV x2), (2, iV 1), (3, iV 0), (4, iV 0), (5, iV (x6 + 1)), (6, iV (σ.1 149 x6.toNat))]) jF_282_147 rfl rfl rfl rfl (pc2 := 150) ?_
                  refine wp_go jF_282_150 ?_
                  refine wp_less [0, 1, 2, 3, 4, 5] (lv2 := [(0, .ref 117), (1, iV x2), (2, iV 1), (3, iV 0), (4, iV 0), (5, iV (x6 + 1))]) rfl rfl ?_
                  exact ih19 (x2, 1, 0, 0, (x6 + 1)) σ ⟨⟨by (try dsimp only); omega, by (try dsimp only); omega⟩, ⟨by (try dsimp only); omega, by (try dsimp only); omega⟩, ⟨by (try dsimp only); omega, by (try dsimp only); omega⟩, ⟨by (try dsimp only); omega, by (try dsimp only); omega⟩, ⟨by (try dsimp only); omega, by (try dsimp only); omega⟩, rfl, (by (try dsimp only); omega), (by (try dsimp only); omega), (by (try dsimp only); omega), (by (try dsimp only); omega)⟩ (by show Int.toNat ((σ.1 117 49) - (x6 + 1)) < Int.toNat ((σ.1 117 49) - x6); omega)
              · intro h30; exfalso; omega
        · intro h27
          clear p17
          refine wp_il2 jF_282_44 rfl rfl (pc2 := 46) ?_
          refine wp_bi jF_282_46 (by decide) rfl (pc2 := 48) ?_
          refine wp_i_eq jF_282_48 ⟨by omega, by omega⟩ (m_rgl rfl) rfl (pc2 := 51) ?_ ?_
          · intro h33; exfalso; omega
          · intro h33
            refine wp_al1 jF_282_51 rfl rfl (pc2 := 52) ?_
            refine wp_il2 jF_282_52 rfl rfl (pc2 := 54) ?_
            refine wp_cV (as := [iV (σ.1 149 x6.toNat)]) (rest := []) (a := 117) (mx := 2) (ci := 12) jF_282_54 kd117 (by decide) rfl rfl rfl rfl rfl (by omega) (by omega) rfl (pc2 := 57) ?_
            show WP 283 0 [(0, .ref 117), (1, iV (σ.1 149 x6.toNat))] [] _ _ _ _
            refine wp_il1 jF_283_0 rfl rfl (pc2 := 1) ?_
            refine wp_bi jF_283_1 (by decide) rfl (pc2 := 3) ?_
            refine wp_i_ge jF_283_3 ⟨by omega, by omega⟩ (m_rgl rfl) rfl (pc2 := 6) ?_ ?_
            · intro h34
              refine wp_ic jF_283_24 rfl (pc2 := 25) ?_
              refine wp_ri jF_283_25 rfl ?_
              show WP 282 57 [(0, .ref 117), (1, iV x2), (2, iV x3), (3, iV x4), (4, iV x5), (5, iV x6), (6, iV (σ.1 149 x6.toNat))] [iV 0] _ _ _ _
              refine wp_z_ne jF_282_57 (m_rgl rfl) rfl (pc2 := 60) ?_ ?_
              · intro h35; exfalso; omega
              · intro h35
                refine wp_ic jF_282_60 rfl (pc2 := 61) ?_
                refine wp_ri jF_282_61 rfl ?_
                exact ⟨0, rfl, ⟨by omega, by omega⟩, rfl, (by omega)⟩
            · intro h34; exfalso; omega
      · intro h26
        refine wp_inc (lv2 := [(0, .ref 117), (1, iV (x2 + 1)), (2, iV x3), (3, iV x4), (4, iV x5), (5, iV x6), (6, iV (σ.1 149 x6.toNat))]) jF_282_37 rfl rfl rfl rfl (pc2 := 40) ?_
        refine wp_il1 jF_282_40 rfl rfl (pc2 := 41) ?_
        refine wp_z_eq jF_282_41 (m_rgb h8 rfl) rfl (pc2 := 44) ?_ ?_
        · intro h36
          replace p17 := p17 (by omega)
          clear p18
          refine wp_il2 jF_282_81 rfl rfl (pc2 := 83) ?_
          refine wp_bi jF_282_83 (by decide) rfl (pc2 := 85) ?_
          refine wp_i_eq jF_282_85 (m_rgb b25 rfl) (m_rgl rfl) rfl (pc2 := 88) ?_ ?_
          · intro h37
            refine wp_il1 jF_282_106 rfl rfl (pc2 := 107) ?_
            refine wp_z_ne jF_282_107 (m_rgb h9 rfl) rfl (pc2 := 110) ?_ ?_
            · intro h38
              refine wp_ic jF_282_117 rfl (pc2 := 118) ?_
              refine wp_go jF_282_118 ?_
              refine wp_is1 (lv2 := [(0, .ref 117), (1, iV (x2 + 1)), (2, iV x3), (3, iV 1), (4, iV x5), (5, iV x6), (6, iV (σ.1 149 x6.toNat))]) jF_282_122 rfl rfl rfl (pc2 := 123) ?_
              refine wp_ic jF_282_123 rfl (pc2 := 124) ?_
              refine wp_is1 (lv2 := [(0, .ref 117), (1, iV (x2 + 1)), (2, iV 1), (3, iV 1), (4, iV x5), (5, iV x6), (6, iV (σ.1 149 x6.toNat))]) jF_282_124 rfl rfl rfl (pc2 := 125) ?_
              refine wp_go jF_282_125 ?_
              refine wp_inc (lv2 := [(0, .ref 117), (1, iV (x2 + 1)), (2, iV 1), (3, iV 1), (4, iV x5), (5, iV (x6 + 1)), (6, iV (σ.1 149 x6.toNat))]) jF_282_147 rfl rfl rfl rfl (pc2 := 150) ?_
              refine wp_go jF_282_150 ?_
              refine wp_less [0, 1, 2, 3, 4, 5] (lv2 := [(0, .ref 117), (1, iV (x2 + 1)), (2, iV 1), (3, iV 1), (4, iV x5), (5, iV (x6 + 1))]) rfl rfl ?_
              exact ih19 ((x2 + 1), 1, 1, x5, (x6 + 1)) σ ⟨⟨by (try dsimp only); omega, by (try dsimp only); omega⟩, ⟨by (try dsimp only); omega, by (try dsimp only); omega⟩, ⟨by (try dsimp only); omega, by (try dsimp only); omega⟩, ⟨by (try dsimp only); omega, by (try dsimp only); omega⟩, ⟨by (try dsimp only); omega, by (try dsimp only); omega⟩, rfl, (by (try dsimp only); omega), (by (try dsimp only); omega), (by (try dsimp only); omega), (by (try dsimp only); omega)⟩ (by show Int.toNat ((σ.1 117 49) - (x6 + 1)) < Int.toNat ((σ.1 117 49) - x6); omega)
            · intro h38
              refine wp_il2 jF_282_110 rfl rfl (pc2 := 112) ?_
              refine wp_bi jF_282_112 (by decide) rfl (pc2 := 114) ?_
              refine wp_i_ne jF_282_114 ⟨by omega, by omega⟩ (m_rgl rfl) rfl (pc2 := 117) ?_ ?_
              · intro h39
                refine wp_ic jF_282_121 rfl (pc2 := 122) ?_
                refine wp_is1 (lv2 := [(0, .ref 117), (1, iV (x2 + 1)), (2, iV x3), (3, iV 0), (4, iV x5), (5, iV x6), (6, iV (σ.1 149 x6.toNat))]) jF_282_122 rfl rfl rfl (pc2 := 123) ?_
                refine wp_ic jF_282_123 rfl (pc2 := 124) ?_
                refine wp_is1 (lv2 := [(0, .ref 117), (1, iV (x2 + 1)), (2, iV 1), (3, iV 0), (4, iV x5), (5, iV x6), (6, iV (σ.1 149 x6.toNat))]) jF_282_124 rfl rfl rfl (pc2 := 125) ?_
                refine wp_go jF_282_125 ?_
                refine wp_inc (lv2 := [(0, .ref 117), (1, iV (x2 + 1)), (2, iV 1), (3, iV 0), (4, iV x5), (5, iV (x6 + 1)), (6, iV (σ.1 149 x6.toNat))]) jF_282_147 rfl rfl rfl rfl (pc2 := 150) ?_
                refine wp_go jF_282_150 ?_
                refine wp_less [0, 1, 2, 3, 4, 5] (lv2 := [(0, .ref 117), (1, iV (x2 + 1)), (2, iV 1), (3, iV 0), (4, iV x5), (5, iV (x6 + 1))]) rfl rfl ?_
                exact ih19 ((x2 + 1), 1, 0, x5, (x6 + 1)) σ ⟨⟨by (try dsimp only); omega, by (try dsimp only); omega⟩, ⟨by (try dsimp only); omega, by (try dsimp only); omega⟩, ⟨by (try dsimp only); omega, by (try dsimp only); omega⟩, ⟨by (try dsimp only); omega, by (try dsimp only); omega⟩, ⟨by (try dsimp only); omega, by (try dsimp only); omega⟩, rfl, (by (try dsimp only); omega), (by (try dsimp only); omega), (by (try dsimp only); omega), (by (try dsimp only); omega)⟩ (by show Int.toNat ((σ.1 117 49) - (x6 + 1)) < Int.toNat ((σ.1 117 49) - x6); omega)
              · intro h39; exfalso; omega
          · intro h37
            refine wp_il2 jF_282_88 rfl rfl (pc2 := 90) ?_
            refine wp_bi jF_282_90 (by decide) rfl (pc2 := 92) ?_
            refine wp_i_eq jF_282_92 (m_rgb b25 rfl) (m_rgl rfl) rfl (pc2 := 95) ?_ ?_
            · intro h40
              refine wp_il1 jF_282_106 rfl rfl (pc2 := 107) ?_
              refine wp_z_ne jF_282_107 (m_rgb h9 rfl) rfl (pc2 := 110) ?_ ?_
              · intro h41
                refine wp_ic jF_282_117 rfl (pc2 := 118) ?_
                refine wp_go jF_282_118 ?_
                refine wp_is1 (lv2 := [(0, .ref 117), (1, iV (x2 + 1)), (2, iV x3), (3, iV 1), (4, iV x5), (5, iV x6), (6, iV (σ.1 149 x6.toNat))]) jF_282_122 rfl rfl rfl (pc2 := 123) ?_
                refine wp_ic jF_282_123 rfl (pc2 := 124) ?_
                refine wp_is1 (lv2 := [(0, .ref 117), (1, iV (x2 + 1)), (2, iV 1), (3, iV 1), (4, iV x5), (5, iV x6), (6, iV (σ.1 149 x6.toNat))]) jF_282_124 rfl rfl rfl (pc2 := 125) ?_
                refine wp_go jF_282_125 ?_
                refine wp_inc (lv2 := [(0, .ref 117), (1, iV (x2 + 1)), (2, iV 1), (3, iV 1), (4, iV x5), (5, iV (x6 + 1)), (6, iV (σ.1 149 x6.toNat))]) jF_282_147 rfl rfl rfl rfl (pc2 := 150) ?_
                refine wp_go jF_282_150 ?_
                refine wp_less [0, 1, 2, 3, 4, 5] (lv2 := [(0, .ref 117), (1, iV (x2 + 1)), (2, iV 1), (3, iV 1), (4, iV x5), (5, iV (x6 + 1))]) rfl rfl ?_
                exact ih19 ((x2 + 1), 1, 1, x5, (x6 + 1)) σ ⟨⟨by (try dsimp only); omega, by (try dsimp only); omega⟩, ⟨by (try dsimp only); omega, by (try dsimp only); omega⟩, ⟨by (try dsimp only); omega, by (try dsimp only); omega⟩, ⟨by (try dsimp only); omega, by (try dsimp only); omega⟩, ⟨by (try dsimp only); omega, by (try dsimp only); omega⟩, rfl, (by (try dsimp only); omega), (by (try dsimp only); omega), (by (try dsimp only); omega), (by (try dsimp only); omega)⟩ (by show Int.toNat ((σ.1 117 49) - (x6 + 1)) < Int.toNat ((σ.1 117 49) - x6); omega)
              · intro h41
                refine wp_il2 jF_282_110 rfl rfl (pc2 := 112) ?_
                refine wp_bi jF_282_112 (by decide) rfl (pc2 := 114) ?_
                refine wp_i_ne jF_282_114 ⟨by omega, by omega⟩ (m_rgl rfl) rfl (pc2 := 117) ?_ ?_
                · intro h42
                  refine wp_ic jF_282_121 rfl (pc2 := 122) ?_
                  refine wp_is1 (lv2 := [(0, .ref 117), (1, iV (x2 + 1)), (2, iV x3), (3, iV 0), (4, iV x5), (5, iV x6), (6, iV (σ.1 149 x6.toNat))]) jF_282_122 rfl rfl rfl (pc2 := 123) ?_
                  refine wp_ic jF_282_123 rfl (pc2 := 124) ?_
                  refine wp_is1 (lv2 := [(0, .ref 117), (1, iV (x2 + 1)), (2, iV 1), (3, iV 0), (4, iV x5), (5, iV x6), (6, iV (σ.1 149 x6.toNat))]) jF_282_124 rfl rfl rfl (pc2 := 125) ?_
                  refine wp_go jF_282_125 ?_
                  refine wp_inc (lv2 := [(0, .ref 117), (1, iV (x2 + 1)), (2, iV 1), (3, iV 0), (4, iV x5), (5, iV (x6 + 1)), (6, iV (σ.1 149 x6.toNat))]) jF_282_147 rfl rfl rfl rfl (pc2 := 150) ?_
                  refine wp_go jF_282_150 ?_
                  refine wp_less [0, 1, 2, 3, 4, 5] (lv2 := [(0, .ref 117), (1, iV (x2 + 1)), (2, iV 1), (3, iV 0), (4, iV x5), (5, iV (x6 + 1))]) rfl rfl ?_
                  exact ih19 ((x2 + 1), 1, 0, x5, (x6 + 1)) σ ⟨⟨by (try dsimp only); omega, by (try dsimp only); omega⟩, ⟨by (try dsimp only); omega, by (try dsimp only); omega⟩, ⟨by (try dsimp only); omega, by (try dsimp only); omega⟩, ⟨by (try dsimp only); omega, by (try dsimp only); omega⟩, ⟨by (try dsimp only); omega, by (try dsimp only); omega⟩, rfl, (by (try dsimp only); omega), (by (try dsimp only); omega), (by (try dsimp only); omega), (by (try dsimp only); omega)⟩ (by show Int.toNat ((σ.1 117 49) - (x6 + 1)) < Int.toNat ((σ.1 117 49) - x6); omega)
                · intro h42; exfalso; omega
            · intro h40
              refine wp_il2 jF_282_95 rfl rfl (pc2 := 97) ?_
              refine wp_bi jF_282_97 (by decide) rfl (pc2 := 99) ?_
              refine wp_i_ne jF_282_99 (m_rgb b25 rfl) (m_rgl rfl) rfl (pc2 := 102) ?_ ?_
              · intro h43
                refine wp_il2 jF_282_128 rfl rfl (pc2 := 130) ?_
                refine wp_bi jF_282_130 (by decide) rfl (pc2 := 132) ?_
                refine wp_i_ne jF_282_132 (m_rgb b25 rfl) (m_rgl rfl) rfl (pc2 := 135) ?_ ?_
                · intro h44
                  refine wp_ic jF_282_145 rfl (pc2 := 146) ?_
                  refine wp_ri jF_282_146 rfl ?_
                  exact ⟨0, rfl, ⟨by omega, by omega⟩, rfl, (by omega)⟩
                · intro h44
                  have n45 := tz_s (k := x6) h44 (by omega)
                  refine wp_ic jF_282_135 rfl (pc2 := 136) ?_
                  refine wp_is1 (lv2 := [(0, .ref 117), (1, iV (x2 + 1)), (2, iV x3), (3, iV 0), (4, iV x5), (5, iV x6), (6, iV (σ.1 149 x6.toNat))]) jF_282_136 rfl rfl rfl (pc2 := 137) ?_
                  refine wp_ic jF_282_137 rfl (pc2 := 138) ?_
                  refine wp_is2 (lv2 := [(0, .ref 117), (1, iV (x2 + 1)), (2, iV x3), (3, iV 0), (4, iV 0), (5, iV x6), (6, iV (σ.1 149 x6.toNat))]) jF_282_138 rfl rfl rfl (pc2 := 140) ?_
                  refine wp_ic jF_282_140 rfl (pc2 := 141) ?_
                  refine wp_is1 (lv2 := [(0, .ref 117), (1, iV (x2 + 1)), (2, iV 1), (3, iV 0), (4, iV 0), (5, iV x6), (6, iV (σ.1 149 x6.toNat))]) jF_282_141 rfl rfl rfl (pc2 := 142) ?_
                  refine wp_go jF_282_142 ?_
                  refine wp_inc (lv2 := [(0, .ref 117), (1, iV (x2 + 1)), (2, iV 1), (3, iV 0), (4, iV 0), (5, iV (x6 + 1)), (6, iV (σ.1 149 x6.toNat))]) jF_282_147 rfl rfl rfl rfl (pc2 := 150) ?_
                  refine wp_go jF_282_150 ?_
                  refine wp_less [0, 1, 2, 3, 4, 5] (lv2 := [(0, .ref 117), (1, iV (x2 + 1)), (2, iV 1), (3, iV 0), (4, iV 0), (5, iV (x6 + 1))]) rfl rfl ?_
                  exact ih19 ((x2 + 1), 1, 0, 0, (x6 + 1)) σ ⟨⟨by (try dsimp only); omega, by (try dsimp only); omega⟩, ⟨by (try dsimp only); omega, by (try dsimp only); omega⟩, ⟨by (try dsimp only); omega, by (try dsimp only); omega⟩, ⟨by (try dsimp only); omega, by (try dsimp only); omega⟩, ⟨by (try dsimp only); omega, by (try dsimp only); omega⟩, rfl, (by (try dsimp only); omega), (by (try dsimp only); omega), (by (try dsimp only); omega), (by (try dsimp only); omega)⟩ (by show Int.toNat ((σ.1 117 49) - (x6 + 1)) < Int.toNat ((σ.1 117 49) - x6); omega)
              · intro h43
                refine wp_il1 jF_282_102 rfl rfl (pc2 := 103) ?_
                refine wp_z_ne jF_282_103 (m_rgb h9 rfl) rfl (pc2 := 106) ?_ ?_
                · intro h46
                  refine wp_il2 jF_282_128 rfl rfl (pc2 := 130) ?_
                  refine wp_bi jF_282_130 (by decide) rfl (pc2 := 132) ?_
                  refine wp_i_ne jF_282_132 ⟨by omega, by omega⟩ (m_rgl rfl) rfl (pc2 := 135) ?_ ?_
                  · intro h47
                    refine wp_ic jF_282_145 rfl (pc2 := 146) ?_
                    refine wp_ri jF_282_146 rfl ?_
                    exact ⟨0, rfl, ⟨by omega, by omega⟩, rfl, (by omega)⟩
                  · intro h47; exfalso; omega
                · intro h46
                  refine wp_il1 jF_282_106 rfl rfl (pc2 := 107) ?_
                  refine wp_z_ne jF_282_107 ⟨by omega, by omega⟩ rfl (pc2 := 110) ?_ ?_
                  · intro h48; exfalso; omega
                  · intro h48
                    refine wp_il2 jF_282_110 rfl rfl (pc2 := 112) ?_
                    refine wp_bi jF_282_112 (by decide) rfl (pc2 := 114) ?_
                    refine wp_i_ne jF_282_114 ⟨by omega, by omega⟩ (m_rgl rfl) rfl (pc2 := 117) ?_ ?_
                    · intro h49; exfalso; omega
                    · intro h49
                      refine wp_ic jF_282_117 rfl (pc2 := 118) ?_
                      refine wp_go jF_282_118 ?_
                      refine wp_is1 (lv2 := [(0, .ref 117), (1, iV (x2 + 1)), (2, iV x3), (3, iV 1), (4, iV x5), (5, iV x6), (6, iV (σ.1 149 x6.toNat))]) jF_282_122 rfl rfl rfl (pc2 := 123) ?_
                      refine wp_ic jF_282_123 rfl (pc2 := 124) ?_
                      refine wp_is1 (lv2 := [(0, .ref 117), (1, iV (x2 + 1)), (2, iV 1), (3, iV 1), (4, iV x5), (5, iV x6), (6, iV (σ.1 149 x6.toNat))]) jF_282_124 rfl rfl rfl (pc2 := 125) ?_
                      refine wp_go jF_282_125 ?_
                      refine wp_inc (lv2 := [(0, .ref 117), (1, iV (x2 + 1)), (2, iV 1), (3, iV 1), (4, iV x5), (5, iV (x6 + 1)), (6, iV (σ.1 149 x6.toNat))]) jF_282_147 rfl rfl rfl rfl (pc2 := 150) ?_
                      refine wp_go jF_282_150 ?_
                      refine wp_less [0, 1, 2, 3, 4, 5] (lv2 := [(0, .ref 117), (1, iV (x2 + 1)), (2, iV 1), (3, iV 1), (4, iV x5), (5, iV (x6 + 1))]) rfl rfl ?_
                      exact ih19 ((x2 + 1), 1, 1, x5, (x6 + 1)) σ ⟨⟨by (try dsimp only); omega, by (try dsimp only); omega⟩, ⟨by (try dsimp only); omega, by (try dsimp only); omega⟩, ⟨by (try dsimp only); omega, by (try dsimp only); omega⟩, ⟨by (try dsimp only); omega, by (try dsimp only); omega⟩, ⟨by (try dsimp only); omega, by (try dsimp only); omega⟩, rfl, (by (try dsimp only); omega), (by (try dsimp only); omega), (by (try dsimp only); omega), (by (try dsimp only); omega)⟩ (by show Int.toNat ((σ.1 117 49) - (x6 + 1)) < Int.toNat ((σ.1 117 49) - x6); omega)
        · intro h36
          clear p17
          refine wp_il2 jF_282_44 rfl rfl (pc2 := 46) ?_
          refine wp_bi jF_282_46 (by decide) rfl (pc2 := 48) ?_
          refine wp_i_eq jF_282_48 (m_rgb b25 rfl) (m_rgl rfl) rfl (pc2 := 51) ?_ ?_
          · intro h50
            refine wp_il2 jF_282_62 rfl rfl (pc2 := 64) ?_
            refine wp_bi jF_282_64 (by decide) rfl (pc2 := 66) ?_
            refine wp_i_ne jF_282_66 ⟨by omega, by omega⟩ (m_rgl rfl) rfl (pc2 := 69) ?_ ?_
            · intro h51; exfalso; omega
            · intro h51
              refine wp_ic jF_282_69 rfl (pc2 := 70) ?_
              refine wp_go jF_282_70 ?_
              refine wp_is1 (lv2 := [(0, .ref 117), (1, iV (x2 + 1)), (2, iV 1), (3, iV x4), (4, iV x5), (5, iV x6), (6, iV (σ.1 149 x6.toNat))]) jF_282_74 rfl rfl rfl (pc2 := 75) ?_
              refine wp_ic jF_282_75 rfl (pc2 := 76) ?_
              refine wp_is2 (lv2 := [(0, .ref 117), (1, iV (x2 + 1)), (2, iV 1), (3, iV x4), (4, iV 1), (5, iV x6), (6, iV (σ.1 149 x6.toNat))]) jF_282_76 rfl rfl rfl (pc2 := 78) ?_
              refine wp_go jF_282_78 ?_
              refine wp_inc (lv2 := [(0, .ref 117), (1, iV (x2 + 1)), (2, iV 1), (3, iV x4), (4, iV 1), (5, iV (x6 + 1)), (6, iV (σ.1 149 x6.toNat))]) jF_282_147 rfl rfl rfl rfl (pc2 := 150) ?_
              refine wp_go jF_282_150 ?_
              refine wp_less [0, 1, 2, 3, 4, 5] (lv2 := [(0, .ref 117), (1, iV (x2 + 1)), (2, iV 1), (3, iV x4), (4, iV 1), (5, iV (x6 + 1))]) rfl rfl ?_
              exact ih19 ((x2 + 1), 1, x4, 1, (x6 + 1)) σ ⟨⟨by (try dsimp only); omega, by (try dsimp only); omega⟩, ⟨by (try dsimp only); omega, by (try dsimp only); omega⟩, ⟨by (try dsimp only); omega, by (try dsimp only); omega⟩, ⟨by (try dsimp only); omega, by (try dsimp only); omega⟩, ⟨by (try dsimp only); omega, by (try dsimp only); omega⟩, rfl, (by (try dsimp only); omega), (by (try dsimp only); omega), (by (try dsimp only); omega), (by (try dsimp only); omega)⟩ (by show Int.toNat ((σ.1 117 49) - (x6 + 1)) < Int.toNat ((σ.1 117 49) - x6); omega)
          · intro h50
            refine wp_al1 jF_282_51 rfl rfl (pc2 := 52) ?_
            refine wp_il2 jF_282_52 rfl rfl (pc2 := 54) ?_
            refine wp_cV (as := [iV (σ.1 149 x6.toNat)]) (rest := []) (a := 117) (mx := 2) (ci := 12) jF_282_54 kd117 (by decide) rfl rfl rfl rfl rfl (by omega) (by omega) rfl (pc2 := 57) ?_
            show WP 283 0 [(0, .ref 117), (1, iV (σ.1 149 x6.toNat))] [] _ _ _ _
            refine wp_il1 jF_283_0 rfl rfl (pc2 := 1) ?_
            refine wp_bi jF_283_1 (by decide) rfl (pc2 := 3) ?_
            refine wp_i_ge jF_283_3 (m_rgb b25 rfl) (m_rgl rfl) rfl (pc2 := 6) ?_ ?_
            · intro h52
              refine wp_ic jF_283_24 rfl (pc2 := 25) ?_
              refine wp_ri jF_283_25 rfl ?_
              show WP 282 57 [(0, .ref 117), (1, iV (x2 + 1)), (2, iV x3), (3, iV x4), (4, iV x5), (5, iV x6), (6, iV (σ.1 149 x6.toNat))] [iV 0] _ _ _ _
              refine wp_z_ne jF_282_57 (m_rgl rfl) rfl (pc2 := 60) ?_ ?_
              · intro h53; exfalso; omega
              · intro h53
                refine wp_ic jF_282_60 rfl (pc2 := 61) ?_
                refine wp_ri jF_282_61 rfl ?_
                exact ⟨0, rfl, ⟨by omega, by omega⟩, rfl, (by omega)⟩
            · intro h52
              refine wp_al1 jF_283_6 rfl rfl (pc2 := 7) ?_
              refine wp_gr (b := 138) jF_283_7 kd117 (by decide) (c := 238) rfl rfl rfl (pc2 := 10) ?_
              refine wp_bi jF_283_10 (by decide) rfl (pc2 := 12) ?_
              refine wp_il1 jF_283_12 rfl rfl (pc2 := 13) ?_
              refine wp_add jF_283_13 rfl (pc2 := 14) ?_
              refine wp_lald (n := 36) jF_283_14 kd138 (by decide) rfl rfl (by omega) (by omega) rfl (pc2 := 15) ?_
              intro y54
              refine wp_lc jF_283_15 rfl (pc2 := 16) ?_
              refine wp_anyL (pc2 := 17) jF_283_16 rfl rfl ?_
              intro z55 h56
              refine wp_z_eq jF_283_17 (m_rgb h56 rfl) rfl (pc2 := 20) ?_ ?_
              · intro h57
                refine wp_ic jF_283_24 rfl (pc2 := 25) ?_
                refine wp_ri jF_283_25 rfl ?_
                show WP 282 57 [(0, .ref 117), (1, iV (x2 + 1)), (2, iV x3), (3, iV x4), (4, iV x5), (5, iV x6), (6, iV (σ.1 149 x6.toNat))] [iV 0] _ _ _ _
                refine wp_z_ne jF_282_57 (m_rgl rfl) rfl (pc2 := 60) ?_ ?_
                · intro h58; exfalso; omega
                · intro h58
                  refine wp_ic jF_282_60 rfl (pc2 := 61) ?_
                  refine wp_ri jF_282_61 rfl ?_
                  exact ⟨0, rfl, ⟨by omega, by omega⟩, rfl, (by omega)⟩
              · intro h57
                refine wp_ic jF_283_20 rfl (pc2 := 21) ?_
                refine wp_go jF_283_21 ?_
                refine wp_ri jF_283_25 rfl ?_
                show WP 282 57 [(0, .ref 117), (1, iV (x2 + 1)), (2, iV x3), (3, iV x4), (4, iV x5), (5, iV x6), (6, iV (σ.1 149 x6.toNat))] [iV 1] _ _ _ _
                refine wp_z_ne jF_282_57 (m_rgl rfl) rfl (pc2 := 60) ?_ ?_
                · intro h59
                  refine wp_il2 jF_282_62 rfl rfl (pc2 := 64) ?_
                  refine wp_bi jF_282_64 (by decide) rfl (pc2 := 66) ?_
                  refine wp_i_ne jF_282_66 ⟨by omega, by omega⟩ (m_rgl rfl) rfl (pc2 := 69) ?_ ?_
                  · intro h60
                    refine wp_ic jF_282_73 rfl (pc2 := 74) ?_
                    refine wp_is1 (lv2 := [(0, .ref 117), (1, iV (x2 + 1)), (2, iV 0), (3, iV x4), (4, iV x5), (5, iV x6), (6, iV (σ.1 149 x6.toNat))]) jF_282_74 rfl rfl rfl (pc2 := 75) ?_
                    refine wp_ic jF_282_75 rfl (pc2 := 76) ?_
                    refine wp_is2 (lv2 := [(0, .ref 117), (1, iV (x2 + 1)), (2, iV 0), (3, iV x4), (4, iV 1), (5, iV x6), (6, iV (σ.1 149 x6.toNat))]) jF_282_76 rfl rfl rfl (pc2 := 78) ?_
                    refine wp_go jF_282_78 ?_
                    refine wp_inc (lv2 := [(0, .ref 117), (1, iV (x2 + 1)), (2, iV 0), (3, iV x4), (4, iV 1), (5, iV (x6 + 1)), (6, iV (σ.1 149 x6.toNat))]) jF_282_147 rfl rfl rfl rfl (pc2 := 150) ?_
                    refine wp_go jF_282_150 ?_
                    refine wp_less [0, 1, 2, 3, 4, 5] (lv2 := [(0, .ref 117), (1, iV (x2 + 1)), (2, iV 0), (3, iV x4), (4, iV 1), (5, iV (x6 + 1))]) rfl rfl ?_
                    exact ih19 ((x2 + 1), 0, x4, 1, (x6 + 1)) σ ⟨⟨by (try dsimp only); omega, by (try dsimp only); omega⟩, ⟨by (try dsimp only); omega, by (try dsimp only); omega⟩, ⟨by (try dsimp only); omega, by (try dsimp only); omega⟩, ⟨by (try dsimp only); omega, by (try dsimp only); omega⟩, ⟨by (try dsimp only); omega, by (try dsimp only); omega⟩, rfl, (by (try dsimp only); omega), (by (try dsimp only); omega), (by (try dsimp only); omega), (by (try dsimp only); omega)⟩ (by show Int.toNat ((σ.1 117 49) - (x6 + 1)) < Int.toNat ((σ.1 117 49) - x6); omega)
                  · intro h60; exfalso; omega
                · intro h59; exfalso; omega
set_option maxHeartbeats 4000000 in
set_option maxRecDepth 20000 in
/-- M.keepsPeace -/
theorem m_258 (σ : jM) (hg : GI σ)  (pre0 : (tl σ) = 22) (pre1 : (σ.1 143 4) ≤ 8) (fr lo : Nat) (hfr : 2 ≤ fr) (hlo : 55 ≤ lo) : WP 258 0 (lv_args 0 [.ref 117]) [] fr lo σ (fun v τ => ∃ z : Int, v = some (iV z) ∧ (0 ≤ z ∧ z ≤ 1) ∧ σ = τ) := by
  show WP 258 0 [(0, .ref 117)] [] _ _ _ _
  refine wp_al1 jF_258_0 rfl rfl (pc2 := 1) ?_
  refine wp_cV (as := []) (rest := []) (a := 117) (mx := 4) (ci := 12) jF_258_1 kd117 (by decide) rfl rfl rfl rfl rfl (by omega) (by omega) rfl (pc2 := 4) ?_
  refine wp_use (m_259 σ hg  (by omega) _ _ (by omega) (by omega)) ?_
  rintro _ _ ⟨y3, rfl, rfl⟩
  show WP 258 4 [(0, .ref 117)] [.long y3] _ _ _ _
  refine wp_ls1 (lv2 := [(0, .ref 117), (1, .long y3)]) jF_258_4 rfl rfl rfl (pc2 := 5) ?_
  refine wp_ic jF_258_5 rfl (pc2 := 6) ?_
  refine wp_is1 (lv2 := [(0, .ref 117), (1, .long y3), (3, iV 0)]) jF_258_6 rfl rfl rfl (pc2 := 7) ?_
  refine wp_loop (α := Int) (fun a => [(0, .ref 117), (1, .long y3), (3, iV (a))]) (fun a τ => (0 ≤ a ∧ a ≤ 8) ∧ σ = τ) (fun a τ => Int.toNat (8 - (a))) (0) σ ?_ ?_
  · skip
    exact ⟨⟨by omega, by omega⟩, rfl⟩
  · rintro x4 _ ⟨h5, rfl⟩ ih9
    show WP 258 7 [(0, .ref 117), (1, .long y3), (3, iV x4)] [] _ _ _ _
    show WP 258 7 [(0, .ref 117), (1, .long y3), (3, iV x4)] [] _ _ _ _
    refine wp_il1 jF_258_7 rfl rfl (pc2 := 8) ?_
    refine wp_al1 jF_258_8 rfl rfl (pc2 := 9) ?_
    refine wp_gr (b := 143) jF_258_9 kd117 (by decide) (c := 243) rfl rfl rfl (pc2 := 12) ?_
    refine wp_ic jF_258_12 rfl (pc2 := 13) ?_
    have b10 := GI.b hg 143 4 kd143 (lo := 0) (hi := 16) rfl
    refine wp_iald (n := 6) (e := (σ.1 143 4)) jF_258_13 kd143 (by decide) rfl rfl (by omega) (by omega) rfl rfl (pc2 := 14) ?_
    refine wp_i_ge jF_258_14 (m_rgb h5 rfl) (m_rgb b10 rfl) rfl (pc2 := 17) ?_ ?_
    · intro h11
      refine wp_ic jF_258_75 rfl (pc2 := 76) ?_
      refine wp_ri jF_258_76 rfl ?_
      exact ⟨1, rfl, ⟨by omega, by omega⟩, rfl⟩
    · intro h11
      refine wp_al1 jF_258_17 rfl rfl (pc2 := 18) ?_
      refine wp_gr (b := 145) jF_258_18 kd117 (by decide) (c := 245) rfl rfl rfl (pc2 := 21) ?_
      refine wp_bi jF_258_21 (by decide) rfl (pc2 := 23) ?_
      refine wp_il1 jF_258_23 rfl rfl (pc2 := 24) ?_
      refine wp_add jF_258_24 rfl (pc2 := 25) ?_
      refine wp_lald (n := 34) jF_258_25 kd145 (by decide) rfl rfl (by omega) (by omega) rfl (pc2 := 26) ?_
      intro y12
      refine wp_ls2 (lv2 := [(0, .ref 117), (1, .long y3), (3, iV x4), (4, .long y12)]) jF_258_26 rfl rfl rfl (pc2 := 28) ?_
      refine wp_al1 jF_258_28 rfl rfl (pc2 := 29) ?_
      refine wp_gr (b := 142) jF_258_29 kd117 (by decide) (c := 242) rfl rfl rfl (pc2 := 32) ?_
      refine wp_si jF_258_32 (by decide) rfl (pc2 := 35) ?_
      refine wp_bi jF_258_35 (by decide) rfl (pc2 := 37) ?_
      refine wp_il1 jF_258_37 rfl rfl (pc2 := 38) ?_
      refine wp_mul jF_258_38 rfl (pc2 := 39) ?_
      refine wp_add jF_258_39 rfl (pc2 := 40) ?_
      refine wp_ic jF_258_40 rfl (pc2 := 41) ?_
      refine wp_add jF_258_41 rfl (pc2 := 42) ?_
      have b13 := GI.b hg 142 ((300 + (6 * x4)) + 3).toNat kd142 (lo := (-2147483648)) (hi := 2147483647) rfl
      refine wp_iald (n := 408) (e := (σ.1 142 ((300 + (6 * x4)) + 3).toNat)) jF_258_42 kd142 (by decide) rfl rfl (by omega) (by omega) rfl rfl (pc2 := 43) ?_
      refine wp_ic jF_258_43 rfl (pc2 := 44) ?_
      refine wp_i_ne jF_258_44 (m_rgb b13 rfl) (m_rgl rfl) rfl (pc2 := 47) ?_ ?_
      · intro h14
        refine wp_ll2 jF_258_58 rfl rfl (pc2 := 60) ?_
        refine wp_ll1 jF_258_60 rfl rfl (pc2 := 61) ?_
        refine wp_lng (pc2 := 62) jF_258_61 rfl rfl ?_
        intro y15
        refine wp_lc jF_258_62 rfl (pc2 := 63) ?_
        refine wp_anyL (pc2 := 64) jF_258_63 rfl rfl ?_
        intro z16 h17
        refine wp_z_eq jF_258_64 (m_rgb h17 rfl) rfl (pc2 := 67) ?_ ?_
        · intro h18
          refine wp_inc (lv2 := [(0, .ref 117), (1, .long y3), (3, iV (x4 + 1)), (4, .long y12)]) jF_258_69 rfl rfl rfl rfl (pc2 := 72) ?_
          refine wp_go jF_258_72 ?_
          refine wp_less [0, 1, 3] (lv2 := [(0, .ref 117), (1, .long y3), (3, iV (x4 + 1))]) rfl rfl ?_
          exact ih9 ((x4 + 1)) σ ⟨⟨by omega, by omega⟩, rfl⟩ (by show Int.toNat (8 - (x4 + 1)) < Int.toNat (8 - x4); omega)
        · intro h18
          refine wp_ic jF_258_67 rfl (pc2 := 68) ?_
          refine wp_ri jF_258_68 rfl ?_
          exact ⟨0, rfl, ⟨by omega, by omega⟩, rfl⟩
      · intro h14
        refine wp_ll2 jF_258_47 rfl rfl (pc2 := 49) ?_
        refine wp_ll1 jF_258_49 rfl rfl (pc2 := 50) ?_
        refine wp_ld jF_258_50 rfl (pc2 := 53) ?_
        refine wp_lng (pc2 := 54) jF_258_53 rfl rfl ?_
        intro y19
        refine wp_lng (pc2 := 55) jF_258_54 rfl rfl ?_
        intro y20
        refine wp_go jF_258_55 ?_
        refine wp_lc jF_258_62 rfl (pc2 := 63) ?_
        refine wp_anyL (pc2 := 64) jF_258_63 rfl rfl ?_
        intro z21 h22
        refine wp_z_eq jF_258_64 (m_rgb h22 rfl) rfl (pc2 := 67) ?_ ?_
        · intro h23
          refine wp_inc (lv2 := [(0, .ref 117), (1, .long y3), (3, iV (x4 + 1)), (4, .long y12)]) jF_258_69 rfl rfl rfl rfl (pc2 := 72) ?_
          refine wp_go jF_258_72 ?_
          refine wp_less [0, 1, 3] (lv2 := [(0, .ref 117), (1, .long y3), (3, iV (x4 + 1))]) rfl rfl ?_
          exact ih9 ((x4 + 1)) σ ⟨⟨by omega, by omega⟩, rfl⟩ (by show Int.toNat (8 - (x4 + 1)) < Int.toNat (8 - x4); omega)
        · intro h23
          refine wp_ic jF_258_67 rfl (pc2 := 68) ?_
          refine wp_ri jF_258_68 rfl ?_
          exact ⟨0, rfl, ⟨by omega, by omega⟩, rfl⟩
set_option maxHeartbeats 4000000 in
set_option maxRecDepth 20000 in
/-- M.isChange -/
theorem m_290 (σ : jM) (hg : GI σ)  (pre0 : (σ.1 143 4) ≤ 8) (fr lo : Nat) (hfr : 3 ≤ fr) (hlo : 80 ≤ lo) : WP 290 0 (lv_args 0 [.ref 117]) [] fr lo σ (fun v τ => ∃ z : Int, v = some (iV z) ∧ (0 ≤ z ∧ z ≤ 1) ∧ σ = τ ∧ (z = 1 → ((tl σ) = 22 ∧ (σ.1 117 49) ≤ 60))) := by
  show WP 290 0 [(0, .ref 117)] [] _ _ _ _
  refine wp_al1 jF_290_0 rfl rfl (pc2 := 1) ?_
  refine wp_cV (as := []) (rest := []) (a := 117) (mx := 7) (ci := 12) jF_290_1 kd117 (by decide) rfl rfl rfl rfl rfl (by omega) (by omega) rfl (pc2 := 4) ?_
  have b1 := GI.b hg 117 49 kd117 (lo := 0) (hi := 61) rfl
  refine wp_use (m_282 σ hg   _ _ (by omega) (by omega)) ?_
  rintro _ _ ⟨z5, rfl, h6, rfl, p2⟩
  show WP 290 4 [(0, .ref 117)] [iV z5] _ _ _ _
  refine wp_z_eq jF_290_4 (m_rgb h6 rfl) rfl (pc2 := 7) ?_ ?_
  · intro h7
    clear p2
    refine wp_ic jF_290_18 rfl (pc2 := 19) ?_
    refine wp_ri jF_290_19 rfl ?_
    exact ⟨0, rfl, ⟨by omega, by omega⟩, rfl, (by omega)⟩
  · intro h7
    replace p2 := p2 (by omega)
    refine wp_al1 jF_290_7 rfl rfl (pc2 := 8) ?_
    refine wp_cV (as := []) (rest := []) (a := 117) (mx := 6) (ci := 12) jF_290_8 kd117 (by decide) rfl rfl rfl rfl rfl (by omega) (by omega) rfl (pc2 := 11) ?_
    have b8 := GI.b hg 143 4 kd143 (lo := 0) (hi := 16) rfl
    refine wp_use (m_258 σ hg  (by omega) (by omega) _ _ (by omega) (by omega)) ?_
    rintro _ _ ⟨z11, rfl, h12, rfl⟩
    show WP 290 11 [(0, .ref 117)] [iV z11] _ _ _ _
    refine wp_z_eq jF_290_11 (m_rgb h12 rfl) rfl (pc2 := 14) ?_ ?_
    · intro h13
      refine wp_ic jF_290_18 rfl (pc2 := 19) ?_
      refine wp_ri jF_290_19 rfl ?_
      exact ⟨0, rfl, ⟨by omega, by omega⟩, rfl, (by omega)⟩
    · intro h13
      refine wp_ic jF_290_14 rfl (pc2 := 15) ?_
      refine wp_go jF_290_15 ?_
      refine wp_ri jF_290_19 rfl ?_
      exact ⟨1, rfl, ⟨by omega, by omega⟩, rfl, (by omega)⟩
