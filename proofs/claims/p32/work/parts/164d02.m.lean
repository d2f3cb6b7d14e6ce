set_option maxHeartbeats 4000000 in
set_option maxRecDepth 20000 in
/-- Row.weighSentence -/
theorem m_83_r80_20 (σ : jM) (hg : GI σ)  (pre0 : (σ.1 80 8) ≤ 60) (fr lo : Nat) (hfr : 0 ≤ fr) (hlo : 0 ≤ lo) : WP 83 0 (lv_args 0 [.ref 80, .ref 20]) [] fr lo σ (fun v τ => ∃ z : Int64, v = some (.long z) ∧ GI τ ∧ FR Wra80 σ τ) := by
  show WP 83 0 [(0, .ref 80), (1, .ref 20)] [] _ _ _ _
  refine wp_al1 jF_83_0 rfl rfl (pc2 := 1) ?_
  refine wp_glA jF_83_1 kd20 (by decide) rfl rfl (pc2 := 4) ?_
  intro y1
  refine wp_ls1 (lv2 := [(0, .ref 80), (1, .ref 20), (2, .long y1)]) jF_83_4 rfl rfl rfl (pc2 := 5) ?_
  refine wp_lc jF_83_5 rfl (pc2 := 6) ?_
  refine wp_ls2 (lv2 := [(0, .ref 80), (1, .ref 20), (2, .long y1), (4, .long (Int64.ofNat 0))]) jF_83_6 rfl rfl rfl (pc2 := 8) ?_
  refine wp_ic jF_83_8 rfl (pc2 := 9) ?_
  refine wp_is2 (lv2 := [(0, .ref 80), (1, .ref 20), (2, .long y1), (4, .long (Int64.ofNat 0)), (6, iV 0)]) jF_83_9 rfl rfl rfl (pc2 := 11) ?_
  refine wp_ic jF_83_11 rfl (pc2 := 12) ?_
  refine wp_is2 (lv2 := [(0, .ref 80), (1, .ref 20), (2, .long y1), (4, .long (Int64.ofNat 0)), (6, iV 0), (7, iV 0)]) jF_83_12 rfl rfl rfl (pc2 := 14) ?_
  refine wp_ic jF_83_14 rfl (pc2 := 15) ?_
  refine wp_is2 (lv2 := [(0, .ref 80), (1, .ref 20), (2, .long y1), (4, .long (Int64.ofNat 0)), (6, iV 0), (7, iV 0), (8, iV 0)]) jF_83_15 rfl rfl rfl (pc2 := 17) ?_
  refine wp_loop (α := Int64 × Int64 × Int × Int × Int) (fun a => [(0, .ref 80), (1, .ref 20), (2, .long (a.1)), (4, .long (a.2.1)), (6, iV (a.2.2.1)), (7, iV (a.2.2.2.1)), (8, iV (a.2.2.2.2))]) (fun a τ => (0 ≤ a.2.2.1 ∧ a.2.2.1 ≤ 1) ∧ (0 ≤ a.2.2.2.1 ∧ a.2.2.2.1 ≤ 1) ∧ (0 ≤ a.2.2.2.2 ∧ a.2.2.2.2 ≤ 1) ∧ GI τ ∧ FR Wra80 σ τ ∧ ((τ.1 80 8) ≤ 60)) (fun a τ => Int.toNat (61 - (τ.1 80 8))) (y1, (Int64.ofNat 0), 0, 0, 0) σ ?_ ?_
  · skip
    have b2 := GI.b hg 80 8 kd80 (lo := 0) (hi := 61) rfl
    exact ⟨⟨by (try dsimp only); omega, by (try dsimp only); omega⟩, ⟨by (try dsimp only); omega, by (try dsimp only); omega⟩, ⟨by (try dsimp only); omega, by (try dsimp only); omega⟩, hg, FR.rf, (by (try dsimp only); omega)⟩
  · rintro ⟨y3, y4, x5, x6, x7⟩ τ11 ⟨h8, h9, h10, g12, f13, p14⟩ ih15
    try dsimp only at h8 h9 h10 g12 f13 p14
    have b16 := GI.b g12 80 8 kd80 (lo := 0) (hi := 61) rfl
    show WP 83 17 [(0, .ref 80), (1, .ref 20), (2, .long y3), (4, .long y4), (6, iV x5), (7, iV x6), (8, iV x7)] [] _ _ _ _
    show WP 83 17 [(0, .ref 80), (1, .ref 20), (2, .long y3), (4, .long y4), (6, iV x5), (7, iV x6), (8, iV x7)] [] _ _ _ _
    refine wp_al1 jF_83_17 rfl rfl (pc2 := 18) ?_
    refine wp_gi jF_83_18 kd80 (by decide) rfl rfl rfl (pc2 := 21) ?_
    refine wp_al1 jF_83_21 rfl rfl (pc2 := 22) ?_
    have b17 := GI.b hg 80 1 kd80 (lo := 0) (hi := 60) rfl
    refine wp_gi jF_83_22 kd80 (by decide) rfl (FR.at f13 80 1 rfl) rfl (pc2 := 25) ?_
    refine wp_i_ge jF_83_25 (m_rgb b16 rfl) (m_rgb b17 rfl) rfl (pc2 := 28) ?_ ?_
    · intro h18
      refine wp_al1 jF_83_185 rfl rfl (pc2 := 186) ?_
      refine wp_dup jF_83_186 rfl rfl (pc2 := 187) ?_
      refine wp_gi jF_83_187 kd80 (by decide) rfl rfl rfl (pc2 := 190) ?_
      refine wp_ic jF_83_190 rfl (pc2 := 191) ?_
      refine wp_add jF_83_191 rfl (pc2 := 192) ?_
      refine wp_pi jF_83_192 kd80 (by decide) rfl rfl rfl (pc2 := 195) g12 (lo := 0) (hi := 61) rfl (by omega) (by omega) ?_
      intro τ19 g20 f21 e22
      refine wp_il2 jF_83_195 rfl rfl (pc2 := 197) ?_
      refine wp_z_eq jF_83_197 (m_rgb h10 rfl) rfl (pc2 := 200) ?_ ?_
      · intro h23
        refine wp_ll2 jF_83_211 rfl rfl (pc2 := 213) ?_
        refine wp_al1 jF_83_213 rfl rfl (pc2 := 214) ?_
        refine wp_glA jF_83_214 kd20 (by decide) rfl rfl (pc2 := 217) ?_
        intro y24
        refine wp_lng (pc2 := 218) jF_83_217 rfl rfl ?_
        intro y25
        refine wp_rl jF_83_218 ?_
        exact ⟨y25, rfl, g20, (FR.w f13 f21 rfl)⟩
      · intro h23
        refine wp_ll1 jF_83_200 rfl rfl (pc2 := 201) ?_
        refine wp_ll2 jF_83_201 rfl rfl (pc2 := 203) ?_
        refine wp_ld jF_83_203 rfl (pc2 := 206) ?_
        refine wp_lng (pc2 := 207) jF_83_206 rfl rfl ?_
        intro y26
        refine wp_lng (pc2 := 208) jF_83_207 rfl rfl ?_
        intro y27
        refine wp_go jF_83_208 ?_
        refine wp_al1 jF_83_213 rfl rfl (pc2 := 214) ?_
        refine wp_glA jF_83_214 kd20 (by decide) rfl rfl (pc2 := 217) ?_
        intro y28
        refine wp_lng (pc2 := 218) jF_83_217 rfl rfl ?_
        intro y29
        refine wp_rl jF_83_218 ?_
        exact ⟨y29, rfl, g20, (FR.w f13 f21 rfl)⟩
    · intro h18
      refine wp_al1 jF_83_28 rfl rfl (pc2 := 29) ?_
      refine wp_gr (b := 81) jF_83_29 kd80 (by decide) (c := 4) rfl rfl rfl (pc2 := 32) ?_
      refine wp_al1 jF_83_32 rfl rfl (pc2 := 33) ?_
      refine wp_gi jF_83_33 kd80 (by decide) rfl rfl rfl (pc2 := 36) ?_
      have b30 := GI.b hg 81 (τ11.1 80 8).toNat kd81 (lo := 0) (hi := 255) rfl
      refine wp_iald (n := 60) (e := (σ.1 81 (τ11.1 80 8).toNat)) jF_83_36 kd81 (by decide) rfl rfl (by omega) (by omega) (FR.at f13 81 (τ11.1 80 8).toNat rfl) rfl (pc2 := 37) ?_
      refine wp_bi jF_83_37 (by decide) rfl (pc2 := 39) ?_
      refine wp_i_eq jF_83_39 (m_rgb b30 rfl) (m_rgl rfl) rfl (pc2 := 42) ?_ ?_
      · intro h31
        refine wp_al1 jF_83_185 rfl rfl (pc2 := 186) ?_
        refine wp_dup jF_83_186 rfl rfl (pc2 := 187) ?_
        refine wp_gi jF_83_187 kd80 (by decide) rfl rfl rfl (pc2 := 190) ?_
        refine wp_ic jF_83_190 rfl (pc2 := 191) ?_
        refine wp_add jF_83_191 rfl (pc2 := 192) ?_
        refine wp_pi jF_83_192 kd80 (by decide) rfl rfl rfl (pc2 := 195) g12 (lo := 0) (hi := 61) rfl (by omega) (by omega) ?_
        intro τ32 g33 f34 e35
        refine wp_il2 jF_83_195 rfl rfl (pc2 := 197) ?_
        refine wp_z_eq jF_83_197 (m_rgb h10 rfl) rfl (pc2 := 200) ?_ ?_
        · intro h36
          refine wp_ll2 jF_83_211 rfl rfl (pc2 := 213) ?_
          refine wp_al1 jF_83_213 rfl rfl (pc2 := 214) ?_
          refine wp_glA jF_83_214 kd20 (by decide) rfl rfl (pc2 := 217) ?_
          intro y37
          refine wp_lng (pc2 := 218) jF_83_217 rfl rfl ?_
          intro y38
          refine wp_rl jF_83_218 ?_
          exact ⟨y38, rfl, g33, (FR.w f13 f34 rfl)⟩
        · intro h36
          refine wp_ll1 jF_83_200 rfl rfl (pc2 := 201) ?_
          refine wp_ll2 jF_83_201 rfl rfl (pc2 := 203) ?_
          refine wp_ld jF_83_203 rfl (pc2 := 206) ?_
          refine wp_lng (pc2 := 207) jF_83_206 rfl rfl ?_
          intro y39
          refine wp_lng (pc2 := 208) jF_83_207 rfl rfl ?_
          intro y40
          refine wp_go jF_83_208 ?_
          refine wp_al1 jF_83_213 rfl rfl (pc2 := 214) ?_
          refine wp_glA jF_83_214 kd20 (by decide) rfl rfl (pc2 := 217) ?_
          intro y41
          refine wp_lng (pc2 := 218) jF_83_217 rfl rfl ?_
          intro y42
          refine wp_rl jF_83_218 ?_
          exact ⟨y42, rfl, g33, (FR.w f13 f34 rfl)⟩
      · intro h31
        refine wp_al1 jF_83_42 rfl rfl (pc2 := 43) ?_
        refine wp_gr (b := 81) jF_83_43 kd80 (by decide) (c := 4) rfl rfl rfl (pc2 := 46) ?_
        refine wp_al1 jF_83_46 rfl rfl (pc2 := 47) ?_
        refine wp_gi jF_83_47 kd80 (by decide) rfl rfl rfl (pc2 := 50) ?_
        refine wp_iald (n := 60) (e := (σ.1 81 (τ11.1 80 8).toNat)) jF_83_50 kd81 (by decide) rfl rfl (by omega) (by omega) (FR.at f13 81 (τ11.1 80 8).toNat rfl) rfl (pc2 := 51) ?_
        refine wp_is2 (lv2 := [(0, .ref 80), (1, .ref 20), (2, .long y3), (4, .long y4), (6, iV x5), (7, iV x6), (8, iV x7), (9, iV (σ.1 81 (τ11.1 80 8).toNat))]) jF_83_51 rfl rfl rfl (pc2 := 53) ?_
        refine wp_il2 jF_83_53 rfl rfl (pc2 := 55) ?_
        refine wp_bi jF_83_55 (by decide) rfl (pc2 := 57) ?_
        refine wp_i_ne jF_83_57 (m_rgb b30 rfl) (m_rgl rfl) rfl (pc2 := 60) ?_ ?_
        · intro h43
          refine wp_il2 jF_83_75 rfl rfl (pc2 := 77) ?_
          refine wp_bi jF_83_77 (by decide) rfl (pc2 := 79) ?_
          refine wp_i_ne jF_83_79 (m_rgb b30 rfl) (m_rgl rfl) rfl (pc2 := 82) ?_ ?_
          · intro h44
            refine wp_il2 jF_83_97 rfl rfl (pc2 := 99) ?_
            refine wp_bi jF_83_99 (by decide) rfl (pc2 := 101) ?_
            refine wp_i_lt jF_83_101 (m_rgb b30 rfl) (m_rgl rfl) rfl (pc2 := 104) ?_ ?_
            · intro h45
              refine wp_il2 jF_83_121 rfl rfl (pc2 := 123) ?_
              refine wp_z_eq jF_83_123 (m_rgb h9 rfl) rfl (pc2 := 126) ?_ ?_
              · intro h46
                refine wp_al1 jF_83_140 rfl rfl (pc2 := 141) ?_
                refine wp_gr (b := 26) jF_83_141 kd20 (by decide) (c := 9) rfl rfl rfl (pc2 := 144) ?_
                refine wp_il2 jF_83_144 rfl rfl (pc2 := 146) ?_
                refine wp_lald (n := 18) jF_83_146 kd26 (by decide) rfl rfl (by omega) (by omega) rfl (pc2 := 147) ?_
                intro y47
                refine wp_ls2 (lv2 := [(0, .ref 80), (1, .ref 20), (2, .long y3), (4, .long y4), (6, iV x5), (7, iV x6), (8, iV x7), (9, iV (σ.1 81 (τ11.1 80 8).toNat)), (10, .long y47)]) jF_83_147 rfl rfl rfl (pc2 := 149) ?_
                refine wp_il2 jF_83_149 rfl rfl (pc2 := 151) ?_
                refine wp_z_eq jF_83_151 (m_rgb h8 rfl) rfl (pc2 := 154) ?_ ?_
                · intro h48
                  refine wp_ll2 jF_83_162 rfl rfl (pc2 := 164) ?_
                  refine wp_ll2 jF_83_164 rfl rfl (pc2 := 166) ?_
                  refine wp_lng (pc2 := 167) jF_83_166 rfl rfl ?_
                  intro y49
                  refine wp_ls2 (lv2 := [(0, .ref 80), (1, .ref 20), (2, .long y3), (4, .long y49), (6, iV x5), (7, iV x6), (8, iV x7), (9, iV (σ.1 81 (τ11.1 80 8).toNat)), (10, .long y47)]) jF_83_167 rfl rfl rfl (pc2 := 169) ?_
                  refine wp_ic jF_83_169 rfl (pc2 := 170) ?_
                  refine wp_is2 (lv2 := [(0, .ref 80), (1, .ref 20), (2, .long y3), (4, .long y49), (6, iV x5), (7, iV 0), (8, iV x7), (9, iV (σ.1 81 (τ11.1 80 8).toNat)), (10, .long y47)]) jF_83_170 rfl rfl rfl (pc2 := 172) ?_
                  refine wp_al1 jF_83_172 rfl rfl (pc2 := 173) ?_
                  refine wp_dup jF_83_173 rfl rfl (pc2 := 174) ?_
                  refine wp_gi jF_83_174 kd80 (by decide) rfl rfl rfl (pc2 := 177) ?_
                  refine wp_ic jF_83_177 rfl (pc2 := 178) ?_
                  refine wp_add jF_83_178 rfl (pc2 := 179) ?_
                  refine wp_pi jF_83_179 kd80 (by decide) rfl rfl rfl (pc2 := 182) g12 (lo := 0) (hi := 61) rfl (by omega) (by omega) ?_
                  intro τ50 g51 f52 e53
                  refine wp_go jF_83_182 ?_
                  have q54 : (τ50.1 80 8) = ((τ11.1 80 8) + 1) := e53
                  refine wp_less [0, 1, 2, 4, 6, 7, 8] (lv2 := [(0, .ref 80), (1, .ref 20), (2, .long y3), (4, .long y49), (6, iV x5), (7, iV 0), (8, iV x7)]) rfl rfl ?_
                  exact ih15 (y3, y49, x5, 0, x7) τ50 ⟨⟨by (try dsimp only); omega, by (try dsimp only); omega⟩, ⟨by (try dsimp only); omega, by (try dsimp only); omega⟩, ⟨by (try dsimp only); omega, by (try dsimp only); omega⟩, g51, (FR.w f13 f52 rfl), (by (try dsimp only); omega)⟩ (by show Int.toNat (61 - (τ50.1 80 8)) < Int.toNat (61 - (τ11.1 80 8)); omega)
                · intro h48
                  refine wp_ll2 jF_83_154 rfl rfl (pc2 := 156) ?_
                  refine wp_ll2 jF_83_156 rfl rfl (pc2 := 158) ?_
                  refine wp_lng (pc2 := 159) jF_83_158 rfl rfl ?_
                  intro y55
                  refine wp_go jF_83_159 ?_
                  refine wp_ls2 (lv2 := [(0, .ref 80), (1, .ref 20), (2, .long y3), (4, .long y55), (6, iV x5), (7, iV x6), (8, iV x7), (9, iV (σ.1 81 (τ11.1 80 8).toNat)), (10, .long y47)]) jF_83_167 rfl rfl rfl (pc2 := 169) ?_
                  refine wp_ic jF_83_169 rfl (pc2 := 170) ?_
                  refine wp_is2 (lv2 := [(0, .ref 80), (1, .ref 20), (2, .long y3), (4, .long y55), (6, iV x5), (7, iV 0), (8, iV x7), (9, iV (σ.1 81 (τ11.1 80 8).toNat)), (10, .long y47)]) jF_83_170 rfl rfl rfl (pc2 := 172) ?_
                  refine wp_al1 jF_83_172 rfl rfl (pc2 := 173) ?_
                  refine wp_dup jF_83_173 rfl rfl (pc2 := 174) ?_
                  refine wp_gi jF_83_174 kd80 (by decide) rfl rfl rfl (pc2 := 177) ?_
                  refine wp_ic jF_83_177 rfl (pc2 := 178) ?_
                  refine wp_add jF_83_178 rfl (pc2 := 179) ?_
                  refine wp_pi jF_83_179 kd80 (by decide) rfl rfl rfl (pc2 := 182) g12 (lo := 0) (hi := 61) rfl (by omega) (by omega) ?_
                  intro τ56 g57 f58 e59
                  refine wp_go jF_83_182 ?_
                  have q60 : (τ56.1 80 8) = ((τ11.1 80 8) + 1) := e59
                  refine wp_less [0, 1, 2, 4, 6, 7, 8] (lv2 := [(0, .ref 80), (1, .ref 20), (2, .long y3), (4, .long y55), (6, iV x5), (7, iV 0), (8, iV x7)]) rfl rfl ?_
                  exact ih15 (y3, y55, x5, 0, x7) τ56 ⟨⟨by (try dsimp only); omega, by (try dsimp only); omega⟩, ⟨by (try dsimp only); omega, by (try dsimp only); omega⟩, ⟨by (try dsimp only); omega, by (try dsimp only); omega⟩, g57, (FR.w f13 f58 rfl), (by (try dsimp only); omega)⟩ (by show Int.toNat (61 - (τ56.1 80 8)) < Int.toNat (61 - (τ11.1 80 8)); omega)
              · intro h46
                refine wp_al1 jF_83_126 rfl rfl (pc2 := 127) ?_
                refine wp_gr (b := 26) jF_83_127 kd20 (by decide) (c := 9) rfl rfl rfl (pc2 := 130) ?_
                refine wp_il2 jF_83_130 rfl rfl (pc2 := 132) ?_
                refine wp_lald (n := 18) jF_83_132 kd26 (by decide) rfl rfl (by omega) (by omega) rfl (pc2 := 133) ?_
                intro y61
                refine wp_ld jF_83_133 rfl (pc2 := 136) ?_
                refine wp_lng (pc2 := 137) jF_83_136 rfl rfl ?_
                intro y62
                refine wp_go jF_83_137 ?_
                refine wp_ls2 (lv2 := [(0, .ref 80), (1, .ref 20), (2, .long y3), (4, .long y4), (6, iV x5), (7, iV x6), (8, iV x7), (9, iV (σ.1 81 (τ11.1 80 8).toNat)), (10, .long y62)]) jF_83_147 rfl rfl rfl (pc2 := 149) ?_
                refine wp_il2 jF_83_149 rfl rfl (pc2 := 151) ?_
                refine wp_z_eq jF_83_151 (m_rgb h8 rfl) rfl (pc2 := 154) ?_ ?_
                · intro h63
                  refine wp_ll2 jF_83_162 rfl rfl (pc2 := 164) ?_
                  refine wp_ll2 jF_83_164 rfl rfl (pc2 := 166) ?_
                  refine wp_lng (pc2 := 167) jF_83_166 rfl rfl ?_
                  intro y64
                  refine wp_ls2 (lv2 := [(0, .ref 80), (1, .ref 20), (2, .long y3), (4, .long y64), (6, iV x5), (7, iV x6), (8, iV x7), (9, iV (σ.1 81 (τ11.1 80 8).toNat)), (10, .long y62)]) jF_83_167 rfl rfl rfl (pc2 := 169) ?_
                  refine wp_ic jF_83_169 rfl (pc2 := 170) ?_
                  refine wp_is2 (lv2 := [(0, .ref 80), (1, .ref 20), (2, .long y3), (4, .long y64), (6, iV x5), (7, iV 0), (8, iV x7), (9, iV (σ.1 81 (τ11.1 80 8).toNat)), (10, .long y62)]) jF_83_170 rfl rfl rfl (pc2 := 172) ?_
                  refine wp_al1 jF_83_172 rfl rfl (pc2 := 173) ?_
                  refine wp_dup jF_83_173 rfl rfl (pc2 := 174) ?_
                  refine wp_gi jF_83_174 kd80 (by decide) rfl rfl rfl (pc2 := 177) ?_
                  refine wp_ic jF_83_177 rfl (pc2 := 178) ?_
                  refine wp_add jF_83_178 rfl (pc2 := 179) ?_
                  refine wp_pi jF_83_179 kd80 (by decide) rfl rfl rfl (pc2 := 182) g12 (lo := 0) (hi := 61) rfl (by omega) (by omega) ?_
                  intro τ65 g66 f67 e68
                  refine wp_go jF_83_182 ?_
                  have q69 : (τ65.1 80 8) = ((τ11.1 80 8) + 1) := e68
                  refine wp_less [0, 1, 2, 4, 6, 7, 8] (lv2 := [(0, .ref 80), (1, .ref 20), (2, .long y3), (4, .long y64), (6, iV x5), (7, iV 0), (8, iV x7)]) rfl rfl ?_
                  exact ih15 (y3, y64, x5, 0, x7) τ65 ⟨⟨by (try dsimp only); omega, by (try dsimp only); omega⟩, ⟨by (try dsimp only); omega, by (try dsimp only); omega⟩, ⟨by (try dsimp only); omega, by (try dsimp only); omega⟩, g66, (FR.w f13 f67 rfl), (by (try dsimp only); omega)⟩ (by show Int.toNat (61 - (τ65.1 80 8)) < Int.toNat (61 - (τ11.1 80 8)); omega)
                · intro h63
                  refine wp_ll2 jF_83_154 rfl rfl (pc2 := 156) ?_
                  refine wp_ll2 jF_83_156 rfl rfl (pc2 := 158) ?_
                  refine wp_lng (pc2 := 159) jF_83_158 rfl rfl ?_
                  intro y70
                  refine wp_go jF_83_159 ?_
                  refine wp_ls2 (lv2 := [(0, .ref 80), (1, .ref 20), (2, .long y3), (4, .long y70), (6, iV x5), (7, iV x6), (8, iV x7), (9, iV (σ.1 81 (τ11.1 80 8).toNat)), (10, .long y62)]) jF_83_167 rfl rfl rfl (pc2 := 169) ?_
                  refine wp_ic jF_83_169 rfl (pc2 := 170) ?_
                  refine wp_is2 (lv2 := [(0, .ref 80), (1, .ref 20), (2, .long y3), (4, .long y70), (6, iV x5), (7, iV 0), (8, iV x7), (9, iV (σ.1 81 (τ11.1 80 8).toNat)), (10, .long y62)]) jF_83_170 rfl rfl rfl (pc2 := 172) ?_
                  refine wp_al1 jF_83_172 rfl rfl (pc2 := 173) ?_
                  refine wp_dup jF_83_173 rfl rfl (pc2 := 174) ?_
                  refine wp_gi jF_83_174 kd80 (by decide) rfl rfl rfl (pc2 := 177) ?_
                  refine wp_ic jF_83_177 rfl (pc2 := 178) ?_
                  refine wp_add jF_83_178 rfl (pc2 := 179) ?_
                  refine wp_pi jF_83_179 kd80 (by decide) rfl rfl rfl (pc2 := 182) g12 (lo := 0) (hi := 61) rfl (by omega) (by omega) ?_
                  intro τ71 g72 f73 e74
                  refine wp_go jF_83_182 ?_
                  have q75 : (τ71.1 80 8) = ((τ11.1 80 8) + 1) := e74
                  refine wp_less [0, 1, 2, 4, 6, 7, 8] (lv2 := [(0, .ref 80), (1, .ref 20), (2, .long y3), (4, .long y70), (6, iV x5), (7, iV 0), (8, iV x7)]) rfl rfl ?_
                  exact ih15 (y3, y70, x5, 0, x7) τ71 ⟨⟨by (try dsimp only); omega, by (try dsimp only); omega⟩, ⟨by (try dsimp only); omega, by (try dsimp only); omega⟩, ⟨by (try dsimp only); omega, by (try dsimp only); omega⟩, g72, (FR.w f13 f73 rfl), (by (try dsimp only); omega)⟩ (by show Int.toNat (61 - (τ71.1 80 8)) < Int.toNat (61 - (τ11.1 80 8)); omega)
            · intro h45
              refine wp_il2 jF_83_104 rfl rfl (pc2 := 106) ?_
              refine wp_bi jF_83_106 (by decide) rfl (pc2 := 108) ?_
              refine wp_i_ne jF_83_108 ⟨by omega, by omega⟩ (m_rgl rfl) rfl (pc2 := 111) ?_ ?_
              · intro h76
                refine wp_ic jF_83_115 rfl (pc2 := 116) ?_
                refine wp_is2 (lv2 := [(0, .ref 80), (1, .ref 20), (2, .long y3), (4, .long y4), (6, iV 0), (7, iV x6), (8, iV x7), (9, iV (σ.1 81 (τ11.1 80 8).toNat))]) jF_83_116 rfl rfl rfl (pc2 := 118) ?_
                refine wp_go jF_83_118 ?_
                refine wp_al1 jF_83_172 rfl rfl (pc2 := 173) ?_
                refine wp_dup jF_83_173 rfl rfl (pc2 := 174) ?_
                refine wp_gi jF_83_174 kd80 (by decide) rfl rfl rfl (pc2 := 177) ?_
                refine wp_ic jF_83_177 rfl (pc2 := 178) ?_
                refine wp_add jF_83_178 rfl (pc2 := 179) ?_
                refine wp_pi jF_83_179 kd80 (by decide) rfl rfl rfl (pc2 := 182) g12 (lo := 0) (hi := 61) rfl (by omega) (by omega) ?_
                intro τ77 g78 f79 e80
                refine wp_go jF_83_182 ?_
                have q81 : (τ77.1 80 8) = ((τ11.1 80 8) + 1) := e80
                refine wp_less [0, 1, 2, 4, 6, 7, 8] (lv2 := [(0, .ref 80), (1, .ref 20), (2, .long y3), (4, .long y4), (6, iV 0), (7, iV x6), (8, iV x7)]) rfl rfl ?_
                exact ih15 (y3, y4, 0, x6, x7) τ77 ⟨⟨by (try dsimp only); omega, by (try dsimp only); omega⟩, ⟨by (try dsimp only); omega, by (try dsimp only); omega⟩, ⟨by (try dsimp only); omega, by (try dsimp only); omega⟩, g78, (FR.w f13 f79 rfl), (by (try dsimp only); omega)⟩ (by show Int.toNat (61 - (τ77.1 80 8)) < Int.toNat (61 - (τ11.1 80 8)); omega)
              · intro h76
                refine wp_ic jF_83_111 rfl (pc2 := 112) ?_
                refine wp_go jF_83_112 ?_
                refine wp_is2 (lv2 := [(0, .ref 80), (1, .ref 20), (2, .long y3), (4, .long y4), (6, iV 1), (7, iV x6), (8, iV x7), (9, iV (σ.1 81 (τ11.1 80 8).toNat))]) jF_83_116 rfl rfl rfl (pc2 := 118) ?_
                refine wp_go jF_83_118 ?_
                refine wp_al1 jF_83_172 rfl rfl (pc2 := 173) ?_
                refine wp_dup jF_83_173 rfl rfl (pc2 := 174) ?_
                refine wp_gi jF_83_174 kd80 (by decide) rfl rfl rfl (pc2 := 177) ?_
                refine wp_ic jF_83_177 rfl (pc2 := 178) ?_
                refine wp_add jF_83_178 rfl (pc2 := 179) ?_
                refine wp_pi jF_83_179 kd80 (by decide) rfl rfl rfl (pc2 := 182) g12 (lo := 0) (hi := 61) rfl (by omega) (by omega) ?_
                intro τ82 g83 f84 e85
                refine wp_go jF_83_182 ?_
                have q86 : (τ82.1 80 8) = ((τ11.1 80 8) + 1) := e85
                refine wp_less [0, 1, 2, 4, 6, 7, 8] (lv2 := [(0, .ref 80), (1, .ref 20), (2, .long y3), (4, .long y4), (6, iV 1), (7, iV x6), (8, iV x7)]) rfl rfl ?_
                exact ih15 (y3, y4, 1, x6, x7) τ82 ⟨⟨by (try dsimp only); omega, by (try dsimp only); omega⟩, ⟨by (try dsimp only); omega, by (try dsimp only); omega⟩, ⟨by (try dsimp only); omega, by (try dsimp only); omega⟩, g83, (FR.w f13 f84 rfl), (by (try dsimp only); omega)⟩ (by show Int.toNat (61 - (τ82.1 80 8)) < Int.toNat (61 - (τ11.1 80 8)); omega)
          · intro h44
            refine wp_ll2 jF_83_82 rfl rfl (pc2 := 84) ?_
            refine wp_ls1 (lv2 := [(0, .ref 80), (1, .ref 20), (2, .long y4), (4, .long y4), (6, iV x5), (7, iV x6), (8, iV x7), (9, iV (σ.1 81 (τ11.1 80 8).toNat))]) jF_83_84 rfl rfl rfl (pc2 := 85) ?_
            refine wp_lc jF_83_85 rfl (pc2 := 86) ?_
            refine wp_ls2 (lv2 := [(0, .ref 80), (1, .ref 20), (2, .long y4), (4, .long (Int64.ofNat 0)), (6, iV x5), (7, iV x6), (8, iV x7), (9, iV (σ.1 81 (τ11.1 80 8).toNat))]) jF_83_86 rfl rfl rfl (pc2 := 88) ?_
            refine wp_ic jF_83_88 rfl (pc2 := 89) ?_
            refine wp_is2 (lv2 := [(0, .ref 80), (1, .ref 20), (2, .long y4), (4, .long (Int64.ofNat 0)), (6, iV 0), (7, iV x6), (8, iV x7), (9, iV (σ.1 81 (τ11.1 80 8).toNat))]) jF_83_89 rfl rfl rfl (pc2 := 91) ?_
            refine wp_ic jF_83_91 rfl (pc2 := 92) ?_
            refine wp_is2 (lv2 := [(0, .ref 80), (1, .ref 20), (2, .long y4), (4, .long (Int64.ofNat 0)), (6, iV 0), (7, iV x6), (8, iV 1), (9, iV (σ.1 81 (τ11.1 80 8).toNat))]) jF_83_92 rfl rfl rfl (pc2 := 94) ?_
            refine wp_go jF_83_94 ?_
            refine wp_al1 jF_83_172 rfl rfl (pc2 := 173) ?_
            refine wp_dup jF_83_173 rfl rfl (pc2 := 174) ?_
            refine wp_gi jF_83_174 kd80 (by decide) rfl rfl rfl (pc2 := 177) ?_
            refine wp_ic jF_83_177 rfl (pc2 := 178) ?_
            refine wp_add jF_83_178 rfl (pc2 := 179) ?_
            refine wp_pi jF_83_179 kd80 (by decide) rfl rfl rfl (pc2 := 182) g12 (lo := 0) (hi := 61) rfl (by omega) (by omega) ?_
            intro τ87 g88 f89 e90
            refine wp_go jF_83_182 ?_
            have q91 : (τ87.1 80 8) = ((τ11.1 80 8) + 1) := e90
            refine wp_less [0, 1, 2, 4, 6, 7, 8] (lv2 := [(0, .ref 80), (1, .ref 20), (2, .long y4), (4, .long (Int64.ofNat 0)), (6, iV 0), (7, iV x6), (8, iV 1)]) rfl rfl ?_
            exact ih15 (y4, (Int64.ofNat 0), 0, x6, 1) τ87 ⟨⟨by (try dsimp only); omega, by (try dsimp only); omega⟩, ⟨by (try dsimp only); omega, by (try dsimp only); omega⟩, ⟨by (try dsimp only); omega, by (try dsimp only); omega⟩, g88, (FR.w f13 f89 rfl), (by (try dsimp only); omega)⟩ (by show Int.toNat (61 - (τ87.1 80 8)) < Int.toNat (61 - (τ11.1 80 8)); omega)
        · intro h43
          refine wp_il2 jF_83_60 rfl rfl (pc2 := 62) ?_
          refine wp_z_ne jF_83_62 (m_rgb h9 rfl) rfl (pc2 := 65) ?_ ?_
          · intro h92
            refine wp_ic jF_83_69 rfl (pc2 := 70) ?_
            refine wp_is2 (lv2 := [(0, .ref 80), (1, .ref 20), (2, .long y3), (4, .long y4), (6, iV x5), (7, iV 0), (8, iV x7), (9, iV (σ.1 81 (τ11.1 80 8).toNat))]) jF_83_70 rfl rfl rfl (pc2 := 72) ?_
            refine wp_go jF_83_72 ?_
            refine wp_al1 jF_83_172 rfl rfl (pc2 := 173) ?_
            refine wp_dup jF_83_173 rfl rfl (pc2 := 174) ?_
            refine wp_gi jF_83_174 kd80 (by decide) rfl rfl rfl (pc2 := 177) ?_
            refine wp_ic jF_83_177 rfl (pc2 := 178) ?_
            refine wp_add jF_83_178 rfl (pc2 := 179) ?_
            refine wp_pi jF_83_179 kd80 (by decide) rfl rfl rfl (pc2 := 182) g12 (lo := 0) (hi := 61) rfl (by omega) (by omega) ?_
            intro τ93 g94 f95 e96
            refine wp_go jF_83_182 ?_
            have q97 : (τ93.1 80 8) = ((τ11.1 80 8) + 1) := e96
            refine wp_less [0, 1, 2, 4, 6, 7, 8] (lv2 := [(0, .ref 80), (1, .ref 20), (2, .long y3), (4, .long y4), (6, iV x5), (7, iV 0), (8, iV x7)]) rfl rfl ?_
            exact ih15 (y3, y4, x5, 0, x7) τ93 ⟨⟨by (try dsimp only); omega, by (try dsimp only); omega⟩, ⟨by (try dsimp only); omega, by (try dsimp only); omega⟩, ⟨by (try dsimp only); omega, by (try dsimp only); omega⟩, g94, (FR.w f13 f95 rfl), (by (try dsimp only); omega)⟩ (by show Int.toNat (61 - (τ93.1 80 8)) < Int.toNat (61 - (τ11.1 80 8)); omega)
          · intro h92
            refine wp_ic jF_83_65 rfl (pc2 := 66) ?_
            refine wp_go jF_83_66 ?_
            refine wp_is2 (lv2 := [(0, .ref 80), (1, .ref 20), (2, .long y3), (4, .long y4), (6, iV x5), (7, iV 1), (8, iV x7), (9, iV (σ.1 81 (τ11.1 80 8).toNat))]) jF_83_70 rfl rfl rfl (pc2 := 72) ?_
            refine wp_go jF_83_72 ?_
            refine wp_al1 jF_83_172 rfl rfl (pc2 := 173) ?_
            refine wp_dup jF_83_173 rfl rfl (pc2 := 174) ?_
            refine wp_gi jF_83_174 kd80 (by decide) rfl rfl rfl (pc2 := 177) ?_
            refine wp_ic jF_83_177 rfl (pc2 := 178) ?_
            refine wp_add jF_83_178 rfl (pc2 := 179) ?_
            refine wp_pi jF_83_179 kd80 (by decide) rfl rfl rfl (pc2 := 182) g12 (lo := 0) (hi := 61) rfl (by omega) (by omega) ?_
            intro τ98 g99 f100 e101
            refine wp_go jF_83_182 ?_
            have q102 : (τ98.1 80 8) = ((τ11.1 80 8) + 1) := e101
            refine wp_less [0, 1, 2, 4, 6, 7, 8] (lv2 := [(0, .ref 80), (1, .ref 20), (2, .long y3), (4, .long y4), (6, iV x5), (7, iV 1), (8, iV x7)]) rfl rfl ?_
            exact ih15 (y3, y4, x5, 1, x7) τ98 ⟨⟨by (try dsimp only); omega, by (try dsimp only); omega⟩, ⟨by (try dsimp only); omega, by (try dsimp only); omega⟩, ⟨by (try dsimp only); omega, by (try dsimp only); omega⟩, g99, (FR.w f13 f100 rfl), (by (try dsimp only); omega)⟩ (by show Int.toNat (61 - (τ98.1 80 8)) < Int.toNat (61 - (τ11.1 80 8)); omega)
set_option maxHeartbeats 4000000 in
set_option maxRecDepth 20000 in
/-- Row.weighSentence -/
theorem m_83_r80_45 (σ : jM) (hg : GI σ)  (pre0 : (σ.1 80 8) ≤ 60) (fr lo : Nat) (hfr : 0 ≤ fr) (hlo : 0 ≤ lo) : WP 83 0 (lv_args 0 [.ref 80, .ref 45]) [] fr lo σ (fun v τ => ∃ z : Int64, v = some (.long z) ∧ GI τ ∧ FR Wra80 σ τ) := by
  show WP 83 0 [(0, .ref 80), (1, .ref 45)] [] _ _ _ _
  refine wp_al1 jF_83_0 rfl rfl (pc2 := 1) ?_
  refine wp_glA jF_83_1 kd45 (by decide) rfl rfl (pc2 := 4) ?_
  intro y1
  refine wp_ls1 (lv2 := [(0, .ref 80), (1, .ref 45), (2, .long y1)]) jF_83_4 rfl rfl rfl (pc2 := 5) ?_
  refine wp_lc jF_83_5 rfl (pc2 := 6) ?_
  refine wp_ls2 (lv2 := [(0, .ref 80), (1, .ref 45), (2, .long y1), (4, .long (Int64.ofNat 0))]) jF_83_6 rfl rfl rfl (pc2 := 8) ?_
  refine wp_ic jF_83_8 rfl (pc2 := 9) ?_
  refine wp_is2 (lv2 := [(0, .ref 80), (1, .ref 45), (2, .long y1), (4, .long (Int64.ofNat 0)), (6, iV 0)]) jF_83_9 rfl rfl rfl (pc2 := 11) ?_
  refine wp_ic jF_83_11 rfl (pc2 := 12) ?_
  refine wp_is2 (lv2 := [(0, .ref 80), (1, .ref 45), (2, .long y1), (4, .long (Int64.ofNat 0)), (6, iV 0), (7, iV 0)]) jF_83_12 rfl rfl rfl (pc2 := 14) ?_
  refine wp_ic jF_83_14 rfl (pc2 := 15) ?_
  refine wp_is2 (lv2 := [(0, .ref 80), (1, .ref 45), (2, .long y1), (4, .long (Int64.ofNat 0)), (6, iV 0), (7, iV 0), (8, iV 0)]) jF_83_15 rfl rfl rfl (pc2 := 17) ?_
  refine wp_loop (α := Int64 × Int64 × Int × Int × Int) (fun a => [(0, .ref 80), (1, .ref 45), (2, .long (a.1)), (4, .long (a.2.1)), (6, iV (a.2.2.1)), (7, iV (a.2.2.2.1)), (8, iV (a.2.2.2.2))]) (fun a τ => (0 ≤ a.2.2.1 ∧ a.2.2.1 ≤ 1) ∧ (0 ≤ a.2.2.2.1 ∧ a.2.2.2.1 ≤ 1) ∧ (0 ≤ a.2.2.2.2 ∧ a.2.2.2.2 ≤ 1) ∧ GI τ ∧ FR Wra80 σ τ ∧ ((τ.1 80 8) ≤ 60)) (fun a τ => Int.toNat (61 - (τ.1 80 8))) (y1, (Int64.ofNat 0), 0, 0, 0) σ ?_ ?_
  · skip
    have b2 := GI.b hg 80 8 kd80 (lo := 0) (hi := 61) rfl
    exact ⟨⟨by (try dsimp only); omega, by (try dsimp only); omega⟩, ⟨by (try dsimp only); omega, by (try dsimp only); omega⟩, ⟨by (try dsimp only); omega, by (try dsimp only); omega⟩, hg, FR.rf, (by (try dsimp only); omega)⟩
  · rintro ⟨y3, y4, x5, x6, x7⟩ τ11 ⟨h8, h9, h10, g12, f13, p14⟩ ih15
    try dsimp only at h8 h9 h10 g12 f13 p14
    have b16 := GI.b g12 80 8 kd80 (lo := 0) (hi := 61) rfl
    show WP 83 17 [(0, .ref 80), (1, .ref 45), (2, .long y3), (4, .long y4), (6, iV x5), (7, iV x6), (8, iV x7)] [] _ _ _ _
    show WP 83 17 [(0, .ref 80), (1, .ref 45), (2, .long y3), (4, .long y4), (6, iV x5), (7, iV x6), (8, iV x7)] [] _ _ _ _
    refine wp_al1 jF_83_17 rfl rfl (pc2 := 18) ?_
    refine wp_gi jF_83_18 kd80 (by decide) rfl rfl rfl (pc2 := 21) ?_
    refine wp_al1 jF_83_21 rfl rfl (pc2 := 22) ?_
    have b17 := GI.b hg 80 1 kd80 (lo := 0) (hi := 60) rfl
    refine wp_gi jF_83_22 kd80 (by decide) rfl (FR.at f13 80 1 rfl) rfl (pc2 := 25) ?_
    refine wp_i_ge jF_83_25 (m_rgb b16 rfl) (m_rgb b17 rfl) rfl (pc2 := 28) ?_ ?_
    · intro h18
      refine wp_al1 jF_83_185 rfl rfl (pc2 := 186) ?_
      refine wp_dup jF_83_186 rfl rfl (pc2 := 187) ?_
      refine wp_gi jF_83_187 kd80 (by decide) rfl rfl rfl (pc2 := 190) ?_
      refine wp_ic jF_83_190 rfl (pc2 := 191) ?_
      refine wp_add jF_83_191 rfl (pc2 := 192) ?_
      refine wp_pi jF_83_192 kd80 (by decide) rfl rfl rfl (pc2 := 195) g12 (lo := 0) (hi := 61) rfl (by omega) (by omega) ?_
      intro τ19 g20 f21 e22
      refine wp_il2 jF_83_195 rfl rfl (pc2 := 197) ?_
      refine wp_z_eq jF_83_197 (m_rgb h10 rfl) rfl (pc2 := 200) ?_ ?_
      · intro h23
        refine wp_ll2 jF_83_211 rfl rfl (pc2 := 213) ?_
        refine wp_al1 jF_83_213 rfl rfl (pc2 := 214) ?_
        refine wp_glA jF_83_214 kd45 (by decide) rfl rfl (pc2 := 217) ?_
        intro y24
        refine wp_lng (pc2 := 218) jF_83_217 rfl rfl ?_
        intro y25
        refine wp_rl jF_83_218 ?_
        exact ⟨y25, rfl, g20, (FR.w f13 f21 rfl)⟩
      · intro h23
        refine wp_ll1 jF_83_200 rfl rfl (pc2 := 201) ?_
        refine wp_ll2 jF_83_201 rfl rfl (pc2 := 203) ?_
        refine wp_ld jF_83_203 rfl (pc2 := 206) ?_
        refine wp_lng (pc2 := 207) jF_83_206 rfl rfl ?_
        intro y26
        refine wp_lng (pc2 := 208) jF_83_207 rfl rfl ?_
        intro y27
        refine wp_go jF_83_208 ?_
        refine wp_al1 jF_83_213 rfl rfl (pc2 := 214) ?_
        refine wp_glA jF_83_214 kd45 (by decide) rfl rfl (pc2 := 217) ?_
        intro y28
        refine wp_lng (pc2 := 218) jF_83_217 rfl rfl ?_
        intro y29
        refine wp_rl jF_83_218 ?_
        exact ⟨y29, rfl, g20, (FR.w f13 f21 rfl)⟩
    · intro h18
      refine wp_al1 jF_83_28 rfl rfl (pc2 := 29) ?_
      refine wp_gr (b := 81) jF_83_29 kd80 (by decide) (c := 4) rfl rfl rfl (pc2 := 32) ?_
      refine wp_al1 jF_83_32 rfl rfl (pc2 := 33) ?_
      refine wp_gi jF_83_33 kd80 (by decide) rfl rfl rfl (pc2 := 36) ?_
      have b30 := GI.b hg 81 (τ11.1 80 8).toNat kd81 (lo := 0) (hi := 255) rfl
      refine wp_iald (n := 60) (e := (σ.1 81 (τ11.1 80 8).toNat)) jF_83_36 kd81 (by decide) rfl rfl (by omega) (by omega) (FR.at f13 81 (τ11.1 80 8).toNat rfl) rfl (pc2 := 37) ?_
      refine wp_bi jF_83_37 (by decide) rfl (pc2 := 39) ?_
      refine wp_i_eq jF_83_39 (m_rgb b30 rfl) (m_rgl rfl) rfl (pc2 := 42) ?_ ?_
      · intro h31
        refine wp_al1 jF_83_185 rfl rfl (pc2 := 186) ?_
        refine wp_dup jF_83_186 rfl rfl (pc2 := 187) ?_
        refine wp_gi jF_83_187 kd80 (by decide) rfl rfl rfl (pc2 := 190) ?_
        refine wp_ic jF_83_190 rfl (pc2 := 191) ?_
        refine wp_add jF_83_191 rfl (pc2 := 192) ?_
        refine wp_pi jF_83_192 kd80 (by decide) rfl rfl rfl (pc2 := 195) g12 (lo := 0) (hi := 61) rfl (by omega) (by omega) ?_
        intro τ32 g33 f34 e35
        refine wp_il2 jF_83_195 rfl rfl (pc2 := 197) ?_
        refine wp_z_eq jF_83_197 (m_rgb h10 rfl) rfl (pc2 := 200) ?_ ?_
        · intro h36
          refine wp_ll2 jF_83_211 rfl rfl (pc2 := 213) ?_
          refine wp_al1 jF_83_213 rfl rfl (pc2 := 214) ?_
          refine wp_glA jF_83_214 kd45 (by decide) rfl rfl (pc2 := 217) ?_
          intro y37
          refine wp_lng (pc2 := 218) jF_83_217 rfl rfl ?_
          intro y38
          refine wp_rl jF_83_218 ?_
          exact ⟨y38, rfl, g33, (FR.w f13 f34 rfl)⟩
        · intro h36
          refine wp_ll1 jF_83_200 rfl rfl (pc2 := 201) ?_
          refine wp_ll2 jF_83_201 rfl rfl (pc2 := 203) ?_
          refine wp_ld jF_83_203 rfl (pc2 := 206) ?_
          refine wp_lng (pc2 := 207) jF_83_206 rfl rfl ?_
          intro y39
          refine wp_lng (pc2 := 208) jF_83_207 rfl rfl ?_
          intro y40
          refine wp_go jF_83_208 ?_
          refine wp_al1 jF_83_213 rfl rfl (pc2 := 214) ?_
          refine wp_glA jF_83_214 kd45 (by decide) rfl rfl (pc2 := 217) ?_
          intro y41
          refine wp_lng (pc2 := 218) jF_83_217 rfl rfl ?_
          intro y42
          refine wp_rl jF_83_218 ?_
          exact ⟨y42, rfl, g33, (FR.w f13 f34 rfl)⟩
      · intro h31
        refine wp_al1 jF_83_42 rfl rfl (pc2 := 43) ?_
        refine wp_gr (b := 81) jF_83_43 kd80 (by decide) (c := 4) rfl rfl rfl (pc2 := 46) ?_
        refine wp_al1 jF_83_46 rfl rfl (pc2 := 47) ?_
        refine wp_gi jF_83_47 kd80 (by decide) rfl rfl rfl (pc2 := 50) ?_
        refine wp_iald (n := 60) (e := (σ.1 81 (τ11.1 80 8).toNat)) jF_83_50 kd81 (by decide) rfl rfl (by omega) (by omega) (FR.at f13 81 (τ11.1 80 8).toNat rfl) rfl (pc2 := 51) ?_
        refine wp_is2 (lv2 := [(0, .ref 80), (1, .ref 45), (2, .long y3), (4, .long y4), (6, iV x5), (7, iV x6), (8, iV x7), (9, iV (σ.1 81 (τ11.1 80 8).toNat))]) jF_83_51 rfl rfl rfl (pc2 := 53) ?_
        refine wp_il2 jF_83_53 rfl rfl (pc2 := 55) ?_
        refine wp_bi jF_83_55 (by decide) rfl (pc2 := 57) ?_
        refine wp_i_ne jF_83_57 (m_rgb b30 rfl) (m_rgl rfl) rfl (pc2 := 60) ?_ ?_
        · intro h43
          refine wp_il2 jF_83_75 rfl rfl (pc2 := 77) ?_
          refine wp_bi jF_83_77 (by decide) rfl (pc2 := 79) ?_
          refine wp_i_ne jF_83_79 (m_rgb b30 rfl) (m_rgl rfl) rfl (pc2 := 82) ?_ ?_
          · intro h44
            refine wp_il2 jF_83_97 rfl rfl (pc2 := 99) ?_
            refine wp_bi jF_83_99 (by decide) rfl (pc2 := 101) ?_
            refine wp_i_lt jF_83_101 (m_rgb b30 rfl) (m_rgl rfl) rfl (pc2 := 104) ?_ ?_
            · intro h45
              refine wp_il2 jF_83_121 rfl rfl (pc2 := 123) ?_
              refine wp_z_eq jF_83_123 (m_rgb h9 rfl) rfl (pc2 := 126) ?_ ?_
              · intro h46
                refine wp_al1 jF_83_140 rfl rfl (pc2 := 141) ?_
                refine wp_gr (b := 51) jF_83_141 kd45 (by decide) (c := 9) rfl rfl rfl (pc2 := 144) ?_
                refine wp_il2 jF_83_144 rfl rfl (pc2 := 146) ?_
                refine wp_lald (n := 18) jF_83_146 kd51 (by decide) rfl rfl (by omega) (by omega) rfl (pc2 := 147) ?_
                intro y47
                refine wp_ls2 (lv2 := [(0, .ref 80), (1, .ref 45), (2, .long y3), (4, .long y4), (6, iV x5), (7, iV x6), (8, iV x7), (9, iV (σ.1 81 (τ11.1 80 8).toNat)), (10, .long y47)]) jF_83_147 rfl rfl rfl (pc2 := 149) ?_
                refine wp_il2 jF_83_149 rfl rfl (pc2 := 151) ?_
                refine wp_z_eq jF_83_151 (m_rgb h8 rfl) rfl (pc2 := 154) ?_ ?_
                · intro h48
                  refine wp_ll2 jF_83_162 rfl rfl (pc2 := 164) ?_
                  refine wp_ll2 jF_83_164 rfl rfl (pc2 := 166) ?_
                  refine wp_lng (pc2 := 167) jF_83_166 rfl rfl ?_
                  intro y49
                  refine wp_ls2 (lv2 := [(0, .ref 80), (1, .ref 45), (2, .long y3), (4, .long y49), (6, iV x5), (7, iV x6), (8, iV x7), (9, iV (σ.1 81 (τ11.1 80 8).toNat)), (10, .long y47)]) jF_83_167 rfl rfl rfl (pc2 := 169) ?_
                  refine wp_ic jF_83_169 rfl (pc2 := 170) ?_
                  refine wp_is2 (lv2 := [(0, .ref 80), (1, .ref 45), (2, .long y3), (4, .long y49), (6, iV x5), (7, iV 0), (8, iV x7), (9, iV (σ.1 81 (τ11.1 80 8).toNat)), (10, .long y47)]) jF_83_170 rfl rfl rfl (pc2 := 172) ?_
                  refine wp_al1 jF_83_172 rfl rfl (pc2 := 173) ?_
                  refine wp_dup jF_83_173 rfl rfl (pc2 := 174) ?_
                  refine wp_gi jF_83_174 kd80 (by decide) rfl rfl rfl (pc2 := 177) ?_
                  refine wp_ic jF_83_177 rfl (pc2 := 178) ?_
                  refine wp_add jF_83_178 rfl (pc2 := 179) ?_
                  refine wp_pi jF_83_179 kd80 (by decide) rfl rfl rfl (pc2 := 182) g12 (lo := 0) (hi := 61) rfl (by omega) (by omega) ?_
                  intro τ50 g51 f52 e53
                  refine wp_go jF_83_182 ?_
                  have q54 : (τ50.1 80 8) = ((τ11.1 80 8) + 1) := e53
                  refine wp_less [0, 1, 2, 4, 6, 7, 8] (lv2 := [(0, .ref 80), (1, .ref 45), (2, .long y3), (4, .long y49), (6, iV x5), (7, iV 0), (8, iV x7)]) rfl rfl ?_
                  exact ih15 (y3, y49, x5, 0, x7) τ50 ⟨⟨by (try dsimp only); omega, by (try dsimp only); omega⟩, ⟨by (try dsimp only); omega, by (try dsimp only); omega⟩, ⟨by (try dsimp only); omega, by (try dsimp only); omega⟩, g51, (FR.w f13 f52 rfl), (by (try dsimp only); omega)⟩ (by show Int.toNat (61 - (τ50.1 80 8)) < Int.toNat (61 - (τ11.1 80 8)); omega)
                · intro h48
                  refine wp_ll2 jF_83_154 rfl rfl (pc2 := 156) ?_
                  refine wp_ll2 jF_83_156 rfl rfl (pc2 := 158) ?_
                  refine wp_lng (pc2 := 159) jF_83_158 rfl rfl ?_
                  intro y55
                  refine wp_go jF_83_159 ?_
                  refine wp_ls2 (lv2 := [(0, .ref 80), (1, .ref 45), (2, .long y3), (4, .long y55), (6, iV x5), (7, iV x6), (8, iV x7), (9, iV (σ.1 81 (τ11.1 80 8).toNat)), (10, .long y47)]) jF_83_167 rfl rfl rfl (pc2 := 169) ?_
                  refine wp_ic jF_83_169 rfl (pc2 := 170) ?_
                  refine wp_is2 (lv2 := [(0, .ref 80), (1, .ref 45), (2, .long y3), (4, .long y55), (6, iV x5), (7, iV 0), (8, iV x7), (9, iV (σ.1 81 (τ11.1 80 8).toNat)), (10, .long y47)]) jF_83_170 rfl rfl rfl (pc2 := 172) ?_
                  refine wp_al1 jF_83_172 rfl rfl (pc2 := 173) ?_
                  refine wp_dup jF_83_173 rfl rfl (pc2 := 174) ?_
                  refine wp_gi jF_83_174 kd80 (by decide) rfl rfl rfl (pc2 := 177) ?_
                  refine wp_ic jF_83_177 rfl (pc2 := 178) ?_
                  refine wp_add jF_83_178 rfl (pc2 := 179) ?_
                  refine wp_pi jF_83_179 kd80 (by decide) rfl rfl rfl (pc2 := 182) g12 (lo := 0) (hi := 61) rfl (by omega) (by omega) ?_
                  intro τ56 g57 f58 e59
                  refine wp_go jF_83_182 ?_
                  have q60 : (τ56.1 80 8) = ((τ11.1 80 8) + 1) := e59
                  refine wp_less [0, 1, 2, 4, 6, 7, 8] (lv2 := [(0, .ref 80), (1, .ref 45), (2, .long y3), (4, .long y55), (6, iV x5), (7, iV 0), (8, iV x7)]) rfl rfl ?_
                  exact ih15 (y3, y55, x5, 0, x7) τ56 ⟨⟨by (try dsimp only); omega, by (try dsimp only); omega⟩, ⟨by (try dsimp only); omega, by (try dsimp only); omega⟩, ⟨by (try dsimp only); omega, by (try dsimp only); omega⟩, g57, (FR.w f13 f58 rfl), (by (try dsimp only); omega)⟩ (by show Int.toNat (61 - (τ56.1 80 8)) < Int.toNat (61 - (τ11.1 80 8)); omega)
              · intro h46
                refine wp_al1 jF_83_126 rfl rfl (pc2 := 127) ?_
                refine wp_gr (b := 51) jF_83_127 kd45 (by decide) (c := 9) rfl rfl rfl (pc2 := 130) ?_
                refine wp_il2 jF_83_130 rfl rfl (pc2 := 132) ?_
                refine wp_lald (n := 18) jF_83_132 kd51 (by decide) rfl rfl (by omega) (by omega) rfl (pc2 := 133) ?_
                intro y61
                refine wp_ld jF_83_133 rfl (pc2 := 136) ?_
                refine wp_lng (pc2 := 137) jF_83_136 rfl rfl ?_
                intro y62
                refine wp_go jF_83_137 ?_
                refine wp_ls2 (lv2 := [(0, .ref 80), (1, .ref 45), (2, .long y3), (4, .long y4), (6, iV x5), (7, iV x6), (8, iV x7), (9, iV (σ.1 81 (τ11.1 80 8).toNat)), (10, .long y62)]) jF_83_147 rfl rfl rfl (pc2 := 149) ?_
                refine wp_il2 jF_83_149 rfl rfl (pc2 := 151) ?_
                refine wp_z_eq jF_83_151 (m_rgb h8 rfl) rfl (pc2 := 154) ?_ ?_
                · intro h63
                  refine wp_ll2 jF_83_162 rfl rfl (pc2 := 164) ?_
                  refine wp_ll2 jF_83_164 rfl rfl (pc2 := 166) ?_
                  refine wp_lng (pc2 := 167) jF_83_166 rfl rfl ?_
                  intro y64
                  refine wp_ls2 (lv2 := [(0, .ref 80), (1, .ref 45), (2, .long y3), (4, .long y64), (6, iV x5), (7, iV x6), (8, iV x7), (9, iV (σ.1 81 (τ11.1 80 8).toNat)), (10, .long y62)]) jF_83_167 rfl rfl rfl (pc2 := 169) ?_
                  refine wp_ic jF_83_169 rfl (pc2 := 170) ?_
                  refine wp_is2 (lv2 := [(0, .ref 80), (1, .ref 45), (2, .long y3), (4, .long y64), (6, iV x5), (7, iV 0), (8, iV x7), (9, iV (σ.1 81 (τ11.1 80 8).toNat)), (10, .long y62)]) jF_83_170 rfl rfl rfl (pc2 := 172) ?_
                  refine wp_al1 jF_83_172 rfl rfl (pc2 := 173) ?_
                  refine wp_dup jF_83_173 rfl rfl (pc2 := 174) ?_
                  refine wp_gi jF_83_174 kd80 (by decide) rfl rfl rfl (pc2 := 177) ?_
                  refine wp_ic jF_83_177 rfl (pc2 := 178) ?_
                  refine wp_add jF_83_178 rfl (pc2 := 179) ?_
                  refine wp_pi jF_83_179 kd80 (by decide) rfl rfl rfl (pc2 := 182) g12 (lo := 0) (hi := 61) rfl (by omega) (by omega) ?_
                  intro τ65 g66 f67 e68
                  refine wp_go jF_83_182 ?_
                  have q69 : (τ65.1 80 8) = ((τ11.1 80 8) + 1) := e68
                  refine wp_less [0, 1, 2, 4, 6, 7, 8] (lv2 := [(0, .ref 80), (1, .ref 45), (2, .long y3), (4, .long y64), (6, iV x5), (7, iV 0), (8, iV x7)]) rfl rfl ?_
                  exact ih15 (y3, y64, x5, 0, x7) τ65 ⟨⟨by (try dsimp only); omega, by (try dsimp only); omega⟩, ⟨by (try dsimp only); omega, by (try dsimp only); omega⟩, ⟨by (try dsimp only); omega, by (try dsimp only); omega⟩, g66, (FR.w f13 f67 rfl), (by (try dsimp only); omega)⟩ (by show Int.toNat (61 - (τ65.1 80 8)) < Int.toNat (61 - (τ11.1 80 8)); omega)
                · intro h63
                  refine wp_ll2 jF_83_154 rfl rfl (pc2 := 156) ?_
                  refine wp_ll2 jF_83_156 rfl rfl (pc2 := 158) ?_
                  refine wp_lng (pc2 := 159) jF_83_158 rfl rfl ?_
                  intro y70
                  refine wp_go jF_83_159 ?_
                  refine wp_ls2 (lv2 := [(0, .ref 80), (1, .ref 45), (2, .long y3), (4, .long y70), (6, iV x5), (7, iV x6), (8, iV x7), (9, iV (σ.1 81 (τ11.1 80 8).toNat)), (10, .long y62)]) jF_83_167 rfl rfl rfl (pc2 := 169) ?_
                  refine wp_ic jF_83_169 rfl (pc2 := 170) ?_
                  refine wp_is2 (lv2 := [(0, .ref 80), (1, .ref 45), (2, .long y3), (4, .long y70), (6, iV x5), (7, iV 0), (8, iV x7), (9, iV (σ.1 81 (τ11.1 80 8).toNat)), (10, .long y62)]) jF_83_170 rfl rfl rfl (pc2 := 172) ?_
                  refine wp_al1 jF_83_172 rfl rfl (pc2 := 173) ?_
                  refine wp_dup jF_83_173 rfl rfl (pc2 := 174) ?_
                  refine wp_gi jF_83_174 kd80 (by decide) rfl rfl rfl (pc2 := 177) ?_
                  refine wp_ic jF_83_177 rfl (pc2 := 178) ?_
                  refine wp_add jF_83_178 rfl (pc2 := 179) ?_
                  refine wp_pi jF_83_179 kd80 (by decide) rfl rfl rfl (pc2 := 182) g12 (lo := 0) (hi := 61) rfl (by omega) (by omega) ?_
                  intro τ71 g72 f73 e74
                  refine wp_go jF_83_182 ?_
                  have q75 : (τ71.1 80 8) = ((τ11.1 80 8) + 1) := e74
                  refine wp_less [0, 1, 2, 4, 6, 7, 8] (lv2 := [(0, .ref 80), (1, .ref 45), (2, .long y3), (4, .long y70), (6, iV x5), (7, iV 0), (8, iV x7)]) rfl rfl ?_
                  exact ih15 (y3, y70, x5, 0, x7) τ71 ⟨⟨by (try dsimp only); omega, by (try dsimp only); omega⟩, ⟨by (try dsimp only); omega, by (try dsimp only); omega⟩, ⟨by (try dsimp only); omega, by (try dsimp only); omega⟩, g72, (FR.w f13 f73 rfl), (by (try dsimp only); omega)⟩ (by show Int.toNat (61 - (τ71.1 80 8)) < Int.toNat (61 - (τ11.1 80 8)); omega)
            · intro h45
              refine wp_il2 jF_83_104 rfl rfl (pc2 := 106) ?_
              refine wp_bi jF_83_106 (by decide) rfl (pc2 := 108) ?_
              refine wp_i_ne jF_83_108 ⟨by omega, by omega⟩ (m_rgl rfl) rfl (pc2 := 111) ?_ ?_
              · intro h76
                refine wp_ic jF_83_115 rfl (pc2 := 116) ?_
                refine wp_is2 (lv2 := [(0, .ref 80), (1, .ref 45), (2, .long y3), (4, .long y4), (6, iV 0), (7, iV x6), (8, iV x7), (9, iV (σ.1 81 (τ11.1 80 8).toNat))]) jF_83_116 rfl rfl rfl (pc2 := 118) ?_
                refine wp_go jF_83_118 ?_
                refine wp_al1 jF_83_172 rfl rfl (pc2 := 173) ?_
                refine wp_dup jF_83_173 rfl rfl (pc2 := 174) ?_
                refine wp_gi jF_83_174 kd80 (by decide) rfl rfl rfl (pc2 := 177) ?_
                refine wp_ic jF_83_177 rfl (pc2 := 178) ?_
                refine wp_add jF_83_178 rfl (pc2 := 179) ?_
                refine wp_pi jF_83_179 kd80 (by decide) rfl rfl rfl (pc2 := 182) g12 (lo := 0) (hi := 61) rfl (by omega) (by omega) ?_
                intro τ77 g78 f79 e80
                refine wp_go jF_83_182 ?_
                have q81 : (τ77.1 80 8) = ((τ11.1 80 8) + 1) := e80
                refine wp_less [0, 1, 2, 4, 6, 7, 8] (lv2 := [(0, .ref 80), (1, .ref 45), (2, .long y3), (4, .long y4), (6, iV 0), (7, iV x6), (8, iV x7)]) rfl rfl ?_
                exact ih15 (y3, y4, 0, x6, x7) τ77 ⟨⟨by (try dsimp only); omega, by (try dsimp only); omega⟩, ⟨by (try dsimp only); omega, by (try dsimp only); omega⟩, ⟨by (try dsimp only); omega, by (try dsimp only); omega⟩, g78, (FR.w f13 f79 rfl), (by (try dsimp only); omega)⟩ (by show Int.toNat (61 - (τ77.1 80 8)) < Int.toNat (61 - (τ11.1 80 8)); omega)
              · intro h76
                refine wp_ic jF_83_111 rfl (pc2 := 112) ?_
                refine wp_go jF_83_112 ?_
                refine wp_is2 (lv2 := [(0, .ref 80), (1, .ref 45), (2, .long y3), (4, .long y4), (6, iV 1), (7, iV x6), (8, iV x7), (9, iV (σ.1 81 (τ11.1 80 8).toNat))]) jF_83_116 rfl rfl rfl (pc2 := 118) ?_
                refine wp_go jF_83_118 ?_
                refine wp_al1 jF_83_172 rfl rfl (pc2 := 173) ?_
                refine wp_dup jF_83_173 rfl rfl (pc2 := 174) ?_
                refine wp_gi jF_83_174 kd80 (by decide) rfl rfl rfl (pc2 := 177) ?_
                refine wp_ic jF_83_177 rfl (pc2 := 178) ?_
                refine wp_add jF_83_178 rfl (pc2 := 179) ?_
                refine wp_pi jF_83_179 kd80 (by decide) rfl rfl rfl (pc2 := 182) g12 (lo := 0) (hi := 61) rfl (by omega) (by omega) ?_
                intro τ82 g83 f84 e85
                refine wp_go jF_83_182 ?_
                have q86 : (τ82.1 80 8) = ((τ11.1 80 8) + 1) := e85
                refine wp_less [0, 1, 2, 4, 6, 7, 8] (lv2 := [(0, .ref 80), (1, .ref 45), (2, .long y3), (4, .long y4), (6, iV 1), (7, iV x6), (8, iV x7)]) rfl rfl ?_
                exact ih15 (y3, y4, 1, x6, x7) τ82 ⟨⟨by (try dsimp only); omega, by (try dsimp only); omega⟩, ⟨by (try dsimp only); omega, by (try dsimp only); omega⟩, ⟨by (try dsimp only); omega, by (try dsimp only); omega⟩, g83, (FR.w f13 f84 rfl), (by (try dsimp only); omega)⟩ (by show Int.toNat (61 - (τ82.1 80 8)) < Int.toNat (61 - (τ11.1 80 8)); omega)
          · intro h44
            refine wp_ll2 jF_83_82 rfl rfl (pc2 := 84) ?_
            refine wp_ls1 (lv2 := [(0, .ref 80), (1, .ref 45), (2, .long y4), (4, .long y4), (6, iV x5), (7, iV x6), (8, iV x7), (9, iV (σ.1 81 (τ11.1 80 8).toNat))]) jF_83_84 rfl rfl rfl (pc2 := 85) ?_
            refine wp_lc jF_83_85 rfl (pc2 := 86) ?_
            refine wp_ls2 (lv2 := [(0, .ref 80), (1, .ref 45), (2, .long y4), (4, .long (Int64.ofNat 0)), (6, iV x5), (7, iV x6), (8, iV x7), (9, iV (σ.1 81 (τ11.1 80 8).toNat))]) jF_83_86 rfl rfl rfl (pc2 := 88) ?_
            refine wp_ic jF_83_88 rfl (pc2 := 89) ?_
            refine wp_is2 (lv2 := [(0, .ref 80), (1, .ref 45), (2, .long y4), (4, .long (Int64.ofNat 0)), (6, iV 0), (7, iV x6), (8, iV x7), (9, iV (σ.1 81 (τ11.1 80 8).toNat))]) jF_83_89 rfl rfl rfl (pc2 := 91) ?_
            refine wp_ic jF_83_91 rfl (pc2 := 92) ?_
            refine wp_is2 (lv2 := [(0, .ref 80), (1, .ref 45), (2, .long y4), (4, .long (Int64.ofNat 0)), (6, iV 0), (7, iV x6), (8, iV 1), (9, iV (σ.1 81 (τ11.1 80 8).toNat))]) jF_83_92 rfl rfl rfl (pc2 := 94) ?_
            refine wp_go jF_83_94 ?_
            refine wp_al1 jF_83_172 rfl rfl (pc2 := 173) ?_
            refine wp_dup jF_83_173 rfl rfl (pc2 := 174) ?_
            refine wp_gi jF_83_174 kd80 (by decide) rfl rfl rfl (pc2 := 177) ?_
            refine wp_ic jF_83_177 rfl (pc2 := 178) ?_
            refine wp_add jF_83_178 rfl (pc2 := 179) ?_
            refine wp_pi jF_83_179 kd80 (by decide) rfl rfl rfl (pc2 := 182) g12 (lo := 0) (hi := 61) rfl (by omega) (by omega) ?_
            intro τ87 g88 f89 e90
            refine wp_go jF_83_182 ?_
            have q91 : (τ87.1 80 8) = ((τ11.1 80 8) + 1) := e90
            refine wp_less [0, 1, 2, 4, 6, 7, 8] (lv2 := [(0, .ref 80), (1, .ref 45), (2, .long y4), (4, .long (Int64.ofNat 0)), (6, iV 0), (7, iV x6), (8, iV 1)]) rfl rfl ?_
            exact ih15 (y4, (Int64.ofNat 0), 0, x6, 1) τ87 ⟨⟨by (try dsimp only); omega, by (try dsimp only); omega⟩, ⟨by (try dsimp only); omega, by (try dsimp only); omega⟩, ⟨by (try dsimp only); omega, by (try dsimp only); omega⟩, g88, (FR.w f13 f89 rfl), (by (try dsimp only); omega)⟩ (by show Int.toNat (61 - (τ87.1 80 8)) < Int.toNat (61 - (τ11.1 80 8)); omega)
        · intro h43
          refine wp_il2 jF_83_60 rfl rfl (pc2 := 62) ?_
          refine wp_z_ne jF_83_62 (m_rgb h9 rfl) rfl (pc2 := 65) ?_ ?_
          · intro h92
            refine wp_ic jF_83_69 rfl (pc2 := 70) ?_
            refine wp_is2 (lv2 := [(0, .ref 80), (1, .ref 45), (2, .long y3), (4, .long y4), (6, iV x5), (7, iV 0), (8, iV x7), (9, iV (σ.1 81 (τ11.1 80 8).toNat))]) jF_83_70 rfl rfl rfl (pc2 := 72) ?_
            refine wp_go jF_83_72 ?_
            refine wp_al1 jF_83_172 rfl rfl (pc2 := 173) ?_
            refine wp_dup jF_83_173 rfl rfl (pc2 := 174) ?_
            refine wp_gi jF_83_174 kd80 (by decide) rfl rfl rfl (pc2 := 177) ?_
            refine wp_ic jF_83_177 rfl (pc2 := 178) ?_
            refine wp_add jF_83_178 rfl (pc2 := 179) ?_
            refine wp_pi jF_83_179 kd80 (by decide) rfl rfl rfl (pc2 := 182) g12 (lo := 0) (hi := 61) rfl (by omega) (by omega) ?_
            intro τ93 g94 f95 e96
            refine wp_go jF_83_182 ?_
            have q97 : (τ93.1 80 8) = ((τ11.1 80 8) + 1) := e96
            refine wp_less [0, 1, 2, 4, 6, 7, 8] (lv2 := [(0, .ref 80), (1, .ref 45), (2, .long y3), (4, .long y4), (6, iV x5), (7, iV 0), (8, iV x7)]) rfl rfl ?_
            exact ih15 (y3, y4, x5, 0, x7) τ93 ⟨⟨by (try dsimp only); omega, by (try dsimp only); omega⟩, ⟨by (try dsimp only); omega, by (try dsimp only); omega⟩, ⟨by (try dsimp only); omega, by (try dsimp only); omega⟩, g94, (FR.w f13 f95 rfl), (by (try dsimp only); omega)⟩ (by show Int.toNat (61 - (τ93.1 80 8)) < Int.toNat (61 - (τ11.1 80 8)); omega)
          · intro h92
            refine wp_ic jF_83_65 rfl (pc2 := 66) ?_
            refine wp_go jF_83_66 ?_
            refine wp_is2 (lv2 := [(0, .ref 80), (1, .ref 45), (2, .long y3), (4, .long y4), (6, iV x5), (7, iV 1), (8, iV x7), (9, iV (σ.1 81 (τ11.1 80 8).toNat))]) jF_83_70 rfl rfl rfl (pc2 := 72) ?_
            refine wp_go jF_83_72 ?_
            refine wp_al1 jF_83_172 rfl rfl (pc2 := 173) ?_
            refine wp_dup jF_83_173 rfl rfl (pc2 := 174) ?_
            refine wp_gi jF_83_174 kd80 (by decide) rfl rfl rfl (pc2 := 177) ?_
            refine wp_ic jF_83_177 rfl (pc2 := 178) ?_
            refine wp_add jF_83_178 rfl (pc2 := 179) ?_
            refine wp_pi jF_83_179 kd80 (by decide) rfl rfl rfl (pc2 := 182) g12 (lo := 0) (hi := 61) rfl (by omega) (by omega) ?_
            intro τ98 g99 f100 e101
            refine wp_go jF_83_182 ?_
            have q102 : (τ98.1 80 8) = ((τ11.1 80 8) + 1) := e101
            refine wp_less [0, 1, 2, 4, 6, 7, 8] (lv2 := [(0, .ref 80), (1, .ref 45), (2, .long y3), (4, .long y4), (6, iV x5), (7, iV 1), (8, iV x7)]) rfl rfl ?_
            exact ih15 (y3, y4, x5, 1, x7) τ98 ⟨⟨by (try dsimp only); omega, by (try dsimp only); omega⟩, ⟨by (try dsimp only); omega, by (try dsimp only); omega⟩, ⟨by (try dsimp only); omega, by (try dsimp only); omega⟩, g99, (FR.w f13 f100 rfl), (by (try dsimp only); omega)⟩ (by show Int.toNat (61 - (τ98.1 80 8)) < Int.toNat (61 - (τ11.1 80 8)); omega)
