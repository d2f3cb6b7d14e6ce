set_option maxHeartbeats 4000000 in
set_option maxRecDepth 20000 in
/-- Tongue.settle -/
theorem m_69_r45 (σ : jM) (hg : GI σ)  (pre0 : (σ.1 58 5) ≤ 8) (pre1 : (σ.1 64 5) ≤ 10) (fr lo : Nat) (hfr : 1 ≤ fr) (hlo : 26 ≤ lo) : WP 69 0 (lv_args 0 [.ref 45]) [] fr lo σ (fun v τ => v = none ∧ GI τ ∧ FR WG45 σ τ ∧ ((τ.1 58 5) = (σ.1 58 5)) ∧ ((τ.1 64 5) = (σ.1 64 5))) := by
  show WP 69 0 [(0, .ref 45)] [] _ _ _ _
  refine wp_ic jF_69_0 rfl (pc2 := 1) ?_
  refine wp_is1 (lv2 := [(0, .ref 45), (1, iV 0)]) jF_69_1 rfl rfl rfl (pc2 := 2) ?_
  have b1 := GI.b hg 58 5 kd58 (lo := 0) (hi := 16) rfl
  have b2 := GI.b hg 64 5 kd64 (lo := 0) (hi := 16) rfl
  refine wp_loop (α := Int) (fun a => [(0, .ref 45), (1, iV (a))]) (fun a τ => (0 ≤ a ∧ a ≤ 4) ∧ GI τ ∧ FR WG45 σ τ ∧ ((τ.1 58 5) = (σ.1 58 5)) ∧ ((τ.1 64 5) = (σ.1 64 5))) (fun a τ => Int.toNat (4 - (a))) (0) σ ?_ ?_
  · skip
    exact ⟨⟨by omega, by omega⟩, hg, FR.rf, (by omega), (by omega)⟩
  · rintro x3 τ5 ⟨h4, g6, f7, p8, p9⟩ ih10
    have b11 := GI.b g6 58 5 kd58 (lo := 0) (hi := 16) rfl
    have b12 := GI.b g6 64 5 kd64 (lo := 0) (hi := 16) rfl
    show WP 69 2 [(0, .ref 45), (1, iV x3)] [] _ _ _ _
    show WP 69 2 [(0, .ref 45), (1, iV x3)] [] _ _ _ _
    refine wp_il1 jF_69_2 rfl rfl (pc2 := 3) ?_
    refine wp_al1 jF_69_3 rfl rfl (pc2 := 4) ?_
    refine wp_gr (b := 47) jF_69_4 kd45 (by decide) (c := 5) rfl rfl rfl (pc2 := 7) ?_
    refine wp_ic jF_69_7 rfl (pc2 := 8) ?_
    have b13 := GI.b g6 47 2 kd47 (lo := 0) (hi := 4) rfl
    refine wp_iald (n := 3) (e := (τ5.1 47 2)) jF_69_8 kd47 (by decide) rfl rfl (by omega) (by omega) rfl rfl (pc2 := 9) ?_
    refine wp_i_ge jF_69_9 (m_rgb h4 rfl) (m_rgb b13 rfl) rfl (pc2 := 12) ?_ ?_
    · intro h14
      refine wp_ic jF_69_121 rfl (pc2 := 122) ?_
      refine wp_is1 (lv2 := [(0, .ref 45), (1, iV 0)]) jF_69_122 rfl rfl rfl (pc2 := 123) ?_
      refine wp_loop (α := Int) (fun a => [(0, .ref 45), (1, iV (a))]) (fun a τ => (0 ≤ a ∧ a ≤ 6) ∧ GI τ ∧ FR WG45 τ5 τ ∧ ((τ.1 58 5) = (τ5.1 58 5)) ∧ ((τ.1 64 5) = (τ5.1 64 5))) (fun a τ => Int.toNat (6 - (a))) (0) τ5 ?_ ?_
      · skip
        exact ⟨⟨by omega, by omega⟩, g6, FR.rf, (by omega), (by omega)⟩
      · rintro x15 τ17 ⟨h16, g18, f19, p20, p21⟩ ih22
        have b23 := GI.b g18 58 5 kd58 (lo := 0) (hi := 16) rfl
        have b24 := GI.b g18 64 5 kd64 (lo := 0) (hi := 16) rfl
        show WP 69 123 [(0, .ref 45), (1, iV x15)] [] _ _ _ _
        show WP 69 123 [(0, .ref 45), (1, iV x15)] [] _ _ _ _
        refine wp_il1 jF_69_123 rfl rfl (pc2 := 124) ?_
        refine wp_al1 jF_69_124 rfl rfl (pc2 := 125) ?_
        have b25 := GI.b g18 45 9 kd45 (lo := 0) (hi := 6) rfl
        refine wp_gi jF_69_125 kd45 (by decide) rfl rfl rfl (pc2 := 128) ?_
        refine wp_i_ge jF_69_128 (m_rgb h16 rfl) (m_rgb b25 rfl) rfl (pc2 := 131) ?_ ?_
        · intro h26
          refine wp_al1 jF_69_179 rfl rfl (pc2 := 180) ?_
          refine wp_gr (b := 52) jF_69_180 kd45 (by decide) (c := 10) rfl rfl rfl (pc2 := 183) ?_
          refine wp_al1 jF_69_183 rfl rfl (pc2 := 184) ?_
          refine wp_glA jF_69_184 kd45 (by decide) rfl rfl (pc2 := 187) ?_
          intro y27
          refine wp_al1 jF_69_187 rfl rfl (pc2 := 188) ?_
          refine wp_gr (b := 51) jF_69_188 kd45 (by decide) (c := 9) rfl rfl rfl (pc2 := 191) ?_
          refine wp_cV (as := [.long y27, .ref 51]) (rest := []) (a := 52) (mx := 7) (ci := 7) jF_69_191 kd52 (by decide) rfl rfl rfl rfl rfl (by omega) (by omega) rfl (pc2 := 194) ?_
          have b28 := GI.b g18 52 5 kd52 (lo := 0) (hi := 16) rfl
          refine wp_use (m_70_r52_51 τ17 g18 y27 (by omega) _ _ (by omega) (by omega)) ?_
          rintro _ τ30 ⟨rfl, g31, f32, p29⟩
          show WP 69 194 [(0, .ref 45), (1, iV x15)] [] _ _ _ _
          refine wp_al1 jF_69_194 rfl rfl (pc2 := 195) ?_
          refine wp_gr (b := 58) jF_69_195 kd45 (by decide) (c := 16) rfl rfl rfl (pc2 := 198) ?_
          refine wp_al1 jF_69_198 rfl rfl (pc2 := 199) ?_
          refine wp_glA jF_69_199 kd45 (by decide) rfl rfl (pc2 := 202) ?_
          intro y33
          refine wp_al1 jF_69_202 rfl rfl (pc2 := 203) ?_
          refine wp_gr (b := 51) jF_69_203 kd45 (by decide) (c := 9) rfl rfl rfl (pc2 := 206) ?_
          refine wp_cV (as := [.long y33, .ref 51]) (rest := []) (a := 58) (mx := 7) (ci := 7) jF_69_206 kd58 (by decide) rfl rfl rfl rfl rfl (by omega) (by omega) rfl (pc2 := 209) ?_
          have q34 : (τ30.1 58 5) = (τ17.1 58 5) := (FR.at f32 58 5 rfl)
          refine wp_use (m_70_r58_51 τ30 g31 y33 (by omega) _ _ (by omega) (by omega)) ?_
          rintro _ τ36 ⟨rfl, g37, f38, p35⟩
          show WP 69 209 [(0, .ref 45), (1, iV x15)] [] _ _ _ _
          refine wp_al1 jF_69_209 rfl rfl (pc2 := 210) ?_
          refine wp_gr (b := 64) jF_69_210 kd45 (by decide) (c := 22) rfl rfl rfl (pc2 := 213) ?_
          refine wp_al1 jF_69_213 rfl rfl (pc2 := 214) ?_
          refine wp_glA jF_69_214 kd45 (by decide) rfl rfl (pc2 := 217) ?_
          intro y39
          refine wp_al1 jF_69_217 rfl rfl (pc2 := 218) ?_
          refine wp_gr (b := 51) jF_69_218 kd45 (by decide) (c := 9) rfl rfl rfl (pc2 := 221) ?_
          refine wp_cV (as := [.long y39, .ref 51]) (rest := []) (a := 64) (mx := 7) (ci := 7) jF_69_221 kd64 (by decide) rfl rfl rfl rfl rfl (by omega) (by omega) rfl (pc2 := 224) ?_
          have q40 : (τ36.1 64 5) = (τ17.1 64 5) := ((FR.at f38 64 5 rfl).trans (FR.at f32 64 5 rfl))
          refine wp_use (m_70_r64_51 τ36 g37 y39 (by omega) _ _ (by omega) (by omega)) ?_
          rintro _ τ42 ⟨rfl, g43, f44, p41⟩
          show WP 69 224 [(0, .ref 45), (1, iV x15)] [] _ _ _ _
          refine wp_rv jF_69_224 ?_
          have b45 := GI.b g37 58 5 kd58 (lo := 0) (hi := 16) rfl
          have q46 : (τ42.1 58 5) = (τ36.1 58 5) := (FR.at f44 58 5 rfl)
          have b47 := GI.b g43 64 5 kd64 (lo := 0) (hi := 16) rfl
          exact ⟨rfl, g43, (FR.up (FR.up (FR.up (FR.up f7 f19 sb_WG45_WG45) f32 sb_WT52_WG45) f38 sb_WT58_WG45) f44 sb_WT64_WG45), (by omega), (by omega)⟩
        · intro h26
          refine wp_al1 jF_69_131 rfl rfl (pc2 := 132) ?_
          refine wp_gr (b := 48) jF_69_132 kd45 (by decide) (c := 6) rfl rfl rfl (pc2 := 135) ?_
          refine wp_il1 jF_69_135 rfl rfl (pc2 := 136) ?_
          have b48 := GI.b g18 48 x15.toNat kd48 (lo := (-2147483648)) (hi := 2147483647) rfl
          refine wp_iald (n := 6) (e := (τ17.1 48 x15.toNat)) jF_69_136 kd48 (by decide) rfl rfl (by omega) (by omega) rfl rfl (pc2 := 137) ?_
          refine wp_z_lt jF_69_137 (m_rgb b48 rfl) rfl (pc2 := 140) ?_ ?_
          · intro h49
            refine wp_inc (lv2 := [(0, .ref 45), (1, iV (x15 + 1))]) jF_69_173 rfl rfl rfl rfl (pc2 := 176) ?_
            refine wp_go jF_69_176 ?_
            exact ih22 ((x15 + 1)) τ17 ⟨⟨by omega, by omega⟩, g18, f19, (by omega), (by omega)⟩ (by show Int.toNat (6 - (x15 + 1)) < Int.toNat (6 - x15); omega)
          · intro h49
            refine wp_al1 jF_69_140 rfl rfl (pc2 := 141) ?_
            refine wp_gr (b := 48) jF_69_141 kd45 (by decide) (c := 6) rfl rfl rfl (pc2 := 144) ?_
            refine wp_il1 jF_69_144 rfl rfl (pc2 := 145) ?_
            refine wp_iald (n := 6) (e := (τ17.1 48 x15.toNat)) jF_69_145 kd48 (by decide) rfl rfl (by omega) (by omega) rfl rfl (pc2 := 146) ?_
            refine wp_bi jF_69_146 (by decide) rfl (pc2 := 148) ?_
            refine wp_il1 jF_69_148 rfl rfl (pc2 := 149) ?_
            refine wp_add jF_69_149 rfl (pc2 := 150) ?_
            refine wp_i_ge jF_69_150 (m_rgb b48 rfl) ⟨by omega, by omega⟩ rfl (pc2 := 153) ?_ ?_
            · intro h50
              refine wp_inc (lv2 := [(0, .ref 45), (1, iV (x15 + 1))]) jF_69_173 rfl rfl rfl rfl (pc2 := 176) ?_
              refine wp_go jF_69_176 ?_
              exact ih22 ((x15 + 1)) τ17 ⟨⟨by omega, by omega⟩, g18, f19, (by omega), (by omega)⟩ (by show Int.toNat (6 - (x15 + 1)) < Int.toNat (6 - x15); omega)
            · intro h50
              refine wp_al1 jF_69_153 rfl rfl (pc2 := 154) ?_
              refine wp_gr (b := 51) jF_69_154 kd45 (by decide) (c := 9) rfl rfl rfl (pc2 := 157) ?_
              refine wp_bi jF_69_157 (by decide) rfl (pc2 := 159) ?_
              refine wp_il1 jF_69_159 rfl rfl (pc2 := 160) ?_
              refine wp_add jF_69_160 rfl (pc2 := 161) ?_
              refine wp_al1 jF_69_161 rfl rfl (pc2 := 162) ?_
              refine wp_gr (b := 51) jF_69_162 kd45 (by decide) (c := 9) rfl rfl rfl (pc2 := 165) ?_
              refine wp_al1 jF_69_165 rfl rfl (pc2 := 166) ?_
              refine wp_gr (b := 48) jF_69_166 kd45 (by decide) (c := 6) rfl rfl rfl (pc2 := 169) ?_
              refine wp_il1 jF_69_169 rfl rfl (pc2 := 170) ?_
              refine wp_iald (n := 6) (e := (τ17.1 48 x15.toNat)) jF_69_170 kd48 (by decide) rfl rfl (by omega) (by omega) rfl rfl (pc2 := 171) ?_
              refine wp_lald (n := 18) jF_69_171 kd51 (by decide) rfl rfl (by omega) (by omega) rfl (pc2 := 172) ?_
              intro y51
              refine wp_last (n := 18) jF_69_172 kd51 (by decide) rfl rfl (by omega) (by omega) rfl (pc2 := 173) g18 ?_
              intro τ52 g53 f54
              refine wp_inc (lv2 := [(0, .ref 45), (1, iV (x15 + 1))]) jF_69_173 rfl rfl rfl rfl (pc2 := 176) ?_
              refine wp_go jF_69_176 ?_
              have q55 : (τ52.1 58 5) = (τ17.1 58 5) := (FRw.na f54 (by decide))
              have q56 : (τ52.1 64 5) = (τ17.1 64 5) := (FRw.na f54 (by decide))
              exact ih22 ((x15 + 1)) τ52 ⟨⟨by omega, by omega⟩, g53, (FR.w f19 f54 rfl), (by omega), (by omega)⟩ (by show Int.toNat (6 - (x15 + 1)) < Int.toNat (6 - x15); omega)
    · intro h14
      refine wp_ic jF_69_12 rfl (pc2 := 13) ?_
      refine wp_is1 (lv2 := [(0, .ref 45), (1, iV x3), (2, iV 0)]) jF_69_13 rfl rfl rfl (pc2 := 14) ?_
      refine wp_loop (α := Int) (fun a => [(0, .ref 45), (1, iV x3), (2, iV (a))]) (fun a τ => (0 ≤ a ∧ a ≤ 4) ∧ GI τ ∧ FR WG45 τ5 τ ∧ ((τ.1 58 5) = (τ5.1 58 5)) ∧ ((τ.1 64 5) = (τ5.1 64 5))) (fun a τ => Int.toNat (4 - (a))) (0) τ5 ?_ ?_
      · skip
        exact ⟨⟨by omega, by omega⟩, g6, FR.rf, (by omega), (by omega)⟩
      · rintro x57 τ59 ⟨h58, g60, f61, p62, p63⟩ ih64
        have b65 := GI.b g60 58 5 kd58 (lo := 0) (hi := 16) rfl
        have b66 := GI.b g60 64 5 kd64 (lo := 0) (hi := 16) rfl
        show WP 69 14 [(0, .ref 45), (1, iV x3), (2, iV x57)] [] _ _ _ _
        show WP 69 14 [(0, .ref 45), (1, iV x3), (2, iV x57)] [] _ _ _ _
        refine wp_il1 jF_69_14 rfl rfl (pc2 := 15) ?_
        refine wp_al1 jF_69_15 rfl rfl (pc2 := 16) ?_
        refine wp_gr (b := 47) jF_69_16 kd45 (by decide) (c := 5) rfl rfl rfl (pc2 := 19) ?_
        refine wp_ic jF_69_19 rfl (pc2 := 20) ?_
        have b67 := GI.b g60 47 1 kd47 (lo := 0) (hi := 4) rfl
        refine wp_iald (n := 3) (e := (τ59.1 47 1)) jF_69_20 kd47 (by decide) rfl rfl (by omega) (by omega) rfl rfl (pc2 := 21) ?_
        refine wp_i_ge jF_69_21 (m_rgb h58 rfl) (m_rgb b67 rfl) rfl (pc2 := 24) ?_ ?_
        · intro h68
          refine wp_inc (lv2 := [(0, .ref 45), (1, iV (x3 + 1)), (2, iV x57)]) jF_69_115 rfl rfl rfl rfl (pc2 := 118) ?_
          refine wp_go jF_69_118 ?_
          refine wp_less [0, 1] (lv2 := [(0, .ref 45), (1, iV (x3 + 1))]) rfl rfl ?_
          exact ih10 ((x3 + 1)) τ59 ⟨⟨by omega, by omega⟩, g60, (FR.up f7 f61 sb_WG45_WG45), (by omega), (by omega)⟩ (by show Int.toNat (4 - (x3 + 1)) < Int.toNat (4 - x3); omega)
        · intro h68
          refine wp_ic jF_69_24 rfl (pc2 := 25) ?_
          refine wp_is1 (lv2 := [(0, .ref 45), (1, iV x3), (2, iV x57), (3, iV 0)]) jF_69_25 rfl rfl rfl (pc2 := 26) ?_
          refine wp_loop (α := Int) (fun a => [(0, .ref 45), (1, iV x3), (2, iV x57), (3, iV (a))]) (fun a τ => (0 ≤ a ∧ a ≤ 4) ∧ GI τ ∧ FR WG45 τ59 τ ∧ ((τ.1 58 5) = (τ59.1 58 5)) ∧ ((τ.1 64 5) = (τ59.1 64 5))) (fun a τ => Int.toNat (4 - (a))) (0) τ59 ?_ ?_
          · skip
            exact ⟨⟨by omega, by omega⟩, g60, FR.rf, (by omega), (by omega)⟩
          · rintro x69 τ71 ⟨h70, g72, f73, p74, p75⟩ ih76
            have b77 := GI.b g72 58 5 kd58 (lo := 0) (hi := 16) rfl
            have b78 := GI.b g72 64 5 kd64 (lo := 0) (hi := 16) rfl
            show WP 69 26 [(0, .ref 45), (1, iV x3), (2, iV x57), (3, iV x69)] [] _ _ _ _
            show WP 69 26 [(0, .ref 45), (1, iV x3), (2, iV x57), (3, iV x69)] [] _ _ _ _
            refine wp_il1 jF_69_26 rfl rfl (pc2 := 27) ?_
            refine wp_al1 jF_69_27 rfl rfl (pc2 := 28) ?_
            refine wp_gr (b := 47) jF_69_28 kd45 (by decide) (c := 5) rfl rfl rfl (pc2 := 31) ?_
            refine wp_ic jF_69_31 rfl (pc2 := 32) ?_
            have b79 := GI.b g72 47 0 kd47 (lo := 0) (hi := 4) rfl
            refine wp_iald (n := 3) (e := (τ71.1 47 0)) jF_69_32 kd47 (by decide) rfl rfl (by omega) (by omega) rfl rfl (pc2 := 33) ?_
            refine wp_i_ge jF_69_33 (m_rgb h70 rfl) (m_rgb b79 rfl) rfl (pc2 := 36) ?_ ?_
            · intro h80
              refine wp_inc (lv2 := [(0, .ref 45), (1, iV x3), (2, iV (x57 + 1)), (3, iV x69)]) jF_69_109 rfl rfl rfl rfl (pc2 := 112) ?_
              refine wp_go jF_69_112 ?_
              refine wp_less [0, 1, 2] (lv2 := [(0, .ref 45), (1, iV x3), (2, iV (x57 + 1))]) rfl rfl ?_
              exact ih64 ((x57 + 1)) τ71 ⟨⟨by omega, by omega⟩, g72, (FR.up f61 f73 sb_WG45_WG45), (by omega), (by omega)⟩ (by show Int.toNat (4 - (x57 + 1)) < Int.toNat (4 - x57); omega)
            · intro h80
              refine wp_lc jF_69_36 rfl (pc2 := 37) ?_
              refine wp_al1 jF_69_37 rfl rfl (pc2 := 38) ?_
              have b81 := GI.b g72 45 12 kd45 (lo := (-2147483648)) (hi := 2147483647) rfl
              refine wp_gi jF_69_38 kd45 (by decide) rfl rfl rfl (pc2 := 41) ?_
              refine wp_lng (pc2 := 42) jF_69_41 rfl rfl ?_
              intro y82
              refine wp_ls2 (lv2 := [(0, .ref 45), (1, iV x3), (2, iV x57), (3, iV x69), (4, .long y82)]) jF_69_42 rfl rfl rfl (pc2 := 44) ?_
              refine wp_al1 jF_69_44 rfl rfl (pc2 := 45) ?_
              refine wp_gr (b := 51) jF_69_45 kd45 (by decide) (c := 9) rfl rfl rfl (pc2 := 48) ?_
              refine wp_il1 jF_69_48 rfl rfl (pc2 := 49) ?_
              refine wp_du2 jF_69_49 rfl rfl (pc2 := 50) ?_
              refine wp_lald (n := 18) jF_69_50 kd51 (by decide) rfl rfl (by omega) (by omega) rfl (pc2 := 51) ?_
              intro y83
              refine wp_ll2 jF_69_51 rfl rfl (pc2 := 53) ?_
              refine wp_lng (pc2 := 54) jF_69_53 rfl rfl ?_
              intro y84
              refine wp_last (n := 18) jF_69_54 kd51 (by decide) rfl rfl (by omega) (by omega) rfl (pc2 := 55) g72 ?_
              intro τ85 g86 f87
              refine wp_al1 jF_69_55 rfl rfl (pc2 := 56) ?_
              refine wp_gr (b := 51) jF_69_56 kd45 (by decide) (c := 9) rfl rfl rfl (pc2 := 59) ?_
              refine wp_ic jF_69_59 rfl (pc2 := 60) ?_
              refine wp_il1 jF_69_60 rfl rfl (pc2 := 61) ?_
              refine wp_add jF_69_61 rfl (pc2 := 62) ?_
              refine wp_du2 jF_69_62 rfl rfl (pc2 := 63) ?_
              refine wp_lald (n := 18) jF_69_63 kd51 (by decide) rfl rfl (by omega) (by omega) rfl (pc2 := 64) ?_
              intro y88
              refine wp_ll2 jF_69_64 rfl rfl (pc2 := 66) ?_
              refine wp_lng (pc2 := 67) jF_69_66 rfl rfl ?_
              intro y89
              refine wp_last (n := 18) jF_69_67 kd51 (by decide) rfl rfl (by omega) (by omega) rfl (pc2 := 68) g86 ?_
              intro τ90 g91 f92
              refine wp_al1 jF_69_68 rfl rfl (pc2 := 69) ?_
              refine wp_gr (b := 51) jF_69_69 kd45 (by decide) (c := 9) rfl rfl rfl (pc2 := 72) ?_
              refine wp_bi jF_69_72 (by decide) rfl (pc2 := 74) ?_
              refine wp_il1 jF_69_74 rfl rfl (pc2 := 75) ?_
              refine wp_add jF_69_75 rfl (pc2 := 76) ?_
              refine wp_du2 jF_69_76 rfl rfl (pc2 := 77) ?_
              refine wp_lald (n := 18) jF_69_77 kd51 (by decide) rfl rfl (by omega) (by omega) rfl (pc2 := 78) ?_
              intro y93
              refine wp_ll2 jF_69_78 rfl rfl (pc2 := 80) ?_
              refine wp_lng (pc2 := 81) jF_69_80 rfl rfl ?_
              intro y94
              refine wp_last (n := 18) jF_69_81 kd51 (by decide) rfl rfl (by omega) (by omega) rfl (pc2 := 82) g91 ?_
              intro τ95 g96 f97
              refine wp_al1 jF_69_82 rfl rfl (pc2 := 83) ?_
              refine wp_dup jF_69_83 rfl rfl (pc2 := 84) ?_
              refine wp_glA jF_69_84 kd45 (by decide) rfl rfl (pc2 := 87) ?_
              intro y98
              refine wp_ll2 jF_69_87 rfl rfl (pc2 := 89) ?_
              refine wp_lng (pc2 := 90) jF_69_89 rfl rfl ?_
              intro y99
              refine wp_pl jF_69_90 kd45 (by decide) rfl rfl (pc2 := 93) g96 ?_
              intro τ100 g101 f102
              refine wp_al1 jF_69_93 rfl rfl (pc2 := 94) ?_
              refine wp_dup jF_69_94 rfl rfl (pc2 := 95) ?_
              refine wp_gi jF_69_95 kd45 (by decide) rfl ((FRw.nj f102 (by decide)).trans ((FRw.na f97 (by decide)).trans ((FRw.na f92 (by decide)).trans (FRw.na f87 (by decide))))) rfl (pc2 := 98) ?_
              refine wp_ic jF_69_98 rfl (pc2 := 99) ?_
              refine wp_any2 (pc2 := 100) jF_69_99 rfl rfl ?_
              intro z103 h104
              refine wp_pi jF_69_100 kd45 (by decide) rfl rfl rfl (pc2 := 103) g101 (lo := (-2147483648)) (hi := 2147483647) rfl (by omega) (by omega) ?_
              intro τ105 g106 f107 e108
              refine wp_inc (lv2 := [(0, .ref 45), (1, iV x3), (2, iV x57), (3, iV (x69 + 1)), (4, .long y82)]) jF_69_103 rfl rfl rfl rfl (pc2 := 106) ?_
              refine wp_go jF_69_106 ?_
              have q109 : (τ105.1 58 5) = (τ71.1 58 5) := ((FRw.na f107 (by decide)).trans ((FRw.na f102 (by decide)).trans ((FRw.na f97 (by decide)).trans ((FRw.na f92 (by decide)).trans (FRw.na f87 (by decide))))))
              have q110 : (τ105.1 64 5) = (τ71.1 64 5) := ((FRw.na f107 (by decide)).trans ((FRw.na f102 (by decide)).trans ((FRw.na f97 (by decide)).trans ((FRw.na f92 (by decide)).trans (FRw.na f87 (by decide))))))
              refine wp_less [0, 1, 2, 3] (lv2 := [(0, .ref 45), (1, iV x3), (2, iV x57), (3, iV (x69 + 1))]) rfl rfl ?_
              exact ih76 ((x69 + 1)) τ105 ⟨⟨by omega, by omega⟩, g106, (FR.w (FR.w (FR.w (FR.w (FR.w f73 f87 rfl) f92 rfl) f97 rfl) f102 rfl) f107 rfl), (by omega), (by omega)⟩ (by show Int.toNat (4 - (x69 + 1)) < Int.toNat (4 - x69); omega)
set_option maxHeartbeats 4000000 in
set_option maxRecDepth 20000 in
/-- Tongue.letterOf -/
theorem m_93_r45 (σ : jM) (hg : GI σ) (sg : Int) (hl_sg : (-2147483648) ≤ sg) (hu_sg : sg ≤ 2147483647) (k : Int) (hl_k : (-2147483648) ≤ k) (hu_k : k ≤ 2147483647)  (fr lo : Nat) (hfr : 0 ≤ fr) (hlo : 0 ≤ lo) : WP 93 0 (lv_args 0 [.ref 45, iV sg, iV k]) [] fr lo σ (fun v τ => ∃ z : Int, v = some (iV z) ∧ ((-2147483648) ≤ z ∧ z ≤ 2147483647) ∧ σ = τ) := by
  show WP 93 0 [(0, .ref 45), (1, iV sg), (2, iV k)] [] _ _ _ _
  refine wp_il1 jF_93_0 rfl rfl (pc2 := 1) ?_
  refine wp_z_lt jF_93_1 ⟨by omega, by omega⟩ rfl (pc2 := 4) ?_ ?_
  · intro h1
    refine wp_ic jF_93_32 rfl (pc2 := 33) ?_
    refine wp_ri jF_93_33 rfl ?_
    exact ⟨(-1), rfl, ⟨by omega, by omega⟩, rfl⟩
  · intro h1
    refine wp_il1 jF_93_4 rfl rfl (pc2 := 5) ?_
    refine wp_al1 jF_93_5 rfl rfl (pc2 := 6) ?_
    refine wp_gr (b := 46) jF_93_6 kd45 (by decide) (c := 4) rfl rfl rfl (pc2 := 9) ?_
    refine wp_len (n := 25) (t := 0) jF_93_9 kd46 (by decide) rfl rfl (pc2 := 10) ?_
    refine wp_i_ge jF_93_10 ⟨by omega, by omega⟩ (m_rgl rfl) rfl (pc2 := 13) ?_ ?_
    · intro h2
      refine wp_ic jF_93_32 rfl (pc2 := 33) ?_
      refine wp_ri jF_93_33 rfl ?_
      exact ⟨(-1), rfl, ⟨by omega, by omega⟩, rfl⟩
    · intro h2
      refine wp_il1 jF_93_13 rfl rfl (pc2 := 14) ?_
      refine wp_z_lt jF_93_14 ⟨by omega, by omega⟩ rfl (pc2 := 17) ?_ ?_
      · intro h3
        refine wp_ic jF_93_32 rfl (pc2 := 33) ?_
        refine wp_ri jF_93_33 rfl ?_
        exact ⟨(-1), rfl, ⟨by omega, by omega⟩, rfl⟩
      · intro h3
        refine wp_il1 jF_93_17 rfl rfl (pc2 := 18) ?_
        refine wp_bi jF_93_18 (by decide) rfl (pc2 := 20) ?_
        refine wp_i_ge jF_93_20 ⟨by omega, by omega⟩ (m_rgl rfl) rfl (pc2 := 23) ?_ ?_
        · intro h4
          refine wp_ic jF_93_32 rfl (pc2 := 33) ?_
          refine wp_ri jF_93_33 rfl ?_
          exact ⟨(-1), rfl, ⟨by omega, by omega⟩, rfl⟩
        · intro h4
          refine wp_al1 jF_93_23 rfl rfl (pc2 := 24) ?_
          refine wp_gr (b := 46) jF_93_24 kd45 (by decide) (c := 4) rfl rfl rfl (pc2 := 27) ?_
          refine wp_il1 jF_93_27 rfl rfl (pc2 := 28) ?_
          have b5 := GI.b hg 46 sg.toNat kd46 (lo := (-2147483648)) (hi := 2147483647) rfl
          refine wp_iald (n := 25) (e := (σ.1 46 sg.toNat)) jF_93_28 kd46 (by decide) rfl rfl (by omega) (by omega) rfl rfl (pc2 := 29) ?_
          refine wp_z_ne jF_93_29 (m_rgb b5 rfl) rfl (pc2 := 32) ?_ ?_
          · intro h6
            refine wp_al1 jF_93_34 rfl rfl (pc2 := 35) ?_
            refine wp_gr (b := 46) jF_93_35 kd45 (by decide) (c := 4) rfl rfl rfl (pc2 := 38) ?_
            refine wp_il1 jF_93_38 rfl rfl (pc2 := 39) ?_
            refine wp_iald (n := 25) (e := (σ.1 46 sg.toNat)) jF_93_39 kd46 (by decide) rfl rfl (by omega) (by omega) rfl rfl (pc2 := 40) ?_
            refine wp_bi jF_93_40 (by decide) rfl (pc2 := 42) ?_
            refine wp_ic jF_93_42 rfl (pc2 := 43) ?_
            refine wp_il1 jF_93_43 rfl rfl (pc2 := 44) ?_
            refine wp_mul jF_93_44 rfl (pc2 := 45) ?_
            refine wp_sub jF_93_45 rfl (pc2 := 46) ?_
            refine wp_any2 (pc2 := 47) jF_93_46 rfl rfl ?_
            intro z7 h8
            refine wp_bi jF_93_47 (by decide) rfl (pc2 := 49) ?_
            refine wp_andl jF_93_49 rfl rfl (pc2 := 50) ?_
            intro z9 h10
            refine wp_ri jF_93_50 rfl ?_
            exact ⟨z9, rfl, ⟨by omega, by omega⟩, rfl⟩
          · intro h6
            refine wp_ic jF_93_32 rfl (pc2 := 33) ?_
            refine wp_ri jF_93_33 rfl ?_
            exact ⟨(-1), rfl, ⟨by omega, by omega⟩, rfl⟩
set_option maxHeartbeats 4000000 in
set_option maxRecDepth 20000 in
/-- Tongue.hasSign -/
theorem m_108_r45 (σ : jM) (hg : GI σ) (sg : Int) (hl_sg : (-2147483648) ≤ sg) (hu_sg : sg ≤ 2147483647)  (fr lo : Nat) (hfr : 0 ≤ fr) (hlo : 0 ≤ lo) : WP 108 0 (lv_args 0 [.ref 45, iV sg]) [] fr lo σ (fun v τ => ∃ z : Int, v = some (iV z) ∧ (0 ≤ z ∧ z ≤ 1) ∧ σ = τ) := by
  show WP 108 0 [(0, .ref 45), (1, iV sg)] [] _ _ _ _
  refine wp_il1 jF_108_0 rfl rfl (pc2 := 1) ?_
  refine wp_z_lt jF_108_1 ⟨by omega, by omega⟩ rfl (pc2 := 4) ?_ ?_
  · intro h1
    refine wp_ic jF_108_29 rfl (pc2 := 30) ?_
    refine wp_ri jF_108_30 rfl ?_
    exact ⟨0, rfl, ⟨by omega, by omega⟩, rfl⟩
  · intro h1
    refine wp_il1 jF_108_4 rfl rfl (pc2 := 5) ?_
    refine wp_bi jF_108_5 (by decide) rfl (pc2 := 7) ?_
    refine wp_i_ge jF_108_7 ⟨by omega, by omega⟩ (m_rgl rfl) rfl (pc2 := 10) ?_ ?_
    · intro h2
      refine wp_ic jF_108_29 rfl (pc2 := 30) ?_
      refine wp_ri jF_108_30 rfl ?_
      exact ⟨0, rfl, ⟨by omega, by omega⟩, rfl⟩
    · intro h2
      refine wp_il1 jF_108_10 rfl rfl (pc2 := 11) ?_
      refine wp_bi jF_108_11 (by decide) rfl (pc2 := 13) ?_
      refine wp_i_ge jF_108_13 ⟨by omega, by omega⟩ (m_rgl rfl) rfl (pc2 := 16) ?_ ?_
      · intro h3
        refine wp_ic jF_108_25 rfl (pc2 := 26) ?_
        refine wp_go jF_108_26 ?_
        refine wp_ri jF_108_30 rfl ?_
        exact ⟨1, rfl, ⟨by omega, by omega⟩, rfl⟩
      · intro h3
        refine wp_al1 jF_108_16 rfl rfl (pc2 := 17) ?_
        refine wp_gr (b := 46) jF_108_17 kd45 (by decide) (c := 4) rfl rfl rfl (pc2 := 20) ?_
        refine wp_il1 jF_108_20 rfl rfl (pc2 := 21) ?_
        have b4 := GI.b hg 46 sg.toNat kd46 (lo := (-2147483648)) (hi := 2147483647) rfl
        refine wp_iald (n := 25) (e := (σ.1 46 sg.toNat)) jF_108_21 kd46 (by decide) rfl rfl (by omega) (by omega) rfl rfl (pc2 := 22) ?_
        refine wp_z_eq jF_108_22 (m_rgb b4 rfl) rfl (pc2 := 25) ?_ ?_
        · intro h5
          refine wp_ic jF_108_29 rfl (pc2 := 30) ?_
          refine wp_ri jF_108_30 rfl ?_
          exact ⟨0, rfl, ⟨by omega, by omega⟩, rfl⟩
        · intro h5
          refine wp_ic jF_108_25 rfl (pc2 := 26) ?_
          refine wp_go jF_108_26 ?_
          refine wp_ri jF_108_30 rfl ?_
          exact ⟨1, rfl, ⟨by omega, by omega⟩, rfl⟩
set_option maxHeartbeats 4000000 in
set_option maxRecDepth 20000 in
/-- Tongue.isCase -/
theorem m_100_r45 (σ : jM) (hg : GI σ) (nb : Int) (hl_nb : (-2147483648) ≤ nb) (hu_nb : nb ≤ 2147483647)  (fr lo : Nat) (hfr : 0 ≤ fr) (hlo : 0 ≤ lo) : WP 100 0 (lv_args 0 [.ref 45, iV nb]) [] fr lo σ (fun v τ => ∃ z : Int, v = some (iV z) ∧ (0 ≤ z ∧ z ≤ 1) ∧ σ = τ) := by
  show WP 100 0 [(0, .ref 45), (1, iV nb)] [] _ _ _ _
  refine wp_il1 jF_100_0 rfl rfl (pc2 := 1) ?_
  refine wp_z_lt jF_100_1 ⟨by omega, by omega⟩ rfl (pc2 := 4) ?_ ?_
  · intro h1
    refine wp_ic jF_100_16 rfl (pc2 := 17) ?_
    refine wp_ri jF_100_17 rfl ?_
    exact ⟨0, rfl, ⟨by omega, by omega⟩, rfl⟩
  · intro h1
    refine wp_il1 jF_100_4 rfl rfl (pc2 := 5) ?_
    refine wp_al1 jF_100_5 rfl rfl (pc2 := 6) ?_
    have b2 := GI.b hg 45 12 kd45 (lo := (-2147483648)) (hi := 2147483647) rfl
    refine wp_gi jF_100_6 kd45 (by decide) rfl rfl rfl (pc2 := 9) ?_
    refine wp_i_ge jF_100_9 ⟨by omega, by omega⟩ (m_rgb b2 rfl) rfl (pc2 := 12) ?_ ?_
    · intro h3
      refine wp_ic jF_100_16 rfl (pc2 := 17) ?_
      refine wp_ri jF_100_17 rfl ?_
      exact ⟨0, rfl, ⟨by omega, by omega⟩, rfl⟩
    · intro h3
      refine wp_ic jF_100_12 rfl (pc2 := 13) ?_
      refine wp_go jF_100_13 ?_
      refine wp_ri jF_100_17 rfl ?_
      exact ⟨1, rfl, ⟨by omega, by omega⟩, rfl⟩
set_option maxHeartbeats 4000000 in
set_option maxRecDepth 20000 in
/-- Tongue.keepsPeace -/
theorem m_85_r45 (σ : jM) (hg : GI σ) (fb : Int64)  (fr lo : Nat) (hfr : 1 ≤ fr) (hlo : 22 ≤ lo) : WP 85 0 (lv_args 0 [.ref 45, .long fb]) [] fr lo σ (fun v τ => ∃ z : Int, v = some (iV z) ∧ (0 ≤ z ∧ z ≤ 1) ∧ σ = τ) := by
  show WP 85 0 [(0, .ref 45), (1, .long fb)] [] _ _ _ _
  refine wp_al1 jF_85_0 rfl rfl (pc2 := 1) ?_
  refine wp_gr (b := 58) jF_85_1 kd45 (by decide) (c := 16) rfl rfl rfl (pc2 := 4) ?_
  refine wp_ll1 jF_85_4 rfl rfl (pc2 := 5) ?_
  refine wp_cV (as := [.long fb]) (rest := []) (a := 58) (mx := 3) (ci := 7) jF_85_5 kd58 (by decide) rfl rfl rfl rfl rfl (by omega) (by omega) rfl (pc2 := 8) ?_
  refine wp_use (m_86_r58 σ hg fb  _ _ (by omega) (by omega)) ?_
  rintro _ _ ⟨z3, rfl, h4, rfl⟩
  show WP 85 8 [(0, .ref 45), (1, .long fb)] [iV z3] _ _ _ _
  refine wp_ri jF_85_8 (m_fitb (by omega) (by omega)) ?_
  exact ⟨z3, rfl, ⟨by omega, by omega⟩, rfl⟩
set_option maxHeartbeats 4000000 in
set_option maxRecDepth 20000 in
/-- Tongue.worthFor -/
theorem m_155_r45 (σ : jM) (hg : GI σ) (pt : Int) (hl_pt : (-2147483648) ≤ pt) (hu_pt : pt ≤ 2147483647) (fb : Int64)  (fr lo : Nat) (hfr : 2 ≤ fr) (hlo : 46 ≤ lo) : WP 155 0 (lv_args 0 [.ref 45, iV pt, .long fb]) [] fr lo σ (fun v τ => ∃ z : Int, v = some (iV z) ∧ ((-2147483648) ≤ z ∧ z ≤ 2147483647) ∧ σ = τ) := by
  show WP 155 0 [(0, .ref 45), (1, iV pt), (2, .long fb)] [] _ _ _ _
  refine wp_il1 jF_155_0 rfl rfl (pc2 := 1) ?_
  refine wp_z_lt jF_155_1 ⟨by omega, by omega⟩ rfl (pc2 := 4) ?_ ?_
  · intro h1
    refine wp_ic jF_155_12 rfl (pc2 := 13) ?_
    refine wp_ri jF_155_13 rfl ?_
    exact ⟨(-1), rfl, ⟨by omega, by omega⟩, rfl⟩
  · intro h1
    refine wp_il1 jF_155_4 rfl rfl (pc2 := 5) ?_
    refine wp_al1 jF_155_5 rfl rfl (pc2 := 6) ?_
    have b2 := GI.b hg 45 11 kd45 (lo := 0) (hi := 5) rfl
    refine wp_gi jF_155_6 kd45 (by decide) rfl rfl rfl (pc2 := 9) ?_
    refine wp_i_lt jF_155_9 ⟨by omega, by omega⟩ (m_rgb b2 rfl) rfl (pc2 := 12) ?_ ?_
    · intro h3
      refine wp_ic jF_155_14 rfl (pc2 := 15) ?_
      refine wp_is2 (lv2 := [(0, .ref 45), (1, iV pt), (2, .long fb), (4, iV 0)]) jF_155_15 rfl rfl rfl (pc2 := 17) ?_
      refine wp_ic jF_155_17 rfl (pc2 := 18) ?_
      refine wp_is2 (lv2 := [(0, .ref 45), (1, iV pt), (2, .long fb), (4, iV 0), (5, iV 0)]) jF_155_18 rfl rfl rfl (pc2 := 20) ?_
      refine wp_loop (α := Int × Int) (fun a => [(0, .ref 45), (1, iV pt), (2, .long fb), (4, iV (a.1)), (5, iV (a.2))]) (fun a τ => ((-2147483648) ≤ a.1 ∧ a.1 ≤ 2147483647) ∧ (0 ≤ a.2 ∧ a.2 ≤ 16) ∧ σ = τ) (fun a τ => Int.toNat (16 - (a.2))) (0, 0) σ ?_ ?_
      · skip
        exact ⟨⟨by (try dsimp only); omega, by (try dsimp only); omega⟩, ⟨by (try dsimp only); omega, by (try dsimp only); omega⟩, rfl⟩
      · rintro ⟨x4, x5⟩ _ ⟨h6, h7, rfl⟩ ih11
        try dsimp only at h6 h7
        show WP 155 20 [(0, .ref 45), (1, iV pt), (2, .long fb), (4, iV x4), (5, iV x5)] [] _ _ _ _
        show WP 155 20 [(0, .ref 45), (1, iV pt), (2, .long fb), (4, iV x4), (5, iV x5)] [] _ _ _ _
        refine wp_il2 jF_155_20 rfl rfl (pc2 := 22) ?_
        refine wp_al1 jF_155_22 rfl rfl (pc2 := 23) ?_
        refine wp_gr (b := 52) jF_155_23 kd45 (by decide) (c := 10) rfl rfl rfl (pc2 := 26) ?_
        have b12 := GI.b hg 52 5 kd52 (lo := 0) (hi := 16) rfl
        refine wp_gi jF_155_26 kd52 (by decide) rfl rfl rfl (pc2 := 29) ?_
        refine wp_i_ge jF_155_29 (m_rgb h7 rfl) (m_rgb b12 rfl) rfl (pc2 := 32) ?_ ?_
        · intro h13
          refine wp_il2 jF_155_67 rfl rfl (pc2 := 69) ?_
          refine wp_ri jF_155_69 rfl ?_
          exact ⟨x4, rfl, ⟨by omega, by omega⟩, rfl⟩
        · intro h13
          refine wp_al1 jF_155_32 rfl rfl (pc2 := 33) ?_
          refine wp_gr (b := 52) jF_155_33 kd45 (by decide) (c := 10) rfl rfl rfl (pc2 := 36) ?_
          refine wp_gr (b := 55) jF_155_36 kd52 (by decide) (c := 6) rfl rfl rfl (pc2 := 39) ?_
          refine wp_il2 jF_155_39 rfl rfl (pc2 := 41) ?_
          have b14 := GI.b hg 55 x5.toNat kd55 (lo := (-2147483648)) (hi := 2147483647) rfl
          refine wp_iald (n := 16) (e := (σ.1 55 x5.toNat)) jF_155_41 kd55 (by decide) rfl rfl (by omega) (by omega) rfl rfl (pc2 := 42) ?_
          refine wp_il1 jF_155_42 rfl rfl (pc2 := 43) ?_
          refine wp_i_ne jF_155_43 (m_rgb b14 rfl) ⟨by omega, by omega⟩ rfl (pc2 := 46) ?_ ?_
          · intro h15
            refine wp_inc (lv2 := [(0, .ref 45), (1, iV pt), (2, .long fb), (4, iV x4), (5, iV (x5 + 1))]) jF_155_61 rfl rfl rfl rfl (pc2 := 64) ?_
            refine wp_go jF_155_64 ?_
            exact ih11 (x4, (x5 + 1)) σ ⟨⟨by (try dsimp only); omega, by (try dsimp only); omega⟩, ⟨by (try dsimp only); omega, by (try dsimp only); omega⟩, rfl⟩ (by show Int.toNat (16 - (x5 + 1)) < Int.toNat (16 - x5); omega)
          · intro h15
            refine wp_il2 jF_155_46 rfl rfl (pc2 := 48) ?_
            refine wp_al1 jF_155_48 rfl rfl (pc2 := 49) ?_
            refine wp_gr (b := 52) jF_155_49 kd45 (by decide) (c := 10) rfl rfl rfl (pc2 := 52) ?_
            refine wp_il2 jF_155_52 rfl rfl (pc2 := 54) ?_
            refine wp_ll1 jF_155_54 rfl rfl (pc2 := 55) ?_
            refine wp_cV (as := [iV x5, .long fb]) (rest := [iV x4]) (a := 52) (mx := 6) (ci := 7) jF_155_55 kd52 (by decide) rfl rfl rfl rfl rfl (by omega) (by omega) rfl (pc2 := 58) ?_
            refine wp_use (m_156_r52 σ hg x5 (by omega) (by omega) fb  _ _ (by omega) (by omega)) ?_
            rintro _ _ ⟨z18, rfl, h19, rfl⟩
            show WP 155 58 [(0, .ref 45), (1, iV pt), (2, .long fb), (4, iV x4), (5, iV x5)] [iV z18, iV x4] _ _ _ _
            refine wp_any2 (pc2 := 59) jF_155_58 rfl rfl ?_
            intro z20 h21
            refine wp_is2 (lv2 := [(0, .ref 45), (1, iV pt), (2, .long fb), (4, iV z20), (5, iV x5)]) jF_155_59 rfl rfl rfl (pc2 := 61) ?_
            refine wp_inc (lv2 := [(0, .ref 45), (1, iV pt), (2, .long fb), (4, iV z20), (5, iV (x5 + 1))]) jF_155_61 rfl rfl rfl rfl (pc2 := 64) ?_
            refine wp_go jF_155_64 ?_
            exact ih11 (z20, (x5 + 1)) σ ⟨⟨by (try dsimp only); omega, by (try dsimp only); omega⟩, ⟨by (try dsimp only); omega, by (try dsimp only); omega⟩, rfl⟩ (by show Int.toNat (16 - (x5 + 1)) < Int.toNat (16 - x5); omega)
    · intro h3
      refine wp_ic jF_155_12 rfl (pc2 := 13) ?_
      refine wp_ri jF_155_13 rfl ?_
      exact ⟨(-1), rfl, ⟨by omega, by omega⟩, rfl⟩
set_option maxHeartbeats 4000000 in
set_option maxRecDepth 20000 in
/-- Tongue.weighGains -/
theorem m_159_r45 (σ : jM) (hg : GI σ) (la : Int64) (lb : Int64)  (fr lo : Nat) (hfr : 2 ≤ fr) (hlo : 46 ≤ lo) : WP 159 0 (lv_args 0 [.ref 45, .long la, .long lb]) [] fr lo σ (fun v τ => v = none ∧ GI τ ∧ FR Wc50 σ τ) := by
  show WP 159 0 [(0, .ref 45), (1, .long la), (3, .long lb)] [] _ _ _ _
  refine wp_al1 jF_159_0 rfl rfl (pc2 := 1) ?_
  refine wp_gr (b := 50) jF_159_1 kd45 (by decide) (c := 8) rfl rfl rfl (pc2 := 4) ?_
  refine wp_ic jF_159_4 rfl (pc2 := 5) ?_
  refine wp_cS (as := [.ref 50, iV 0]) (rest := []) (mx := 4) jF_159_5 rfl rfl rfl rfl (by omega) (by omega) rfl (pc2 := 8) ?_
  refine wp_use (m_31_r50 σ hg   _ _ (by omega) (by omega)) ?_
  rintro _ τ1 ⟨rfl, g2, f3⟩
  show WP 159 8 [(0, .ref 45), (1, .long la), (3, .long lb)] [] _ _ _ _
  refine wp_ic jF_159_8 rfl (pc2 := 9) ?_
  refine wp_is2 (lv2 := [(0, .ref 45), (1, .long la), (3, .long lb), (5, iV 0)]) jF_159_9 rfl rfl rfl (pc2 := 11) ?_
  refine wp_loop (α := Int) (fun a => [(0, .ref 45), (1, .long la), (3, .long lb), (5, iV (a))]) (fun a τ => (0 ≤ a ∧ a ≤ 16) ∧ GI τ ∧ FR Wc50 τ1 τ) (fun a τ => Int.toNat (16 - (a))) (0) τ1 ?_ ?_
  · skip
    exact ⟨⟨by omega, by omega⟩, g2, FR.rf⟩
  · rintro x4 τ6 ⟨h5, g7, f8⟩ ih9
    show WP 159 11 [(0, .ref 45), (1, .long la), (3, .long lb), (5, iV x4)] [] _ _ _ _
    show WP 159 11 [(0, .ref 45), (1, .long la), (3, .long lb), (5, iV x4)] [] _ _ _ _
    refine wp_il2 jF_159_11 rfl rfl (pc2 := 13) ?_
    refine wp_al1 jF_159_13 rfl rfl (pc2 := 14) ?_
    refine wp_gr (b := 52) jF_159_14 kd45 (by decide) (c := 10) rfl rfl rfl (pc2 := 17) ?_
    have b10 := GI.b hg 52 5 kd52 (lo := 0) (hi := 16) rfl
    refine wp_gi jF_159_17 kd52 (by decide) rfl ((FR.at f8 52 5 rfl).trans (FR.at f3 52 5 rfl)) rfl (pc2 := 20) ?_
    refine wp_i_ge jF_159_20 (m_rgb h5 rfl) (m_rgb b10 rfl) rfl (pc2 := 23) ?_ ?_
    · intro h11
      refine wp_rv jF_159_87 ?_
      exact ⟨rfl, g7, (FR.up f3 f8 sb_Wc50_Wc50)⟩
    · intro h11
      refine wp_al1 jF_159_23 rfl rfl (pc2 := 24) ?_
      refine wp_gr (b := 52) jF_159_24 kd45 (by decide) (c := 10) rfl rfl rfl (pc2 := 27) ?_
      refine wp_gr (b := 55) jF_159_27 kd52 (by decide) (c := 6) rfl rfl rfl (pc2 := 30) ?_
      refine wp_il2 jF_159_30 rfl rfl (pc2 := 32) ?_
      have b12 := GI.b hg 55 x4.toNat kd55 (lo := (-2147483648)) (hi := 2147483647) rfl
      refine wp_iald (n := 16) (e := (σ.1 55 x4.toNat)) jF_159_32 kd55 (by decide) rfl rfl (by omega) (by omega) ((FR.at f8 55 x4.toNat rfl).trans (FR.at f3 55 x4.toNat rfl)) rfl (pc2 := 33) ?_
      refine wp_is2 (lv2 := [(0, .ref 45), (1, .long la), (3, .long lb), (5, iV x4), (6, iV (σ.1 55 x4.toNat))]) jF_159_33 rfl rfl rfl (pc2 := 35) ?_
      refine wp_il2 jF_159_35 rfl rfl (pc2 := 37) ?_
      refine wp_z_lt jF_159_37 (m_rgb b12 rfl) rfl (pc2 := 40) ?_ ?_
      · intro h13
        refine wp_inc (lv2 := [(0, .ref 45), (1, .long la), (3, .long lb), (5, iV (x4 + 1)), (6, iV (σ.1 55 x4.toNat))]) jF_159_81 rfl rfl rfl rfl (pc2 := 84) ?_
        refine wp_go jF_159_84 ?_
        refine wp_less [0, 1, 3, 5] (lv2 := [(0, .ref 45), (1, .long la), (3, .long lb), (5, iV (x4 + 1))]) rfl rfl ?_
        exact ih9 ((x4 + 1)) τ6 ⟨⟨by omega, by omega⟩, g7, f8⟩ (by show Int.toNat (16 - (x4 + 1)) < Int.toNat (16 - x4); omega)
      · intro h13
        refine wp_il2 jF_159_40 rfl rfl (pc2 := 42) ?_
        refine wp_al1 jF_159_42 rfl rfl (pc2 := 43) ?_
        refine wp_gr (b := 50) jF_159_43 kd45 (by decide) (c := 8) rfl rfl rfl (pc2 := 46) ?_
        refine wp_len (n := 5) (t := 0) jF_159_46 kd50 (by decide) rfl rfl (pc2 := 47) ?_
        refine wp_i_ge jF_159_47 ⟨by omega, by omega⟩ (m_rgl rfl) rfl (pc2 := 50) ?_ ?_
        · intro h14
          refine wp_inc (lv2 := [(0, .ref 45), (1, .long la), (3, .long lb), (5, iV (x4 + 1)), (6, iV (σ.1 55 x4.toNat))]) jF_159_81 rfl rfl rfl rfl (pc2 := 84) ?_
          refine wp_go jF_159_84 ?_
          refine wp_less [0, 1, 3, 5] (lv2 := [(0, .ref 45), (1, .long la), (3, .long lb), (5, iV (x4 + 1))]) rfl rfl ?_
          exact ih9 ((x4 + 1)) τ6 ⟨⟨by omega, by omega⟩, g7, f8⟩ (by show Int.toNat (16 - (x4 + 1)) < Int.toNat (16 - x4); omega)
        · intro h14
          refine wp_al1 jF_159_50 rfl rfl (pc2 := 51) ?_
          refine wp_gr (b := 50) jF_159_51 kd45 (by decide) (c := 8) rfl rfl rfl (pc2 := 54) ?_
          refine wp_il2 jF_159_54 rfl rfl (pc2 := 56) ?_
          refine wp_du2 jF_159_56 rfl rfl (pc2 := 57) ?_
          have b15 := GI.b g7 50 (σ.1 55 x4.toNat).toNat kd50 (lo := (-2147483648)) (hi := 2147483647) rfl
          refine wp_iald (n := 5) (e := (τ6.1 50 (σ.1 55 x4.toNat).toNat)) jF_159_57 kd50 (by decide) rfl rfl (by omega) (by omega) rfl rfl (pc2 := 58) ?_
          refine wp_al1 jF_159_58 rfl rfl (pc2 := 59) ?_
          refine wp_gr (b := 52) jF_159_59 kd45 (by decide) (c := 10) rfl rfl rfl (pc2 := 62) ?_
          refine wp_il2 jF_159_62 rfl rfl (pc2 := 64) ?_
          refine wp_ll1 jF_159_64 rfl rfl (pc2 := 65) ?_
          refine wp_cV (as := [iV x4, .long lb]) (rest := [iV (τ6.1 50 (σ.1 55 x4.toNat).toNat), iV (σ.1 55 x4.toNat), .ref 50]) (a := 52) (mx := 6) (ci := 7) jF_159_65 kd52 (by decide) rfl rfl rfl rfl rfl (by omega) (by omega) rfl (pc2 := 68) ?_
          refine wp_use (m_156_r52 τ6 g7 x4 (by omega) (by omega) lb  _ _ (by omega) (by omega)) ?_
          rintro _ _ ⟨z18, rfl, h19, rfl⟩
          show WP 159 68 [(0, .ref 45), (1, .long la), (3, .long lb), (5, iV x4), (6, iV (σ.1 55 x4.toNat))] [iV z18, iV (τ6.1 50 (σ.1 55 x4.toNat).toNat), iV (σ.1 55 x4.toNat), .ref 50] _ _ _ _
          refine wp_al1 jF_159_68 rfl rfl (pc2 := 69) ?_
          refine wp_gr (b := 52) jF_159_69 kd45 (by decide) (c := 10) rfl rfl rfl (pc2 := 72) ?_
          refine wp_il2 jF_159_72 rfl rfl (pc2 := 74) ?_
          refine wp_ll1 jF_159_74 rfl rfl (pc2 := 75) ?_
          refine wp_cV (as := [iV x4, .long la]) (rest := [iV z18, iV (τ6.1 50 (σ.1 55 x4.toNat).toNat), iV (σ.1 55 x4.toNat), .ref 50]) (a := 52) (mx := 6) (ci := 7) jF_159_75 kd52 (by decide) rfl rfl rfl rfl rfl (by omega) (by omega) rfl (pc2 := 78) ?_
          refine wp_use (m_156_r52 τ6 g7 x4 (by omega) (by omega) la  _ _ (by omega) (by omega)) ?_
          rintro _ _ ⟨z22, rfl, h23, rfl⟩
          show WP 159 78 [(0, .ref 45), (1, .long la), (3, .long lb), (5, iV x4), (6, iV (σ.1 55 x4.toNat))] [iV z22, iV z18, iV (τ6.1 50 (σ.1 55 x4.toNat).toNat), iV (σ.1 55 x4.toNat), .ref 50] _ _ _ _
          refine wp_any2 (pc2 := 79) jF_159_78 rfl rfl ?_
          intro z24 h25
          refine wp_any2 (pc2 := 80) jF_159_79 rfl rfl ?_
          intro z26 h27
          refine wp_iast (n := 5) jF_159_80 kd50 (by decide) rfl rfl (by omega) (by omega) rfl (pc2 := 81) g7 (lo := (-2147483648)) (hi := 2147483647) rfl (by omega) (by omega) ?_
          intro τ28 g29 f30 e31
          refine wp_inc (lv2 := [(0, .ref 45), (1, .long la), (3, .long lb), (5, iV (x4 + 1)), (6, iV (σ.1 55 x4.toNat))]) jF_159_81 rfl rfl rfl rfl (pc2 := 84) ?_
          refine wp_go jF_159_84 ?_
          refine wp_less [0, 1, 3, 5] (lv2 := [(0, .ref 45), (1, .long la), (3, .long lb), (5, iV (x4 + 1))]) rfl rfl ?_
          exact ih9 ((x4 + 1)) τ28 ⟨⟨by omega, by omega⟩, g29, (FR.w f8 f30 rfl)⟩ (by show Int.toNat (16 - (x4 + 1)) < Int.toNat (16 - x4); omega)
set_option maxHeartbeats 4000000 in
set_option maxRecDepth 20000 in
/-- Tongue.votesOn -/
theorem m_158_r45 (σ : jM) (hg : GI σ) (la : Int64) (lb : Int64) (yes : Int) (hl_yes : 0 ≤ yes) (hu_yes : yes ≤ 1)  (fr lo : Nat) (hfr : 3 ≤ fr) (hlo : 72 ≤ lo) : WP 158 0 (lv_args 0 [.ref 45, .long la, .long lb, iV yes]) [] fr lo σ (fun v τ => ∃ z : Int, v = some (iV z) ∧ ((-2147483648) ≤ z ∧ z ≤ 2147483647) ∧ GI τ ∧ FR Wc50 σ τ) := by
  show WP 158 0 [(0, .ref 45), (1, .long la), (3, .long lb), (5, iV yes)] [] _ _ _ _
  refine wp_al1 jF_158_0 rfl rfl (pc2 := 1) ?_
  refine wp_ll1 jF_158_1 rfl rfl (pc2 := 2) ?_
  refine wp_ll1 jF_158_2 rfl rfl (pc2 := 3) ?_
  refine wp_cV (as := [.long la, .long lb]) (rest := []) (a := 45) (mx := 7) (ci := 8) jF_158_3 kd45 (by decide) rfl rfl rfl rfl rfl (by omega) (by omega) rfl (pc2 := 6) ?_
  refine wp_use (m_159_r45 σ hg la lb  _ _ (by omega) (by omega)) ?_
  rintro _ τ1 ⟨rfl, g2, f3⟩
  show WP 158 6 [(0, .ref 45), (1, .long la), (3, .long lb), (5, iV yes)] [] _ _ _ _
  refine wp_ic jF_158_6 rfl (pc2 := 7) ?_
  refine wp_is2 (lv2 := [(0, .ref 45), (1, .long la), (3, .long lb), (5, iV yes), (6, iV 0)]) jF_158_7 rfl rfl rfl (pc2 := 9) ?_
  refine wp_ic jF_158_9 rfl (pc2 := 10) ?_
  refine wp_is2 (lv2 := [(0, .ref 45), (1, .long la), (3, .long lb), (5, iV yes), (6, iV 0), (7, iV 0)]) jF_158_10 rfl rfl rfl (pc2 := 12) ?_
  refine wp_loop (α := Int × Int) (fun a => [(0, .ref 45), (1, .long la), (3, .long lb), (5, iV yes), (6, iV (a.1)), (7, iV (a.2))]) (fun a τ => ((-2147483648) ≤ a.1 ∧ a.1 ≤ 2147483647) ∧ (0 ≤ a.2 ∧ a.2 ≤ 5) ∧ τ1 = τ) (fun a τ => Int.toNat (5 - (a.2))) (0, 0) τ1 ?_ ?_
  · skip
    exact ⟨⟨by (try dsimp only); omega, by (try dsimp only); omega⟩, ⟨by (try dsimp only); omega, by (try dsimp only); omega⟩, rfl⟩
  · rintro ⟨x4, x5⟩ _ ⟨h6, h7, rfl⟩ ih11
    try dsimp only at h6 h7
    show WP 158 12 [(0, .ref 45), (1, .long la), (3, .long lb), (5, iV yes), (6, iV x4), (7, iV x5)] [] _ _ _ _
    show WP 158 12 [(0, .ref 45), (1, .long la), (3, .long lb), (5, iV yes), (6, iV x4), (7, iV x5)] [] _ _ _ _
    refine wp_il2 jF_158_12 rfl rfl (pc2 := 14) ?_
    refine wp_al1 jF_158_14 rfl rfl (pc2 := 15) ?_
    have b12 := GI.b hg 45 11 kd45 (lo := 0) (hi := 5) rfl
    refine wp_gi jF_158_15 kd45 (by decide) rfl (FR.at f3 45 11 rfl) rfl (pc2 := 18) ?_
    refine wp_i_ge jF_158_18 (m_rgb h7 rfl) (m_rgb b12 rfl) rfl (pc2 := 21) ?_ ?_
    · intro h13
      refine wp_il2 jF_158_67 rfl rfl (pc2 := 69) ?_
      refine wp_ri jF_158_69 rfl ?_
      exact ⟨x4, rfl, ⟨by omega, by omega⟩, g2, f3⟩
    · intro h13
      refine wp_il2 jF_158_21 rfl rfl (pc2 := 23) ?_
      refine wp_z_eq jF_158_23 ⟨by omega, by omega⟩ rfl (pc2 := 26) ?_ ?_
      · intro h14
        refine wp_al1 jF_158_39 rfl rfl (pc2 := 40) ?_
        refine wp_gr (b := 50) jF_158_40 kd45 (by decide) (c := 8) rfl rfl rfl (pc2 := 43) ?_
        refine wp_il2 jF_158_43 rfl rfl (pc2 := 45) ?_
        have b15 := GI.b g2 50 x5.toNat kd50 (lo := (-2147483648)) (hi := 2147483647) rfl
        refine wp_iald (n := 5) (e := (τ1.1 50 x5.toNat)) jF_158_45 kd50 (by decide) rfl rfl (by omega) (by omega) rfl rfl (pc2 := 46) ?_
        refine wp_z_ge jF_158_46 (m_rgb b15 rfl) rfl (pc2 := 49) ?_ ?_
        · intro h16
          refine wp_inc (lv2 := [(0, .ref 45), (1, .long la), (3, .long lb), (5, iV yes), (6, iV x4), (7, iV (x5 + 1))]) jF_158_61 rfl rfl rfl rfl (pc2 := 64) ?_
          refine wp_go jF_158_64 ?_
          exact ih11 (x4, (x5 + 1)) τ1 ⟨⟨by (try dsimp only); omega, by (try dsimp only); omega⟩, ⟨by (try dsimp only); omega, by (try dsimp only); omega⟩, rfl⟩ (by show Int.toNat (5 - (x5 + 1)) < Int.toNat (5 - x5); omega)
        · intro h16
          refine wp_il2 jF_158_49 rfl rfl (pc2 := 51) ?_
          refine wp_al1 jF_158_51 rfl rfl (pc2 := 52) ?_
          refine wp_gr (b := 49) jF_158_52 kd45 (by decide) (c := 7) rfl rfl rfl (pc2 := 55) ?_
          refine wp_il2 jF_158_55 rfl rfl (pc2 := 57) ?_
          have b17 := GI.b hg 49 x5.toNat kd49 (lo := (-2147483648)) (hi := 2147483647) rfl
          refine wp_iald (n := 5) (e := (σ.1 49 x5.toNat)) jF_158_57 kd49 (by decide) rfl rfl (by omega) (by omega) (FR.at f3 49 x5.toNat rfl) rfl (pc2 := 58) ?_
          refine wp_any2 (pc2 := 59) jF_158_58 rfl rfl ?_
          intro z18 h19
          refine wp_is2 (lv2 := [(0, .ref 45), (1, .long la), (3, .long lb), (5, iV yes), (6, iV z18), (7, iV x5)]) jF_158_59 rfl rfl rfl (pc2 := 61) ?_
          refine wp_inc (lv2 := [(0, .ref 45), (1, .long la), (3, .long lb), (5, iV yes), (6, iV z18), (7, iV (x5 + 1))]) jF_158_61 rfl rfl rfl rfl (pc2 := 64) ?_
          refine wp_go jF_158_64 ?_
          exact ih11 (z18, (x5 + 1)) τ1 ⟨⟨by (try dsimp only); omega, by (try dsimp only); omega⟩, ⟨by (try dsimp only); omega, by (try dsimp only); omega⟩, rfl⟩ (by show Int.toNat (5 - (x5 + 1)) < Int.toNat (5 - x5); omega)
      · intro h14
        refine wp_al1 jF_158_26 rfl rfl (pc2 := 27) ?_
        refine wp_gr (b := 50) jF_158_27 kd45 (by decide) (c := 8) rfl rfl rfl (pc2 := 30) ?_
        refine wp_il2 jF_158_30 rfl rfl (pc2 := 32) ?_
        have b20 := GI.b g2 50 x5.toNat kd50 (lo := (-2147483648)) (hi := 2147483647) rfl
        refine wp_iald (n := 5) (e := (τ1.1 50 x5.toNat)) jF_158_32 kd50 (by decide) rfl rfl (by omega) (by omega) rfl rfl (pc2 := 33) ?_
        refine wp_z_le jF_158_33 (m_rgb b20 rfl) rfl (pc2 := 36) ?_ ?_
        · intro h21
          refine wp_inc (lv2 := [(0, .ref 45), (1, .long la), (3, .long lb), (5, iV yes), (6, iV x4), (7, iV (x5 + 1))]) jF_158_61 rfl rfl rfl rfl (pc2 := 64) ?_
          refine wp_go jF_158_64 ?_
          exact ih11 (x4, (x5 + 1)) τ1 ⟨⟨by (try dsimp only); omega, by (try dsimp only); omega⟩, ⟨by (try dsimp only); omega, by (try dsimp only); omega⟩, rfl⟩ (by show Int.toNat (5 - (x5 + 1)) < Int.toNat (5 - x5); omega)
        · intro h21
          refine wp_go jF_158_36 ?_
          refine wp_il2 jF_158_49 rfl rfl (pc2 := 51) ?_
          refine wp_al1 jF_158_51 rfl rfl (pc2 := 52) ?_
          refine wp_gr (b := 49) jF_158_52 kd45 (by decide) (c := 7) rfl rfl rfl (pc2 := 55) ?_
          refine wp_il2 jF_158_55 rfl rfl (pc2 := 57) ?_
          have b22 := GI.b hg 49 x5.toNat kd49 (lo := (-2147483648)) (hi := 2147483647) rfl
          refine wp_iald (n := 5) (e := (σ.1 49 x5.toNat)) jF_158_57 kd49 (by decide) rfl rfl (by omega) (by omega) (FR.at f3 49 x5.toNat rfl) rfl (pc2 := 58) ?_
          refine wp_any2 (pc2 := 59) jF_158_58 rfl rfl ?_
          intro z23 h24
          refine wp_is2 (lv2 := [(0, .ref 45), (1, .long la), (3, .long lb), (5, iV yes), (6, iV z23), (7, iV x5)]) jF_158_59 rfl rfl rfl (pc2 := 61) ?_
          refine wp_inc (lv2 := [(0, .ref 45), (1, .long la), (3, .long lb), (5, iV yes), (6, iV z23), (7, iV (x5 + 1))]) jF_158_61 rfl rfl rfl rfl (pc2 := 64) ?_
          refine wp_go jF_158_64 ?_
          exact ih11 (z23, (x5 + 1)) τ1 ⟨⟨by (try dsimp only); omega, by (try dsimp only); omega⟩, ⟨by (try dsimp only); omega, by (try dsimp only); omega⟩, rfl⟩ (by show Int.toNat (5 - (x5 + 1)) < Int.toNat (5 - x5); omega)
set_option maxHeartbeats 4000000 in
set_option maxRecDepth 20000 in
/-- Tongue.isVoted -/
theorem m_162_r45 (σ : jM) (hg : GI σ) (la : Int64) (lb : Int64)  (fr lo : Nat) (hfr : 3 ≤ fr) (hlo : 72 ≤ lo) : WP 162 0 (lv_args 0 [.ref 45, .long la, .long lb]) [] fr lo σ (fun v τ => ∃ z : Int, v = some (iV z) ∧ (0 ≤ z ∧ z ≤ 1) ∧ GI τ ∧ FR Wc50 σ τ) := by
  show WP 162 0 [(0, .ref 45), (1, .long la), (3, .long lb)] [] _ _ _ _
  refine wp_ll1 jF_162_0 rfl rfl (pc2 := 1) ?_
  refine wp_ll1 jF_162_1 rfl rfl (pc2 := 2) ?_
  refine wp_anyL (pc2 := 3) jF_162_2 rfl rfl ?_
  intro z1 h2
  refine wp_z_ne jF_162_3 (m_rgb h2 rfl) rfl (pc2 := 6) ?_ ?_
  · intro h3
    refine wp_al1 jF_162_8 rfl rfl (pc2 := 9) ?_
    refine wp_ll1 jF_162_9 rfl rfl (pc2 := 10) ?_
    refine wp_ll1 jF_162_10 rfl rfl (pc2 := 11) ?_
    refine wp_cV (as := [.long la, .long lb]) (rest := []) (a := 45) (mx := 7) (ci := 8) jF_162_11 kd45 (by decide) rfl rfl rfl rfl rfl (by omega) (by omega) rfl (pc2 := 14) ?_
    refine wp_use (m_159_r45 σ hg la lb  _ _ (by omega) (by omega)) ?_
    rintro _ τ4 ⟨rfl, g5, f6⟩
    show WP 162 14 [(0, .ref 45), (1, .long la), (3, .long lb)] [] _ _ _ _
    refine wp_ic jF_162_14 rfl (pc2 := 15) ?_
    refine wp_is2 (lv2 := [(0, .ref 45), (1, .long la), (3, .long lb), (5, iV 0)]) jF_162_15 rfl rfl rfl (pc2 := 17) ?_
    refine wp_ic jF_162_17 rfl (pc2 := 18) ?_
    refine wp_is2 (lv2 := [(0, .ref 45), (1, .long la), (3, .long lb), (5, iV 0), (6, iV 0)]) jF_162_18 rfl rfl rfl (pc2 := 20) ?_
    refine wp_loop (α := Int × Int) (fun a => [(0, .ref 45), (1, .long la), (3, .long lb), (5, iV (a.1)), (6, iV (a.2))]) (fun a τ => ((-2147483648) ≤ a.1 ∧ a.1 ≤ 2147483647) ∧ (0 ≤ a.2 ∧ a.2 ≤ 5) ∧ τ4 = τ) (fun a τ => Int.toNat (5 - (a.2))) (0, 0) τ4 ?_ ?_
    · skip
      exact ⟨⟨by (try dsimp only); omega, by (try dsimp only); omega⟩, ⟨by (try dsimp only); omega, by (try dsimp only); omega⟩, rfl⟩
    · rintro ⟨x7, x8⟩ _ ⟨h9, h10, rfl⟩ ih14
      try dsimp only at h9 h10
      show WP 162 20 [(0, .ref 45), (1, .long la), (3, .long lb), (5, iV x7), (6, iV x8)] [] _ _ _ _
      show WP 162 20 [(0, .ref 45), (1, .long la), (3, .long lb), (5, iV x7), (6, iV x8)] [] _ _ _ _
      refine wp_il2 jF_162_20 rfl rfl (pc2 := 22) ?_
      refine wp_al1 jF_162_22 rfl rfl (pc2 := 23) ?_
      have b15 := GI.b hg 45 11 kd45 (lo := 0) (hi := 5) rfl
      refine wp_gi jF_162_23 kd45 (by decide) rfl (FR.at f6 45 11 rfl) rfl (pc2 := 26) ?_
      refine wp_i_ge jF_162_26 (m_rgb h10 rfl) (m_rgb b15 rfl) rfl (pc2 := 29) ?_ ?_
      · intro h16
        refine wp_il2 jF_162_78 rfl rfl (pc2 := 80) ?_
        refine wp_z_le jF_162_80 (m_rgb h9 rfl) rfl (pc2 := 83) ?_ ?_
        · intro h17
          refine wp_ic jF_162_87 rfl (pc2 := 88) ?_
          refine wp_ri jF_162_88 rfl ?_
          exact ⟨0, rfl, ⟨by omega, by omega⟩, g5, f6⟩
        · intro h17
          refine wp_ic jF_162_83 rfl (pc2 := 84) ?_
          refine wp_go jF_162_84 ?_
          refine wp_ri jF_162_88 rfl ?_
          exact ⟨1, rfl, ⟨by omega, by omega⟩, g5, f6⟩
      · intro h16
        refine wp_al1 jF_162_29 rfl rfl (pc2 := 30) ?_
        refine wp_gr (b := 50) jF_162_30 kd45 (by decide) (c := 8) rfl rfl rfl (pc2 := 33) ?_
        refine wp_il2 jF_162_33 rfl rfl (pc2 := 35) ?_
        have b18 := GI.b g5 50 x8.toNat kd50 (lo := (-2147483648)) (hi := 2147483647) rfl
        refine wp_iald (n := 5) (e := (τ4.1 50 x8.toNat)) jF_162_35 kd50 (by decide) rfl rfl (by omega) (by omega) rfl rfl (pc2 := 36) ?_
        refine wp_z_eq jF_162_36 (m_rgb b18 rfl) rfl (pc2 := 39) ?_ ?_
        · intro h19
          refine wp_inc (lv2 := [(0, .ref 45), (1, .long la), (3, .long lb), (5, iV x7), (6, iV (x8 + 1))]) jF_162_72 rfl rfl rfl rfl (pc2 := 75) ?_
          refine wp_go jF_162_75 ?_
          exact ih14 (x7, (x8 + 1)) τ4 ⟨⟨by (try dsimp only); omega, by (try dsimp only); omega⟩, ⟨by (try dsimp only); omega, by (try dsimp only); omega⟩, rfl⟩ (by show Int.toNat (5 - (x8 + 1)) < Int.toNat (5 - x8); omega)
        · intro h19
          refine wp_il2 jF_162_39 rfl rfl (pc2 := 41) ?_
          refine wp_al1 jF_162_41 rfl rfl (pc2 := 42) ?_
          refine wp_gr (b := 50) jF_162_42 kd45 (by decide) (c := 8) rfl rfl rfl (pc2 := 45) ?_
          refine wp_il2 jF_162_45 rfl rfl (pc2 := 47) ?_
          refine wp_iald (n := 5) (e := (τ4.1 50 x8.toNat)) jF_162_47 kd50 (by decide) rfl rfl (by omega) (by omega) rfl rfl (pc2 := 48) ?_
          refine wp_z_le jF_162_48 (m_rgb b18 rfl) rfl (pc2 := 51) ?_ ?_
          · intro h20
            refine wp_al1 jF_162_61 rfl rfl (pc2 := 62) ?_
            refine wp_gr (b := 49) jF_162_62 kd45 (by decide) (c := 7) rfl rfl rfl (pc2 := 65) ?_
            refine wp_il2 jF_162_65 rfl rfl (pc2 := 67) ?_
            have b21 := GI.b hg 49 x8.toNat kd49 (lo := (-2147483648)) (hi := 2147483647) rfl
            refine wp_iald (n := 5) (e := (σ.1 49 x8.toNat)) jF_162_67 kd49 (by decide) rfl rfl (by omega) (by omega) (FR.at f6 49 x8.toNat rfl) rfl (pc2 := 68) ?_
            refine wp_any1 (pc2 := 69) jF_162_68 rfl rfl ?_
            intro z22 h23
            refine wp_any2 (pc2 := 70) jF_162_69 rfl rfl ?_
            intro z24 h25
            refine wp_is2 (lv2 := [(0, .ref 45), (1, .long la), (3, .long lb), (5, iV z24), (6, iV x8)]) jF_162_70 rfl rfl rfl (pc2 := 72) ?_
            refine wp_inc (lv2 := [(0, .ref 45), (1, .long la), (3, .long lb), (5, iV z24), (6, iV (x8 + 1))]) jF_162_72 rfl rfl rfl rfl (pc2 := 75) ?_
            refine wp_go jF_162_75 ?_
            exact ih14 (z24, (x8 + 1)) τ4 ⟨⟨by (try dsimp only); omega, by (try dsimp only); omega⟩, ⟨by (try dsimp only); omega, by (try dsimp only); omega⟩, rfl⟩ (by show Int.toNat (5 - (x8 + 1)) < Int.toNat (5 - x8); omega)
          · intro h20
            refine wp_al1 jF_162_51 rfl rfl (pc2 := 52) ?_
            refine wp_gr (b := 49) jF_162_52 kd45 (by decide) (c := 7) rfl rfl rfl (pc2 := 55) ?_
            refine wp_il2 jF_162_55 rfl rfl (pc2 := 57) ?_
            have b26 := GI.b hg 49 x8.toNat kd49 (lo := (-2147483648)) (hi := 2147483647) rfl
            refine wp_iald (n := 5) (e := (σ.1 49 x8.toNat)) jF_162_57 kd49 (by decide) rfl rfl (by omega) (by omega) (FR.at f6 49 x8.toNat rfl) rfl (pc2 := 58) ?_
            refine wp_go jF_162_58 ?_
            refine wp_any2 (pc2 := 70) jF_162_69 rfl rfl ?_
            intro z27 h28
            refine wp_is2 (lv2 := [(0, .ref 45), (1, .long la), (3, .long lb), (5, iV z27), (6, iV x8)]) jF_162_70 rfl rfl rfl (pc2 := 72) ?_
            refine wp_inc (lv2 := [(0, .ref 45), (1, .long la), (3, .long lb), (5, iV z27), (6, iV (x8 + 1))]) jF_162_72 rfl rfl rfl rfl (pc2 := 75) ?_
            refine wp_go jF_162_75 ?_
            exact ih14 (z27, (x8 + 1)) τ4 ⟨⟨by (try dsimp only); omega, by (try dsimp only); omega⟩, ⟨by (try dsimp only); omega, by (try dsimp only); omega⟩, rfl⟩ (by show Int.toNat (5 - (x8 + 1)) < Int.toNat (5 - x8); omega)
  · intro h3
    refine wp_ic jF_162_6 rfl (pc2 := 7) ?_
    refine wp_ri jF_162_7 rfl ?_
    exact ⟨0, rfl, ⟨by omega, by omega⟩, hg, FR.rf⟩
