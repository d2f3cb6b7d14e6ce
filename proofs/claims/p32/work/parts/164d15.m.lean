set_option maxHeartbeats 4000000 in
set_option maxRecDepth 20000 in
/-- Row.weighBeside -/
theorem m_111_r80_45_70 (σ : jM) (hg : GI σ) (pl : Int) (hl_pl : 0 ≤ pl) (hu_pl : pl ≤ 61)  (fr lo : Nat) (hfr : 1 ≤ fr) (hlo : 31 ≤ lo) : WP 111 0 (lv_args 0 [.ref 80, .ref 45, .ref 70, iV pl]) [] fr lo σ (fun v τ => v = none ∧ GI τ ∧ FR WW80 σ τ) := by
  show WP 111 0 [(0, .ref 80), (1, .ref 45), (2, .ref 70), (3, iV pl)] [] _ _ _ _
  refine wp_al1 jF_111_0 rfl rfl (pc2 := 1) ?_
  refine wp_il1 jF_111_1 rfl rfl (pc2 := 2) ?_
  refine wp_cV (as := [iV pl]) (rest := []) (a := 70) (mx := 3) (ci := 4) jF_111_2 kd70 (by decide) rfl rfl rfl rfl rfl (by omega) (by omega) rfl (pc2 := 5) ?_
  have b1 := GI.b hg 70 6 kd70 (lo := 0) (hi := 30) rfl
  refine wp_use (m_112_r70 σ hg pl (by omega) (by omega)  _ _ (by omega) (by omega)) ?_
  rintro _ _ ⟨z5, rfl, h6, rfl, p2⟩
  show WP 111 5 [(0, .ref 80), (1, .ref 45), (2, .ref 70), (3, iV pl)] [iV z5] _ _ _ _
  refine wp_is2 (lv2 := [(0, .ref 80), (1, .ref 45), (2, .ref 70), (3, iV pl), (4, iV z5)]) jF_111_5 rfl rfl rfl (pc2 := 7) ?_
  refine wp_al1 jF_111_7 rfl rfl (pc2 := 8) ?_
  have b7 := GI.b hg 80 1 kd80 (lo := 0) (hi := 60) rfl
  refine wp_gi jF_111_8 kd80 (by decide) rfl rfl rfl (pc2 := 11) ?_
  refine wp_al1 jF_111_11 rfl rfl (pc2 := 12) ?_
  have b8 := GI.b hg 70 1 kd70 (lo := 0) (hi := 60) rfl
  refine wp_gi jF_111_12 kd70 (by decide) rfl rfl rfl (pc2 := 15) ?_
  refine wp_sub jF_111_15 rfl (pc2 := 16) ?_
  refine wp_is2 (lv2 := [(0, .ref 80), (1, .ref 45), (2, .ref 70), (3, iV pl), (4, iV z5), (5, iV ((σ.1 80 1) - (σ.1 70 1)))]) jF_111_16 rfl rfl rfl (pc2 := 18) ?_
  refine wp_al1 jF_111_18 rfl rfl (pc2 := 19) ?_
  refine wp_lc jF_111_19 rfl (pc2 := 20) ?_
  refine wp_pl jF_111_20 kd80 (by decide) rfl rfl (pc2 := 23) hg ?_
  intro τ9 g10 f11
  refine wp_ic jF_111_23 rfl (pc2 := 24) ?_
  refine wp_is2 (lv2 := [(0, .ref 80), (1, .ref 45), (2, .ref 70), (3, iV pl), (4, iV z5), (5, iV ((σ.1 80 1) - (σ.1 70 1))), (6, iV 0)]) jF_111_24 rfl rfl rfl (pc2 := 26) ?_
  refine wp_loop (α := Int) (fun a => [(0, .ref 80), (1, .ref 45), (2, .ref 70), (3, iV pl), (4, iV z5), (5, iV ((σ.1 80 1) - (σ.1 70 1))), (6, iV (a))]) (fun a τ => (0 ≤ a ∧ a ≤ 30) ∧ GI τ ∧ FR WW80 τ9 τ ∧ ((a) ≤ z5)) (fun a τ => Int.toNat (30 - (a))) (0) τ9 ?_ ?_
  · skip
    exact ⟨⟨by omega, by omega⟩, g10, FR.rf, (by omega)⟩
  · rintro x12 τ14 ⟨h13, g15, f16, p17⟩ ih18
    show WP 111 26 [(0, .ref 80), (1, .ref 45), (2, .ref 70), (3, iV pl), (4, iV z5), (5, iV ((σ.1 80 1) - (σ.1 70 1))), (6, iV x12)] [] _ _ _ _
    show WP 111 26 [(0, .ref 80), (1, .ref 45), (2, .ref 70), (3, iV pl), (4, iV z5), (5, iV ((σ.1 80 1) - (σ.1 70 1))), (6, iV x12)] [] _ _ _ _
    refine wp_il2 jF_111_26 rfl rfl (pc2 := 28) ?_
    refine wp_il2 jF_111_28 rfl rfl (pc2 := 30) ?_
    refine wp_i_ge jF_111_30 (m_rgb h13 rfl) (m_rgb h6 rfl) rfl (pc2 := 33) ?_ ?_
    · intro h19
      refine wp_al1 jF_111_55 rfl rfl (pc2 := 56) ?_
      refine wp_al1 jF_111_56 rfl rfl (pc2 := 57) ?_
      refine wp_gr (b := 73) jF_111_57 kd70 (by decide) (c := 6) rfl rfl rfl (pc2 := 60) ?_
      refine wp_il2 jF_111_60 rfl rfl (pc2 := 62) ?_
      have b20 := GI.b hg 73 z5.toNat kd73 (lo := 0) (hi := 60) rfl
      refine wp_iald (n := 31) (e := (σ.1 73 z5.toNat)) jF_111_62 kd73 (by decide) rfl rfl (by omega) (by omega) ((FR.at f16 73 z5.toNat rfl).trans (FRw.na f11 (by decide))) rfl (pc2 := 63) ?_
      refine wp_pi jF_111_63 kd80 (by decide) rfl rfl rfl (pc2 := 66) g15 (lo := 0) (hi := 61) rfl (by omega) (by omega) ?_
      intro τ21 g22 f23 e24
      refine wp_il2 jF_111_66 rfl rfl (pc2 := 68) ?_
      refine wp_ic jF_111_68 rfl (pc2 := 69) ?_
      refine wp_add jF_111_69 rfl (pc2 := 70) ?_
      refine wp_is2 (lv2 := [(0, .ref 80), (1, .ref 45), (2, .ref 70), (3, iV pl), (4, iV z5), (5, iV ((σ.1 80 1) - (σ.1 70 1))), (6, iV (z5 + 1))]) jF_111_70 rfl rfl rfl (pc2 := 72) ?_
      refine wp_ic jF_111_72 rfl (pc2 := 73) ?_
      refine wp_is2 (lv2 := [(0, .ref 80), (1, .ref 45), (2, .ref 70), (3, iV pl), (4, iV z5), (5, iV ((σ.1 80 1) - (σ.1 70 1))), (6, iV (z5 + 1)), (7, iV 0)]) jF_111_73 rfl rfl rfl (pc2 := 75) ?_
      refine wp_loop (α := Int × Int) (fun a => [(0, .ref 80), (1, .ref 45), (2, .ref 70), (3, iV pl), (4, iV z5), (5, iV ((σ.1 80 1) - (σ.1 70 1))), (6, iV (a.1)), (7, iV (a.2))]) (fun a τ => (1 ≤ a.1 ∧ a.1 ≤ 30) ∧ (0 ≤ a.2 ∧ a.2 ≤ 30) ∧ GI τ ∧ FR WW80 τ21 τ ∧ ((a.1) = 1 ∨ (a.1) ≤ (τ.1 70 6))) (fun a τ => Int.toNat (30 - (a.2))) ((z5 + 1), 0) τ21 ?_ ?_
      · skip
        have q25 : (τ21.1 70 6) = (σ.1 70 6) := ((FRw.na f23 (by decide)).trans ((FR.at f16 70 6 rfl).trans (FRw.na f11 (by decide))))
        exact ⟨⟨by (try dsimp only); omega, by (try dsimp only); omega⟩, ⟨by (try dsimp only); omega, by (try dsimp only); omega⟩, g22, FR.rf, (by (try dsimp only); omega)⟩
      · rintro ⟨x26, x27⟩ τ30 ⟨h28, h29, g31, f32, p33⟩ ih34
        try dsimp only at h28 h29 g31 f32 p33
        have q35 : (τ30.1 70 6) = (σ.1 70 6) := ((FR.at f32 70 6 rfl).trans ((FRw.na f23 (by decide)).trans ((FR.at f16 70 6 rfl).trans (FRw.na f11 (by decide)))))
        show WP 111 75 [(0, .ref 80), (1, .ref 45), (2, .ref 70), (3, iV pl), (4, iV z5), (5, iV ((σ.1 80 1) - (σ.1 70 1))), (6, iV x26), (7, iV x27)] [] _ _ _ _
        show WP 111 75 [(0, .ref 80), (1, .ref 45), (2, .ref 70), (3, iV pl), (4, iV z5), (5, iV ((σ.1 80 1) - (σ.1 70 1))), (6, iV x26), (7, iV x27)] [] _ _ _ _
        refine wp_il2 jF_111_75 rfl rfl (pc2 := 77) ?_
        refine wp_bi jF_111_77 (by decide) rfl (pc2 := 79) ?_
        refine wp_i_ge jF_111_79 (m_rgb h29 rfl) (m_rgl rfl) rfl (pc2 := 82) ?_ ?_
        · intro h36
          refine wp_il2 jF_111_165 rfl rfl (pc2 := 167) ?_
          refine wp_is2 (lv2 := [(0, .ref 80), (1, .ref 45), (2, .ref 70), (3, iV pl), (4, iV z5), (5, iV ((σ.1 80 1) - (σ.1 70 1))), (6, iV x26), (7, iV x26)]) jF_111_167 rfl rfl rfl (pc2 := 169) ?_
          refine wp_loop (α := Int) (fun a => [(0, .ref 80), (1, .ref 45), (2, .ref 70), (3, iV pl), (4, iV z5), (5, iV ((σ.1 80 1) - (σ.1 70 1))), (6, iV x26), (7, iV (a))]) (fun a τ => (1 ≤ a ∧ a ≤ 30) ∧ GI τ ∧ FR WW80 τ30 τ) (fun a τ => Int.toNat (30 - (a))) (x26) τ30 ?_ ?_
          · skip
            exact ⟨⟨by omega, by omega⟩, g31, FR.rf⟩
          · rintro x37 τ39 ⟨h38, g40, f41⟩ ih42
            show WP 111 169 [(0, .ref 80), (1, .ref 45), (2, .ref 70), (3, iV pl), (4, iV z5), (5, iV ((σ.1 80 1) - (σ.1 70 1))), (6, iV x26), (7, iV x37)] [] _ _ _ _
            show WP 111 169 [(0, .ref 80), (1, .ref 45), (2, .ref 70), (3, iV pl), (4, iV z5), (5, iV ((σ.1 80 1) - (σ.1 70 1))), (6, iV x26), (7, iV x37)] [] _ _ _ _
            refine wp_il2 jF_111_169 rfl rfl (pc2 := 171) ?_
            refine wp_al1 jF_111_171 rfl rfl (pc2 := 172) ?_
            refine wp_gi jF_111_172 kd70 (by decide) rfl ((FR.at f41 70 6 rfl).trans ((FR.at f32 70 6 rfl).trans ((FRw.na f23 (by decide)).trans ((FR.at f16 70 6 rfl).trans (FRw.na f11 (by decide)))))) rfl (pc2 := 175) ?_
            refine wp_i_ge jF_111_175 (m_rgb h38 rfl) (m_rgb b1 rfl) rfl (pc2 := 178) ?_ ?_
            · intro h43
              refine wp_rv jF_111_200 ?_
              exact ⟨rfl, g40, (FR.up (FR.up (FR.w (FR.up (FR.w FR.rf f11 rfl) f16 sb_WW80_WW80) f23 rfl) f32 sb_WW80_WW80) f41 sb_WW80_WW80)⟩
            · intro h43
              refine wp_al1 jF_111_178 rfl rfl (pc2 := 179) ?_
              refine wp_dup jF_111_179 rfl rfl (pc2 := 180) ?_
              refine wp_glA jF_111_180 kd80 (by decide) rfl rfl (pc2 := 183) ?_
              intro y44
              refine wp_al1 jF_111_183 rfl rfl (pc2 := 184) ?_
              refine wp_gr (b := 74) jF_111_184 kd70 (by decide) (c := 7) rfl rfl rfl (pc2 := 187) ?_
              refine wp_il2 jF_111_187 rfl rfl (pc2 := 189) ?_
              refine wp_lald (n := 30) jF_111_189 kd74 (by decide) rfl rfl (by omega) (by omega) rfl (pc2 := 190) ?_
              intro y45
              refine wp_lng (pc2 := 191) jF_111_190 rfl rfl ?_
              intro y46
              refine wp_pl jF_111_191 kd80 (by decide) rfl rfl (pc2 := 194) g40 ?_
              intro τ47 g48 f49
              refine wp_inc (lv2 := [(0, .ref 80), (1, .ref 45), (2, .ref 70), (3, iV pl), (4, iV z5), (5, iV ((σ.1 80 1) - (σ.1 70 1))), (6, iV x26), (7, iV (x37 + 1))]) jF_111_194 rfl rfl rfl rfl (pc2 := 197) ?_
              refine wp_go jF_111_197 ?_
              exact ih42 ((x37 + 1)) τ47 ⟨⟨by omega, by omega⟩, g48, (FR.w f41 f49 rfl)⟩ (by show Int.toNat (30 - (x37 + 1)) < Int.toNat (30 - x37); omega)
        · intro h36
          refine wp_al1 jF_111_82 rfl rfl (pc2 := 83) ?_
          have b50 := GI.b g31 80 8 kd80 (lo := 0) (hi := 61) rfl
          refine wp_gi jF_111_83 kd80 (by decide) rfl rfl rfl (pc2 := 86) ?_
          refine wp_al1 jF_111_86 rfl rfl (pc2 := 87) ?_
          have b51 := GI.b g31 80 1 kd80 (lo := 0) (hi := 60) rfl
          refine wp_gi jF_111_87 kd80 (by decide) rfl rfl rfl (pc2 := 90) ?_
          refine wp_i_ge jF_111_90 (m_rgb b50 rfl) (m_rgb b51 rfl) rfl (pc2 := 93) ?_ ?_
          · intro h52
            refine wp_il2 jF_111_165 rfl rfl (pc2 := 167) ?_
            refine wp_is2 (lv2 := [(0, .ref 80), (1, .ref 45), (2, .ref 70), (3, iV pl), (4, iV z5), (5, iV ((σ.1 80 1) - (σ.1 70 1))), (6, iV x26), (7, iV x26)]) jF_111_167 rfl rfl rfl (pc2 := 169) ?_
            refine wp_loop (α := Int) (fun a => [(0, .ref 80), (1, .ref 45), (2, .ref 70), (3, iV pl), (4, iV z5), (5, iV ((σ.1 80 1) - (σ.1 70 1))), (6, iV x26), (7, iV (a))]) (fun a τ => (1 ≤ a ∧ a ≤ 30) ∧ GI τ ∧ FR WW80 τ30 τ) (fun a τ => Int.toNat (30 - (a))) (x26) τ30 ?_ ?_
            · skip
              exact ⟨⟨by omega, by omega⟩, g31, FR.rf⟩
            · rintro x53 τ55 ⟨h54, g56, f57⟩ ih58
              show WP 111 169 [(0, .ref 80), (1, .ref 45), (2, .ref 70), (3, iV pl), (4, iV z5), (5, iV ((σ.1 80 1) - (σ.1 70 1))), (6, iV x26), (7, iV x53)] [] _ _ _ _
              show WP 111 169 [(0, .ref 80), (1, .ref 45), (2, .ref 70), (3, iV pl), (4, iV z5), (5, iV ((σ.1 80 1) - (σ.1 70 1))), (6, iV x26), (7, iV x53)] [] _ _ _ _
              refine wp_il2 jF_111_169 rfl rfl (pc2 := 171) ?_
              refine wp_al1 jF_111_171 rfl rfl (pc2 := 172) ?_
              refine wp_gi jF_111_172 kd70 (by decide) rfl ((FR.at f57 70 6 rfl).trans ((FR.at f32 70 6 rfl).trans ((FRw.na f23 (by decide)).trans ((FR.at f16 70 6 rfl).trans (FRw.na f11 (by decide)))))) rfl (pc2 := 175) ?_
              refine wp_i_ge jF_111_175 (m_rgb h54 rfl) (m_rgb b1 rfl) rfl (pc2 := 178) ?_ ?_
              · intro h59
                refine wp_rv jF_111_200 ?_
                exact ⟨rfl, g56, (FR.up (FR.up (FR.w (FR.up (FR.w FR.rf f11 rfl) f16 sb_WW80_WW80) f23 rfl) f32 sb_WW80_WW80) f57 sb_WW80_WW80)⟩
              · intro h59
                refine wp_al1 jF_111_178 rfl rfl (pc2 := 179) ?_
                refine wp_dup jF_111_179 rfl rfl (pc2 := 180) ?_
                refine wp_glA jF_111_180 kd80 (by decide) rfl rfl (pc2 := 183) ?_
                intro y60
                refine wp_al1 jF_111_183 rfl rfl (pc2 := 184) ?_
                refine wp_gr (b := 74) jF_111_184 kd70 (by decide) (c := 7) rfl rfl rfl (pc2 := 187) ?_
                refine wp_il2 jF_111_187 rfl rfl (pc2 := 189) ?_
                refine wp_lald (n := 30) jF_111_189 kd74 (by decide) rfl rfl (by omega) (by omega) rfl (pc2 := 190) ?_
                intro y61
                refine wp_lng (pc2 := 191) jF_111_190 rfl rfl ?_
                intro y62
                refine wp_pl jF_111_191 kd80 (by decide) rfl rfl (pc2 := 194) g56 ?_
                intro τ63 g64 f65
                refine wp_inc (lv2 := [(0, .ref 80), (1, .ref 45), (2, .ref 70), (3, iV pl), (4, iV z5), (5, iV ((σ.1 80 1) - (σ.1 70 1))), (6, iV x26), (7, iV (x53 + 1))]) jF_111_194 rfl rfl rfl rfl (pc2 := 197) ?_
                refine wp_go jF_111_197 ?_
                exact ih58 ((x53 + 1)) τ63 ⟨⟨by omega, by omega⟩, g64, (FR.w f57 f65 rfl)⟩ (by show Int.toNat (30 - (x53 + 1)) < Int.toNat (30 - x53); omega)
          · intro h52
            refine wp_al1 jF_111_93 rfl rfl (pc2 := 94) ?_
            refine wp_dup jF_111_94 rfl rfl (pc2 := 95) ?_
            refine wp_glA jF_111_95 kd80 (by decide) rfl rfl (pc2 := 98) ?_
            intro y66
            refine wp_al1 jF_111_98 rfl rfl (pc2 := 99) ?_
            refine wp_al1 jF_111_99 rfl rfl (pc2 := 100) ?_
            refine wp_cV (as := [.ref 45]) (rest := [.long y66, .ref 80]) (a := 80) (mx := 12) (ci := 4) jF_111_100 kd80 (by decide) rfl rfl rfl rfl rfl (by omega) (by omega) rfl (pc2 := 103) ?_
            refine wp_use (m_83_r80_45 τ30 g31  (by omega) _ _ (by omega) (by omega)) ?_
            rintro _ τ67 ⟨y70, rfl, g68, f69⟩
            show WP 111 103 [(0, .ref 80), (1, .ref 45), (2, .ref 70), (3, iV pl), (4, iV z5), (5, iV ((σ.1 80 1) - (σ.1 70 1))), (6, iV x26), (7, iV x27)] [.long y70, .long y66, .ref 80] _ _ _ _
            refine wp_lng (pc2 := 104) jF_111_103 rfl rfl ?_
            intro y71
            refine wp_pl jF_111_104 kd80 (by decide) rfl rfl (pc2 := 107) g68 ?_
            intro τ72 g73 f74
            have q75 : (τ72.1 70 6) = (σ.1 70 6) := ((FRw.na f74 (by decide)).trans ((FR.at f69 70 6 rfl).trans ((FR.at f32 70 6 rfl).trans ((FRw.na f23 (by decide)).trans ((FR.at f16 70 6 rfl).trans (FRw.na f11 (by decide)))))))
            refine wp_loop (α := Int) (fun a => [(0, .ref 80), (1, .ref 45), (2, .ref 70), (3, iV pl), (4, iV z5), (5, iV ((σ.1 80 1) - (σ.1 70 1))), (6, iV (a)), (7, iV x27)]) (fun a τ => (1 ≤ a ∧ a ≤ 30) ∧ τ72 = τ ∧ ((a) = 1 ∨ (a) ≤ (τ72.1 70 6))) (fun a τ => Int.toNat (30 - (a))) (x26) τ72 ?_ ?_
            · skip
              exact ⟨⟨by omega, by omega⟩, rfl, (by omega)⟩
            · rintro x76 _ ⟨h77, rfl, p81⟩ ih82
              show WP 111 107 [(0, .ref 80), (1, .ref 45), (2, .ref 70), (3, iV pl), (4, iV z5), (5, iV ((σ.1 80 1) - (σ.1 70 1))), (6, iV x76), (7, iV x27)] [] _ _ _ _
              show WP 111 107 [(0, .ref 80), (1, .ref 45), (2, .ref 70), (3, iV pl), (4, iV z5), (5, iV ((σ.1 80 1) - (σ.1 70 1))), (6, iV x76), (7, iV x27)] [] _ _ _ _
              refine wp_il2 jF_111_107 rfl rfl (pc2 := 109) ?_
              refine wp_al1 jF_111_109 rfl rfl (pc2 := 110) ?_
              refine wp_gi jF_111_110 kd70 (by decide) rfl ((FRw.na f74 (by decide)).trans ((FR.at f69 70 6 rfl).trans ((FR.at f32 70 6 rfl).trans ((FRw.na f23 (by decide)).trans ((FR.at f16 70 6 rfl).trans (FRw.na f11 (by decide))))))) rfl (pc2 := 113) ?_
              refine wp_i_ge jF_111_113 (m_rgb h77 rfl) (m_rgb b1 rfl) rfl (pc2 := 116) ?_ ?_
              · intro h83
                refine wp_al1 jF_111_139 rfl rfl (pc2 := 140) ?_
                refine wp_gr (b := 73) jF_111_140 kd70 (by decide) (c := 6) rfl rfl rfl (pc2 := 143) ?_
                refine wp_il2 jF_111_143 rfl rfl (pc2 := 145) ?_
                have b84 := GI.b hg 73 x76.toNat kd73 (lo := 0) (hi := 60) rfl
                refine wp_iald (n := 31) (e := (σ.1 73 x76.toNat)) jF_111_145 kd73 (by decide) rfl rfl (by omega) (by omega) ((FRw.na f74 (by decide)).trans ((FR.at f69 73 x76.toNat rfl).trans ((FR.at f32 73 x76.toNat rfl).trans ((FRw.na f23 (by decide)).trans ((FR.at f16 73 x76.toNat rfl).trans (FRw.na f11 (by decide))))))) rfl (pc2 := 146) ?_
                refine wp_il2 jF_111_146 rfl rfl (pc2 := 148) ?_
                refine wp_add jF_111_148 rfl (pc2 := 149) ?_
                refine wp_al1 jF_111_149 rfl rfl (pc2 := 150) ?_
                have b85 := GI.b g68 80 8 kd80 (lo := 0) (hi := 61) rfl
                refine wp_gi jF_111_150 kd80 (by decide) rfl (FRw.nj f74 (by decide)) rfl (pc2 := 153) ?_
                refine wp_i_ne jF_111_153 ⟨by omega, by omega⟩ (m_rgb b85 rfl) rfl (pc2 := 156) ?_ ?_
                · intro h86
                  refine wp_inc (lv2 := [(0, .ref 80), (1, .ref 45), (2, .ref 70), (3, iV pl), (4, iV z5), (5, iV ((σ.1 80 1) - (σ.1 70 1))), (6, iV x76), (7, iV (x27 + 1))]) jF_111_159 rfl rfl rfl rfl (pc2 := 162) ?_
                  refine wp_go jF_111_162 ?_
                  exact ih34 (x76, (x27 + 1)) τ72 ⟨⟨by (try dsimp only); omega, by (try dsimp only); omega⟩, ⟨by (try dsimp only); omega, by (try dsimp only); omega⟩, g73, (FR.w (FR.up f32 f69 sb_Wra80_WW80) f74 rfl), (by (try dsimp only); omega)⟩ (by show Int.toNat (30 - (x27 + 1)) < Int.toNat (30 - x27); omega)
                · intro h86
                  refine wp_go jF_111_156 ?_
                  refine wp_il2 jF_111_165 rfl rfl (pc2 := 167) ?_
                  refine wp_is2 (lv2 := [(0, .ref 80), (1, .ref 45), (2, .ref 70), (3, iV pl), (4, iV z5), (5, iV ((σ.1 80 1) - (σ.1 70 1))), (6, iV x76), (7, iV x76)]) jF_111_167 rfl rfl rfl (pc2 := 169) ?_
                  refine wp_loop (α := Int) (fun a => [(0, .ref 80), (1, .ref 45), (2, .ref 70), (3, iV pl), (4, iV z5), (5, iV ((σ.1 80 1) - (σ.1 70 1))), (6, iV x76), (7, iV (a))]) (fun a τ => (1 ≤ a ∧ a ≤ 30) ∧ GI τ ∧ FR WW80 τ72 τ) (fun a τ => Int.toNat (30 - (a))) (x76) τ72 ?_ ?_
                  · skip
                    exact ⟨⟨by omega, by omega⟩, g73, FR.rf⟩
                  · rintro x87 τ89 ⟨h88, g90, f91⟩ ih92
                    show WP 111 169 [(0, .ref 80), (1, .ref 45), (2, .ref 70), (3, iV pl), (4, iV z5), (5, iV ((σ.1 80 1) - (σ.1 70 1))), (6, iV x76), (7, iV x87)] [] _ _ _ _
                    show WP 111 169 [(0, .ref 80), (1, .ref 45), (2, .ref 70), (3, iV pl), (4, iV z5), (5, iV ((σ.1 80 1) - (σ.1 70 1))), (6, iV x76), (7, iV x87)] [] _ _ _ _
                    refine wp_il2 jF_111_169 rfl rfl (pc2 := 171) ?_
                    refine wp_al1 jF_111_171 rfl rfl (pc2 := 172) ?_
                    refine wp_gi jF_111_172 kd70 (by decide) rfl ((FR.at f91 70 6 rfl).trans ((FRw.na f74 (by decide)).trans ((FR.at f69 70 6 rfl).trans ((FR.at f32 70 6 rfl).trans ((FRw.na f23 (by decide)).trans ((FR.at f16 70 6 rfl).trans (FRw.na f11 (by decide)))))))) rfl (pc2 := 175) ?_
                    refine wp_i_ge jF_111_175 (m_rgb h88 rfl) (m_rgb b1 rfl) rfl (pc2 := 178) ?_ ?_
                    · intro h93
                      refine wp_rv jF_111_200 ?_
                      exact ⟨rfl, g90, (FR.up (FR.w (FR.up (FR.up (FR.w (FR.up (FR.w FR.rf f11 rfl) f16 sb_WW80_WW80) f23 rfl) f32 sb_WW80_WW80) f69 sb_Wra80_WW80) f74 rfl) f91 sb_WW80_WW80)⟩
                    · intro h93
                      refine wp_al1 jF_111_178 rfl rfl (pc2 := 179) ?_
                      refine wp_dup jF_111_179 rfl rfl (pc2 := 180) ?_
                      refine wp_glA jF_111_180 kd80 (by decide) rfl rfl (pc2 := 183) ?_
                      intro y94
                      refine wp_al1 jF_111_183 rfl rfl (pc2 := 184) ?_
                      refine wp_gr (b := 74) jF_111_184 kd70 (by decide) (c := 7) rfl rfl rfl (pc2 := 187) ?_
                      refine wp_il2 jF_111_187 rfl rfl (pc2 := 189) ?_
                      refine wp_lald (n := 30) jF_111_189 kd74 (by decide) rfl rfl (by omega) (by omega) rfl (pc2 := 190) ?_
                      intro y95
                      refine wp_lng (pc2 := 191) jF_111_190 rfl rfl ?_
                      intro y96
                      refine wp_pl jF_111_191 kd80 (by decide) rfl rfl (pc2 := 194) g90 ?_
                      intro τ97 g98 f99
                      refine wp_inc (lv2 := [(0, .ref 80), (1, .ref 45), (2, .ref 70), (3, iV pl), (4, iV z5), (5, iV ((σ.1 80 1) - (σ.1 70 1))), (6, iV x76), (7, iV (x87 + 1))]) jF_111_194 rfl rfl rfl rfl (pc2 := 197) ?_
                      refine wp_go jF_111_197 ?_
                      exact ih92 ((x87 + 1)) τ97 ⟨⟨by omega, by omega⟩, g98, (FR.w f91 f99 rfl)⟩ (by show Int.toNat (30 - (x87 + 1)) < Int.toNat (30 - x87); omega)
              · intro h83
                refine wp_al1 jF_111_116 rfl rfl (pc2 := 117) ?_
                refine wp_gr (b := 73) jF_111_117 kd70 (by decide) (c := 6) rfl rfl rfl (pc2 := 120) ?_
                refine wp_il2 jF_111_120 rfl rfl (pc2 := 122) ?_
                have b100 := GI.b hg 73 x76.toNat kd73 (lo := 0) (hi := 60) rfl
                refine wp_iald (n := 31) (e := (σ.1 73 x76.toNat)) jF_111_122 kd73 (by decide) rfl rfl (by omega) (by omega) ((FRw.na f74 (by decide)).trans ((FR.at f69 73 x76.toNat rfl).trans ((FR.at f32 73 x76.toNat rfl).trans ((FRw.na f23 (by decide)).trans ((FR.at f16 73 x76.toNat rfl).trans (FRw.na f11 (by decide))))))) rfl (pc2 := 123) ?_
                refine wp_il2 jF_111_123 rfl rfl (pc2 := 125) ?_
                refine wp_add jF_111_125 rfl (pc2 := 126) ?_
                refine wp_al1 jF_111_126 rfl rfl (pc2 := 127) ?_
                have b101 := GI.b g68 80 8 kd80 (lo := 0) (hi := 61) rfl
                refine wp_gi jF_111_127 kd80 (by decide) rfl (FRw.nj f74 (by decide)) rfl (pc2 := 130) ?_
                refine wp_i_ge jF_111_130 ⟨by omega, by omega⟩ (m_rgb b101 rfl) rfl (pc2 := 133) ?_ ?_
                · intro h102
                  refine wp_al1 jF_111_139 rfl rfl (pc2 := 140) ?_
                  refine wp_gr (b := 73) jF_111_140 kd70 (by decide) (c := 6) rfl rfl rfl (pc2 := 143) ?_
                  refine wp_il2 jF_111_143 rfl rfl (pc2 := 145) ?_
                  refine wp_iald (n := 31) (e := (σ.1 73 x76.toNat)) jF_111_145 kd73 (by decide) rfl rfl (by omega) (by omega) ((FRw.na f74 (by decide)).trans ((FR.at f69 73 x76.toNat rfl).trans ((FR.at f32 73 x76.toNat rfl).trans ((FRw.na f23 (by decide)).trans ((FR.at f16 73 x76.toNat rfl).trans (FRw.na f11 (by decide))))))) rfl (pc2 := 146) ?_
                  refine wp_il2 jF_111_146 rfl rfl (pc2 := 148) ?_
                  refine wp_add jF_111_148 rfl (pc2 := 149) ?_
                  refine wp_al1 jF_111_149 rfl rfl (pc2 := 150) ?_
                  refine wp_gi jF_111_150 kd80 (by decide) rfl (FRw.nj f74 (by decide)) rfl (pc2 := 153) ?_
                  refine wp_i_ne jF_111_153 ⟨by omega, by omega⟩ (m_rgb b101 rfl) rfl (pc2 := 156) ?_ ?_
                  · intro h103
                    refine wp_inc (lv2 := [(0, .ref 80), (1, .ref 45), (2, .ref 70), (3, iV pl), (4, iV z5), (5, iV ((σ.1 80 1) - (σ.1 70 1))), (6, iV x76), (7, iV (x27 + 1))]) jF_111_159 rfl rfl rfl rfl (pc2 := 162) ?_
                    refine wp_go jF_111_162 ?_
                    exact ih34 (x76, (x27 + 1)) τ72 ⟨⟨by (try dsimp only); omega, by (try dsimp only); omega⟩, ⟨by (try dsimp only); omega, by (try dsimp only); omega⟩, g73, (FR.w (FR.up f32 f69 sb_Wra80_WW80) f74 rfl), (by (try dsimp only); omega)⟩ (by show Int.toNat (30 - (x27 + 1)) < Int.toNat (30 - x27); omega)
                  · intro h103
                    refine wp_go jF_111_156 ?_
                    refine wp_il2 jF_111_165 rfl rfl (pc2 := 167) ?_
                    refine wp_is2 (lv2 := [(0, .ref 80), (1, .ref 45), (2, .ref 70), (3, iV pl), (4, iV z5), (5, iV ((σ.1 80 1) - (σ.1 70 1))), (6, iV x76), (7, iV x76)]) jF_111_167 rfl rfl rfl (pc2 := 169) ?_
                    refine wp_loop (α := Int) (fun a => [(0, .ref 80), (1, .ref 45), (2, .ref 70), (3, iV pl), (4, iV z5), (5, iV ((σ.1 80 1) - (σ.1 70 1))), (6, iV x76), (7, iV (a))]) (fun a τ => (1 ≤ a ∧ a ≤ 30) ∧ GI τ ∧ FR WW80 τ72 τ) (fun a τ => Int.toNat (30 - (a))) (x76) τ72 ?_ ?_
                    · skip
                      exact ⟨⟨by omega, by omega⟩, g73, FR.rf⟩
                    · rintro x104 τ106 ⟨h105, g107, f108⟩ ih109
                      show WP 111 169 [(0, .ref 80), (1, .ref 45), (2, .ref 70), (3, iV pl), (4, iV z5), (5, iV ((σ.1 80 1) - (σ.1 70 1))), (6, iV x76), (7, iV x104)] [] _ _ _ _
                      show WP 111 169 [(0, .ref 80), (1, .ref 45), (2, .ref 70), (3, iV pl), (4, iV z5), (5, iV ((σ.1 80 1) - (σ.1 70 1))), (6, iV x76), (7, iV x104)] [] _ _ _ _
                      refine wp_il2 jF_111_169 rfl rfl (pc2 := 171) ?_
                      refine wp_al1 jF_111_171 rfl rfl (pc2 := 172) ?_
                      refine wp_gi jF_111_172 kd70 (by decide) rfl ((FR.at f108 70 6 rfl).trans ((FRw.na f74 (by decide)).trans ((FR.at f69 70 6 rfl).trans ((FR.at f32 70 6 rfl).trans ((FRw.na f23 (by decide)).trans ((FR.at f16 70 6 rfl).trans (FRw.na f11 (by decide)))))))) rfl (pc2 := 175) ?_
                      refine wp_i_ge jF_111_175 (m_rgb h105 rfl) (m_rgb b1 rfl) rfl (pc2 := 178) ?_ ?_
                      · intro h110
                        refine wp_rv jF_111_200 ?_
                        exact ⟨rfl, g107, (FR.up (FR.w (FR.up (FR.up (FR.w (FR.up (FR.w FR.rf f11 rfl) f16 sb_WW80_WW80) f23 rfl) f32 sb_WW80_WW80) f69 sb_Wra80_WW80) f74 rfl) f108 sb_WW80_WW80)⟩
                      · intro h110
                        refine wp_al1 jF_111_178 rfl rfl (pc2 := 179) ?_
                        refine wp_dup jF_111_179 rfl rfl (pc2 := 180) ?_
                        refine wp_glA jF_111_180 kd80 (by decide) rfl rfl (pc2 := 183) ?_
                        intro y111
                        refine wp_al1 jF_111_183 rfl rfl (pc2 := 184) ?_
                        refine wp_gr (b := 74) jF_111_184 kd70 (by decide) (c := 7) rfl rfl rfl (pc2 := 187) ?_
                        refine wp_il2 jF_111_187 rfl rfl (pc2 := 189) ?_
                        refine wp_lald (n := 30) jF_111_189 kd74 (by decide) rfl rfl (by omega) (by omega) rfl (pc2 := 190) ?_
                        intro y112
                        refine wp_lng (pc2 := 191) jF_111_190 rfl rfl ?_
                        intro y113
                        refine wp_pl jF_111_191 kd80 (by decide) rfl rfl (pc2 := 194) g107 ?_
                        intro τ114 g115 f116
                        refine wp_inc (lv2 := [(0, .ref 80), (1, .ref 45), (2, .ref 70), (3, iV pl), (4, iV z5), (5, iV ((σ.1 80 1) - (σ.1 70 1))), (6, iV x76), (7, iV (x104 + 1))]) jF_111_194 rfl rfl rfl rfl (pc2 := 197) ?_
                        refine wp_go jF_111_197 ?_
                        exact ih109 ((x104 + 1)) τ114 ⟨⟨by omega, by omega⟩, g115, (FR.w f108 f116 rfl)⟩ (by show Int.toNat (30 - (x104 + 1)) < Int.toNat (30 - x104); omega)
                · intro h102
                  refine wp_inc (lv2 := [(0, .ref 80), (1, .ref 45), (2, .ref 70), (3, iV pl), (4, iV z5), (5, iV ((σ.1 80 1) - (σ.1 70 1))), (6, iV (x76 + 1)), (7, iV x27)]) jF_111_133 rfl rfl rfl rfl (pc2 := 136) ?_
                  refine wp_go jF_111_136 ?_
                  exact ih82 ((x76 + 1)) τ72 ⟨⟨by omega, by omega⟩, rfl, (by omega)⟩ (by show Int.toNat (30 - (x76 + 1)) < Int.toNat (30 - x76); omega)
    · intro h19
      refine wp_al1 jF_111_33 rfl rfl (pc2 := 34) ?_
      refine wp_dup jF_111_34 rfl rfl (pc2 := 35) ?_
      refine wp_glA jF_111_35 kd80 (by decide) rfl rfl (pc2 := 38) ?_
      intro y117
      refine wp_al1 jF_111_38 rfl rfl (pc2 := 39) ?_
      refine wp_gr (b := 74) jF_111_39 kd70 (by decide) (c := 7) rfl rfl rfl (pc2 := 42) ?_
      refine wp_il2 jF_111_42 rfl rfl (pc2 := 44) ?_
      refine wp_lald (n := 30) jF_111_44 kd74 (by decide) rfl rfl (by omega) (by omega) rfl (pc2 := 45) ?_
      intro y118
      refine wp_lng (pc2 := 46) jF_111_45 rfl rfl ?_
      intro y119
      refine wp_pl jF_111_46 kd80 (by decide) rfl rfl (pc2 := 49) g15 ?_
      intro τ120 g121 f122
      refine wp_inc (lv2 := [(0, .ref 80), (1, .ref 45), (2, .ref 70), (3, iV pl), (4, iV z5), (5, iV ((σ.1 80 1) - (σ.1 70 1))), (6, iV (x12 + 1))]) jF_111_49 rfl rfl rfl rfl (pc2 := 52) ?_
      refine wp_go jF_111_52 ?_
      exact ih18 ((x12 + 1)) τ120 ⟨⟨by omega, by omega⟩, g121, (FR.w f16 f122 rfl), (by omega)⟩ (by show Int.toNat (30 - (x12 + 1)) < Int.toNat (30 - x12); omega)
set_option maxHeartbeats 4000000 in
set_option maxRecDepth 20000 in
/-- Row.follows -/
theorem m_105_r80_45_70 (σ : jM) (hg : GI σ) (num : Int) (hl_num : 0 ≤ num) (hu_num : num ≤ 2900)  (fr lo : Nat) (hfr : 3 ≤ fr) (hlo : 107 ≤ lo) : WP 105 0 (lv_args 0 [.ref 80, .ref 45, .ref 70, iV num]) [] fr lo σ (fun v τ => ∃ z : Int, v = some (iV z) ∧ (0 ≤ z ∧ z ≤ 1) ∧ GI τ ∧ FR WW80 σ τ) := by
  show WP 105 0 [(0, .ref 80), (1, .ref 45), (2, .ref 70), (3, iV num)] [] _ _ _ _
  refine wp_al1 jF_105_0 rfl rfl (pc2 := 1) ?_
  refine wp_al1 jF_105_1 rfl rfl (pc2 := 2) ?_
  refine wp_il1 jF_105_2 rfl rfl (pc2 := 3) ?_
  refine wp_cV (as := [.ref 45, iV num]) (rest := []) (a := 70) (mx := 9) (ci := 4) jF_105_3 kd70 (by decide) rfl rfl rfl rfl rfl (by omega) (by omega) rfl (pc2 := 6) ?_
  have b1 := GI.b hg 70 1 kd70 (lo := 0) (hi := 60) rfl
  refine wp_use (m_106_r70_45 σ hg num (by omega) (by omega)  _ _ (by omega) (by omega)) ?_
  rintro _ _ ⟨z5, rfl, h6, rfl, p2⟩
  show WP 105 6 [(0, .ref 80), (1, .ref 45), (2, .ref 70), (3, iV num)] [iV z5] _ _ _ _
  refine wp_z_ne jF_105_6 (m_rgb h6 rfl) rfl (pc2 := 9) ?_ ?_
  · intro h7
    replace p2 := p2 (by omega)
    refine wp_al1 jF_105_11 rfl rfl (pc2 := 12) ?_
    refine wp_al1 jF_105_12 rfl rfl (pc2 := 13) ?_
    refine wp_il1 jF_105_13 rfl rfl (pc2 := 14) ?_
    refine wp_cV (as := [.ref 70, iV num]) (rest := []) (a := 80) (mx := 8) (ci := 4) jF_105_14 kd80 (by decide) rfl rfl rfl rfl rfl (by omega) (by omega) rfl (pc2 := 17) ?_
    refine wp_use (m_110_r80_70 σ hg num (by omega) (by omega) (by omega) (by omega) (by omega) (by omega) (by omega) _ _ (by omega) (by omega)) ?_
    rintro _ τ8 ⟨rfl, g9, f10⟩
    show WP 105 17 [(0, .ref 80), (1, .ref 45), (2, .ref 70), (3, iV num)] [] _ _ _ _
    refine wp_al1 jF_105_17 rfl rfl (pc2 := 18) ?_
    refine wp_al1 jF_105_18 rfl rfl (pc2 := 19) ?_
    refine wp_al1 jF_105_19 rfl rfl (pc2 := 20) ?_
    refine wp_il1 jF_105_20 rfl rfl (pc2 := 21) ?_
    refine wp_bi jF_105_21 (by decide) rfl (pc2 := 23) ?_
    refine wp_div jF_105_23 ⟨by omega, by omega⟩ (by omega) (m_rgl rfl) (by omega) rfl (pc2 := 24) ?_
    refine wp_cV (as := [.ref 45, .ref 70, iV (num / 47)]) (rest := []) (a := 80) (mx := 8) (ci := 4) jF_105_24 kd80 (by decide) rfl rfl rfl rfl rfl (by omega) (by omega) rfl (pc2 := 27) ?_
    refine wp_use (m_111_r80_45_70 τ8 g9 (num / 47) (by omega) (by omega)  _ _ (by omega) (by omega)) ?_
    rintro _ τ11 ⟨rfl, g12, f13⟩
    show WP 105 27 [(0, .ref 80), (1, .ref 45), (2, .ref 70), (3, iV num)] [] _ _ _ _
    refine wp_ic jF_105_27 rfl (pc2 := 28) ?_
    refine wp_ri jF_105_28 rfl ?_
    exact ⟨1, rfl, ⟨by omega, by omega⟩, g12, (FR.up f10 f13 sb_WW80_WW80)⟩
  · intro h7
    clear p2
    refine wp_ic jF_105_9 rfl (pc2 := 10) ?_
    refine wp_ri jF_105_10 rfl ?_
    exact ⟨0, rfl, ⟨by omega, by omega⟩, hg, FR.rf⟩
set_option maxHeartbeats 4000000 in
set_option maxRecDepth 20000 in
/-- Row.turn -/
theorem m_110_r109_70 (σ : jM) (hg : GI σ) (num : Int) (hl_num : 0 ≤ num) (hu_num : num ≤ 2900) (pre0 : num / 47 ≤ (σ.1 70 1)) (pre1 : num % 47 ≤ 23 → num / 47 < (σ.1 70 1)) (pre2 : 24 ≤ num % 47 → (σ.1 70 1) ≤ 59) (pre3 : num / 47 ≤ 60) (pre4 : num % 47 ≤ 23 → num / 47 ≤ 59) (fr lo : Nat) (hfr : 1 ≤ fr) (hlo : 80 ≤ lo) : WP 110 0 (lv_args 0 [.ref 109, .ref 70, iV num]) [] fr lo σ (fun v τ => v = none ∧ GI τ ∧ FR WW109 σ τ) := by
  show WP 110 0 [(0, .ref 109), (1, .ref 70), (2, iV num)] [] _ _ _ _
  refine wp_il1 jF_110_0 rfl rfl (pc2 := 1) ?_
  refine wp_bi jF_110_1 (by decide) rfl (pc2 := 3) ?_
  refine wp_div jF_110_3 ⟨by omega, by omega⟩ (by omega) (m_rgl rfl) (by omega) rfl (pc2 := 4) ?_
  refine wp_is1 (lv2 := [(0, .ref 109), (1, .ref 70), (2, iV num), (3, iV (num / 47))]) jF_110_4 rfl rfl rfl (pc2 := 5) ?_
  refine wp_il1 jF_110_5 rfl rfl (pc2 := 6) ?_
  refine wp_bi jF_110_6 (by decide) rfl (pc2 := 8) ?_
  refine wp_rem jF_110_8 ⟨by omega, by omega⟩ (by omega) (m_rgl rfl) (by omega) rfl (pc2 := 9) ?_
  refine wp_is2 (lv2 := [(0, .ref 109), (1, .ref 70), (2, iV num), (3, iV (num / 47)), (4, iV (num % 47))]) jF_110_9 rfl rfl rfl (pc2 := 11) ?_
  refine wp_il2 jF_110_11 rfl rfl (pc2 := 13) ?_
  refine wp_cS (as := [iV (num % 47)]) (rest := []) (mx := 1) jF_110_13 rfl rfl rfl rfl (by omega) (by omega) rfl (pc2 := 16) ?_
  show WP 107 0 [(0, iV (num % 47))] [] _ _ _ _
  refine wp_il1 jF_107_0 rfl rfl (pc2 := 1) ?_
  refine wp_bi jF_107_1 (by decide) rfl (pc2 := 3) ?_
  refine wp_i_lt jF_107_3 ⟨by omega, by omega⟩ (m_rgl rfl) rfl (pc2 := 6) ?_ ?_
  · intro h1
    refine wp_il1 jF_107_13 rfl rfl (pc2 := 14) ?_
    refine wp_ic jF_107_14 rfl (pc2 := 15) ?_
    refine wp_sub jF_107_15 rfl (pc2 := 16) ?_
    refine wp_ri jF_107_16 rfl ?_
    show WP 110 16 [(0, .ref 109), (1, .ref 70), (2, iV num), (3, iV (num / 47)), (4, iV (num % 47))] [iV ((num % 47) - 1)] _ _ _ _
    refine wp_is2 (lv2 := [(0, .ref 109), (1, .ref 70), (2, iV num), (3, iV (num / 47)), (4, iV (num % 47)), (5, iV ((num % 47) - 1))]) jF_110_16 rfl rfl rfl (pc2 := 18) ?_
    refine wp_il2 jF_110_18 rfl rfl (pc2 := 20) ?_
    refine wp_bi jF_110_20 (by decide) rfl (pc2 := 22) ?_
    refine wp_i_lt jF_110_22 ⟨by omega, by omega⟩ (m_rgl rfl) rfl (pc2 := 25) ?_ ?_
    · intro h2
      refine wp_il1 jF_110_29 rfl rfl (pc2 := 30) ?_
      refine wp_ic jF_110_30 rfl (pc2 := 31) ?_
      refine wp_add jF_110_31 rfl (pc2 := 32) ?_
      refine wp_is2 (lv2 := [(0, .ref 109), (1, .ref 70), (2, iV num), (3, iV (num / 47)), (4, iV (num % 47)), (5, iV ((num % 47) - 1)), (6, iV ((num / 47) + 1))]) jF_110_32 rfl rfl rfl (pc2 := 34) ?_
      refine wp_il2 jF_110_34 rfl rfl (pc2 := 36) ?_
      refine wp_ic jF_110_36 rfl (pc2 := 37) ?_
      refine wp_i_ne jF_110_37 ⟨by omega, by omega⟩ (m_rgl rfl) rfl (pc2 := 40) ?_ ?_
      · intro h3
        refine wp_il1 jF_110_44 rfl rfl (pc2 := 45) ?_
        refine wp_ic jF_110_45 rfl (pc2 := 46) ?_
        refine wp_add jF_110_46 rfl (pc2 := 47) ?_
        refine wp_is2 (lv2 := [(0, .ref 109), (1, .ref 70), (2, iV num), (3, iV (num / 47)), (4, iV (num % 47)), (5, iV ((num % 47) - 1)), (6, iV ((num / 47) + 1)), (7, iV ((num / 47) + 1))]) jF_110_47 rfl rfl rfl (pc2 := 49) ?_
        refine wp_al1 jF_110_49 rfl rfl (pc2 := 50) ?_
        refine wp_gr (b := 71) jF_110_50 kd70 (by decide) (c := 4) rfl rfl rfl (pc2 := 53) ?_
        refine wp_ic jF_110_53 rfl (pc2 := 54) ?_
        refine wp_al1 jF_110_54 rfl rfl (pc2 := 55) ?_
        refine wp_gr (b := 110) jF_110_55 kd109 (by decide) (c := 4) rfl rfl rfl (pc2 := 58) ?_
        refine wp_ic jF_110_58 rfl (pc2 := 59) ?_
        refine wp_il1 jF_110_59 rfl rfl (pc2 := 60) ?_
        refine wp_acopy (W := Wc110) (n0 := 60) (n1 := 60) (lo0 := 0) (hi0 := 255) (lo1 := 0) (hi1 := 255) jF_110_60 kd71 (by decide) rfl kd110 (by decide) rfl rfl (fun _ => rfl) (fun _ => rfl) (by decide) (by decide) (fun _ => rfl) (by omega) (by omega) (by omega) (by omega) (by omega) (by omega) (by show 45 ≤ _; omega) rfl (pc2 := 63) hg ?_
        intro τ4 g5 f6
        show WP 110 63 [(0, .ref 109), (1, .ref 70), (2, iV num), (3, iV (num / 47)), (4, iV (num % 47)), (5, iV ((num % 47) - 1)), (6, iV ((num / 47) + 1)), (7, iV ((num / 47) + 1))] [] _ _ _ _
        refine wp_il2 jF_110_63 rfl rfl (pc2 := 65) ?_
        refine wp_ic jF_110_65 rfl (pc2 := 66) ?_
        refine wp_i_eq jF_110_66 ⟨by omega, by omega⟩ (m_rgl rfl) rfl (pc2 := 69) ?_ ?_
        · intro h7; exfalso; omega
        · intro h7
          refine wp_al1 jF_110_69 rfl rfl (pc2 := 70) ?_
          refine wp_gr (b := 110) jF_110_70 kd109 (by decide) (c := 4) rfl rfl rfl (pc2 := 73) ?_
          refine wp_il1 jF_110_73 rfl rfl (pc2 := 74) ?_
          refine wp_il2 jF_110_74 rfl rfl (pc2 := 76) ?_
          refine wp_iast (n := 60) jF_110_76 kd110 (by decide) rfl rfl (by omega) (by omega) rfl (pc2 := 77) g5 (lo := 0) (hi := 255) rfl (by omega) (by omega) ?_
          intro τ8 g9 f10 e11
          refine wp_al1 jF_110_77 rfl rfl (pc2 := 78) ?_
          refine wp_gr (b := 71) jF_110_78 kd70 (by decide) (c := 4) rfl rfl rfl (pc2 := 81) ?_
          refine wp_il2 jF_110_81 rfl rfl (pc2 := 83) ?_
          refine wp_al1 jF_110_83 rfl rfl (pc2 := 84) ?_
          refine wp_gr (b := 110) jF_110_84 kd109 (by decide) (c := 4) rfl rfl rfl (pc2 := 87) ?_
          refine wp_il2 jF_110_87 rfl rfl (pc2 := 89) ?_
          refine wp_al1 jF_110_89 rfl rfl (pc2 := 90) ?_
          have b12 := GI.b hg 70 1 kd70 (lo := 0) (hi := 60) rfl
          refine wp_gi jF_110_90 kd70 (by decide) rfl ((FRw.na f10 (by decide)).trans (FR.at f6 70 1 rfl)) rfl (pc2 := 93) ?_
          refine wp_il2 jF_110_93 rfl rfl (pc2 := 95) ?_
          refine wp_sub jF_110_95 rfl (pc2 := 96) ?_
          refine wp_acopy (W := Wc110) (n0 := 60) (n1 := 60) (lo0 := 0) (hi0 := 255) (lo1 := 0) (hi1 := 255) jF_110_96 kd71 (by decide) rfl kd110 (by decide) rfl rfl (fun _ => rfl) (fun _ => rfl) (by decide) (by decide) (fun _ => rfl) (by omega) (by omega) (by omega) (by omega) (by omega) (by omega) (by show 45 ≤ _; omega) rfl (pc2 := 99) g9 ?_
          intro τ13 g14 f15
          show WP 110 99 [(0, .ref 109), (1, .ref 70), (2, iV num), (3, iV (num / 47)), (4, iV (num % 47)), (5, iV ((num % 47) - 1)), (6, iV ((num / 47) + 1)), (7, iV ((num / 47) + 1))] [] _ _ _ _
          refine wp_al1 jF_110_99 rfl rfl (pc2 := 100) ?_
          refine wp_il2 jF_110_100 rfl rfl (pc2 := 102) ?_
          refine wp_al1 jF_110_102 rfl rfl (pc2 := 103) ?_
          refine wp_gi jF_110_103 kd70 (by decide) rfl ((FR.at f15 70 1 rfl).trans ((FRw.na f10 (by decide)).trans (FR.at f6 70 1 rfl))) rfl (pc2 := 106) ?_
          refine wp_add jF_110_106 rfl (pc2 := 107) ?_
          refine wp_il2 jF_110_107 rfl rfl (pc2 := 109) ?_
          refine wp_sub jF_110_109 rfl (pc2 := 110) ?_
          refine wp_pi jF_110_110 kd109 (by decide) rfl rfl rfl (pc2 := 113) g14 (lo := 0) (hi := 60) rfl (by omega) (by omega) ?_
          intro τ16 g17 f18 e19
          refine wp_rv jF_110_113 ?_
          exact ⟨rfl, g17, (FR.w (FR.up (FR.w (FR.up FR.rf f6 sb_Wc110_WW109) f10 rfl) f15 sb_Wc110_WW109) f18 rfl)⟩
      · intro h3
        refine wp_il1 jF_110_40 rfl rfl (pc2 := 41) ?_
        refine wp_go jF_110_41 ?_
        refine wp_is2 (lv2 := [(0, .ref 109), (1, .ref 70), (2, iV num), (3, iV (num / 47)), (4, iV (num % 47)), (5, iV ((num % 47) - 1)), (6, iV ((num / 47) + 1)), (7, iV (num / 47))]) jF_110_47 rfl rfl rfl (pc2 := 49) ?_
        refine wp_al1 jF_110_49 rfl rfl (pc2 := 50) ?_
        refine wp_gr (b := 71) jF_110_50 kd70 (by decide) (c := 4) rfl rfl rfl (pc2 := 53) ?_
        refine wp_ic jF_110_53 rfl (pc2 := 54) ?_
        refine wp_al1 jF_110_54 rfl rfl (pc2 := 55) ?_
        refine wp_gr (b := 110) jF_110_55 kd109 (by decide) (c := 4) rfl rfl rfl (pc2 := 58) ?_
        refine wp_ic jF_110_58 rfl (pc2 := 59) ?_
        refine wp_il1 jF_110_59 rfl rfl (pc2 := 60) ?_
        refine wp_acopy (W := Wc110) (n0 := 60) (n1 := 60) (lo0 := 0) (hi0 := 255) (lo1 := 0) (hi1 := 255) jF_110_60 kd71 (by decide) rfl kd110 (by decide) rfl rfl (fun _ => rfl) (fun _ => rfl) (by decide) (by decide) (fun _ => rfl) (by omega) (by omega) (by omega) (by omega) (by omega) (by omega) (by show 45 ≤ _; omega) rfl (pc2 := 63) hg ?_
        intro τ20 g21 f22
        show WP 110 63 [(0, .ref 109), (1, .ref 70), (2, iV num), (3, iV (num / 47)), (4, iV (num % 47)), (5, iV ((num % 47) - 1)), (6, iV ((num / 47) + 1)), (7, iV (num / 47))] [] _ _ _ _
        refine wp_il2 jF_110_63 rfl rfl (pc2 := 65) ?_
        refine wp_ic jF_110_65 rfl (pc2 := 66) ?_
        refine wp_i_eq jF_110_66 ⟨by omega, by omega⟩ (m_rgl rfl) rfl (pc2 := 69) ?_ ?_
        · intro h23
          refine wp_al1 jF_110_77 rfl rfl (pc2 := 78) ?_
          refine wp_gr (b := 71) jF_110_78 kd70 (by decide) (c := 4) rfl rfl rfl (pc2 := 81) ?_
          refine wp_il2 jF_110_81 rfl rfl (pc2 := 83) ?_
          refine wp_al1 jF_110_83 rfl rfl (pc2 := 84) ?_
          refine wp_gr (b := 110) jF_110_84 kd109 (by decide) (c := 4) rfl rfl rfl (pc2 := 87) ?_
          refine wp_il2 jF_110_87 rfl rfl (pc2 := 89) ?_
          refine wp_al1 jF_110_89 rfl rfl (pc2 := 90) ?_
          have b24 := GI.b hg 70 1 kd70 (lo := 0) (hi := 60) rfl
          refine wp_gi jF_110_90 kd70 (by decide) rfl (FR.at f22 70 1 rfl) rfl (pc2 := 93) ?_
          refine wp_il2 jF_110_93 rfl rfl (pc2 := 95) ?_
          refine wp_sub jF_110_95 rfl (pc2 := 96) ?_
          refine wp_acopy (W := Wc110) (n0 := 60) (n1 := 60) (lo0 := 0) (hi0 := 255) (lo1 := 0) (hi1 := 255) jF_110_96 kd71 (by decide) rfl kd110 (by decide) rfl rfl (fun _ => rfl) (fun _ => rfl) (by decide) (by decide) (fun _ => rfl) (by omega) (by omega) (by omega) (by omega) (by omega) (by omega) (by show 45 ≤ _; omega) rfl (pc2 := 99) g21 ?_
          intro τ25 g26 f27
          show WP 110 99 [(0, .ref 109), (1, .ref 70), (2, iV num), (3, iV (num / 47)), (4, iV (num % 47)), (5, iV ((num % 47) - 1)), (6, iV ((num / 47) + 1)), (7, iV (num / 47))] [] _ _ _ _
          refine wp_al1 jF_110_99 rfl rfl (pc2 := 100) ?_
          refine wp_il2 jF_110_100 rfl rfl (pc2 := 102) ?_
          refine wp_al1 jF_110_102 rfl rfl (pc2 := 103) ?_
          refine wp_gi jF_110_103 kd70 (by decide) rfl ((FR.at f27 70 1 rfl).trans (FR.at f22 70 1 rfl)) rfl (pc2 := 106) ?_
          refine wp_add jF_110_106 rfl (pc2 := 107) ?_
          refine wp_il2 jF_110_107 rfl rfl (pc2 := 109) ?_
          refine wp_sub jF_110_109 rfl (pc2 := 110) ?_
          refine wp_pi jF_110_110 kd109 (by decide) rfl rfl rfl (pc2 := 113) g26 (lo := 0) (hi := 60) rfl (by omega) (by omega) ?_
          intro τ28 g29 f30 e31
          refine wp_rv jF_110_113 ?_
          exact ⟨rfl, g29, (FR.w (FR.up (FR.up FR.rf f22 sb_Wc110_WW109) f27 sb_Wc110_WW109) f30 rfl)⟩
        · intro h23; exfalso; omega
    · intro h2; exfalso; omega
  · intro h1
    refine wp_il1 jF_107_6 rfl rfl (pc2 := 7) ?_
    refine wp_bi jF_107_7 (by decide) rfl (pc2 := 9) ?_
    refine wp_sub jF_107_9 rfl (pc2 := 10) ?_
    refine wp_go jF_107_10 ?_
    refine wp_ri jF_107_16 rfl ?_
    show WP 110 16 [(0, .ref 109), (1, .ref 70), (2, iV num), (3, iV (num / 47)), (4, iV (num % 47))] [iV ((num % 47) - 24)] _ _ _ _
    refine wp_is2 (lv2 := [(0, .ref 109), (1, .ref 70), (2, iV num), (3, iV (num / 47)), (4, iV (num % 47)), (5, iV ((num % 47) - 24))]) jF_110_16 rfl rfl rfl (pc2 := 18) ?_
    refine wp_il2 jF_110_18 rfl rfl (pc2 := 20) ?_
    refine wp_bi jF_110_20 (by decide) rfl (pc2 := 22) ?_
    refine wp_i_lt jF_110_22 ⟨by omega, by omega⟩ (m_rgl rfl) rfl (pc2 := 25) ?_ ?_
    · intro h32; exfalso; omega
    · intro h32
      refine wp_il1 jF_110_25 rfl rfl (pc2 := 26) ?_
      refine wp_go jF_110_26 ?_
      refine wp_is2 (lv2 := [(0, .ref 109), (1, .ref 70), (2, iV num), (3, iV (num / 47)), (4, iV (num % 47)), (5, iV ((num % 47) - 24)), (6, iV (num / 47))]) jF_110_32 rfl rfl rfl (pc2 := 34) ?_
      refine wp_il2 jF_110_34 rfl rfl (pc2 := 36) ?_
      refine wp_ic jF_110_36 rfl (pc2 := 37) ?_
      refine wp_i_ne jF_110_37 ⟨by omega, by omega⟩ (m_rgl rfl) rfl (pc2 := 40) ?_ ?_
      · intro h33
        refine wp_il1 jF_110_44 rfl rfl (pc2 := 45) ?_
        refine wp_ic jF_110_45 rfl (pc2 := 46) ?_
        refine wp_add jF_110_46 rfl (pc2 := 47) ?_
        refine wp_is2 (lv2 := [(0, .ref 109), (1, .ref 70), (2, iV num), (3, iV (num / 47)), (4, iV (num % 47)), (5, iV ((num % 47) - 24)), (6, iV (num / 47)), (7, iV ((num / 47) + 1))]) jF_110_47 rfl rfl rfl (pc2 := 49) ?_
        refine wp_al1 jF_110_49 rfl rfl (pc2 := 50) ?_
        refine wp_gr (b := 71) jF_110_50 kd70 (by decide) (c := 4) rfl rfl rfl (pc2 := 53) ?_
        refine wp_ic jF_110_53 rfl (pc2 := 54) ?_
        refine wp_al1 jF_110_54 rfl rfl (pc2 := 55) ?_
        refine wp_gr (b := 110) jF_110_55 kd109 (by decide) (c := 4) rfl rfl rfl (pc2 := 58) ?_
        refine wp_ic jF_110_58 rfl (pc2 := 59) ?_
        refine wp_il1 jF_110_59 rfl rfl (pc2 := 60) ?_
        refine wp_acopy (W := Wc110) (n0 := 60) (n1 := 60) (lo0 := 0) (hi0 := 255) (lo1 := 0) (hi1 := 255) jF_110_60 kd71 (by decide) rfl kd110 (by decide) rfl rfl (fun _ => rfl) (fun _ => rfl) (by decide) (by decide) (fun _ => rfl) (by omega) (by omega) (by omega) (by omega) (by omega) (by omega) (by show 45 ≤ _; omega) rfl (pc2 := 63) hg ?_
        intro τ34 g35 f36
        show WP 110 63 [(0, .ref 109), (1, .ref 70), (2, iV num), (3, iV (num / 47)), (4, iV (num % 47)), (5, iV ((num % 47) - 24)), (6, iV (num / 47)), (7, iV ((num / 47) + 1))] [] _ _ _ _
        refine wp_il2 jF_110_63 rfl rfl (pc2 := 65) ?_
        refine wp_ic jF_110_65 rfl (pc2 := 66) ?_
        refine wp_i_eq jF_110_66 ⟨by omega, by omega⟩ (m_rgl rfl) rfl (pc2 := 69) ?_ ?_
        · intro h37; exfalso; omega
        · intro h37
          refine wp_al1 jF_110_69 rfl rfl (pc2 := 70) ?_
          refine wp_gr (b := 110) jF_110_70 kd109 (by decide) (c := 4) rfl rfl rfl (pc2 := 73) ?_
          refine wp_il1 jF_110_73 rfl rfl (pc2 := 74) ?_
          refine wp_il2 jF_110_74 rfl rfl (pc2 := 76) ?_
          refine wp_iast (n := 60) jF_110_76 kd110 (by decide) rfl rfl (by omega) (by omega) rfl (pc2 := 77) g35 (lo := 0) (hi := 255) rfl (by omega) (by omega) ?_
          intro τ38 g39 f40 e41
          refine wp_al1 jF_110_77 rfl rfl (pc2 := 78) ?_
          refine wp_gr (b := 71) jF_110_78 kd70 (by decide) (c := 4) rfl rfl rfl (pc2 := 81) ?_
          refine wp_il2 jF_110_81 rfl rfl (pc2 := 83) ?_
          refine wp_al1 jF_110_83 rfl rfl (pc2 := 84) ?_
          refine wp_gr (b := 110) jF_110_84 kd109 (by decide) (c := 4) rfl rfl rfl (pc2 := 87) ?_
          refine wp_il2 jF_110_87 rfl rfl (pc2 := 89) ?_
          refine wp_al1 jF_110_89 rfl rfl (pc2 := 90) ?_
          have b42 := GI.b hg 70 1 kd70 (lo := 0) (hi := 60) rfl
          refine wp_gi jF_110_90 kd70 (by decide) rfl ((FRw.na f40 (by decide)).trans (FR.at f36 70 1 rfl)) rfl (pc2 := 93) ?_
          refine wp_il2 jF_110_93 rfl rfl (pc2 := 95) ?_
          refine wp_sub jF_110_95 rfl (pc2 := 96) ?_
          refine wp_acopy (W := Wc110) (n0 := 60) (n1 := 60) (lo0 := 0) (hi0 := 255) (lo1 := 0) (hi1 := 255) jF_110_96 kd71 (by decide) rfl kd110 (by decide) rfl rfl (fun _ => rfl) (fun _ => rfl) (by decide) (by decide) (fun _ => rfl) (by omega) (by omega) (by omega) (by omega) (by omega) (by omega) (by show 45 ≤ _; omega) rfl (pc2 := 99) g39 ?_
          intro τ43 g44 f45
          show WP 110 99 [(0, .ref 109), (1, .ref 70), (2, iV num), (3, iV (num / 47)), (4, iV (num % 47)), (5, iV ((num % 47) - 24)), (6, iV (num / 47)), (7, iV ((num / 47) + 1))] [] _ _ _ _
          refine wp_al1 jF_110_99 rfl rfl (pc2 := 100) ?_
          refine wp_il2 jF_110_100 rfl rfl (pc2 := 102) ?_
          refine wp_al1 jF_110_102 rfl rfl (pc2 := 103) ?_
          refine wp_gi jF_110_103 kd70 (by decide) rfl ((FR.at f45 70 1 rfl).trans ((FRw.na f40 (by decide)).trans (FR.at f36 70 1 rfl))) rfl (pc2 := 106) ?_
          refine wp_add jF_110_106 rfl (pc2 := 107) ?_
          refine wp_il2 jF_110_107 rfl rfl (pc2 := 109) ?_
          refine wp_sub jF_110_109 rfl (pc2 := 110) ?_
          refine wp_pi jF_110_110 kd109 (by decide) rfl rfl rfl (pc2 := 113) g44 (lo := 0) (hi := 60) rfl (by omega) (by omega) ?_
          intro τ46 g47 f48 e49
          refine wp_rv jF_110_113 ?_
          exact ⟨rfl, g47, (FR.w (FR.up (FR.w (FR.up FR.rf f36 sb_Wc110_WW109) f40 rfl) f45 sb_Wc110_WW109) f48 rfl)⟩
      · intro h33; exfalso; omega
