set_option maxHeartbeats 4000000 in
set_option maxRecDepth 20000 in
/-- Row.weighBeside -/
theorem m_111_r109_20_70 (σ : jM) (hg : GI σ) (pl : Int) (hl_pl : 0 ≤ pl) (hu_pl : pl ≤ 61)  (fr lo : Nat) (hfr : 1 ≤ fr) (hlo : 31 ≤ lo) : WP 111 0 (lv_args 0 [.ref 109, .ref 20, .ref 70, iV pl]) [] fr lo σ (fun v τ => v = none ∧ GI τ ∧ FR WW109 σ τ) := by
  show WP 111 0 [(0, .ref 109), (1, .ref 20), (2, .ref 70), (3, iV pl)] [] _ _ _ _
  refine wp_al1 jF_111_0 rfl rfl (pc2 := 1) ?_
  refine wp_il1 jF_111_1 rfl rfl (pc2 := 2) ?_
  refine wp_cV (as := [iV pl]) (rest := []) (a := 70) (mx := 3) (ci := 4) jF_111_2 kd70 (by decide) rfl rfl rfl rfl rfl (by omega) (by omega) rfl (pc2 := 5) ?_
  have b1 := GI.b hg 70 6 kd70 (lo := 0) (hi := 30) rfl
  refine wp_use (m_112_r70 σ hg pl (by omega) (by omega)  _ _ (by omega) (by omega)) ?_
  rintro _ _ ⟨z5, rfl, h6, rfl, p2⟩
  show WP 111 5 [(0, .ref 109), (1, .ref 20), (2, .ref 70), (3, iV pl)] [iV z5] _ _ _ _
  refine wp_is2 (lv2 := [(0, .ref 109), (1, .ref 20), (2, .ref 70), (3, iV pl), (4, iV z5)]) jF_111_5 rfl rfl rfl (pc2 := 7) ?_
  refine wp_al1 jF_111_7 rfl rfl (pc2 := 8) ?_
  have b7 := GI.b hg 109 1 kd109 (lo := 0) (hi := 60) rfl
  refine wp_gi jF_111_8 kd109 (by decide) rfl rfl rfl (pc2 := 11) ?_
  refine wp_al1 jF_111_11 rfl rfl (pc2 := 12) ?_
  have b8 := GI.b hg 70 1 kd70 (lo := 0) (hi := 60) rfl
  refine wp_gi jF_111_12 kd70 (by decide) rfl rfl rfl (pc2 := 15) ?_
  refine wp_sub jF_111_15 rfl (pc2 := 16) ?_
  refine wp_is2 (lv2 := [(0, .ref 109), (1, .ref 20), (2, .ref 70), (3, iV pl), (4, iV z5), (5, iV ((σ.1 109 1) - (σ.1 70 1)))]) jF_111_16 rfl rfl rfl (pc2 := 18) ?_
  refine wp_al1 jF_111_18 rfl rfl (pc2 := 19) ?_
  refine wp_lc jF_111_19 rfl (pc2 := 20) ?_
  refine wp_pl jF_111_20 kd109 (by decide) rfl rfl (pc2 := 23) hg ?_
  intro τ9 g10 f11
  refine wp_ic jF_111_23 rfl (pc2 := 24) ?_
  refine wp_is2 (lv2 := [(0, .ref 109), (1, .ref 20), (2, .ref 70), (3, iV pl), (4, iV z5), (5, iV ((σ.1 109 1) - (σ.1 70 1))), (6, iV 0)]) jF_111_24 rfl rfl rfl (pc2 := 26) ?_
  refine wp_loop (α := Int) (fun a => [(0, .ref 109), (1, .ref 20), (2, .ref 70), (3, iV pl), (4, iV z5), (5, iV ((σ.1 109 1) - (σ.1 70 1))), (6, iV (a))]) (fun a τ => (0 ≤ a ∧ a ≤ 30) ∧ GI τ ∧ FR WW109 τ9 τ ∧ ((a) ≤ z5)) (fun a τ => Int.toNat (30 - (a))) (0) τ9 ?_ ?_
  · skip
    exact ⟨⟨by omega, by omega⟩, g10, FR.rf, (by omega)⟩
  · rintro x12 τ14 ⟨h13, g15, f16, p17⟩ ih18
    show WP 111 26 [(0, .ref 109), (1, .ref 20), (2, .ref 70), (3, iV pl), (4, iV z5), (5, iV ((σ.1 109 1) - (σ.1 70 1))), (6, iV x12)] [] _ _ _ _
    show WP 111 26 [(0, .ref 109), (1, .ref 20), (2, .ref 70), (3, iV pl), (4, iV z5), (5, iV ((σ.1 109 1) - (σ.1 70 1))), (6, iV x12)] [] _ _ _ _
    refine wp_il2 jF_111_26 rfl rfl (pc2 := 28) ?_
    refine wp_il2 jF_111_28 rfl rfl (pc2 := 30) ?_
    refine wp_i_ge jF_111_30 (m_rgb h13 rfl) (m_rgb h6 rfl) rfl (pc2 := 33) ?_ ?_
    · intro h19
      refine wp_al1 jF_111_55 rfl rfl (pc2 := 56) ?_
      refine wp_al1 jF_111_56 rfl rfl (pc2 := 57) ?_
      refine wp_gr (b := 73) jF_111_57 kd70 (by decide) (c := 6) rfl rfl rfl (pc2 := 60) ?_
      refine wp_il2 jF_111_60 rfl rfl (pc2 := 62) ?_
      have b20 := GI.b hg 73 z5.toNat kd73 (lo := 0) (hi := 60) rfl
      refine wp_iald (n := 31) (e := (σ.1 73 z5.toNat)) jF_111_62 kd73 (by decide) rfl rfl (by omega) (by omega) ((FR.at f16 73 z5.toNat rfl).trans (FRw.na f11 (by decide))) rfl (pc2 := 63) ?_
      refine wp_pi jF_111_63 kd109 (by decide) rfl rfl rfl (pc2 := 66) g15 (lo := 0) (hi := 61) rfl (by omega) (by omega) ?_
      intro τ21 g22 f23 e24
      refine wp_il2 jF_111_66 rfl rfl (pc2 := 68) ?_
      refine wp_ic jF_111_68 rfl (pc2 := 69) ?_
      refine wp_add jF_111_69 rfl (pc2 := 70) ?_
      refine wp_is2 (lv2 := [(0, .ref 109), (1, .ref 20), (2, .ref 70), (3, iV pl), (4, iV z5), (5, iV ((σ.1 109 1) - (σ.1 70 1))), (6, iV (z5 + 1))]) jF_111_70 rfl rfl rfl (pc2 := 72) ?_
      refine wp_ic jF_111_72 rfl (pc2 := 73) ?_
      refine wp_is2 (lv2 := [(0, .ref 109), (1, .ref 20), (2, .ref 70), (3, iV pl), (4, iV z5), (5, iV ((σ.1 109 1) - (σ.1 70 1))), (6, iV (z5 + 1)), (7, iV 0)]) jF_111_73 rfl rfl rfl (pc2 := 75) ?_
      refine wp_loop (α := Int × Int) (fun a => [(0, .ref 109), (1, .ref 20), (2, .ref 70), (3, iV pl), (4, iV z5), (5, iV ((σ.1 109 1) - (σ.1 70 1))), (6, iV (a.1)), (7, iV (a.2))]) (fun a τ => (1 ≤ a.1 ∧ a.1 ≤ 30) ∧ (0 ≤ a.2 ∧ a.2 ≤ 30) ∧ GI τ ∧ FR WW109 τ21 τ ∧ ((a.1) = 1 ∨ (a.1) ≤ (τ.1 70 6))) (fun a τ => Int.toNat (30 - (a.2))) ((z5 + 1), 0) τ21 ?_ ?_
      · skip
        have q25 : (τ21.1 70 6) = (σ.1 70 6) := ((FRw.na f23 (by decide)).trans ((FR.at f16 70 6 rfl).trans (FRw.na f11 (by decide))))
        exact ⟨⟨by (try dsimp only); omega, by (try dsimp only); omega⟩, ⟨by (try dsimp only); omega, by (try dsimp only); omega⟩, g22, FR.rf, (by (try dsimp only); omega)⟩
      · rintro ⟨x26, x27⟩ τ30 ⟨h28, h29, g31, f32, p33⟩ ih34
        try dsimp only at h28 h29 g31 f32 p33
        have q35 : (τ30.1 70 6) = (σ.1 70 6) := ((FR.at f32 70 6 rfl).trans ((FRw.na f23 (by decide)).trans ((FR.at f16 70 6 rfl).trans (FRw.na f11 (by decide)))))
        show WP 111 75 [(0, .ref 109), (1, .ref 20), (2, .ref 70), (3, iV pl), (4, iV z5), (5, iV ((σ.1 109 1) - (σ.1 70 1))), (6, iV x26), (7, iV x27)] [] _ _ _ _
        show WP 111 75 [(0, .ref 109), (1, .ref 20), (2, .ref 70), (3, iV pl), (4, iV z5), (5, iV ((σ.1 109 1) - (σ.1 70 1))), (6, iV x26), (7, iV x27)] [] _ _ _ _
        refine wp_il2 jF_111_75 rfl rfl (pc2 := 77) ?_
        refine wp_bi jF_111_77 (by decide) rfl (pc2 := 79) ?_
        refine wp_i_ge jF_111_79 (m_rgb h29 rfl) (m_rgl rfl) rfl (pc2 := 82) ?_ ?_
        · intro h36
          refine wp_il2 jF_111_165 rfl rfl (pc2 := 167) ?_
          refine wp_is2 (lv2 := [(0, .ref 109), (1, .ref 20), (2, .ref 70), (3, iV pl), (4, iV z5), (5, iV ((σ.1 109 1) - (σ.1 70 1))), (6, iV x26), (7, iV x26)]) jF_111_167 rfl rfl rfl (pc2 := 169) ?_
          refine wp_loop (α := Int) (fun a => [(0, .ref 109), (1, .ref 20), (2, .ref 70), (3, iV pl), (4, iV z5), (5, iV ((σ.1 109 1) - (σ.1 70 1))), (6, iV x26), (7, iV (a))]) (fun a τ => (1 ≤ a ∧ a ≤ 30) ∧ GI τ ∧ FR WW109 τ30 τ) (fun a τ => Int.toNat (30 - (a))) (x26) τ30 ?_ ?_
          · skip
            exact ⟨⟨by omega, by omega⟩, g31, FR.rf⟩
          · rintro x37 τ39 ⟨h38, g40, f41⟩ ih42
            show WP 111 169 [(0, .ref 109), (1, .ref 20), (2, .ref 70), (3, iV pl), (4, iV z5), (5, iV ((σ.1 109 1) - (σ.1 70 1))), (6, iV x26), (7, iV x37)] [] _ _ _ _
            show WP 111 169 [(0, .ref 109), (1, .ref 20), (2, .ref 70), (3, iV pl), (4, iV z5), (5, iV ((σ.1 109 1) - (σ.1 70 1))), (6, iV x26), (7, iV x37)] [] _ _ _ _
            refine wp_il2 jF_111_169 rfl rfl (pc2 := 171) ?_
            refine wp_al1 jF_111_171 rfl rfl (pc2 := 172) ?_
            refine wp_gi jF_111_172 kd70 (by decide) rfl ((FR.at f41 70 6 rfl).trans ((FR.at f32 70 6 rfl).trans ((FRw.na f23 (by decide)).trans ((FR.at f16 70 6 rfl).trans (FRw.na f11 (by decide)))))) rfl (pc2 := 175) ?_
            refine wp_i_ge jF_111_175 (m_rgb h38 rfl) (m_rgb b1 rfl) rfl (pc2 := 178) ?_ ?_
            · intro h43
              refine wp_rv jF_111_200 ?_
              exact ⟨rfl, g40, (FR.up (FR.up (FR.w (FR.up (FR.w FR.rf f11 rfl) f16 sb_WW109_WW109) f23 rfl) f32 sb_WW109_WW109) f41 sb_WW109_WW109)⟩
            · intro h43
              refine wp_al1 jF_111_178 rfl rfl (pc2 := 179) ?_
              refine wp_dup jF_111_179 rfl rfl (pc2 := 180) ?_
              refine wp_glA jF_111_180 kd109 (by decide) rfl rfl (pc2 := 183) ?_
              intro y44
              refine wp_al1 jF_111_183 rfl rfl (pc2 := 184) ?_
              refine wp_gr (b := 74) jF_111_184 kd70 (by decide) (c := 7) rfl rfl rfl (pc2 := 187) ?_
              refine wp_il2 jF_111_187 rfl rfl (pc2 := 189) ?_
              refine wp_lald (n := 30) jF_111_189 kd74 (by decide) rfl rfl (by omega) (by omega) rfl (pc2 := 190) ?_
              intro y45
              refine wp_lng (pc2 := 191) jF_111_190 rfl rfl ?_
              intro y46
              refine wp_pl jF_111_191 kd109 (by decide) rfl rfl (pc2 := 194) g40 ?_
              intro τ47 g48 f49
              refine wp_inc (lv2 := [(0, .ref 109), (1, .ref 20), (2, .ref 70), (3, iV pl), (4, iV z5), (5, iV ((σ.1 109 1) - (σ.1 70 1))), (6, iV x26), (7, iV (x37 + 1))]) jF_111_194 rfl rfl rfl rfl (pc2 := 197) ?_
              refine wp_go jF_111_197 ?_
              exact ih42 ((x37 + 1)) τ47 ⟨⟨by omega, by omega⟩, g48, (FR.w f41 f49 rfl)⟩ (by show Int.toNat (30 - (x37 + 1)) < Int.toNat (30 - x37); omega)
        · intro h36
          refine wp_al1 jF_111_82 rfl rfl (pc2 := 83) ?_
          have b50 := GI.b g31 109 8 kd109 (lo := 0) (hi := 61) rfl
          refine wp_gi jF_111_83 kd109 (by decide) rfl rfl rfl (pc2 := 86) ?_
          refine wp_al1 jF_111_86 rfl rfl (pc2 := 87) ?_
          have b51 := GI.b g31 109 1 kd109 (lo := 0) (hi := 60) rfl
          refine wp_gi jF_111_87 kd109 (by decide) rfl rfl rfl (pc2 := 90) ?_
          refine wp_i_ge jF_111_90 (m_rgb b50 rfl) (m_rgb b51 rfl) rfl (pc2 := 93) ?_ ?_
          · intro h52
            refine wp_il2 jF_111_165 rfl rfl (pc2 := 167) ?_
            refine wp_is2 (lv2 := [(0, .ref 109), (1, .ref 20), (2, .ref 70), (3, iV pl), (4, iV z5), (5, iV ((σ.1 109 1) - (σ.1 70 1))), (6, iV x26), (7, iV x26)]) jF_111_167 rfl rfl rfl (pc2 := 169) ?_
            refine wp_loop (α := Int) (fun a => [(0, .ref 109), (1, .ref 20), (2, .ref 70), (3, iV pl), (4, iV z5), (5, iV ((σ.1 109 1) - (σ.1 70 1))), (6, iV x26), (7, iV (a))]) (fun a τ => (1 ≤ a ∧ a ≤ 30) ∧ GI τ ∧ FR WW109 τ30 τ) (fun a τ => Int.toNat (30 - (a))) (x26) τ30 ?_ ?_
            · skip
              exact ⟨⟨by omega, by omega⟩, g31, FR.rf⟩
            · rintro x53 τ55 ⟨h54, g56, f57⟩ ih58
              show WP 111 169 [(0, .ref 109), (1, .ref 20), (2, .ref 70), (3, iV pl), (4, iV z5), (5, iV ((σ.1 109 1) - (σ.1 70 1))), (6, iV x26), (7, iV x53)] [] _ _ _ _
              show WP 111 169 [(0, .ref 109), (1, .ref 20), (2, .ref 70), (3, iV pl), (4, iV z5), (5, iV ((σ.1 109 1) - (σ.1 70 1))), (6, iV x26), (7, iV x53)] [] _ _ _ _
              refine wp_il2 jF_111_169 rfl rfl (pc2 := 171) ?_
              refine wp_al1 jF_111_171 rfl rfl (pc2 := 172) ?_
              refine wp_gi jF_111_172 kd70 (by decide) rfl ((FR.at f57 70 6 rfl).trans ((FR.at f32 70 6 rfl).trans ((FRw.na f23 (by decide)).trans ((FR.at f16 70 6 rfl).trans (FRw.na f11 (by decide)))))) rfl (pc2 := 175) ?_
              refine wp_i_ge jF_111_175 (m_rgb h54 rfl) (m_rgb b1 rfl) rfl (pc2 := 178) ?_ ?_
              · intro h59
                refine wp_rv jF_111_200 ?_
                exact ⟨rfl, g56, (FR.up (FR.up (FR.w (FR.up (FR.w FR.rf f11 rfl) f16 sb_WW109_WW109) f23 rfl) f32 sb_WW109_WW109) f57 sb_WW109_WW109)⟩
              · intro h59
                refine wp_al1 jF_111_178 rfl rfl (pc2 := 179) ?_
                refine wp_dup jF_111_179 rfl rfl (pc2 := 180) ?_
                refine wp_glA jF_111_180 kd109 (by decide) rfl rfl (pc2 := 183) ?_
                intro y60
                refine wp_al1 jF_111_183 rfl rfl (pc2 := 184) ?_
                refine wp_gr (b := 74) jF_111_184 kd70 (by decide) (c := 7) rfl rfl rfl (pc2 := 187) ?_
                refine wp_il2 jF_111_187 rfl rfl (pc2 := 189) ?_
                refine wp_lald (n := 30) jF_111_189 kd74 (by decide) rfl rfl (by omega) (by omega) rfl (pc2 := 190) ?_
                intro y61
                refine wp_lng (pc2 := 191) jF_111_190 rfl rfl ?_
                intro y62
                refine wp_pl jF_111_191 kd109 (by decide) rfl rfl (pc2 := 194) g56 ?_
                intro τ63 g64 f65
                refine wp_inc (lv2 := [(0, .ref 109), (1, .ref 20), (2, .ref 70), (3, iV pl), (4, iV z5), (5, iV ((σ.1 109 1) - (σ.1 70 1))), (6, iV x26), (7, iV (x53 + 1))]) jF_111_194 rfl rfl rfl rfl (pc2 := 197) ?_
                refine wp_go jF_111_197 ?_
                exact ih58 ((x53 + 1)) τ63 ⟨⟨by omega, by omega⟩, g64, (FR.w f57 f65 rfl)⟩ (by show Int.toNat (30 - (x53 + 1)) < Int.toNat (30 - x53); omega)
          · intro h52
            refine wp_al1 jF_111_93 rfl rfl (pc2 := 94) ?_
            refine wp_dup jF_111_94 rfl rfl (pc2 := 95) ?_
            refine wp_glA jF_111_95 kd109 (by decide) rfl rfl (pc2 := 98) ?_
            intro y66
            refine wp_al1 jF_111_98 rfl rfl (pc2 := 99) ?_
            refine wp_al1 jF_111_99 rfl rfl (pc2 := 100) ?_
            refine wp_cV (as := [.ref 20]) (rest := [.long y66, .ref 109]) (a := 109) (mx := 12) (ci := 4) jF_111_100 kd109 (by decide) rfl rfl rfl rfl rfl (by omega) (by omega) rfl (pc2 := 103) ?_
            refine wp_use (m_83_r109_20 τ30 g31  (by omega) _ _ (by omega) (by omega)) ?_
            rintro _ τ67 ⟨y70, rfl, g68, f69⟩
            show WP 111 103 [(0, .ref 109), (1, .ref 20), (2, .ref 70), (3, iV pl), (4, iV z5), (5, iV ((σ.1 109 1) - (σ.1 70 1))), (6, iV x26), (7, iV x27)] [.long y70, .long y66, .ref 109] _ _ _ _
            refine wp_lng (pc2 := 104) jF_111_103 rfl rfl ?_
            intro y71
            refine wp_pl jF_111_104 kd109 (by decide) rfl rfl (pc2 := 107) g68 ?_
            intro τ72 g73 f74
            have q75 : (τ72.1 70 6) = (σ.1 70 6) := ((FRw.na f74 (by decide)).trans ((FR.at f69 70 6 rfl).trans ((FR.at f32 70 6 rfl).trans ((FRw.na f23 (by decide)).trans ((FR.at f16 70 6 rfl).trans (FRw.na f11 (by decide)))))))
            refine wp_loop (α := Int) (fun a => [(0, .ref 109), (1, .ref 20), (2, .ref 70), (3, iV pl), (4, iV z5), (5, iV ((σ.1 109 1) - (σ.1 70 1))), (6, iV (a)), (7, iV x27)]) (fun a τ => (1 ≤ a ∧ a ≤ 30) ∧ τ72 = τ ∧ ((a) = 1 ∨ (a) ≤ (τ72.1 70 6))) (fun a τ => Int.toNat (30 - (a))) (x26) τ72 ?_ ?_
            · skip
              exact ⟨⟨by omega, by omega⟩, rfl, (by omega)⟩
            · rintro x76 _ ⟨h77, rfl, p81⟩ ih82
              show WP 111 107 [(0, .ref 109), (1, .ref 20), (2, .ref 70), (3, iV pl), (4, iV z5), (5, iV ((σ.1 109 1) - (σ.1 70 1))), (6, iV x76), (7, iV x27)] [] _ _ _ _
              show WP 111 107 [(0, .ref 109), (1, .ref 20), (2, .ref 70), (3, iV pl), (4, iV z5), (5, iV ((σ.1 109 1) - (σ.1 70 1))), (6, iV x76), (7, iV x27)] [] _ _ _ _
              refine wp_il2 jF_111_107 rfl rfl (pc2 := 109) ?_
              refine wp_al1 jF_111_109 rfl rfl (pc2 := 110) ?_
              refine wp_gi jF_111_110 kd70 (by decide) rfl ((FRw.na f74 (by decide)).trans ((FR.at f69 70 6 rfl).trans ((FR.at f32 70 6 rfl).trans ((FRw.na f23 (by decide)).trans ((FR.at f16 70 6 rfl).trans (FRw.na f11 (by decide))))))) rfl (pc2 := 113) ?_
              refine wp_i_ge jF_111_113 (m_rgb h77 rfl) (m_rgb b1 rfl) rfl (pc2 := 116) ?_ ?_
              · intro h83
                refine wp_al1 jF_111_139 rfl rfl (pc2 := 140) ?_
                refine wp_gr (b := 73) jF_111_140 kd70 (by decide) (c := 6) rfl rfl rfl (pc2 := 143) ?_
                refine wp_il2 jF_111_143 rfl rfl (pc2 := 145) ?_
                have b84 := GI.b hg 73 x76.toNat kd73 (lo := 0) (hi := 60) rfl
                refine wp_iald (n := 31) (e := (σ.1 73 x76.toNat)) jF_111_145 kd73 (by decide) rfl rfl (by omega) (by omega) ((FRw.na f74 (by decide)).trans ((FR.at f69 73 x76.toNat rfl).trans ((FR.at f32 73 x76.toNat rfl).trans ((FRw.na f23 (by decide)).trans ((FR.at f16 73 x76.toNat rfl).trans (FRw.na f11 (by decide))))))) rfl (pc2 := 146) ?_
                refine wp_il2 jF_111_146 rfl rfl (pc2 := 148) ?_
                refine wp_add jF_111_148 rfl (pc2 := 149) ?_
                refine wp_al1 jF_111_149 rfl rfl (pc2 := 150) ?_
                have b85 := GI.b g68 109 8 kd109 (lo := 0) (hi := 61) rfl
                refine wp_gi jF_111_150 kd109 (by decide) rfl (FRw.nj f74 (by decide)) rfl (pc2 := 153) ?_
                refine wp_i_ne jF_111_153 ⟨by omega, by omega⟩ (m_rgb b85 rfl) rfl (pc2 := 156) ?_ ?_
                · intro h86
                  refine wp_inc (lv2 := [(0, .ref 109), (1, .ref 20), (2, .ref 70), (3, iV pl), (4, iV z5), (5, iV ((σ.1 109 1) - (σ.1 70 1))), (6, iV x76), (7, iV (x27 + 1))]) jF_111_159 rfl rfl rfl rfl (pc2 := 162) ?_
                  refine wp_go jF_111_162 ?_
                  exact ih34 (x76, (x27 + 1)) τ72 ⟨⟨by (try dsimp only); omega, by (try dsimp only); omega⟩, ⟨by (try dsimp only); omega, by (try dsimp only); omega⟩, g73, (FR.w (FR.up f32 f69 sb_Wra109_WW109) f74 rfl), (by (try dsimp only); omega)⟩ (by show Int.toNat (30 - (x27 + 1)) < Int.toNat (30 - x27); omega)
                · intro h86
                  refine wp_go jF_111_156 ?_
                  refine wp_il2 jF_111_165 rfl rfl (pc2 := 167) ?_
                  refine wp_is2 (lv2 := [(0, .ref 109), (1, .ref 20), (2, .ref 70), (3, iV pl), (4, iV z5), (5, iV ((σ.1 109 1) - (σ.1 70 1))), (6, iV x76), (7, iV x76)]) jF_111_167 rfl rfl rfl (pc2 := 169) ?_
                  refine wp_loop (α := Int) (fun a => [(0, .ref 109), (1, .ref 20), (2, .ref 70), (3, iV pl), (4, iV z5), (5, iV ((σ.1 109 1) - (σ.1 70 1))), (6, iV x76), (7, iV (a))]) (fun a τ => (1 ≤ a ∧ a ≤ 30) ∧ GI τ ∧ FR WW109 τ72 τ) (fun a τ => Int.toNat (30 - (a))) (x76) τ72 ?_ ?_
                  · skip
                    exact ⟨⟨by omega, by omega⟩, g73, FR.rf⟩
                  · rintro x87 τ89 ⟨h88, g90, f91⟩ ih92
                    show WP 111 169 [(0, .ref 109), (1, .ref 20), (2, .ref 70), (3, iV pl), (4, iV z5), (5, iV ((σ.1 109 1) - (σ.1 70 1))), (6, iV x76), (7, iV x87)] [] _ _ _ _
                    show WP 111 169 [(0, .ref 109), (1, .ref 20), (2, .ref 70), (3, iV pl), (4, iV z5), (5, iV ((σ.1 109 1) - (σ.1 70 1))), (6, iV x76), (7, iV x87)] [] _ _ _ _
                    refine wp_il2 jF_111_169 rfl rfl (pc2 := 171) ?_
                    refine wp_al1 jF_111_171 rfl rfl (pc2 := 172) ?_
                    refine wp_gi jF_111_172 kd70 (by decide) rfl ((FR.at f91 70 6 rfl).trans ((FRw.na f74 (by decide)).trans ((FR.at f69 70 6 rfl).trans ((FR.at f32 70 6 rfl).trans ((FRw.na f23 (by decide)).trans ((FR.at f16 70 6 rfl).trans (FRw.na f11 (by decide)))))))) rfl (pc2 := 175) ?_
                    refine wp_i_ge jF_111_175 (m_rgb h88 rfl) (m_rgb b1 rfl) rfl (pc2 := 178) ?_ ?_
                    · intro h93
                      refine wp_rv jF_111_200 ?_
                      exact ⟨rfl, g90, (FR.up (FR.w (FR.up (FR.up (FR.w (FR.up (FR.w FR.rf f11 rfl) f16 sb_WW109_WW109) f23 rfl) f32 sb_WW109_WW109) f69 sb_Wra109_WW109) f74 rfl) f91 sb_WW109_WW109)⟩
                    · intro h93
                      refine wp_al1 jF_111_178 rfl rfl (pc2 := 179) ?_
                      refine wp_dup jF_111_179 rfl rfl (pc2 := 180) ?_
                      refine wp_glA jF_111_180 kd109 (by decide) rfl rfl (pc2 := 183) ?_
                      intro y94
                      refine wp_al1 jF_111_183 rfl rfl (pc2 := 184) ?_
                      refine wp_gr (b := 74) jF_111_184 kd70 (by decide) (c := 7) rfl rfl rfl (pc2 := 187) ?_
                      refine wp_il2 jF_111_187 rfl rfl (pc2 := 189) ?_
                      refine wp_lald (n := 30) jF_111_189 kd74 (by decide) rfl rfl (by omega) (by omega) rfl (pc2 := 190) ?_
                      intro y95
                      refine wp_lng (pc2 := 191) jF_111_190 rfl rfl ?_
                      intro y96
                      refine wp_pl jF_111_191 kd109 (by decide) rfl rfl (pc2 := 194) g90 ?_
                      intro τ97 g98 f99
                      refine wp_inc (lv2 := [(0, .ref 109), (1, .ref 20), (2, .ref 70), (3, iV pl), (4, iV z5), (5, iV ((σ.1 109 1) - (σ.1 70 1))), (6, iV x76), (7, iV (x87 + 1))]) jF_111_194 rfl rfl rfl rfl (pc2 := 197) ?_
                      refine wp_go jF_111_197 ?_
                      exact ih92 ((x87 + 1)) τ97 ⟨⟨by omega, by omega⟩, g98, (FR.w f91 f99 rfl)⟩ (by show Int.toNat (30 - (x87 + 1)) < Int.toNat (30 - x87); omega)
              · intro h83
                refine wp_al1 jF_111_116 rfl rfl (pc2 := 117) ?_
                refine wp_gr (b := 73) jF_111_117 kd70 (by decide) (c := 6) rfl rfl rfl (pc2 := 120) ?_
                refine wp_il2 jF_111_120 rfl rfl (pc2 := 122) ?_
                have b100 := GI.b hg 73 x76.toNat kd73 (lo := 0) (hi := 60) rfl
                refine wp_iald (n := 31) (e := (σ.1 73 x76.toNat)) jF_111_122 kd73 (by decide) rfl rfl (by omega) (by omega) ((FRw.na f74 (by decide)).trans ((FR.at f69 73 x76.toNat rfl).trans ((FR.at f32 73 x76.toNat rfl).trans ((FRw.na f23 (by decide)).trans ((FR.at f16 73 x76.toNat rfl).trans (FRw.na f11 (by decide))))))) rfl (pc2 := 123) ?_
                refine wp_il2 jF_111_123 rfl rfl (pc2 := 125) ?_
                refine wp_add jF_111_125 rfl (pc2 := 126) ?_
                refine wp_al1 jF_111_126 rfl rfl (pc2 := 127) ?_
                have b101 := GI.b g68 109 8 kd109 (lo := 0) (hi := 61) rfl
                refine wp_gi jF_111_127 kd109 (by decide) rfl (FRw.nj f74 (by decide)) rfl (pc2 := 130) ?_
                refine wp_i_ge jF_111_130 ⟨by omega, by omega⟩ (m_rgb b101 rfl) rfl (pc2 := 133) ?_ ?_
                · intro h102
                  refine wp_al1 jF_111_139 rfl rfl (pc2 := 140) ?_
                  refine wp_gr (b := 73) jF_111_140 kd70 (by decide) (c := 6) rfl rfl rfl (pc2 := 143) ?_
                  refine wp_il2 jF_111_143 rfl rfl (pc2 := 145) ?_
                  refine wp_iald (n := 31) (e := (σ.1 73 x76.toNat)) jF_111_145 kd73 (by decide) rfl rfl (by omega) (by omega) ((FRw.na f74 (by decide)).trans ((FR.at f69 73 x76.toNat rfl).trans ((FR.at f32 73 x76.toNat rfl).trans ((FRw.na f23 (by decide)).trans ((FR.at f16 73 x76.toNat rfl).trans (FRw.na f11 (by decide))))))) rfl (pc2 := 146) ?_
                  refine wp_il2 jF_111_146 rfl rfl (pc2 := 148) ?_
                  refine wp_add jF_111_148 rfl (pc2 := 149) ?_
                  refine wp_al1 jF_111_149 rfl rfl (pc2 := 150) ?_
                  refine wp_gi jF_111_150 kd109 (by decide) rfl (FRw.nj f74 (by decide)) rfl (pc2 := 153) ?_
                  refine wp_i_ne jF_111_153 ⟨by omega, by omega⟩ (m_rgb b101 rfl) rfl (pc2 := 156) ?_ ?_
                  · intro h103
                    refine wp_inc (lv2 := [(0, .ref 109), (1, .ref 20), (2, .ref 70), (3, iV pl), (4, iV z5), (5, iV ((σ.1 109 1) - (σ.1 70 1))), (6, iV x76), (7, iV (x27 + 1))]) jF_111_159 rfl rfl rfl rfl (pc2 := 162) ?_
                    refine wp_go jF_111_162 ?_
                    exact ih34 (x76, (x27 + 1)) τ72 ⟨⟨by (try dsimp only); omega, by (try dsimp only); omega⟩, ⟨by (try dsimp only); omega, by (try dsimp only); omega⟩, g73, (FR.w (FR.up f32 f69 sb_Wra109_WW109) f74 rfl), (by (try dsimp only); omega)⟩ (by show Int.toNat (30 - (x27 + 1)) < Int.toNat (30 - x27); omega)
                  · intro h103
                    refine wp_go jF_111_156 ?_
                    refine wp_il2 jF_111_165 rfl rfl (pc2 := 167) ?_
                    refine wp_is2 (lv2 := [(0, .ref 109), (1, .ref 20), (2, .ref 70), (3, iV pl), (4, iV z5), (5, iV ((σ.1 109 1) - (σ.1 70 1))), (6, iV x76), (7, iV x76)]) jF_111_167 rfl rfl rfl (pc2 := 169) ?_
                    refine wp_loop (α := Int) (fun a => [(0, .ref 109), (1, .ref 20), (2, .ref 70), (3, iV pl), (4, iV z5), (5, iV ((σ.1 109 1) - (σ.1 70 1))), (6, iV x76), (7, iV (a))]) (fun a τ => (1 ≤ a ∧ a ≤ 30) ∧ GI τ ∧ FR WW109 τ72 τ) (fun a τ => Int.toNat (30 - (a))) (x76) τ72 ?_ ?_
                    · skip
                      exact ⟨⟨by omega, by omega⟩, g73, FR.rf⟩
                    · rintro x104 τ106 ⟨h105, g107, f108⟩ ih109
                      show WP 111 169 [(0, .ref 109), (1, .ref 20), (2, .ref 70), (3, iV pl), (4, iV z5), (5, iV ((σ.1 109 1) - (σ.1 70 1))), (6, iV x76), (7, iV x104)] [] _ _ _ _
                      show WP 111 169 [(0, .ref 109), (1, .ref 20), (2, .ref 70), (3, iV pl), (4, iV z5), (5, iV ((σ.1 109 1) - (σ.1 70 1))), (6, iV x76), (7, iV x104)] [] _ _ _ _
                      refine wp_il2 jF_111_169 rfl rfl (pc2 := 171) ?_
                      refine wp_al1 jF_111_171 rfl rfl (pc2 := 172) ?_
                      refine wp_gi jF_111_172 kd70 (by decide) rfl ((FR.at f108 70 6 rfl).trans ((FRw.na f74 (by decide)).trans ((FR.at f69 70 6 rfl).trans ((FR.at f32 70 6 rfl).trans ((FRw.na f23 (by decide)).trans ((FR.at f16 70 6 rfl).trans (FRw.na f11 (by decide)))))))) rfl (pc2 := 175) ?_
                      refine wp_i_ge jF_111_175 (m_rgb h105 rfl) (m_rgb b1 rfl) rfl (pc2 := 178) ?_ ?_
                      · intro h110
                        refine wp_rv jF_111_200 ?_
                        exact ⟨rfl, g107, (FR.up (FR.w (FR.up (FR.up (FR.w (FR.up (FR.w FR.rf f11 rfl) f16 sb_WW109_WW109) f23 rfl) f32 sb_WW109_WW109) f69 sb_Wra109_WW109) f74 rfl) f108 sb_WW109_WW109)⟩
                      · intro h110
                        refine wp_al1 jF_111_178 rfl rfl (pc2 := 179) ?_
                        refine wp_dup jF_111_179 rfl rfl (pc2 := 180) ?_
                        refine wp_glA jF_111_180 kd109 (by decide) rfl rfl (pc2 := 183) ?_
                        intro y111
                        refine wp_al1 jF_111_183 rfl rfl (pc2 := 184) ?_
                        refine wp_gr (b := 74) jF_111_184 kd70 (by decide) (c := 7) rfl rfl rfl (pc2 := 187) ?_
                        refine wp_il2 jF_111_187 rfl rfl (pc2 := 189) ?_
                        refine wp_lald (n := 30) jF_111_189 kd74 (by decide) rfl rfl (by omega) (by omega) rfl (pc2 := 190) ?_
                        intro y112
                        refine wp_lng (pc2 := 191) jF_111_190 rfl rfl ?_
                        intro y113
                        refine wp_pl jF_111_191 kd109 (by decide) rfl rfl (pc2 := 194) g107 ?_
                        intro τ114 g115 f116
                        refine wp_inc (lv2 := [(0, .ref 109), (1, .ref 20), (2, .ref 70), (3, iV pl), (4, iV z5), (5, iV ((σ.1 109 1) - (σ.1 70 1))), (6, iV x76), (7, iV (x104 + 1))]) jF_111_194 rfl rfl rfl rfl (pc2 := 197) ?_
                        refine wp_go jF_111_197 ?_
                        exact ih109 ((x104 + 1)) τ114 ⟨⟨by omega, by omega⟩, g115, (FR.w f108 f116 rfl)⟩ (by show Int.toNat (30 - (x104 + 1)) < Int.toNat (30 - x104); omega)
                · intro h102
                  refine wp_inc (lv2 := [(0, .ref 109), (1, .ref 20), (2, .ref 70), (3, iV pl), (4, iV z5), (5, iV ((σ.1 109 1) - (σ.1 70 1))), (6, iV (x76 + 1)), (7, iV x27)]) jF_111_133 rfl rfl rfl rfl (pc2 := 136) ?_
                  refine wp_go jF_111_136 ?_
                  exact ih82 ((x76 + 1)) τ72 ⟨⟨by omega, by omega⟩, rfl, (by omega)⟩ (by show Int.toNat (30 - (x76 + 1)) < Int.toNat (30 - x76); omega)
    · intro h19
      refine wp_al1 jF_111_33 rfl rfl (pc2 := 34) ?_
      refine wp_dup jF_111_34 rfl rfl (pc2 := 35) ?_
      refine wp_glA jF_111_35 kd109 (by decide) rfl rfl (pc2 := 38) ?_
      intro y117
      refine wp_al1 jF_111_38 rfl rfl (pc2 := 39) ?_
      refine wp_gr (b := 74) jF_111_39 kd70 (by decide) (c := 7) rfl rfl rfl (pc2 := 42) ?_
      refine wp_il2 jF_111_42 rfl rfl (pc2 := 44) ?_
      refine wp_lald (n := 30) jF_111_44 kd74 (by decide) rfl rfl (by omega) (by omega) rfl (pc2 := 45) ?_
      intro y118
      refine wp_lng (pc2 := 46) jF_111_45 rfl rfl ?_
      intro y119
      refine wp_pl jF_111_46 kd109 (by decide) rfl rfl (pc2 := 49) g15 ?_
      intro τ120 g121 f122
      refine wp_inc (lv2 := [(0, .ref 109), (1, .ref 20), (2, .ref 70), (3, iV pl), (4, iV z5), (5, iV ((σ.1 109 1) - (σ.1 70 1))), (6, iV (x12 + 1))]) jF_111_49 rfl rfl rfl rfl (pc2 := 52) ?_
      refine wp_go jF_111_52 ?_
      exact ih18 ((x12 + 1)) τ120 ⟨⟨by omega, by omega⟩, g121, (FR.w f16 f122 rfl), (by omega)⟩ (by show Int.toNat (30 - (x12 + 1)) < Int.toNat (30 - x12); omega)
set_option maxHeartbeats 4000000 in
set_option maxRecDepth 20000 in
/-- Row.follows -/
theorem m_105_r109_20_70 (σ : jM) (hg : GI σ) (num : Int) (hl_num : 0 ≤ num) (hu_num : num ≤ 2900)  (fr lo : Nat) (hfr : 3 ≤ fr) (hlo : 107 ≤ lo) : WP 105 0 (lv_args 0 [.ref 109, .ref 20, .ref 70, iV num]) [] fr lo σ (fun v τ => ∃ z : Int, v = some (iV z) ∧ (0 ≤ z ∧ z ≤ 1) ∧ GI τ ∧ FR WW109 σ τ) := by
  show WP 105 0 [(0, .ref 109), (1, .ref 20), (2, .ref 70), (3, iV num)] [] _ _ _ _
  refine wp_al1 jF_105_0 rfl rfl (pc2 := 1) ?_
  refine wp_al1 jF_105_1 rfl rfl (pc2 := 2) ?_
  refine wp_il1 jF_105_2 rfl rfl (pc2 := 3) ?_
  refine wp_cV (as := [.ref 20, iV num]) (rest := []) (a := 70) (mx := 9) (ci := 4) jF_105_3 kd70 (by decide) rfl rfl rfl rfl rfl (by omega) (by omega) rfl (pc2 := 6) ?_
  have b1 := GI.b hg 70 1 kd70 (lo := 0) (hi := 60) rfl
  refine wp_use (m_106_r70_20 σ hg num (by omega) (by omega)  _ _ (by omega) (by omega)) ?_
  rintro _ _ ⟨z5, rfl, h6, rfl, p2⟩
  show WP 105 6 [(0, .ref 109), (1, .ref 20), (2, .ref 70), (3, iV num)] [iV z5] _ _ _ _
  refine wp_z_ne jF_105_6 (m_rgb h6 rfl) rfl (pc2 := 9) ?_ ?_
  · intro h7
    replace p2 := p2 (by omega)
    refine wp_al1 jF_105_11 rfl rfl (pc2 := 12) ?_
    refine wp_al1 jF_105_12 rfl rfl (pc2 := 13) ?_
    refine wp_il1 jF_105_13 rfl rfl (pc2 := 14) ?_
    refine wp_cV (as := [.ref 70, iV num]) (rest := []) (a := 109) (mx := 8) (ci := 4) jF_105_14 kd109 (by decide) rfl rfl rfl rfl rfl (by omega) (by omega) rfl (pc2 := 17) ?_
    refine wp_use (m_110_r109_70 σ hg num (by omega) (by omega) (by omega) (by omega) (by omega) (by omega) (by omega) _ _ (by omega) (by omega)) ?_
    rintro _ τ8 ⟨rfl, g9, f10⟩
    show WP 105 17 [(0, .ref 109), (1, .ref 20), (2, .ref 70), (3, iV num)] [] _ _ _ _
    refine wp_al1 jF_105_17 rfl rfl (pc2 := 18) ?_
    refine wp_al1 jF_105_18 rfl rfl (pc2 := 19) ?_
    refine wp_al1 jF_105_19 rfl rfl (pc2 := 20) ?_
    refine wp_il1 jF_105_20 rfl rfl (pc2 := 21) ?_
    refine wp_bi jF_105_21 (by decide) rfl (pc2 := 23) ?_
    refine wp_div jF_105_23 ⟨by omega, by omega⟩ (by omega) (m_rgl rfl) (by omega) rfl (pc2 := 24) ?_
    refine wp_cV (as := [.ref 20, .ref 70, iV (num / 47)]) (rest := []) (a := 109) (mx := 8) (ci := 4) jF_105_24 kd109 (by decide) rfl rfl rfl rfl rfl (by omega) (by omega) rfl (pc2 := 27) ?_
    refine wp_use (m_111_r109_20_70 τ8 g9 (num / 47) (by omega) (by omega)  _ _ (by omega) (by omega)) ?_
    rintro _ τ11 ⟨rfl, g12, f13⟩
    show WP 105 27 [(0, .ref 109), (1, .ref 20), (2, .ref 70), (3, iV num)] [] _ _ _ _
    refine wp_ic jF_105_27 rfl (pc2 := 28) ?_
    refine wp_ri jF_105_28 rfl ?_
    exact ⟨1, rfl, ⟨by omega, by omega⟩, g12, (FR.up f10 f13 sb_WW109_WW109)⟩
  · intro h7
    clear p2
    refine wp_ic jF_105_9 rfl (pc2 := 10) ?_
    refine wp_ri jF_105_10 rfl ?_
    exact ⟨0, rfl, ⟨by omega, by omega⟩, hg, FR.rf⟩
set_option maxHeartbeats 4000000 in
set_option maxRecDepth 20000 in
/-- Row.weighBeside -/
theorem m_111_r109_45_70 (σ : jM) (hg : GI σ) (pl : Int) (hl_pl : 0 ≤ pl) (hu_pl : pl ≤ 61)  (fr lo : Nat) (hfr : 1 ≤ fr) (hlo : 31 ≤ lo) : WP 111 0 (lv_args 0 [.ref 109, .ref 45, .ref 70, iV pl]) [] fr lo σ (fun v τ => v = none ∧ GI τ ∧ FR WW109 σ τ) := by
  show WP 111 0 [(0, .ref 109), (1, .ref 45), (2, .ref 70), (3, iV pl)] [] _ _ _ _
  refine wp_al1 jF_111_0 rfl rfl (pc2 := 1) ?_
  refine wp_il1 jF_111_1 rfl rfl (pc2 := 2) ?_
  refine wp_cV (as := [iV pl]) (rest := []) (a := 70) (mx := 3) (ci := 4) jF_111_2 kd70 (by decide) rfl rfl rfl rfl rfl (by omega) (by omega) rfl (pc2 := 5) ?_
  have b1 := GI.b hg 70 6 kd70 (lo := 0) (hi := 30) rfl
  refine wp_use (m_112_r70 σ hg pl (by omega) (by omega)  _ _ (by omega) (by omega)) ?_
  rintro _ _ ⟨z5, rfl, h6, rfl, p2⟩
  show WP 111 5 [(0, .ref 109), (1, .ref 45), (2, .ref 70), (3, iV pl)] [iV z5] _ _ _ _
  refine wp_is2 (lv2 := [(0, .ref 109), (1, .ref 45), (2, .ref 70), (3, iV pl), (4, iV z5)]) jF_111_5 rfl rfl rfl (pc2 := 7) ?_
  refine wp_al1 jF_111_7 rfl rfl (pc2 := 8) ?_
  have b7 := GI.b hg 109 1 kd109 (lo := 0) (hi := 60) rfl
  refine wp_gi jF_111_8 kd109 (by decide) rfl rfl rfl (pc2 := 11) ?_
  refine wp_al1 jF_111_11 rfl rfl (pc2 := 12) ?_
  have b8 := GI.b hg 70 1 kd70 (lo := 0) (hi := 60) rfl
  refine wp_gi jF_111_12 kd70 (by decide) rfl rfl rfl (pc2 := 15) ?_
  refine wp_sub jF_111_15 rfl (pc2 := 16) ?_
  refine wp_is2 (lv2 := [(0, .ref 109), (1, .ref 45), (2, .ref 70), (3, iV pl), (4, iV z5), (5, iV ((σ.1 109 1) - (σ.1 70 1)))]) jF_111_16 rfl rfl rfl (pc2 := 18) ?_
  refine wp_al1 jF_111_18 rfl rfl (pc2 := 19) ?_
  refine wp_lc jF_111_19 rfl (pc2 := 20) ?_
  refine wp_pl jF_111_20 kd109 (by decide) rfl rfl (pc2 := 23) hg ?_
  intro τ9 g10 f11
  refine wp_ic jF_111_23 rfl (pc2 := 24) ?_
  refine wp_is2 (lv2 := [(0, .ref 109), (1, .ref 45), (2, .ref 70), (3, iV pl), (4, iV z5), (5, iV ((σ.1 109 1) - (σ.1 70 1))), (6, iV 0)]) jF_111_24 rfl rfl rfl (pc2 := 26) ?_
  refine wp_loop (α := Int) (fun a => [(0, .ref 109), (1, .ref 45), (2, .ref 70), (3, iV pl), (4, iV z5), (5, iV ((σ.1 109 1) - (σ.1 70 1))), (6, iV (a))]) (fun a τ => (0 ≤ a ∧ a ≤ 30) ∧ GI τ ∧ FR WW109 τ9 τ ∧ ((a) ≤ z5)) (fun a τ => Int.toNat (30 - (a))) (0) τ9 ?_ ?_
  · skip
    exact ⟨⟨by omega, by omega⟩, g10, FR.rf, (by omega)⟩
  · rintro x12 τ14 ⟨h13, g15, f16, p17⟩ ih18
    show WP 111 26 [(0, .ref 109), (1, .ref 45), (2, .ref 70), (3, iV pl), (4, iV z5), (5, iV ((σ.1 109 1) - (σ.1 70 1))), (6, iV x12)] [] _ _ _ _
    show WP 111 26 [(0, .ref 109), (1, .ref 45), (2, .ref 70), (3, iV pl), (4, iV z5), (5, iV ((σ.1 109 1) - (σ.1 70 1))), (6, iV x12)] [] _ _ _ _
    refine wp_il2 jF_111_26 rfl rfl (pc2 := 28) ?_
    refine wp_il2 jF_111_28 rfl rfl (pc2 := 30) ?_
    refine wp_i_ge jF_111_30 (m_rgb h13 rfl) (m_rgb h6 rfl) rfl (pc2 := 33) ?_ ?_
    · intro h19
      refine wp_al1 jF_111_55 rfl rfl (pc2 := 56) ?_
      refine wp_al1 jF_111_56 rfl rfl (pc2 := 57) ?_
      refine wp_gr (b := 73) jF_111_57 kd70 (by decide) (c := 6) rfl rfl rfl (pc2 := 60) ?_
      refine wp_il2 jF_111_60 rfl rfl (pc2 := 62) ?_
      have b20 := GI.b hg 73 z5.toNat kd73 (lo := 0) (hi := 60) rfl
      refine wp_iald (n := 31) (e := (σ.1 73 z5.toNat)) jF_111_62 kd73 (by decide) rfl rfl (by omega) (by omega) ((FR.at f16 73 z5.toNat rfl).trans (FRw.na f11 (by decide))) rfl (pc2 := 63) ?_
      refine wp_pi jF_111_63 kd109 (by decide) rfl rfl rfl (pc2 := 66) g15 (lo := 0) (hi := 61) rfl (by omega) (by omega) ?_
      intro τ21 g22 f23 e24
      refine wp_il2 jF_111_66 rfl rfl (pc2 := 68) ?_
      refine wp_ic jF_111_68 rfl (pc2 := 69) ?_
      refine wp_add jF_111_69 rfl (pc2 := 70) ?_
      refine wp_is2 (lv2 := [(0, .ref 109), (1, .ref 45), (2, .ref 70), (3, iV pl), (4, iV z5), (5, iV ((σ.1 109 1) - (σ.1 70 1))), (6, iV (z5 + 1))]) jF_111_70 rfl rfl rfl (pc2 := 72) ?_
      refine wp_ic jF_111_72 rfl (pc2 := 73) ?_
      refine wp_is2 (lv2 := [(0, .ref 109), (1, .ref 45), (2, .ref 70), (3, iV pl), (4, iV z5), (5, iV ((σ.1 109 1) - (σ.1 70 1))), (6, iV (z5 + 1)), (7, iV 0)]) jF_111_73 rfl rfl rfl (pc2 := 75) ?_
      refine wp_loop (α := Int × Int) (fun a => [(0, .ref 109), (1, .ref 45), (2, .ref 70), (3, iV pl), (4, iV z5), (5, iV ((σ.1 109 1) - (σ.1 70 1))), (6, iV (a.1)), (7, iV (a.2))]) (fun a τ => (1 ≤ a.1 ∧ a.1 ≤ 30) ∧ (0 ≤ a.2 ∧ a.2 ≤ 30) ∧ GI τ ∧ FR WW109 τ21 τ ∧ ((a.1) = 1 ∨ (a.1) ≤ (τ.1 70 6))) (fun a τ => Int.toNat (30 - (a.2))) ((z5 + 1), 0) τ21 ?_ ?_
      · skip
        have q25 : (τ21.1 70 6) = (σ.1 70 6) := ((FRw.na f23 (by decide)).trans ((FR.at f16 70 6 rfl).trans (FRw.na f11 (by decide))))
        exact ⟨⟨by (try dsimp only); omega, by (try dsimp only); omega⟩, ⟨by (try dsimp only); omega, by (try dsimp only); omega⟩, g22, FR.rf, (by (try dsimp only); omega)⟩
      · rintro ⟨x26, x27⟩ τ30 ⟨h28, h29, g31, f32, p33⟩ ih34
        try dsimp only at h28 h29 g31 f32 p33
        have q35 : (τ30.1 70 6) = (σ.1 70 6) := ((FR.at f32 70 6 rfl).trans ((FRw.na f23 (by decide)).trans ((FR.at f16 70 6 rfl).trans (FRw.na f11 (by decide)))))
        show WP 111 75 [(0, .ref 109), (1, .ref 45), (2, .ref 70), (3, iV pl), (4, iV z5), (5, iV ((σ.1 109 1) - (σ.1 70 1))), (6, iV x26), (7, iV x27)] [] _ _ _ _
        show WP 111 75 [(0, .ref 109), (1, .ref 45), (2, .ref 70), (3, iV pl), (4, iV z5), (5, iV ((σ.1 109 1) - (σ.1 70 1))), (6, iV x26), (7, iV x27)] [] _ _ _ _
        refine wp_il2 jF_111_75 rfl rfl (pc2 := 77) ?_
        refine wp_bi jF_111_77 (by decide) rfl (pc2 := 79) ?_
        refine wp_i_ge jF_111_79 (m_rgb h29 rfl) (m_rgl rfl) rfl (pc2 := 82) ?_ ?_
        · intro h36
          refine wp_il2 jF_111_165 rfl rfl (pc2 := 167) ?_
          refine wp_is2 (lv2 := [(0, .ref 109), (1, .ref 45), (2, .ref 70), (3, iV pl), (4, iV z5), (5, iV ((σ.1 109 1) - (σ.1 70 1))), (6, iV x26), (7, iV x26)]) jF_111_167 rfl rfl rfl (pc2 := 169) ?_
          refine wp_loop (α := Int) (fun a => [(0, .ref 109), (1, .ref 45), (2, .ref 70), (3, iV pl), (4, iV z5), (5, iV ((σ.1 109 1) - (σ.1 70 1))), (6, iV x26), (7, iV (a))]) (fun a τ => (1 ≤ a ∧ a ≤ 30) ∧ GI τ ∧ FR WW109 τ30 τ) (fun a τ => Int.toNat (30 - (a))) (x26) τ30 ?_ ?_
          · skip
            exact ⟨⟨by omega, by omega⟩, g31, FR.rf⟩
          · rintro x37 τ39 ⟨h38, g40, f41⟩ ih42
            show WP 111 169 [(0, .ref 109), (1, .ref 45), (2, .ref 70), (3, iV pl), (4, iV z5), (5, iV ((σ.1 109 1) - (σ.1 70 1))), (6, iV x26), (7, iV x37)] [] _ _ _ _
            show WP 111 169 [(0, .ref 109), (1, .ref 45), (2, .ref 70), (3, iV pl), (4, iV z5), (5, iV ((σ.1 109 1) - (σ.1 70 1))), (6, iV x26), (7, iV x37)] [] _ _ _ _
            refine wp_il2 jF_111_169 rfl rfl (pc2 := 171) ?_
            refine wp_al1 jF_111_171 rfl rfl (pc2 := 172) ?_
            refine wp_gi jF_111_172 kd70 (by decide) rfl ((FR.at f41 70 6 rfl).trans ((FR.at f32 70 6 rfl).trans ((FRw.na f23 (by decide)).trans ((FR.at f16 70 6 rfl).trans (FRw.na f11 (by decide)))))) rfl (pc2 := 175) ?_
            refine wp_i_ge jF_111_175 (m_rgb h38 rfl) (m_rgb b1 rfl) rfl (pc2 := 178) ?_ ?_
            · intro h43
              refine wp_rv jF_111_200 ?_
              exact ⟨rfl, g40, (FR.up (FR.up (FR.w (FR.up (FR.w FR.rf f11 rfl) f16 sb_WW109_WW109) f23 rfl) f32 sb_WW109_WW109) f41 sb_WW109_WW109)⟩
            · intro h43
              refine wp_al1 jF_111_178 rfl rfl (pc2 := 179) ?_
              refine wp_dup jF_111_179 rfl rfl (pc2 := 180) ?_
              refine wp_glA jF_111_180 kd109 (by decide) rfl rfl (pc2 := 183) ?_
              intro y44
              refine wp_al1 jF_111_183 rfl rfl (pc2 := 184) ?_
              refine wp_gr (b := 74) jF_111_184 kd70 (by decide) (c := 7) rfl rfl rfl (pc2 := 187) ?_
              refine wp_il2 jF_111_187 rfl rfl (pc2 := 189) ?_
              refine wp_lald (n := 30) jF_111_189 kd74 (by decide) rfl rfl (by omega) (by omega) rfl (pc2 := 190) ?_
              intro y45
              refine wp_lng (pc2 := 191) jF_111_190 rfl rfl ?_
              intro y46
              refine wp_pl jF_111_191 kd109 (by decide) rfl rfl (pc2 := 194) g40 ?_
              intro τ47 g48 f49
              refine wp_inc (lv2 := [(0, .ref 109), (1, .ref 45), (2, .ref 70), (3, iV pl), (4, iV z5), (5, iV ((σ.1 109 1) - (σ.1 70 1))), (6, iV x26), (7, iV (x37 + 1))]) jF_111_194 rfl rfl rfl rfl (pc2 := 197) ?_
              refine wp_go jF_111_197 ?_
              exact ih42 ((x37 + 1)) τ47 ⟨⟨by omega, by omega⟩, g48, (FR.w f41 f49 rfl)⟩ (by show Int.toNat (30 - (x37 + 1)) < Int.toNat (30 - x37); omega)
        · intro h36
          refine wp_al1 jF_111_82 rfl rfl (pc2 := 83) ?_
          have b50 := GI.b g31 109 8 kd109 (lo := 0) (hi := 61) rfl
          refine wp_gi jF_111_83 kd109 (by decide) rfl rfl rfl (pc2 := 86) ?_
          refine wp_al1 jF_111_86 rfl rfl (pc2 := 87) ?_
          have b51 := GI.b g31 109 1 kd109 (lo := 0) (hi := 60) rfl
          refine wp_gi jF_111_87 kd109 (by decide) rfl rfl rfl (pc2 := 90) ?_
          refine wp_i_ge jF_111_90 (m_rgb b50 rfl) (m_rgb b51 rfl) rfl (pc2 := 93) ?_ ?_
          · intro h52
            refine wp_il2 jF_111_165 rfl rfl (pc2 := 167) ?_
            refine wp_is2 (lv2 := [(0, .ref 109), (1, .ref 45), (2, .ref 70), (3, iV pl), (4, iV z5), (5, iV ((σ.1 109 1) - (σ.1 70 1))), (6, iV x26), (7, iV x26)]) jF_111_167 rfl rfl rfl (pc2 := 169) ?_
            refine wp_loop (α := Int) (fun a => [(0, .ref 109), (1, .ref 45), (2, .ref 70), (3, iV pl), (4, iV z5), (5, iV ((σ.1 109 1) - (σ.1 70 1))), (6, iV x26), (7, iV (a))]) (fun a τ => (1 ≤ a ∧ a ≤ 30) ∧ GI τ ∧ FR WW109 τ30 τ) (fun a τ => Int.toNat (30 - (a))) (x26) τ30 ?_ ?_
            · skip
              exact ⟨⟨by omega, by omega⟩, g31, FR.rf⟩
            · rintro x53 τ55 ⟨h54, g56, f57⟩ ih58
              show WP 111 169 [(0, .ref 109), (1, .ref 45), (2, .ref 70), (3, iV pl), (4, iV z5), (5, iV ((σ.1 109 1) - (σ.1 70 1))), (6, iV x26), (7, iV x53)] [] _ _ _ _
              show WP 111 169 [(0, .ref 109), (1, .ref 45), (2, .ref 70), (3, iV pl), (4, iV z5), (5, iV ((σ.1 109 1) - (σ.1 70 1))), (6, iV x26), (7, iV x53)] [] _ _ _ _
              refine wp_il2 jF_111_169 rfl rfl (pc2 := 171) ?_
              refine wp_al1 jF_111_171 rfl rfl (pc2 := 172) ?_
              refine wp_gi jF_111_172 kd70 (by decide) rfl ((FR.at f57 70 6 rfl).trans ((FR.at f32 70 6 rfl).trans ((FRw.na f23 (by decide)).trans ((FR.at f16 70 6 rfl).trans (FRw.na f11 (by decide)))))) rfl (pc2 := 175) ?_
              refine wp_i_ge jF_111_175 (m_rgb h54 rfl) (m_rgb b1 rfl) rfl (pc2 := 178) ?_ ?_
              · intro h59
                refine wp_rv jF_111_200 ?_
                exact ⟨rfl, g56, (FR.up (FR.up (FR.w (FR.up (FR.w FR.rf f11 rfl) f16 sb_WW109_WW109) f23 rfl) f32 sb_WW109_WW109) f57 sb_WW109_WW109)⟩
              · intro h59
                refine wp_al1 jF_111_178 rfl rfl (pc2 := 179) ?_
                refine wp_dup jF_111_179 rfl rfl (pc2 := 180) ?_
                refine wp_glA jF_111_180 kd109 (by decide) rfl rfl (pc2 := 183) ?_
                intro y60
                refine wp_al1 jF_111_183 rfl rfl (pc2 := 184) ?_
                refine wp_gr (b := 74) jF_111_184 kd70 (by decide) (c := 7) rfl rfl rfl (pc2 := 187) ?_
                refine wp_il2 jF_111_187 rfl rfl (pc2 := 189) ?_
                refine wp_lald (n := 30) jF_111_189 kd74 (by decide) rfl rfl (by omega) (by omega) rfl (pc2 := 190) ?_
                intro y61
                refine wp_lng (pc2 := 191) jF_111_190 rfl rfl ?_
                intro y62
                refine wp_pl jF_111_191 kd109 (by decide) rfl rfl (pc2 := 194) g56 ?_
                intro τ63 g64 f65
                refine wp_inc (lv2 := [(0, .ref 109), (1, .ref 45), (2, .ref 70), (3, iV pl), (4, iV z5), (5, iV ((σ.1 109 1) - (σ.1 70 1))), (6, iV x26), (7, iV (x53 + 1))]) jF_111_194 rfl rfl rfl rfl (pc2 := 197) ?_
                refine wp_go jF_111_197 ?_
                exact ih58 ((x53 + 1)) τ63 ⟨⟨by omega, by omega⟩, g64, (FR.w f57 f65 rfl)⟩ (by show Int.toNat (30 - (x53 + 1)) < Int.toNat (30 - x53); omega)
          · intro h52
            refine wp_al1 jF_111_93 rfl rfl (pc2 := 94) ?_
            refine wp_dup jF_111_94 rfl rfl (pc2 := 95) ?_
            refine wp_glA jF_111_95 kd109 (by decide) rfl rfl (pc2 := 98) ?_
            intro y66
            refine wp_al1 jF_111_98 rfl rfl (pc2 := 99) ?_
            refine wp_al1 jF_111_99 rfl rfl (pc2 := 100) ?_
            refine wp_cV (as := [.ref 45]) (rest := [.long y66, .ref 109]) (a := 109) (mx := 12) (ci := 4) jF_111_100 kd109 (by decide) rfl rfl rfl rfl rfl (by omega) (by omega) rfl (pc2 := 103) ?_
            refine wp_use (m_83_r109_45 τ30 g31  (by omega) _ _ (by omega) (by omega)) ?_
            rintro _ τ67 ⟨y70, rfl, g68, f69⟩
            show WP 111 103 [(0, .ref 109), (1, .ref 45), (2, .ref 70), (3, iV pl), (4, iV z5), (5, iV ((σ.1 109 1) - (σ.1 70 1))), (6, iV x26), (7, iV x27)] [.long y70, .long y66, .ref 109] _ _ _ _
            refine wp_lng (pc2 := 104) jF_111_103 rfl rfl ?_
            intro y71
            refine wp_pl jF_111_104 kd109 (by decide) rfl rfl (pc2 := 107) g68 ?_
            intro τ72 g73 f74
            have q75 : (τ72.1 70 6) = (σ.1 70 6) := ((FRw.na f74 (by decide)).trans ((FR.at f69 70 6 rfl).trans ((FR.at f32 70 6 rfl).trans ((FRw.na f23 (by decide)).trans ((FR.at f16 70 6 rfl).trans (FRw.na f11 (by decide)))))))
            refine wp_loop (α := Int) (fun a => [(0, .ref 109), (1, .ref 45), (2, .ref 70), (3, iV pl), (4, iV z5), (5, iV ((σ.1 109 1) - (σ.1 70 1))), (6, iV (a)), (7, iV x27)]) (fun a τ => (1 ≤ a ∧ a ≤ 30) ∧ τ72 = τ ∧ ((a) = 1 ∨ (a) ≤ (τ72.1 70 6))) (fun a τ => Int.toNat (30 - (a))) (x26) τ72 ?_ ?_
            · skip
              exact ⟨⟨by omega, by omega⟩, rfl, (by omega)⟩
            · rintro x76 _ ⟨h77, rfl, p81⟩ ih82
              show WP 111 107 [(0, .ref 109), (1, .ref 45), (2, .ref 70), (3, iV pl), (4, iV z5), (5, iV ((σ.1 109 1) - (σ.1 70 1))), (6, iV x76), (7, iV x27)] [] _ _ _ _
              show WP 111 107 [(0, .ref 109), (1, .ref 45), (2, .ref 70), (3, iV pl), (4, iV z5), (5, iV ((σ.1 109 1) - (σ.1 70 1))), (6, iV x76), (7, iV x27)] [] _ _ _ _
              refine wp_il2 jF_111_107 rfl rfl (pc2 := 109) ?_
              refine wp_al1 jF_111_109 rfl rfl (pc2 := 110) ?_
              refine wp_gi jF_111_110 kd70 (by decide) rfl ((FRw.na f74 (by decide)).trans ((FR.at f69 70 6 rfl).trans ((FR.at f32 70 6 rfl).trans ((FRw.na f23 (by decide)).trans ((FR.at f16 70 6 rfl).trans (FRw.na f11 (by decide))))))) rfl (pc2 := 113) ?_
              refine wp_i_ge jF_111_113 (m_rgb h77 rfl) (m_rgb b1 rfl) rfl (pc2 := 116) ?_ ?_
              · intro h83
                refine wp_al1 jF_111_139 rfl rfl (pc2 := 140) ?_
                refine wp_gr (b := 73) jF_111_140 kd70 (by decide) (c := 6) rfl rfl rfl (pc2 := 143) ?_
                refine wp_il2 jF_111_143 rfl rfl (pc2 := 145) ?_
                have b84 := GI.b hg 73 x76.toNat kd73 (lo := 0) (hi := 60) rfl
                refine wp_iald (n := 31) (e := (σ.1 73 x76.toNat)) jF_111_145 kd73 (by decide) rfl rfl (by omega) (by omega) ((FRw.na f74 (by decide)).trans ((FR.at f69 73 x76.toNat rfl).trans ((FR.at f32 73 x76.toNat rfl).trans ((FRw.na f23 (by decide)).trans ((FR.at f16 73 x76.toNat rfl).trans (FRw.na f11 (by decide))))))) rfl (pc2 := 146) ?_
                refine wp_il2 jF_111_146 rfl rfl (pc2 := 148) ?_
                refine wp_add jF_111_148 rfl (pc2 := 149) ?_
                refine wp_al1 jF_111_149 rfl rfl (pc2 := 150) ?_
                have b85 := GI.b g68 109 8 kd109 (lo := 0) (hi := 61) rfl
                refine wp_gi jF_111_150 kd109 (by decide) rfl (FRw.nj f74 (by decide)) rfl (pc2 := 153) ?_
                refine wp_i_ne jF_111_153 ⟨by omega, by omega⟩ (m_rgb b85 rfl) rfl (pc2 := 156) ?_ ?_
                · intro h86
                  refine wp_inc (lv2 := [(0, .ref 109), (1, .ref 45), (2, .ref 70), (3, iV pl), (4, iV z5), (5, iV ((σ.1 109 1) - (σ.1 70 1))), (6, iV x76), (7, iV (x27 + 1))]) jF_111_159 rfl rfl rfl rfl (pc2 := 162) ?_
                  refine wp_go jF_111_162 ?_
                  exact ih34 (x76, (x27 + 1)) τ72 ⟨⟨by (try dsimp only); omega, by (try dsimp only); omega⟩, ⟨by (try dsimp only); omega, by (try dsimp only); omega⟩, g73, (FR.w (FR.up f32 f69 sb_Wra109_WW109) f74 rfl), (by (try dsimp only); omega)⟩ (by show Int.toNat (30 - (x27 + 1)) < Int.toNat (30 - x27); omega)
                · intro h86
                  refine wp_go jF_111_156 ?_
                  refine wp_il2 jF_111_165 rfl rfl (pc2 := 167) ?_
                  refine wp_is2 (lv2 := [(0, .ref 109), (1, .ref 45), (2, .ref 70), (3, iV pl), (4, iV z5), (5, iV ((σ.1 109 1) - (σ.1 70 1))), (6, iV x76), (7, iV x76)]) jF_111_167 rfl rfl rfl (pc2 := 169) ?_
                  refine wp_loop (α := Int) (fun a => [(0, .ref 109), (1, .ref 45), (2, .ref 70), (3, iV pl), (4, iV z5), (5, iV ((σ.1 109 1) - (σ.1 70 1))), (6, iV x76), (7, iV (a))]) (fun a τ => (1 ≤ a ∧ a ≤ 30) ∧ GI τ ∧ FR WW109 τ72 τ) (fun a τ => Int.toNat (30 - (a))) (x76) τ72 ?_ ?_
                  · skip
                    exact ⟨⟨by omega, by omega⟩, g73, FR.rf⟩
                  · rintro x87 τ89 ⟨h88, g90, f91⟩ ih92
                    show WP 111 169 [(0, .ref 109), (1, .ref 45), (2, .ref 70), (3, iV pl), (4, iV z5), (5, iV ((σ.1 109 1) - (σ.1 70 1))), (6, iV x76), (7, iV x87)] [] _ _ _ _
                    show WP 111 169 [(0, .ref 109), (1, .ref 45), (2, .ref 70), (3, iV pl), (4, iV z5), (5, iV ((σ.1 109 1) - (σ.1 70 1))), (6, iV x76), (7, iV x87)] [] _ _ _ _
                    refine wp_il2 jF_111_169 rfl rfl (pc2 := 171) ?_
                    refine wp_al1 jF_111_171 rfl rfl (pc2 := 172) ?_
                    refine wp_gi jF_111_172 kd70 (by decide) rfl ((FR.at f91 70 6 rfl).trans ((FRw.na f74 (by decide)).trans ((FR.at f69 70 6 rfl).trans ((FR.at f32 70 6 rfl).trans ((FRw.na f23 (by decide)).trans ((FR.at f16 70 6 rfl).trans (FRw.na f11 (by decide)))))))) rfl (pc2 := 175) ?_
                    refine wp_i_ge jF_111_175 (m_rgb h88 rfl) (m_rgb b1 rfl) rfl (pc2 := 178) ?_ ?_
                    · intro h93
                      refine wp_rv jF_111_200 ?_
                      exact ⟨rfl, g90, (FR.up (FR.w (FR.up (FR.up (FR.w (FR.up (FR.w FR.rf f11 rfl) f16 sb_WW109_WW109) f23 rfl) f32 sb_WW109_WW109) f69 sb_Wra109_WW109) f74 rfl) f91 sb_WW109_WW109)⟩
                    · intro h93
                      refine wp_al1 jF_111_178 rfl rfl (pc2 := 179) ?_
                      refine wp_dup jF_111_179 rfl rfl (pc2 := 180) ?_
                      refine wp_glA jF_111_180 kd109 (by decide) rfl rfl (pc2 := 183) ?_
                      intro y94
                      refine wp_al1 jF_111_183 rfl rfl (pc2 := 184) ?_
                      refine wp_gr (b := 74) jF_111_184 kd70 (by decide) (c := 7) rfl rfl rfl (pc2 := 187) ?_
                      refine wp_il2 jF_111_187 rfl rfl (pc2 := 189) ?_
                      refine wp_lald (n := 30) jF_111_189 kd74 (by decide) rfl rfl (by omega) (by omega) rfl (pc2 := 190) ?_
                      intro y95
                      refine wp_lng (pc2 := 191) jF_111_190 rfl rfl ?_
                      intro y96
                      refine wp_pl jF_111_191 kd109 (by decide) rfl rfl (pc2 := 194) g90 ?_
                      intro τ97 g98 f99
                      refine wp_inc (lv2 := [(0, .ref 109), (1, .ref 45), (2, .ref 70), (3, iV pl), (4, iV z5), (5, iV ((σ.1 109 1) - (σ.1 70 1))), (6, iV x76), (7, iV (x87 + 1))]) jF_111_194 rfl rfl rfl rfl (pc2 := 197) ?_
                      refine wp_go jF_111_197 ?_
                      exact ih92 ((x87 + 1)) τ97 ⟨⟨by omega, by omega⟩, g98, (FR.w f91 f99 rfl)⟩ (by show Int.toNat (30 - (x87 + 1)) < Int.toNat (30 - x87); omega)
              · intro h83
                refine wp_al1 jF_111_116 rfl rfl (pc2 := 117) ?_
                refine wp_gr (b := 73) jF_111_117 kd70 (by decide) (c := 6) rfl rfl rfl (pc2 := 120) ?_
                refine wp_il2 jF_111_120 rfl rfl (pc2 := 122) ?_
                have b100 := GI.b hg 73 x76.toNat kd73 (lo := 0) (hi := 60) rfl
                refine wp_iald (n := 31) (e := (σ.1 73 x76.toNat)) jF_111_122 kd73 (by decide) rfl rfl (by omega) (by omega) ((FRw.na f74 (by decide)).trans ((FR.at f69 73 x76.toNat rfl).trans ((FR.at f32 73 x76.toNat rfl).trans ((FRw.na f23 (by decide)).trans ((FR.at f16 73 x76.toNat rfl).trans (FRw.na f11 (by decide))))))) rfl (pc2 := 123) ?_
                refine wp_il2 jF_111_123 rfl rfl (pc2 := 125) ?_
                refine wp_add jF_111_125 rfl (pc2 := 126) ?_
                refine wp_al1 jF_111_126 rfl rfl (pc2 := 127) ?_
                have b101 := GI.b g68 109 8 kd109 (lo := 0) (hi := 61) rfl
                refine wp_gi jF_111_127 kd109 (by decide) rfl (FRw.nj f74 (by decide)) rfl (pc2 := 130) ?_
                refine wp_i_ge jF_111_130 ⟨by omega, by omega⟩ (m_rgb b101 rfl) rfl (pc2 := 133) ?_ ?_
                · intro h102
                  refine wp_al1 jF_111_139 rfl rfl (pc2 := 140) ?_
                  refine wp_gr (b := 73) jF_111_140 kd70 (by decide) (c := 6) rfl rfl rfl (pc2 := 143) ?_
                  refine wp_il2 jF_111_143 rfl rfl (pc2 := 145) ?_
                  refine wp_iald (n := 31) (e := (σ.1 73 x76.toNat)) jF_111_145 kd73 (by decide) rfl rfl (by omega) (by omega) ((FRw.na f74 (by decide)).trans ((FR.at f69 73 x76.toNat rfl).trans ((FR.at f32 73 x76.toNat rfl).trans ((FRw.na f23 (by decide)).trans ((FR.at f16 73 x76.toNat rfl).trans (FRw.na f11 (by decide))))))) rfl (pc2 := 146) ?_
                  refine wp_il2 jF_111_146 rfl rfl (pc2 := 148) ?_
                  refine wp_add jF_111_148 rfl (pc2 := 149) ?_
                  refine wp_al1 jF_111_149 rfl rfl (pc2 := 150) ?_
                  refine wp_gi jF_111_150 kd109 (by decide) rfl (FRw.nj f74 (by decide)) rfl (pc2 := 153) ?_
                  refine wp_i_ne jF_111_153 ⟨by omega, by omega⟩ (m_rgb b101 rfl) rfl (pc2 := 156) ?_ ?_
                  · intro h103
                    refine wp_inc (lv2 := [(0, .ref 109), (1, .ref 45), (2, .ref 70), (3, iV pl), (4, iV z5), (5, iV ((σ.1 109 1) - (σ.1 70 1))), (6, iV x76), (7, iV (x27 + 1))]) jF_111_159 rfl rfl rfl rfl (pc2 := 162) ?_
                    refine wp_go jF_111_162 ?_
                    exact ih34 (x76, (x27 + 1)) τ72 ⟨⟨by (try dsimp only); omega, by (try dsimp only); omega⟩, ⟨by (try dsimp only); omega, by (try dsimp only); omega⟩, g73, (FR.w (FR.up f32 f69 sb_Wra109_WW109) f74 rfl), (by (try dsimp only); omega)⟩ (by show Int.toNat (30 - (x27 + 1)) < Int.toNat (30 - x27); omega)
                  · intro h103
                    refine wp_go jF_111_156 ?_
                    refine wp_il2 jF_111_165 rfl rfl (pc2 := 167) ?_
                    refine wp_is2 (lv2 := [(0, .ref 109), (1, .ref 45), (2, .ref 70), (3, iV pl), (4, iV z5), (5, iV ((σ.1 109 1) - (σ.1 70 1))), (6, iV x76), (7, iV x76)]) jF_111_167 rfl rfl rfl (pc2 := 169) ?_
                    refine wp_loop (α := Int) (fun a => [(0, .ref 109), (1, .ref 45), (2, .ref 70), (3, iV pl), (4, iV z5), (5, iV ((σ.1 109 1) - (σ.1 70 1))), (6, iV x76), (7, iV (a))]) (fun a τ => (1 ≤ a ∧ a ≤ 30) ∧ GI τ ∧ FR WW109 τ72 τ) (fun a τ => Int.toNat (30 - (a))) (x76) τ72 ?_ ?_
                    · skip
                      exact ⟨⟨by omega, by omega⟩, g73, FR.rf⟩
                    · rintro x104 τ106 ⟨h105, g107, f108⟩ ih109
                      show WP 111 169 [(0, .ref 109), (1, .ref 45), (2, .ref 70), (3, iV pl), (4, iV z5), (5, iV ((σ.1 109 1) - (σ.1 70 1))), (6, iV x76), (7, iV x104)] [] _ _ _ _
                      show WP 111 169 [(0, .ref 109), (1, .ref 45), (2, .ref 70), (3, iV pl), (4, iV z5), (5, iV ((σ.1 109 1) - (σ.1 70 1))), (6, iV x76), (7, iV x104)] [] _ _ _ _
                      refine wp_il2 jF_111_169 rfl rfl (pc2 := 171) ?_
                      refine wp_al1 jF_111_171 rfl rfl (pc2 := 172) ?_
                      refine wp_gi jF_111_172 kd70 (by decide) rfl ((FR.at f108 70 6 rfl).trans ((FRw.na f74 (by decide)).trans ((FR.at f69 70 6 rfl).trans ((FR.at f32 70 6 rfl).trans ((FRw.na f23 (by decide)).trans ((FR.at f16 70 6 rfl).trans (FRw.na f11 (by decide)))))))) rfl (pc2 := 175) ?_
                      refine wp_i_ge jF_111_175 (m_rgb h105 rfl) (m_rgb b1 rfl) rfl (pc2 := 178) ?_ ?_
                      · intro h110
                        refine wp_rv jF_111_200 ?_
                        exact ⟨rfl, g107, (FR.up (FR.w (FR.up (FR.up (FR.w (FR.up (FR.w FR.rf f11 rfl) f16 sb_WW109_WW109) f23 rfl) f32 sb_WW109_WW109) f69 sb_Wra109_WW109) f74 rfl) f108 sb_WW109_WW109)⟩
                      · intro h110
                        refine wp_al1 jF_111_178 rfl rfl (pc2 := 179) ?_
                        refine wp_dup jF_111_179 rfl rfl (pc2 := 180) ?_
                        refine wp_glA jF_111_180 kd109 (by decide) rfl rfl (pc2 := 183) ?_
                        intro y111
                        refine wp_al1 jF_111_183 rfl rfl (pc2 := 184) ?_
                        refine wp_gr (b := 74) jF_111_184 kd70 (by decide) (c := 7) rfl rfl rfl (pc2 := 187) ?_
                        refine wp_il2 jF_111_187 rfl rfl (pc2 := 189) ?_
                        refine wp_lald (n := 30) jF_111_189 kd74 (by decide) rfl rfl (by omega) (by omega) rfl (pc2 := 190) ?_
                        intro y112
                        refine wp_lng (pc2 := 191) jF_111_190 rfl rfl ?_
                        intro y113
                        refine wp_pl jF_111_191 kd109 (by decide) rfl rfl (pc2 := 194) g107 ?_
                        intro τ114 g115 f116
                        refine wp_inc (lv2 := [(0, .ref 109), (1, .ref 45), (2, .ref 70), (3, iV pl), (4, iV z5), (5, iV ((σ.1 109 1) - (σ.1 70 1))), (6, iV x76), (7, iV (x104 + 1))]) jF_111_194 rfl rfl rfl rfl (pc2 := 197) ?_
                        refine wp_go jF_111_197 ?_
                        exact ih109 ((x104 + 1)) τ114 ⟨⟨by omega, by omega⟩, g115, (FR.w f108 f116 rfl)⟩ (by show Int.toNat (30 - (x104 + 1)) < Int.toNat (30 - x104); omega)
                · intro h102
                  refine wp_inc (lv2 := [(0, .ref 109), (1, .ref 45), (2, .ref 70), (3, iV pl), (4, iV z5), (5, iV ((σ.1 109 1) - (σ.1 70 1))), (6, iV (x76 + 1)), (7, iV x27)]) jF_111_133 rfl rfl rfl rfl (pc2 := 136) ?_
                  refine wp_go jF_111_136 ?_
                  exact ih82 ((x76 + 1)) τ72 ⟨⟨by omega, by omega⟩, rfl, (by omega)⟩ (by show Int.toNat (30 - (x76 + 1)) < Int.toNat (30 - x76); omega)
    · intro h19
      refine wp_al1 jF_111_33 rfl rfl (pc2 := 34) ?_
      refine wp_dup jF_111_34 rfl rfl (pc2 := 35) ?_
      refine wp_glA jF_111_35 kd109 (by decide) rfl rfl (pc2 := 38) ?_
      intro y117
      refine wp_al1 jF_111_38 rfl rfl (pc2 := 39) ?_
      refine wp_gr (b := 74) jF_111_39 kd70 (by decide) (c := 7) rfl rfl rfl (pc2 := 42) ?_
      refine wp_il2 jF_111_42 rfl rfl (pc2 := 44) ?_
      refine wp_lald (n := 30) jF_111_44 kd74 (by decide) rfl rfl (by omega) (by omega) rfl (pc2 := 45) ?_
      intro y118
      refine wp_lng (pc2 := 46) jF_111_45 rfl rfl ?_
      intro y119
      refine wp_pl jF_111_46 kd109 (by decide) rfl rfl (pc2 := 49) g15 ?_
      intro τ120 g121 f122
      refine wp_inc (lv2 := [(0, .ref 109), (1, .ref 45), (2, .ref 70), (3, iV pl), (4, iV z5), (5, iV ((σ.1 109 1) - (σ.1 70 1))), (6, iV (x12 + 1))]) jF_111_49 rfl rfl rfl rfl (pc2 := 52) ?_
      refine wp_go jF_111_52 ?_
      exact ih18 ((x12 + 1)) τ120 ⟨⟨by omega, by omega⟩, g121, (FR.w f16 f122 rfl), (by omega)⟩ (by show Int.toNat (30 - (x12 + 1)) < Int.toNat (30 - x12); omega)
