set_option maxHeartbeats 4000000 in
set_option maxRecDepth 20000 in
/-- M.ask -/
theorem m_324_z (σ : jM) (hg : GI σ)  (pre0 : (l0 σ) = 22) (pre1 : (l1 σ) = 22) (fr lo : Nat) (hfr : 9 ≤ fr) (hlo : 196 ≤ lo) : WP 324 0 (lv_args 0 [.ref 117]) [] fr lo σ (fun v τ => ∃ z : Int64, v = some (.long z) ∧ GI τ ∧ FR Wak σ τ ∧ ((τ.1 117 1) = 0)) := by
  show WP 324 0 [(0, .ref 117)] [] _ _ _ _
  refine wp_al1 jF_324_0 rfl rfl (pc2 := 1) ?_
  refine wp_al1 jF_324_1 rfl rfl (pc2 := 2) ?_
  have b1 := GI.b hg 117 1 kd117 (lo := 0) (hi := 1600) rfl
  refine wp_gi jF_324_2 kd117 (by decide) rfl rfl rfl (pc2 := 5) ?_
  refine wp_pi jF_324_5 kd117 (by decide) rfl rfl rfl (pc2 := 8) hg (lo := 0) (hi := 1600) rfl (by omega) (by omega) ?_
  intro τ2 g3 f4 e5
  refine wp_al1 jF_324_8 rfl rfl (pc2 := 9) ?_
  refine wp_ic jF_324_9 rfl (pc2 := 10) ?_
  refine wp_pi jF_324_10 kd117 (by decide) rfl rfl rfl (pc2 := 13) g3 (lo := 0) (hi := 1600) rfl (by omega) (by omega) ?_
  intro τ6 g7 f8 e9
  refine wp_al1 jF_324_13 rfl rfl (pc2 := 14) ?_
  refine wp_ic jF_324_14 rfl (pc2 := 15) ?_
  refine wp_pi jF_324_15 kd117 (by decide) rfl rfl rfl (pc2 := 18) g7 (lo := 0) (hi := 1601) rfl (by omega) (by omega) ?_
  intro τ10 g11 f12 e13
  refine wp_al1 jF_324_18 rfl rfl (pc2 := 19) ?_
  refine wp_ic jF_324_19 rfl (pc2 := 20) ?_
  refine wp_pi jF_324_20 kd117 (by decide) rfl rfl rfl (pc2 := 23) g11 (lo := (-2147483648)) (hi := 2147483647) rfl (by omega) (by omega) ?_
  intro τ14 g15 f16 e17
  refine wp_al1 jF_324_23 rfl rfl (pc2 := 24) ?_
  refine wp_ic jF_324_24 rfl (pc2 := 25) ?_
  refine wp_pi jF_324_25 kd117 (by decide) rfl rfl rfl (pc2 := 28) g15 (lo := (-2147483648)) (hi := 2147483647) rfl (by omega) (by omega) ?_
  intro τ18 g19 f20 e21
  refine wp_al1 jF_324_28 rfl rfl (pc2 := 29) ?_
  refine wp_ic jF_324_29 rfl (pc2 := 30) ?_
  refine wp_pi jF_324_30 kd117 (by decide) rfl rfl rfl (pc2 := 33) g19 (lo := (-2147483648)) (hi := 2147483647) rfl (by omega) (by omega) ?_
  intro τ22 g23 f24 e25
  refine wp_al1 jF_324_33 rfl rfl (pc2 := 34) ?_
  refine wp_ic jF_324_34 rfl (pc2 := 35) ?_
  refine wp_pi jF_324_35 kd117 (by decide) rfl rfl rfl (pc2 := 38) g23 (lo := 0) (hi := 1690) rfl (by omega) (by omega) ?_
  intro τ26 g27 f28 e29
  refine wp_al1 jF_324_38 rfl rfl (pc2 := 39) ?_
  refine wp_ic jF_324_39 rfl (pc2 := 40) ?_
  refine wp_pi jF_324_40 kd117 (by decide) rfl rfl rfl (pc2 := 43) g27 (lo := 0) (hi := 1690) rfl (by omega) (by omega) ?_
  intro τ30 g31 f32 e33
  refine wp_al1 jF_324_43 rfl rfl (pc2 := 44) ?_
  refine wp_ic jF_324_44 rfl (pc2 := 45) ?_
  refine wp_pi jF_324_45 kd117 (by decide) rfl rfl rfl (pc2 := 48) g31 (lo := (-2147483648)) (hi := 2147483647) rfl (by omega) (by omega) ?_
  intro τ34 g35 f36 e37
  refine wp_al1 jF_324_48 rfl rfl (pc2 := 49) ?_
  refine wp_ic jF_324_49 rfl (pc2 := 50) ?_
  refine wp_pi jF_324_50 kd117 (by decide) rfl rfl rfl (pc2 := 53) g35 (lo := 0) (hi := 1690) rfl (by omega) (by omega) ?_
  intro τ38 g39 f40 e41
  have q42 : (dp τ38) = (dp τ26) := ((dp_wr f40 (by decide)).trans ((dp_wr f36 (by decide)).trans (dp_wr f32 (by decide))))
  have q43 := ws_nn (σ := τ30)
  have q44 : (ws τ38) = (ws τ30) := ((ws_wr f40 (by decide)).trans (ws_wr f36 (by decide)))
  have q45 : (tt τ38) = (tt τ30) := ((tt_wr f40 (by decide)).trans (tt_wr f36 (by decide)))
  have q46 : (τ38.1 117 87) = 0 := ((FRw.nj f40 (by decide)).trans ((FRw.nj f36 (by decide)).trans ((FRw.nj f32 (by decide)).trans e29)))
  have q47 : (τ38.1 117 89) = 0 := ((FRw.nj f40 (by decide)).trans ((FRw.nj f36 (by decide)).trans e33))
  have n48 := dp_0 (σ := τ38) (by omega)
  have n49 := ws_0 (σ := τ38) (by omega)
  have n50 := tt_0 (σ := τ38) (by omega)
  refine wp_al1 jF_324_53 rfl rfl (pc2 := 54) ?_
  refine wp_cV (as := []) (rest := []) (a := 117) (mx := 2) (ci := 12) jF_324_54 kd117 (by decide) rfl rfl rfl rfl rfl (by omega) (by omega) rfl (pc2 := 57) ?_
  have q51 : (τ38.1 117 2) = 0 := ((FRw.nj f40 (by decide)).trans ((FRw.nj f36 (by decide)).trans ((FRw.nj f32 (by decide)).trans ((FRw.nj f28 (by decide)).trans ((FRw.nj f24 (by decide)).trans ((FRw.nj f20 (by decide)).trans ((FRw.nj f16 (by decide)).trans e13)))))))
  refine wp_use (m_325 τ38 g39   _ _ (by omega) (by omega)) ?_
  rintro _ τ53 ⟨z56, rfl, h57, g54, f55, p52⟩
  show WP 324 57 [(0, .ref 117)] [iV z56] _ _ _ _
  refine wp_is1 (lv2 := [(0, .ref 117), (1, iV z56)]) jF_324_57 rfl rfl rfl (pc2 := 58) ?_
  refine wp_join (α := Unit) 112 (fun a => [(0, .ref 117), (1, iV z56)]) (fun a τ => GI τ ∧ FR Wakj τ53 τ ∧ ((τ.1 117 5) = 0 → 0 ≤ (dp τ))) ?_ ?_
  · rintro ⟨⟩ τ58 ⟨g59, f60, p61⟩
    have b62 := GI.b g59 117 5 kd117 (lo := (-2147483648)) (hi := 2147483647) rfl
    clear p52
    show WP 324 112 [(0, .ref 117), (1, iV z56)] [] _ _ _ _
    refine wp_al1 jF_324_112 rfl rfl (pc2 := 113) ?_
    refine wp_al1 jF_324_113 rfl rfl (pc2 := 114) ?_
    refine wp_gi jF_324_114 kd117 (by decide) rfl rfl rfl (pc2 := 117) ?_
    refine wp_pi jF_324_117 kd117 (by decide) rfl rfl rfl (pc2 := 120) g59 (lo := (-2147483648)) (hi := 2147483647) rfl (by omega) (by omega) ?_
    intro τ63 g64 f65 e66
    refine wp_al1 jF_324_120 rfl rfl (pc2 := 121) ?_
    refine wp_al1 jF_324_121 rfl rfl (pc2 := 122) ?_
    have b67 := GI.b g59 117 6 kd117 (lo := (-2147483648)) (hi := 2147483647) rfl
    refine wp_gi jF_324_122 kd117 (by decide) rfl (FRw.nj f65 (by decide)) rfl (pc2 := 125) ?_
    refine wp_pi jF_324_125 kd117 (by decide) rfl rfl rfl (pc2 := 128) g64 (lo := (-2147483648)) (hi := 2147483647) rfl (by omega) (by omega) ?_
    intro τ68 g69 f70 e71
    refine wp_al1 jF_324_128 rfl rfl (pc2 := 129) ?_
    refine wp_gi jF_324_129 kd117 (by decide) rfl ((FRw.nj f70 (by decide)).trans (FRw.nj f65 (by decide))) rfl (pc2 := 132) ?_
    refine wp_z_eq jF_324_132 (m_rgb b62 rfl) rfl (pc2 := 135) ?_ ?_
    · intro h72
      replace p61 := p61 (by omega)
      have q73 : (dp τ68) = (dp τ58) := ((dp_wr f70 (by decide)).trans (dp_wr f65 (by decide)))
      have q74 := ws_nn (σ := τ58)
      have q75 : (ws τ68) = (ws τ58) := ((ws_wr f70 (by decide)).trans (ws_wr f65 (by decide)))
      refine wp_al1 jF_324_139 rfl rfl (pc2 := 140) ?_
      refine wp_il1 jF_324_140 rfl rfl (pc2 := 141) ?_
      refine wp_ic jF_324_141 rfl (pc2 := 142) ?_
      refine wp_i_ge jF_324_142 (m_rgb h57 rfl) (m_rgl rfl) rfl (pc2 := 145) ?_ ?_
      · intro h76
        refine wp_lc jF_324_151 rfl (pc2 := 152) ?_
        refine wp_pl jF_324_152 kd117 (by decide) rfl rfl (pc2 := 155) g69 ?_
        intro τ77 g78 f79
        refine wp_al1 jF_324_155 rfl rfl (pc2 := 156) ?_
        refine wp_ic jF_324_156 rfl (pc2 := 157) ?_
        refine wp_pi jF_324_157 kd117 (by decide) rfl rfl rfl (pc2 := 160) g78 (lo := 0) (hi := 1) rfl (by omega) (by omega) ?_
        intro τ80 g81 f82 e83
        refine wp_ic jF_324_160 rfl (pc2 := 161) ?_
        refine wp_is1 (lv2 := [(0, .ref 117), (1, iV z56), (2, iV 0)]) jF_324_161 rfl rfl rfl (pc2 := 162) ?_
        refine wp_loop (α := Int) (fun a => [(0, .ref 117), (1, iV z56), (2, iV (a))]) (fun a τ => (0 ≤ a ∧ a ≤ 64) ∧ GI τ ∧ FR Wql τ80 τ) (fun a τ => Int.toNat (64 - (a))) (0) τ80 ?_ ?_
        · skip
          exact ⟨⟨by omega, by omega⟩, g81, FR.rf⟩
        · rintro x84 τ86 ⟨h85, g87, f88⟩ ih89
          show WP 324 162 [(0, .ref 117), (1, iV z56), (2, iV x84)] [] _ _ _ _
          show WP 324 162 [(0, .ref 117), (1, iV z56), (2, iV x84)] [] _ _ _ _
          refine wp_il1 jF_324_162 rfl rfl (pc2 := 163) ?_
          refine wp_al1 jF_324_163 rfl rfl (pc2 := 164) ?_
          refine wp_cV (as := []) (rest := [iV x84]) (a := 117) (mx := 1) (ci := 12) jF_324_164 kd117 (by decide) rfl rfl rfl rfl rfl (by omega) (by omega) rfl (pc2 := 167) ?_
          have q90 : (m0 τ86) = (m0 σ) := ((m0_fr f88 (fun _ => rfl)).trans ((m0_wr f82 (by decide)).trans ((m0_wr f79 (by decide)).trans ((m0_wr f70 (by decide)).trans ((m0_wr f65 (by decide)).trans ((m0_fr f60 (fun _ => rfl)).trans ((m0_fr f55 (fun _ => rfl)).trans ((m0_wr f40 (by decide)).trans ((m0_wr f36 (by decide)).trans ((m0_wr f32 (by decide)).trans ((m0_wr f28 (by decide)).trans ((m0_wr f24 (by decide)).trans ((m0_wr f20 (by decide)).trans ((m0_wr f16 (by decide)).trans ((m0_wr f12 (by decide)).trans ((m0_wr f8 (by decide)).trans (m0_wr f4 (by decide))))))))))))))))))
          have q91 : (m1 τ86) = (m1 σ) := ((m1_fr f88 (fun _ => rfl)).trans ((m1_wr f82 (by decide)).trans ((m1_wr f79 (by decide)).trans ((m1_wr f70 (by decide)).trans ((m1_wr f65 (by decide)).trans ((m1_fr f60 (fun _ => rfl)).trans ((m1_fr f55 (fun _ => rfl)).trans ((m1_wr f40 (by decide)).trans ((m1_wr f36 (by decide)).trans ((m1_wr f32 (by decide)).trans ((m1_wr f28 (by decide)).trans ((m1_wr f24 (by decide)).trans ((m1_wr f20 (by decide)).trans ((m1_wr f16 (by decide)).trans ((m1_wr f12 (by decide)).trans ((m1_wr f8 (by decide)).trans (m1_wr f4 (by decide))))))))))))))))))
          have q92 : (m2 τ86) = (m2 σ) := ((m2_fr f88 (fun _ => rfl)).trans ((m2_wr f82 (by decide)).trans ((m2_wr f79 (by decide)).trans ((m2_wr f70 (by decide)).trans ((m2_wr f65 (by decide)).trans ((m2_fr f60 (fun _ => rfl)).trans ((m2_fr f55 (fun _ => rfl)).trans ((m2_wr f40 (by decide)).trans ((m2_wr f36 (by decide)).trans ((m2_wr f32 (by decide)).trans ((m2_wr f28 (by decide)).trans ((m2_wr f24 (by decide)).trans ((m2_wr f20 (by decide)).trans ((m2_wr f16 (by decide)).trans ((m2_wr f12 (by decide)).trans ((m2_wr f8 (by decide)).trans (m2_wr f4 (by decide))))))))))))))))))
          have q93 : (cm τ86) = (cm σ) := ((cm_fr f88 (fun _ => rfl)).trans ((cm_wr f82 (by decide)).trans ((cm_wr f79 (by decide)).trans ((cm_wr f70 (by decide)).trans ((cm_wr f65 (by decide)).trans ((cm_fr f60 (fun _ => rfl)).trans ((cm_fr f55 (fun _ => rfl)).trans ((cm_wr f40 (by decide)).trans ((cm_wr f36 (by decide)).trans ((cm_wr f32 (by decide)).trans ((cm_wr f28 (by decide)).trans ((cm_wr f24 (by decide)).trans ((cm_wr f20 (by decide)).trans ((cm_wr f16 (by decide)).trans ((cm_wr f12 (by decide)).trans ((cm_wr f8 (by decide)).trans (cm_wr f4 (by decide))))))))))))))))))
          refine wp_use (m_243 τ86 g87   _ _ (by omega) (by omega)) ?_
          rintro _ _ ⟨z98, rfl, h99, rfl, p94, p95⟩
          show WP 324 167 [(0, .ref 117), (1, iV z56), (2, iV x84)] [iV z98, iV x84] _ _ _ _
          refine wp_i_ge jF_324_167 (m_rgb h85 rfl) (m_rgb h99 rfl) rfl (pc2 := 170) ?_ ?_
          · intro h100
            refine wp_al1 jF_324_187 rfl rfl (pc2 := 188) ?_
            refine wp_glA jF_324_188 kd117 (by decide) rfl rfl (pc2 := 191) ?_
            intro y101
            refine wp_rl jF_324_191 ?_
            have q102 : (τ86.1 117 1) = 0 := ((FR.at f88 117 1 rfl).trans ((FRw.nj f82 (by decide)).trans ((FRw.nj f79 (by decide)).trans ((FRw.nj f70 (by decide)).trans ((FRw.nj f65 (by decide)).trans ((FR.at f60 117 1 rfl).trans ((FR.at f55 117 1 rfl).trans ((FRw.nj f40 (by decide)).trans ((FRw.nj f36 (by decide)).trans ((FRw.nj f32 (by decide)).trans ((FRw.nj f28 (by decide)).trans ((FRw.nj f24 (by decide)).trans ((FRw.nj f20 (by decide)).trans ((FRw.nj f16 (by decide)).trans ((FRw.nj f12 (by decide)).trans e9)))))))))))))))
            exact ⟨y101, rfl, g87, (FR.up (FR.w (FR.w (FR.w (FR.w (FR.up (FR.up (FR.w (FR.w (FR.w (FR.w (FR.w (FR.w (FR.w (FR.w (FR.w (FR.w FR.rf f4 rfl) f8 rfl) f12 rfl) f16 rfl) f20 rfl) f24 rfl) f28 rfl) f32 rfl) f36 rfl) f40 rfl) f55 sb_Wask_Wak) f60 sb_Wakj_Wak) f65 rfl) f70 rfl) f79 rfl) f82 rfl) f88 sb_Wql_Wak), (by omega)⟩
          · intro h100
            refine wp_al1 jF_324_170 rfl rfl (pc2 := 171) ?_
            refine wp_il1 jF_324_171 rfl rfl (pc2 := 172) ?_
            refine wp_al1 jF_324_172 rfl rfl (pc2 := 173) ?_
            refine wp_il1 jF_324_173 rfl rfl (pc2 := 174) ?_
            refine wp_cV (as := [iV x84]) (rest := [iV z56, .ref 117]) (a := 117) (mx := 4) (ci := 12) jF_324_174 kd117 (by decide) rfl rfl rfl rfl rfl (by omega) (by omega) rfl (pc2 := 177) ?_
            have q103 : (l0 τ86) = (l0 σ) := ((l0_fr f88 rfl (fun _ => rfl)).trans ((l0_wr f82 (by decide)).trans ((l0_wr f79 (by decide)).trans ((l0_wr f70 (by decide)).trans ((l0_wr f65 (by decide)).trans ((l0_fr f60 rfl (fun _ => rfl)).trans ((l0_fr f55 rfl (fun _ => rfl)).trans ((l0_wr f40 (by decide)).trans ((l0_wr f36 (by decide)).trans ((l0_wr f32 (by decide)).trans ((l0_wr f28 (by decide)).trans ((l0_wr f24 (by decide)).trans ((l0_wr f20 (by decide)).trans ((l0_wr f16 (by decide)).trans ((l0_wr f12 (by decide)).trans ((l0_wr f8 (by decide)).trans (l0_wr f4 (by decide))))))))))))))))))
            have q104 : (l1 τ86) = (l1 σ) := ((l1_fr f88 rfl (fun _ => rfl)).trans ((l1_wr f82 (by decide)).trans ((l1_wr f79 (by decide)).trans ((l1_wr f70 (by decide)).trans ((l1_wr f65 (by decide)).trans ((l1_fr f60 rfl (fun _ => rfl)).trans ((l1_fr f55 rfl (fun _ => rfl)).trans ((l1_wr f40 (by decide)).trans ((l1_wr f36 (by decide)).trans ((l1_wr f32 (by decide)).trans ((l1_wr f28 (by decide)).trans ((l1_wr f24 (by decide)).trans ((l1_wr f20 (by decide)).trans ((l1_wr f16 (by decide)).trans ((l1_wr f12 (by decide)).trans ((l1_wr f8 (by decide)).trans (l1_wr f4 (by decide))))))))))))))))))
            have q105 : (dp τ86) = (dp τ58) := ((dp_fr f88 (fun _ => rfl) rfl).trans ((dp_wr f82 (by decide)).trans ((dp_wr f79 (by decide)).trans ((dp_wr f70 (by decide)).trans (dp_wr f65 (by decide))))))
            refine wp_use (m_345 τ86 g87 x84 (by omega) (by omega) (by omega) (by omega) (by omega) (by omega) (by omega) _ _ (by omega) (by omega)) ?_
            rintro _ τ106 ⟨y109, rfl, g107, f108⟩
            show WP 324 177 [(0, .ref 117), (1, iV z56), (2, iV x84)] [.long y109, iV z56, .ref 117] _ _ _ _
            refine wp_il1 jF_324_177 rfl rfl (pc2 := 178) ?_
            refine wp_cV (as := [iV z56, .long y109, iV x84]) (rest := []) (a := 117) (mx := 6) (ci := 12) jF_324_178 kd117 (by decide) rfl rfl rfl rfl rfl (by omega) (by omega) rfl (pc2 := 181) ?_
            refine wp_use (m_353 τ106 g107 z56 (by omega) (by omega) y109 x84 (by omega) (by omega)  _ _ (by omega) (by omega)) ?_
            rintro _ τ110 ⟨rfl, g111, f112⟩
            show WP 324 181 [(0, .ref 117), (1, iV z56), (2, iV x84)] [] _ _ _ _
            refine wp_inc (lv2 := [(0, .ref 117), (1, iV z56), (2, iV (x84 + 1))]) jF_324_181 rfl rfl rfl rfl (pc2 := 184) ?_
            refine wp_go jF_324_184 ?_
            exact ih89 ((x84 + 1)) τ110 ⟨⟨by omega, by omega⟩, g111, (FR.up (FR.up f88 f108 sb_Wqr_Wql) f112 sb_Wqt_Wql)⟩ (by show Int.toNat (64 - (x84 + 1)) < Int.toNat (64 - x84); omega)
      · intro h76
        refine wp_ld jF_324_145 rfl (pc2 := 148) ?_
        refine wp_go jF_324_148 ?_
        refine wp_pl jF_324_152 kd117 (by decide) rfl rfl (pc2 := 155) g69 ?_
        intro τ113 g114 f115
        refine wp_al1 jF_324_155 rfl rfl (pc2 := 156) ?_
        refine wp_ic jF_324_156 rfl (pc2 := 157) ?_
        refine wp_pi jF_324_157 kd117 (by decide) rfl rfl rfl (pc2 := 160) g114 (lo := 0) (hi := 1) rfl (by omega) (by omega) ?_
        intro τ116 g117 f118 e119
        refine wp_ic jF_324_160 rfl (pc2 := 161) ?_
        refine wp_is1 (lv2 := [(0, .ref 117), (1, iV z56), (2, iV 0)]) jF_324_161 rfl rfl rfl (pc2 := 162) ?_
        refine wp_loop (α := Int) (fun a => [(0, .ref 117), (1, iV z56), (2, iV (a))]) (fun a τ => (0 ≤ a ∧ a ≤ 64) ∧ GI τ ∧ FR Wql τ116 τ) (fun a τ => Int.toNat (64 - (a))) (0) τ116 ?_ ?_
        · skip
          exact ⟨⟨by omega, by omega⟩, g117, FR.rf⟩
        · rintro x120 τ122 ⟨h121, g123, f124⟩ ih125
          show WP 324 162 [(0, .ref 117), (1, iV z56), (2, iV x120)] [] _ _ _ _
          show WP 324 162 [(0, .ref 117), (1, iV z56), (2, iV x120)] [] _ _ _ _
          refine wp_il1 jF_324_162 rfl rfl (pc2 := 163) ?_
          refine wp_al1 jF_324_163 rfl rfl (pc2 := 164) ?_
          refine wp_cV (as := []) (rest := [iV x120]) (a := 117) (mx := 1) (ci := 12) jF_324_164 kd117 (by decide) rfl rfl rfl rfl rfl (by omega) (by omega) rfl (pc2 := 167) ?_
          have q126 : (m0 τ122) = (m0 σ) := ((m0_fr f124 (fun _ => rfl)).trans ((m0_wr f118 (by decide)).trans ((m0_wr f115 (by decide)).trans ((m0_wr f70 (by decide)).trans ((m0_wr f65 (by decide)).trans ((m0_fr f60 (fun _ => rfl)).trans ((m0_fr f55 (fun _ => rfl)).trans ((m0_wr f40 (by decide)).trans ((m0_wr f36 (by decide)).trans ((m0_wr f32 (by decide)).trans ((m0_wr f28 (by decide)).trans ((m0_wr f24 (by decide)).trans ((m0_wr f20 (by decide)).trans ((m0_wr f16 (by decide)).trans ((m0_wr f12 (by decide)).trans ((m0_wr f8 (by decide)).trans (m0_wr f4 (by decide))))))))))))))))))
          have q127 : (m1 τ122) = (m1 σ) := ((m1_fr f124 (fun _ => rfl)).trans ((m1_wr f118 (by decide)).trans ((m1_wr f115 (by decide)).trans ((m1_wr f70 (by decide)).trans ((m1_wr f65 (by decide)).trans ((m1_fr f60 (fun _ => rfl)).trans ((m1_fr f55 (fun _ => rfl)).trans ((m1_wr f40 (by decide)).trans ((m1_wr f36 (by decide)).trans ((m1_wr f32 (by decide)).trans ((m1_wr f28 (by decide)).trans ((m1_wr f24 (by decide)).trans ((m1_wr f20 (by decide)).trans ((m1_wr f16 (by decide)).trans ((m1_wr f12 (by decide)).trans ((m1_wr f8 (by decide)).trans (m1_wr f4 (by decide))))))))))))))))))
          have q128 : (m2 τ122) = (m2 σ) := ((m2_fr f124 (fun _ => rfl)).trans ((m2_wr f118 (by decide)).trans ((m2_wr f115 (by decide)).trans ((m2_wr f70 (by decide)).trans ((m2_wr f65 (by decide)).trans ((m2_fr f60 (fun _ => rfl)).trans ((m2_fr f55 (fun _ => rfl)).trans ((m2_wr f40 (by decide)).trans ((m2_wr f36 (by decide)).trans ((m2_wr f32 (by decide)).trans ((m2_wr f28 (by decide)).trans ((m2_wr f24 (by decide)).trans ((m2_wr f20 (by decide)).trans ((m2_wr f16 (by decide)).trans ((m2_wr f12 (by decide)).trans ((m2_wr f8 (by decide)).trans (m2_wr f4 (by decide))))))))))))))))))
          have q129 : (cm τ122) = (cm σ) := ((cm_fr f124 (fun _ => rfl)).trans ((cm_wr f118 (by decide)).trans ((cm_wr f115 (by decide)).trans ((cm_wr f70 (by decide)).trans ((cm_wr f65 (by decide)).trans ((cm_fr f60 (fun _ => rfl)).trans ((cm_fr f55 (fun _ => rfl)).trans ((cm_wr f40 (by decide)).trans ((cm_wr f36 (by decide)).trans ((cm_wr f32 (by decide)).trans ((cm_wr f28 (by decide)).trans ((cm_wr f24 (by decide)).trans ((cm_wr f20 (by decide)).trans ((cm_wr f16 (by decide)).trans ((cm_wr f12 (by decide)).trans ((cm_wr f8 (by decide)).trans (cm_wr f4 (by decide))))))))))))))))))
          refine wp_use (m_243 τ122 g123   _ _ (by omega) (by omega)) ?_
          rintro _ _ ⟨z134, rfl, h135, rfl, p130, p131⟩
          show WP 324 167 [(0, .ref 117), (1, iV z56), (2, iV x120)] [iV z134, iV x120] _ _ _ _
          refine wp_i_ge jF_324_167 (m_rgb h121 rfl) (m_rgb h135 rfl) rfl (pc2 := 170) ?_ ?_
          · intro h136
            refine wp_al1 jF_324_187 rfl rfl (pc2 := 188) ?_
            refine wp_glA jF_324_188 kd117 (by decide) rfl rfl (pc2 := 191) ?_
            intro y137
            refine wp_rl jF_324_191 ?_
            have q138 : (τ122.1 117 1) = 0 := ((FR.at f124 117 1 rfl).trans ((FRw.nj f118 (by decide)).trans ((FRw.nj f115 (by decide)).trans ((FRw.nj f70 (by decide)).trans ((FRw.nj f65 (by decide)).trans ((FR.at f60 117 1 rfl).trans ((FR.at f55 117 1 rfl).trans ((FRw.nj f40 (by decide)).trans ((FRw.nj f36 (by decide)).trans ((FRw.nj f32 (by decide)).trans ((FRw.nj f28 (by decide)).trans ((FRw.nj f24 (by decide)).trans ((FRw.nj f20 (by decide)).trans ((FRw.nj f16 (by decide)).trans ((FRw.nj f12 (by decide)).trans e9)))))))))))))))
            exact ⟨y137, rfl, g123, (FR.up (FR.w (FR.w (FR.w (FR.w (FR.up (FR.up (FR.w (FR.w (FR.w (FR.w (FR.w (FR.w (FR.w (FR.w (FR.w (FR.w FR.rf f4 rfl) f8 rfl) f12 rfl) f16 rfl) f20 rfl) f24 rfl) f28 rfl) f32 rfl) f36 rfl) f40 rfl) f55 sb_Wask_Wak) f60 sb_Wakj_Wak) f65 rfl) f70 rfl) f115 rfl) f118 rfl) f124 sb_Wql_Wak), (by omega)⟩
          · intro h136
            refine wp_al1 jF_324_170 rfl rfl (pc2 := 171) ?_
            refine wp_il1 jF_324_171 rfl rfl (pc2 := 172) ?_
            refine wp_al1 jF_324_172 rfl rfl (pc2 := 173) ?_
            refine wp_il1 jF_324_173 rfl rfl (pc2 := 174) ?_
            refine wp_cV (as := [iV x120]) (rest := [iV z56, .ref 117]) (a := 117) (mx := 4) (ci := 12) jF_324_174 kd117 (by decide) rfl rfl rfl rfl rfl (by omega) (by omega) rfl (pc2 := 177) ?_
            have q139 : (l0 τ122) = (l0 σ) := ((l0_fr f124 rfl (fun _ => rfl)).trans ((l0_wr f118 (by decide)).trans ((l0_wr f115 (by decide)).trans ((l0_wr f70 (by decide)).trans ((l0_wr f65 (by decide)).trans ((l0_fr f60 rfl (fun _ => rfl)).trans ((l0_fr f55 rfl (fun _ => rfl)).trans ((l0_wr f40 (by decide)).trans ((l0_wr f36 (by decide)).trans ((l0_wr f32 (by decide)).trans ((l0_wr f28 (by decide)).trans ((l0_wr f24 (by decide)).trans ((l0_wr f20 (by decide)).trans ((l0_wr f16 (by decide)).trans ((l0_wr f12 (by decide)).trans ((l0_wr f8 (by decide)).trans (l0_wr f4 (by decide))))))))))))))))))
            have q140 : (l1 τ122) = (l1 σ) := ((l1_fr f124 rfl (fun _ => rfl)).trans ((l1_wr f118 (by decide)).trans ((l1_wr f115 (by decide)).trans ((l1_wr f70 (by decide)).trans ((l1_wr f65 (by decide)).trans ((l1_fr f60 rfl (fun _ => rfl)).trans ((l1_fr f55 rfl (fun _ => rfl)).trans ((l1_wr f40 (by decide)).trans ((l1_wr f36 (by decide)).trans ((l1_wr f32 (by decide)).trans ((l1_wr f28 (by decide)).trans ((l1_wr f24 (by decide)).trans ((l1_wr f20 (by decide)).trans ((l1_wr f16 (by decide)).trans ((l1_wr f12 (by decide)).trans ((l1_wr f8 (by decide)).trans (l1_wr f4 (by decide))))))))))))))))))
            have q141 : (dp τ122) = (dp τ58) := ((dp_fr f124 (fun _ => rfl) rfl).trans ((dp_wr f118 (by decide)).trans ((dp_wr f115 (by decide)).trans ((dp_wr f70 (by decide)).trans (dp_wr f65 (by decide))))))
            refine wp_use (m_345 τ122 g123 x120 (by omega) (by omega) (by omega) (by omega) (by omega) (by omega) (by omega) _ _ (by omega) (by omega)) ?_
            rintro _ τ142 ⟨y145, rfl, g143, f144⟩
            show WP 324 177 [(0, .ref 117), (1, iV z56), (2, iV x120)] [.long y145, iV z56, .ref 117] _ _ _ _
            refine wp_il1 jF_324_177 rfl rfl (pc2 := 178) ?_
            refine wp_cV (as := [iV z56, .long y145, iV x120]) (rest := []) (a := 117) (mx := 6) (ci := 12) jF_324_178 kd117 (by decide) rfl rfl rfl rfl rfl (by omega) (by omega) rfl (pc2 := 181) ?_
            refine wp_use (m_353 τ142 g143 z56 (by omega) (by omega) y145 x120 (by omega) (by omega)  _ _ (by omega) (by omega)) ?_
            rintro _ τ146 ⟨rfl, g147, f148⟩
            show WP 324 181 [(0, .ref 117), (1, iV z56), (2, iV x120)] [] _ _ _ _
            refine wp_inc (lv2 := [(0, .ref 117), (1, iV z56), (2, iV (x120 + 1))]) jF_324_181 rfl rfl rfl rfl (pc2 := 184) ?_
            refine wp_go jF_324_184 ?_
            exact ih125 ((x120 + 1)) τ146 ⟨⟨by omega, by omega⟩, g147, (FR.up (FR.up f124 f144 sb_Wqr_Wql) f148 sb_Wqt_Wql)⟩ (by show Int.toNat (64 - (x120 + 1)) < Int.toNat (64 - x120); omega)
    · intro h72
      clear p61
      refine wp_ld jF_324_135 rfl (pc2 := 138) ?_
      refine wp_rl jF_324_138 ?_
      have q149 : (τ68.1 117 1) = 0 := ((FRw.nj f70 (by decide)).trans ((FRw.nj f65 (by decide)).trans ((FR.at f60 117 1 rfl).trans ((FR.at f55 117 1 rfl).trans ((FRw.nj f40 (by decide)).trans ((FRw.nj f36 (by decide)).trans ((FRw.nj f32 (by decide)).trans ((FRw.nj f28 (by decide)).trans ((FRw.nj f24 (by decide)).trans ((FRw.nj f20 (by decide)).trans ((FRw.nj f16 (by decide)).trans ((FRw.nj f12 (by decide)).trans e9))))))))))))
      exact ⟨(-1000000000000000), rfl, g69, (FR.w (FR.w (FR.up (FR.up (FR.w (FR.w (FR.w (FR.w (FR.w (FR.w (FR.w (FR.w (FR.w (FR.w FR.rf f4 rfl) f8 rfl) f12 rfl) f16 rfl) f20 rfl) f24 rfl) f28 rfl) f32 rfl) f36 rfl) f40 rfl) f55 sb_Wask_Wak) f60 sb_Wakj_Wak) f65 rfl) f70 rfl), (by omega)⟩
  · intro jn150
    refine wp_al1 jF_324_58 rfl rfl (pc2 := 59) ?_
    have b151 := GI.b g54 117 5 kd117 (lo := (-2147483648)) (hi := 2147483647) rfl
    refine wp_gi jF_324_59 kd117 (by decide) rfl rfl rfl (pc2 := 62) ?_
    refine wp_z_ne jF_324_62 (m_rgb b151 rfl) rfl (pc2 := 65) ?_ ?_
    · intro h152
      refine wp_al1 jF_324_77 rfl rfl (pc2 := 78) ?_
      refine wp_gi jF_324_78 kd117 (by decide) rfl rfl rfl (pc2 := 81) ?_
      refine wp_z_ne jF_324_81 (m_rgb b151 rfl) rfl (pc2 := 84) ?_ ?_
      · intro h153
        have q154 : (dp τ53) = (dp τ26) := ((dp_fr f55 (fun _ => rfl) rfl).trans ((dp_wr f40 (by decide)).trans ((dp_wr f36 (by decide)).trans (dp_wr f32 (by decide)))))
        have q155 := ws_nn (σ := τ30)
        have q156 : (ws τ53) = (ws τ30) := ((ws_fr f55 (fun _ => rfl) rfl).trans ((ws_wr f40 (by decide)).trans (ws_wr f36 (by decide))))
        refine wp_al1 jF_324_88 rfl rfl (pc2 := 89) ?_
        refine wp_gi jF_324_89 kd117 (by decide) rfl rfl rfl (pc2 := 92) ?_
        refine wp_z_ne jF_324_92 (m_rgb b151 rfl) rfl (pc2 := 95) ?_ ?_
        · intro h157
          exact jn150 () τ53 ⟨g54, FR.rf, (by omega)⟩
        · intro h157
          refine wp_al1 jF_324_95 rfl rfl (pc2 := 96) ?_
          refine wp_cV (as := []) (rest := []) (a := 117) (mx := 1) (ci := 12) jF_324_96 kd117 (by decide) rfl rfl rfl rfl rfl (by omega) (by omega) rfl (pc2 := 99) ?_
          have b158 := GI.b g54 117 2 kd117 (lo := 0) (hi := 1601) rfl
          have q159 : (τ53.1 117 3) = (σ.1 117 1) := ((FR.at f55 117 3 rfl).trans ((FRw.nj f40 (by decide)).trans ((FRw.nj f36 (by decide)).trans ((FRw.nj f32 (by decide)).trans ((FRw.nj f28 (by decide)).trans ((FRw.nj f24 (by decide)).trans ((FRw.nj f20 (by decide)).trans ((FRw.nj f16 (by decide)).trans ((FRw.nj f12 (by decide)).trans ((FRw.nj f8 (by decide)).trans e5))))))))))
          refine wp_use (m_216 τ53 g54   _ _ (by omega) (by omega)) ?_
          rintro _ τ166 ⟨z169, rfl, h170, g167, f168, p160, p161, p162, p163, p164, p165⟩
          have b171 := GI.b hg 118 (τ166.1 117 2).toNat kd118 (lo := 0) (hi := 255) rfl
          have q172 : (τ53.1 118 (τ166.1 117 2).toNat) = (σ.1 118 (τ166.1 117 2).toNat) := ((FR.at f55 118 (τ166.1 117 2).toNat rfl).trans ((FRw.na f40 (by decide)).trans ((FRw.na f36 (by decide)).trans ((FRw.na f32 (by decide)).trans ((FRw.na f28 (by decide)).trans ((FRw.na f24 (by decide)).trans ((FRw.na f20 (by decide)).trans ((FRw.na f16 (by decide)).trans ((FRw.na f12 (by decide)).trans ((FRw.na f8 (by decide)).trans (FRw.na f4 (by decide))))))))))))
          show WP 324 99 [(0, .ref 117), (1, iV z56)] [iV z169] _ _ _ _
          refine wp_ic jF_324_99 rfl (pc2 := 100) ?_
          refine wp_i_eq jF_324_100 (m_rgb h170 rfl) (m_rgl rfl) rfl (pc2 := 103) ?_ ?_
          · intro h173
            clear p160
            clear p165
            have q174 : (dp τ166) = (dp τ26) := ((dp_fr f168 (fun _ => rfl) rfl).trans ((dp_fr f55 (fun _ => rfl) rfl).trans ((dp_wr f40 (by decide)).trans ((dp_wr f36 (by decide)).trans (dp_wr f32 (by decide))))))
            have q175 : (τ166.1 117 5) = (τ53.1 117 5) := (FR.at f168 117 5 rfl)
            exact jn150 () τ166 ⟨g167, (FR.up FR.rf f168 sb_Wat_Wakj), (by omega)⟩
          · intro h173
            replace p160 := p160 (by omega)
            replace p165 := p165 (by omega)
            refine wp_al1 jF_324_103 rfl rfl (pc2 := 104) ?_
            refine wp_ic jF_324_104 rfl (pc2 := 105) ?_
            refine wp_al1 jF_324_105 rfl rfl (pc2 := 106) ?_
            have b176 := GI.b g167 117 2 kd117 (lo := 0) (hi := 1601) rfl
            refine wp_gi jF_324_106 kd117 (by decide) rfl rfl rfl (pc2 := 109) ?_
            refine wp_cV (as := [iV 1, iV (τ166.1 117 2)]) (rest := []) (a := 117) (mx := 3) (ci := 12) jF_324_109 kd117 (by decide) rfl rfl rfl rfl rfl (by omega) (by omega) rfl (pc2 := 112) ?_
            have q177 : (τ166.1 117 5) = (τ53.1 117 5) := (FR.at f168 117 5 rfl)
            refine wp_use (m_218 τ166 g167 1 (by omega) (by omega) (τ166.1 117 2) (by omega) (by omega)  _ _ (by omega) (by omega)) ?_
            rintro _ τ180 ⟨rfl, g181, f182, p178, p179⟩
            clear p178
            replace p179 := p179 (by omega)
            show WP 324 112 [(0, .ref 117), (1, iV z56)] [] _ _ _ _
            have q183 : (dp τ180) = (dp τ26) := ((dp_fr f182 (fun _ => rfl) rfl).trans ((dp_fr f168 (fun _ => rfl) rfl).trans ((dp_fr f55 (fun _ => rfl) rfl).trans ((dp_wr f40 (by decide)).trans ((dp_wr f36 (by decide)).trans (dp_wr f32 (by decide)))))))
            have b184 := GI.b g181 117 5 kd117 (lo := (-2147483648)) (hi := 2147483647) rfl
            exact jn150 () τ180 ⟨g181, (FR.up (FR.up FR.rf f168 sb_Wat_Wakj) f182 sb_Wbad_Wakj), (by omega)⟩
      · intro h153
        refine wp_al1 jF_324_84 rfl rfl (pc2 := 85) ?_
        refine wp_cV (as := []) (rest := []) (a := 117) (mx := 3) (ci := 12) jF_324_85 kd117 (by decide) rfl rfl rfl rfl rfl (by omega) (by omega) rfl (pc2 := 88) ?_
        have q185 : (dp τ53) = (dp τ26) := ((dp_fr f55 (fun _ => rfl) rfl).trans ((dp_wr f40 (by decide)).trans ((dp_wr f36 (by decide)).trans (dp_wr f32 (by decide)))))
        have q186 := ws_nn (σ := τ30)
        have q187 : (ws τ53) = (ws τ30) := ((ws_fr f55 (fun _ => rfl) rfl).trans ((ws_wr f40 (by decide)).trans (ws_wr f36 (by decide))))
        have q188 : (tt τ53) = (tt τ30) := ((tt_fr f55 (fun _ => rfl) rfl).trans ((tt_wr f40 (by decide)).trans (tt_wr f36 (by decide))))
        have b189 := GI.b g54 117 2 kd117 (lo := 0) (hi := 1601) rfl
        have q190 : (τ53.1 117 87) = 0 := ((FR.at f55 117 87 rfl).trans ((FRw.nj f40 (by decide)).trans ((FRw.nj f36 (by decide)).trans ((FRw.nj f32 (by decide)).trans e29))))
        have q191 : (τ53.1 117 89) = 0 := ((FR.at f55 117 89 rfl).trans ((FRw.nj f40 (by decide)).trans ((FRw.nj f36 (by decide)).trans e33)))
        have q192 : (τ53.1 117 91) = 0 := ((FR.at f55 117 91 rfl).trans e41)
        refine wp_use (m_330 τ53 g54  (by omega) (by omega) (by omega) (by omega) _ _ (by omega) (by omega)) ?_
        rintro _ τ201 ⟨rfl, g202, f203, p193, p194, p195, p196, p197, p198, p199, p200⟩
        show WP 324 88 [(0, .ref 117), (1, iV z56)] [] _ _ _ _
        have q204 := ws_nn (σ := τ201)
        refine wp_al1 jF_324_88 rfl rfl (pc2 := 89) ?_
        have b205 := GI.b g202 117 5 kd117 (lo := (-2147483648)) (hi := 2147483647) rfl
        refine wp_gi jF_324_89 kd117 (by decide) rfl rfl rfl (pc2 := 92) ?_
        refine wp_z_ne jF_324_92 (m_rgb b205 rfl) rfl (pc2 := 95) ?_ ?_
        · intro h206
          clear p195
          clear p196
          clear p197
          clear p198
          clear p199
          exact jn150 () τ201 ⟨g202, (FR.up FR.rf f203 sb_Wqs_Wakj), (by omega)⟩
        · intro h206
          replace p195 := p195 (by omega)
          replace p196 := p196 (by omega)
          replace p197 := p197 (by omega)
          replace p198 := p198 (by omega)
          replace p199 := p199 (by omega)
          refine wp_al1 jF_324_95 rfl rfl (pc2 := 96) ?_
          refine wp_cV (as := []) (rest := []) (a := 117) (mx := 1) (ci := 12) jF_324_96 kd117 (by decide) rfl rfl rfl rfl rfl (by omega) (by omega) rfl (pc2 := 99) ?_
          have b207 := GI.b g202 117 2 kd117 (lo := 0) (hi := 1601) rfl
          have q208 : (τ201.1 117 3) = (σ.1 117 1) := ((FR.at f203 117 3 rfl).trans ((FR.at f55 117 3 rfl).trans ((FRw.nj f40 (by decide)).trans ((FRw.nj f36 (by decide)).trans ((FRw.nj f32 (by decide)).trans ((FRw.nj f28 (by decide)).trans ((FRw.nj f24 (by decide)).trans ((FRw.nj f20 (by decide)).trans ((FRw.nj f16 (by decide)).trans ((FRw.nj f12 (by decide)).trans ((FRw.nj f8 (by decide)).trans e5)))))))))))
          refine wp_use (m_216 τ201 g202   _ _ (by omega) (by omega)) ?_
          rintro _ τ215 ⟨z218, rfl, h219, g216, f217, p209, p210, p211, p212, p213, p214⟩
          have b220 := GI.b hg 118 (τ215.1 117 2).toNat kd118 (lo := 0) (hi := 255) rfl
          have q221 : (τ201.1 118 (τ215.1 117 2).toNat) = (σ.1 118 (τ215.1 117 2).toNat) := ((FR.at f203 118 (τ215.1 117 2).toNat rfl).trans ((FR.at f55 118 (τ215.1 117 2).toNat rfl).trans ((FRw.na f40 (by decide)).trans ((FRw.na f36 (by decide)).trans ((FRw.na f32 (by decide)).trans ((FRw.na f28 (by decide)).trans ((FRw.na f24 (by decide)).trans ((FRw.na f20 (by decide)).trans ((FRw.na f16 (by decide)).trans ((FRw.na f12 (by decide)).trans ((FRw.na f8 (by decide)).trans (FRw.na f4 (by decide)))))))))))))
          show WP 324 99 [(0, .ref 117), (1, iV z56)] [iV z218] _ _ _ _
          refine wp_ic jF_324_99 rfl (pc2 := 100) ?_
          refine wp_i_eq jF_324_100 (m_rgb h219 rfl) (m_rgl rfl) rfl (pc2 := 103) ?_ ?_
          · intro h222
            clear p209
            clear p214
            have q223 : (dp τ215) = (dp τ201) := (dp_fr f217 (fun _ => rfl) rfl)
            have q224 : (τ215.1 117 5) = (τ201.1 117 5) := (FR.at f217 117 5 rfl)
            exact jn150 () τ215 ⟨g216, (FR.up (FR.up FR.rf f203 sb_Wqs_Wakj) f217 sb_Wat_Wakj), (by omega)⟩
          · intro h222
            replace p209 := p209 (by omega)
            replace p214 := p214 (by omega)
            refine wp_al1 jF_324_103 rfl rfl (pc2 := 104) ?_
            refine wp_ic jF_324_104 rfl (pc2 := 105) ?_
            refine wp_al1 jF_324_105 rfl rfl (pc2 := 106) ?_
            have b225 := GI.b g216 117 2 kd117 (lo := 0) (hi := 1601) rfl
            refine wp_gi jF_324_106 kd117 (by decide) rfl rfl rfl (pc2 := 109) ?_
            refine wp_cV (as := [iV 1, iV (τ215.1 117 2)]) (rest := []) (a := 117) (mx := 3) (ci := 12) jF_324_109 kd117 (by decide) rfl rfl rfl rfl rfl (by omega) (by omega) rfl (pc2 := 112) ?_
            have q226 : (τ215.1 117 5) = (τ201.1 117 5) := (FR.at f217 117 5 rfl)
            refine wp_use (m_218 τ215 g216 1 (by omega) (by omega) (τ215.1 117 2) (by omega) (by omega)  _ _ (by omega) (by omega)) ?_
            rintro _ τ229 ⟨rfl, g230, f231, p227, p228⟩
            clear p227
            replace p228 := p228 (by omega)
            show WP 324 112 [(0, .ref 117), (1, iV z56)] [] _ _ _ _
            have q232 : (dp τ229) = (dp τ201) := ((dp_fr f231 (fun _ => rfl) rfl).trans (dp_fr f217 (fun _ => rfl) rfl))
            have b233 := GI.b g230 117 5 kd117 (lo := (-2147483648)) (hi := 2147483647) rfl
            exact jn150 () τ229 ⟨g230, (FR.up (FR.up (FR.up FR.rf f203 sb_Wqs_Wakj) f217 sb_Wat_Wakj) f231 sb_Wbad_Wakj), (by omega)⟩
    · intro h152
      refine wp_il1 jF_324_65 rfl rfl (pc2 := 66) ?_
      refine wp_ic jF_324_66 rfl (pc2 := 67) ?_
      refine wp_i_ge jF_324_67 (m_rgb h57 rfl) (m_rgl rfl) rfl (pc2 := 70) ?_ ?_
      · intro h234
        refine wp_al1 jF_324_77 rfl rfl (pc2 := 78) ?_
        refine wp_gi jF_324_78 kd117 (by decide) rfl rfl rfl (pc2 := 81) ?_
        refine wp_z_ne jF_324_81 (m_rgb b151 rfl) rfl (pc2 := 84) ?_ ?_
        · intro h235
          have q236 : (dp τ53) = (dp τ26) := ((dp_fr f55 (fun _ => rfl) rfl).trans ((dp_wr f40 (by decide)).trans ((dp_wr f36 (by decide)).trans (dp_wr f32 (by decide)))))
          have q237 := ws_nn (σ := τ30)
          have q238 : (ws τ53) = (ws τ30) := ((ws_fr f55 (fun _ => rfl) rfl).trans ((ws_wr f40 (by decide)).trans (ws_wr f36 (by decide))))
          refine wp_al1 jF_324_88 rfl rfl (pc2 := 89) ?_
          refine wp_gi jF_324_89 kd117 (by decide) rfl rfl rfl (pc2 := 92) ?_
          refine wp_z_ne jF_324_92 (m_rgb b151 rfl) rfl (pc2 := 95) ?_ ?_
          · intro h239
            exact jn150 () τ53 ⟨g54, FR.rf, (by omega)⟩
          · intro h239
            refine wp_al1 jF_324_95 rfl rfl (pc2 := 96) ?_
            refine wp_cV (as := []) (rest := []) (a := 117) (mx := 1) (ci := 12) jF_324_96 kd117 (by decide) rfl rfl rfl rfl rfl (by omega) (by omega) rfl (pc2 := 99) ?_
            have b240 := GI.b g54 117 2 kd117 (lo := 0) (hi := 1601) rfl
            have q241 : (τ53.1 117 3) = (σ.1 117 1) := ((FR.at f55 117 3 rfl).trans ((FRw.nj f40 (by decide)).trans ((FRw.nj f36 (by decide)).trans ((FRw.nj f32 (by decide)).trans ((FRw.nj f28 (by decide)).trans ((FRw.nj f24 (by decide)).trans ((FRw.nj f20 (by decide)).trans ((FRw.nj f16 (by decide)).trans ((FRw.nj f12 (by decide)).trans ((FRw.nj f8 (by decide)).trans e5))))))))))
            refine wp_use (m_216 τ53 g54   _ _ (by omega) (by omega)) ?_
            rintro _ τ248 ⟨z251, rfl, h252, g249, f250, p242, p243, p244, p245, p246, p247⟩
            have b253 := GI.b hg 118 (τ248.1 117 2).toNat kd118 (lo := 0) (hi := 255) rfl
            have q254 : (τ53.1 118 (τ248.1 117 2).toNat) = (σ.1 118 (τ248.1 117 2).toNat) := ((FR.at f55 118 (τ248.1 117 2).toNat rfl).trans ((FRw.na f40 (by decide)).trans ((FRw.na f36 (by decide)).trans ((FRw.na f32 (by decide)).trans ((FRw.na f28 (by decide)).trans ((FRw.na f24 (by decide)).trans ((FRw.na f20 (by decide)).trans ((FRw.na f16 (by decide)).trans ((FRw.na f12 (by decide)).trans ((FRw.na f8 (by decide)).trans (FRw.na f4 (by decide))))))))))))
            show WP 324 99 [(0, .ref 117), (1, iV z56)] [iV z251] _ _ _ _
            refine wp_ic jF_324_99 rfl (pc2 := 100) ?_
            refine wp_i_eq jF_324_100 (m_rgb h252 rfl) (m_rgl rfl) rfl (pc2 := 103) ?_ ?_
            · intro h255
              clear p242
              clear p247
              have q256 : (dp τ248) = (dp τ26) := ((dp_fr f250 (fun _ => rfl) rfl).trans ((dp_fr f55 (fun _ => rfl) rfl).trans ((dp_wr f40 (by decide)).trans ((dp_wr f36 (by decide)).trans (dp_wr f32 (by decide))))))
              have q257 : (τ248.1 117 5) = (τ53.1 117 5) := (FR.at f250 117 5 rfl)
              exact jn150 () τ248 ⟨g249, (FR.up FR.rf f250 sb_Wat_Wakj), (by omega)⟩
            · intro h255
              replace p242 := p242 (by omega)
              replace p247 := p247 (by omega)
              refine wp_al1 jF_324_103 rfl rfl (pc2 := 104) ?_
              refine wp_ic jF_324_104 rfl (pc2 := 105) ?_
              refine wp_al1 jF_324_105 rfl rfl (pc2 := 106) ?_
              have b258 := GI.b g249 117 2 kd117 (lo := 0) (hi := 1601) rfl
              refine wp_gi jF_324_106 kd117 (by decide) rfl rfl rfl (pc2 := 109) ?_
              refine wp_cV (as := [iV 1, iV (τ248.1 117 2)]) (rest := []) (a := 117) (mx := 3) (ci := 12) jF_324_109 kd117 (by decide) rfl rfl rfl rfl rfl (by omega) (by omega) rfl (pc2 := 112) ?_
              have q259 : (τ248.1 117 5) = (τ53.1 117 5) := (FR.at f250 117 5 rfl)
              refine wp_use (m_218 τ248 g249 1 (by omega) (by omega) (τ248.1 117 2) (by omega) (by omega)  _ _ (by omega) (by omega)) ?_
              rintro _ τ262 ⟨rfl, g263, f264, p260, p261⟩
              replace p260 := p260 (by omega)
              clear p261
              show WP 324 112 [(0, .ref 117), (1, iV z56)] [] _ _ _ _
              have q265 : (dp τ262) = (dp τ26) := ((dp_fr f264 (fun _ => rfl) rfl).trans ((dp_fr f250 (fun _ => rfl) rfl).trans ((dp_fr f55 (fun _ => rfl) rfl).trans ((dp_wr f40 (by decide)).trans ((dp_wr f36 (by decide)).trans (dp_wr f32 (by decide)))))))
              have b266 := GI.b g263 117 5 kd117 (lo := (-2147483648)) (hi := 2147483647) rfl
              exact jn150 () τ262 ⟨g263, (FR.up (FR.up FR.rf f250 sb_Wat_Wakj) f264 sb_Wbad_Wakj), (by omega)⟩
        · intro h235
          refine wp_al1 jF_324_84 rfl rfl (pc2 := 85) ?_
          refine wp_cV (as := []) (rest := []) (a := 117) (mx := 3) (ci := 12) jF_324_85 kd117 (by decide) rfl rfl rfl rfl rfl (by omega) (by omega) rfl (pc2 := 88) ?_
          have q267 : (dp τ53) = (dp τ26) := ((dp_fr f55 (fun _ => rfl) rfl).trans ((dp_wr f40 (by decide)).trans ((dp_wr f36 (by decide)).trans (dp_wr f32 (by decide)))))
          have q268 := ws_nn (σ := τ30)
          have q269 : (ws τ53) = (ws τ30) := ((ws_fr f55 (fun _ => rfl) rfl).trans ((ws_wr f40 (by decide)).trans (ws_wr f36 (by decide))))
          have q270 : (tt τ53) = (tt τ30) := ((tt_fr f55 (fun _ => rfl) rfl).trans ((tt_wr f40 (by decide)).trans (tt_wr f36 (by decide))))
          have b271 := GI.b g54 117 2 kd117 (lo := 0) (hi := 1601) rfl
          have q272 : (τ53.1 117 87) = 0 := ((FR.at f55 117 87 rfl).trans ((FRw.nj f40 (by decide)).trans ((FRw.nj f36 (by decide)).trans ((FRw.nj f32 (by decide)).trans e29))))
          have q273 : (τ53.1 117 89) = 0 := ((FR.at f55 117 89 rfl).trans ((FRw.nj f40 (by decide)).trans ((FRw.nj f36 (by decide)).trans e33)))
          have q274 : (τ53.1 117 91) = 0 := ((FR.at f55 117 91 rfl).trans e41)
          refine wp_use (m_330 τ53 g54  (by omega) (by omega) (by omega) (by omega) _ _ (by omega) (by omega)) ?_
          rintro _ τ283 ⟨rfl, g284, f285, p275, p276, p277, p278, p279, p280, p281, p282⟩
          show WP 324 88 [(0, .ref 117), (1, iV z56)] [] _ _ _ _
          have q286 := ws_nn (σ := τ283)
          refine wp_al1 jF_324_88 rfl rfl (pc2 := 89) ?_
          have b287 := GI.b g284 117 5 kd117 (lo := (-2147483648)) (hi := 2147483647) rfl
          refine wp_gi jF_324_89 kd117 (by decide) rfl rfl rfl (pc2 := 92) ?_
          refine wp_z_ne jF_324_92 (m_rgb b287 rfl) rfl (pc2 := 95) ?_ ?_
          · intro h288
            clear p277
            clear p278
            clear p279
            clear p280
            clear p281
            exact jn150 () τ283 ⟨g284, (FR.up FR.rf f285 sb_Wqs_Wakj), (by omega)⟩
          · intro h288
            replace p277 := p277 (by omega)
            replace p278 := p278 (by omega)
            replace p279 := p279 (by omega)
            replace p280 := p280 (by omega)
            replace p281 := p281 (by omega)
            refine wp_al1 jF_324_95 rfl rfl (pc2 := 96) ?_
            refine wp_cV (as := []) (rest := []) (a := 117) (mx := 1) (ci := 12) jF_324_96 kd117 (by decide) rfl rfl rfl rfl rfl (by omega) (by omega) rfl (pc2 := 99) ?_
            have b289 := GI.b g284 117 2 kd117 (lo := 0) (hi := 1601) rfl
            have q290 : (τ283.1 117 3) = (σ.1 117 1) := ((FR.at f285 117 3 rfl).trans ((FR.at f55 117 3 rfl).trans ((FRw.nj f40 (by decide)).trans ((FRw.nj f36 (by decide)).trans ((FRw.nj f32 (by decide)).trans ((FRw.nj f28 (by decide)).trans ((FRw.nj f24 (by decide)).trans ((FRw.nj f20 (by decide)).trans ((FRw.nj f16 (by decide)).trans ((FRw.nj f12 (by decide)).trans ((FRw.nj f8 (by decide)).trans e5)))))))))))
            refine wp_use (m_216 τ283 g284   _ _ (by omega) (by omega)) ?_
            rintro _ τ297 ⟨z300, rfl, h301, g298, f299, p291, p292, p293, p294, p295, p296⟩
            have b302 := GI.b hg 118 (τ297.1 117 2).toNat kd118 (lo := 0) (hi := 255) rfl
            have q303 : (τ283.1 118 (τ297.1 117 2).toNat) = (σ.1 118 (τ297.1 117 2).toNat) := ((FR.at f285 118 (τ297.1 117 2).toNat rfl).trans ((FR.at f55 118 (τ297.1 117 2).toNat rfl).trans ((FRw.na f40 (by decide)).trans ((FRw.na f36 (by decide)).trans ((FRw.na f32 (by decide)).trans ((FRw.na f28 (by decide)).trans ((FRw.na f24 (by decide)).trans ((FRw.na f20 (by decide)).trans ((FRw.na f16 (by decide)).trans ((FRw.na f12 (by decide)).trans ((FRw.na f8 (by decide)).trans (FRw.na f4 (by decide)))))))))))))
            show WP 324 99 [(0, .ref 117), (1, iV z56)] [iV z300] _ _ _ _
            refine wp_ic jF_324_99 rfl (pc2 := 100) ?_
            refine wp_i_eq jF_324_100 (m_rgb h301 rfl) (m_rgl rfl) rfl (pc2 := 103) ?_ ?_
            · intro h304
              clear p291
              clear p296
              have q305 : (dp τ297) = (dp τ283) := (dp_fr f299 (fun _ => rfl) rfl)
              have q306 : (τ297.1 117 5) = (τ283.1 117 5) := (FR.at f299 117 5 rfl)
              exact jn150 () τ297 ⟨g298, (FR.up (FR.up FR.rf f285 sb_Wqs_Wakj) f299 sb_Wat_Wakj), (by omega)⟩
            · intro h304
              replace p291 := p291 (by omega)
              replace p296 := p296 (by omega)
              refine wp_al1 jF_324_103 rfl rfl (pc2 := 104) ?_
              refine wp_ic jF_324_104 rfl (pc2 := 105) ?_
              refine wp_al1 jF_324_105 rfl rfl (pc2 := 106) ?_
              have b307 := GI.b g298 117 2 kd117 (lo := 0) (hi := 1601) rfl
              refine wp_gi jF_324_106 kd117 (by decide) rfl rfl rfl (pc2 := 109) ?_
              refine wp_cV (as := [iV 1, iV (τ297.1 117 2)]) (rest := []) (a := 117) (mx := 3) (ci := 12) jF_324_109 kd117 (by decide) rfl rfl rfl rfl rfl (by omega) (by omega) rfl (pc2 := 112) ?_
              have q308 : (τ297.1 117 5) = (τ283.1 117 5) := (FR.at f299 117 5 rfl)
              refine wp_use (m_218 τ297 g298 1 (by omega) (by omega) (τ297.1 117 2) (by omega) (by omega)  _ _ (by omega) (by omega)) ?_
              rintro _ τ311 ⟨rfl, g312, f313, p309, p310⟩
              clear p309
              replace p310 := p310 (by omega)
              show WP 324 112 [(0, .ref 117), (1, iV z56)] [] _ _ _ _
              have q314 : (dp τ311) = (dp τ283) := ((dp_fr f313 (fun _ => rfl) rfl).trans (dp_fr f299 (fun _ => rfl) rfl))
              have b315 := GI.b g312 117 5 kd117 (lo := (-2147483648)) (hi := 2147483647) rfl
              exact jn150 () τ311 ⟨g312, (FR.up (FR.up (FR.up FR.rf f285 sb_Wqs_Wakj) f299 sb_Wat_Wakj) f313 sb_Wbad_Wakj), (by omega)⟩
      · intro h234
        refine wp_al1 jF_324_70 rfl rfl (pc2 := 71) ?_
        refine wp_cV (as := []) (rest := []) (a := 117) (mx := 3) (ci := 12) jF_324_71 kd117 (by decide) rfl rfl rfl rfl rfl (by omega) (by omega) rfl (pc2 := 74) ?_
        have q316 : (dp τ53) = (dp τ26) := ((dp_fr f55 (fun _ => rfl) rfl).trans ((dp_wr f40 (by decide)).trans ((dp_wr f36 (by decide)).trans (dp_wr f32 (by decide)))))
        have q317 := ws_nn (σ := τ30)
        have q318 : (ws τ53) = (ws τ30) := ((ws_fr f55 (fun _ => rfl) rfl).trans ((ws_wr f40 (by decide)).trans (ws_wr f36 (by decide))))
        have q319 : (tt τ53) = (tt τ30) := ((tt_fr f55 (fun _ => rfl) rfl).trans ((tt_wr f40 (by decide)).trans (tt_wr f36 (by decide))))
        have b320 := GI.b g54 117 2 kd117 (lo := 0) (hi := 1601) rfl
        have q321 : (τ53.1 117 87) = 0 := ((FR.at f55 117 87 rfl).trans ((FRw.nj f40 (by decide)).trans ((FRw.nj f36 (by decide)).trans ((FRw.nj f32 (by decide)).trans e29))))
        have q322 : (τ53.1 117 89) = 0 := ((FR.at f55 117 89 rfl).trans ((FRw.nj f40 (by decide)).trans ((FRw.nj f36 (by decide)).trans e33)))
        refine wp_use (m_326 τ53 g54  (by omega) (by omega) (by omega) (by omega) (by omega) _ _ (by omega) (by omega)) ?_
        rintro _ τ325 ⟨rfl, g326, f327, p323, p324⟩
        show WP 324 74 [(0, .ref 117), (1, iV z56)] [] _ _ _ _
        refine wp_go jF_324_74 ?_
        have q328 := ws_nn (σ := τ325)
        refine wp_al1 jF_324_88 rfl rfl (pc2 := 89) ?_
        have b329 := GI.b g326 117 5 kd117 (lo := (-2147483648)) (hi := 2147483647) rfl
        refine wp_gi jF_324_89 kd117 (by decide) rfl rfl rfl (pc2 := 92) ?_
        refine wp_z_ne jF_324_92 (m_rgb b329 rfl) rfl (pc2 := 95) ?_ ?_
        · intro h330
          clear p324
          exact jn150 () τ325 ⟨g326, (FR.up FR.rf f327 sb_Wqs_Wakj), (by omega)⟩
        · intro h330
          replace p324 := p324 (by omega)
          refine wp_al1 jF_324_95 rfl rfl (pc2 := 96) ?_
          refine wp_cV (as := []) (rest := []) (a := 117) (mx := 1) (ci := 12) jF_324_96 kd117 (by decide) rfl rfl rfl rfl rfl (by omega) (by omega) rfl (pc2 := 99) ?_
          have b331 := GI.b g326 117 2 kd117 (lo := 0) (hi := 1601) rfl
          have q332 : (τ325.1 117 3) = (σ.1 117 1) := ((FR.at f327 117 3 rfl).trans ((FR.at f55 117 3 rfl).trans ((FRw.nj f40 (by decide)).trans ((FRw.nj f36 (by decide)).trans ((FRw.nj f32 (by decide)).trans ((FRw.nj f28 (by decide)).trans ((FRw.nj f24 (by decide)).trans ((FRw.nj f20 (by decide)).trans ((FRw.nj f16 (by decide)).trans ((FRw.nj f12 (by decide)).trans ((FRw.nj f8 (by decide)).trans e5)))))))))))
          refine wp_use (m_216 τ325 g326   _ _ (by omega) (by omega)) ?_
          rintro _ τ339 ⟨z342, rfl, h343, g340, f341, p333, p334, p335, p336, p337, p338⟩
          have b344 := GI.b hg 118 (τ339.1 117 2).toNat kd118 (lo := 0) (hi := 255) rfl
          have q345 : (τ325.1 118 (τ339.1 117 2).toNat) = (σ.1 118 (τ339.1 117 2).toNat) := ((FR.at f327 118 (τ339.1 117 2).toNat rfl).trans ((FR.at f55 118 (τ339.1 117 2).toNat rfl).trans ((FRw.na f40 (by decide)).trans ((FRw.na f36 (by decide)).trans ((FRw.na f32 (by decide)).trans ((FRw.na f28 (by decide)).trans ((FRw.na f24 (by decide)).trans ((FRw.na f20 (by decide)).trans ((FRw.na f16 (by decide)).trans ((FRw.na f12 (by decide)).trans ((FRw.na f8 (by decide)).trans (FRw.na f4 (by decide)))))))))))))
          show WP 324 99 [(0, .ref 117), (1, iV z56)] [iV z342] _ _ _ _
          refine wp_ic jF_324_99 rfl (pc2 := 100) ?_
          refine wp_i_eq jF_324_100 (m_rgb h343 rfl) (m_rgl rfl) rfl (pc2 := 103) ?_ ?_
          · intro h346
            clear p333
            clear p338
            have q347 : (dp τ339) = (dp τ325) := (dp_fr f341 (fun _ => rfl) rfl)
            have q348 : (τ339.1 117 5) = (τ325.1 117 5) := (FR.at f341 117 5 rfl)
            exact jn150 () τ339 ⟨g340, (FR.up (FR.up FR.rf f327 sb_Wqs_Wakj) f341 sb_Wat_Wakj), (by omega)⟩
          · intro h346
            replace p333 := p333 (by omega)
            replace p338 := p338 (by omega)
            refine wp_al1 jF_324_103 rfl rfl (pc2 := 104) ?_
            refine wp_ic jF_324_104 rfl (pc2 := 105) ?_
            refine wp_al1 jF_324_105 rfl rfl (pc2 := 106) ?_
            have b349 := GI.b g340 117 2 kd117 (lo := 0) (hi := 1601) rfl
            refine wp_gi jF_324_106 kd117 (by decide) rfl rfl rfl (pc2 := 109) ?_
            refine wp_cV (as := [iV 1, iV (τ339.1 117 2)]) (rest := []) (a := 117) (mx := 3) (ci := 12) jF_324_109 kd117 (by decide) rfl rfl rfl rfl rfl (by omega) (by omega) rfl (pc2 := 112) ?_
            have q350 : (τ339.1 117 5) = (τ325.1 117 5) := (FR.at f341 117 5 rfl)
            refine wp_use (m_218 τ339 g340 1 (by omega) (by omega) (τ339.1 117 2) (by omega) (by omega)  _ _ (by omega) (by omega)) ?_
            rintro _ τ353 ⟨rfl, g354, f355, p351, p352⟩
            clear p351
            replace p352 := p352 (by omega)
            show WP 324 112 [(0, .ref 117), (1, iV z56)] [] _ _ _ _
            have q356 : (dp τ353) = (dp τ325) := ((dp_fr f355 (fun _ => rfl) rfl).trans (dp_fr f341 (fun _ => rfl) rfl))
            have b357 := GI.b g354 117 5 kd117 (lo := (-2147483648)) (hi := 2147483647) rfl
            exact jn150 () τ353 ⟨g354, (FR.up (FR.up (FR.up FR.rf f327 sb_Wqs_Wakj) f341 sb_Wat_Wakj) f355 sb_Wbad_Wakj), (by omega)⟩
