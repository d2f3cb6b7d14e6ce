set_option maxHeartbeats 4000000 in
set_option maxRecDepth 20000 in
/-- M.ask -/
theorem m_324 (σ : jM) (hg : GI σ)  (pre0 : (l0 σ) = 22) (pre1 : (l1 σ) = 22) (fr lo : Nat) (hfr : 9 ≤ fr) (hlo : 196 ≤ lo) : WP 324 0 (lv_args 0 [.ref 117]) [] fr lo σ (fun v τ => ∃ z : Int64, v = some (.long z) ∧ GI τ ∧ FR Wak σ τ) := by
  show WP 324 0 [(0, .ref 117)] [] _ _ _ _
  refine wp_al1 jF_324_0 rfl rfl (pc2 := 1) ?_
  refine wp_al1 jF_324_1 rfl rfl (pc2 := 2) ?_
  have b1 := GI.b hg 117 1 kd117 (lo := 0) (hi := 1600) rfl
  refine wp_gi jF_324_2 kd117 (by decide) rfl rfl rfl (pc2 := 5) ?_
  refine wp_pi jF_324_5 kd117 (by decide) rfl rfl rfl (pc2 := 8) hg (lo := 0) (hi := 1600) rfl (by omega) (by omega) ?_
  intro τ2 g3 f4 e5
  refine wp_al1 jF_324_8 rfl rfl (pc2 := 9) ?_
  refine wp_ic jF_324_9 rfl (pc2 := 10) ?_
  refine wp_pi jF_324_10 kd117 (by decide) rfl rfl rfl (pc2 := 13) g3 (lo := 0) (hi := 1600) rfl (by omega) (by omega) ?_
  intro τ6 g7 f8 e9
  refine wp_al1 jF_324_13 rfl rfl (pc2 := 14) ?_
  refine wp_ic jF_324_14 rfl (pc2 := 15) ?_
  refine wp_pi jF_324_15 kd117 (by decide) rfl rfl rfl (pc2 := 18) g7 (lo := 0) (hi := 1601) rfl (by omega) (by omega) ?_
  intro τ10 g11 f12 e13
  refine wp_al1 jF_324_18 rfl rfl (pc2 := 19) ?_
  refine wp_ic jF_324_19 rfl (pc2 := 20) ?_
  refine wp_pi jF_324_20 kd117 (by decide) rfl rfl rfl (pc2 := 23) g11 (lo := (-2147483648)) (hi := 2147483647) rfl (by omega) (by omega) ?_
  intro τ14 g15 f16 e17
  refine wp_al1 jF_324_23 rfl rfl (pc2 := 24) ?_
  refine wp_ic jF_324_24 rfl (pc2 := 25) ?_
  refine wp_pi jF_324_25 kd117 (by decide) rfl rfl rfl (pc2 := 28) g15 (lo := (-2147483648)) (hi := 2147483647) rfl (by omega) (by omega) ?_
  intro τ18 g19 f20 e21
  refine wp_al1 jF_324_28 rfl rfl (pc2 := 29) ?_
  refine wp_ic jF_324_29 rfl (pc2 := 30) ?_
  refine wp_pi jF_324_30 kd117 (by decide) rfl rfl rfl (pc2 := 33) g19 (lo := (-2147483648)) (hi := 2147483647) rfl (by omega) (by omega) ?_
  intro τ22 g23 f24 e25
  refine wp_al1 jF_324_33 rfl rfl (pc2 := 34) ?_
  refine wp_ic jF_324_34 rfl (pc2 := 35) ?_
  refine wp_pi jF_324_35 kd117 (by decide) rfl rfl rfl (pc2 := 38) g23 (lo := 0) (hi := 1690) rfl (by omega) (by omega) ?_
  intro τ26 g27 f28 e29
  refine wp_al1 jF_324_38 rfl rfl (pc2 := 39) ?_
  refine wp_ic jF_324_39 rfl (pc2 := 40) ?_
  refine wp_pi jF_324_40 kd117 (by decide) rfl rfl rfl (pc2 := 43) g27 (lo := 0) (hi := 1690) rfl (by omega) (by omega) ?_
  intro τ30 g31 f32 e33
  refine wp_al1 jF_324_43 rfl rfl (pc2 := 44) ?_
  refine wp_ic jF_324_44 rfl (pc2 := 45) ?_
  refine wp_pi jF_324_45 kd117 (by decide) rfl rfl rfl (pc2 := 48) g31 (lo := (-2147483648)) (hi := 2147483647) rfl (by omega) (by omega) ?_
  intro τ34 g35 f36 e37
  refine wp_al1 jF_324_48 rfl rfl (pc2 := 49) ?_
  refine wp_ic jF_324_49 rfl (pc2 := 50) ?_
  refine wp_pi jF_324_50 kd117 (by decide) rfl rfl rfl (pc2 := 53) g35 (lo := 0) (hi := 1690) rfl (by omega) (by omega) ?_
  intro τ38 g39 f40 e41
  have q42 : (dp τ38) = (dp τ26) := ((dp_wr f40 (by decide)).trans ((dp_wr f36 (by decide)).trans (dp_wr f32 (by decide))))
  have q43 := ws_nn (σ := τ30)
  have q44 : (ws τ38) = (ws τ30) := ((ws_wr f40 (by decide)).trans (ws_wr f36 (by decide)))
  have q45 : (tt τ38) = (tt τ30) := ((tt_wr f40 (by decide)).trans (tt_wr f36 (by decide)))
  have q46 : (τ38.1 117 87) = 0 := ((FRw.nj f40 (by decide)).trans ((FRw.nj f36 (by decide)).trans ((FRw.nj f32 (by decide)).trans e29)))
  have q47 : (τ38.1 117 89) = 0 := ((FRw.nj f40 (by decide)).trans ((FRw.nj f36 (by decide)).trans e33))
  have n48 := dp_0 (σ := τ38) (by omega)
  have n49 := ws_0 (σ := τ38) (by omega)
  have n50 := tt_0 (σ := τ38) (by omega)
  refine wp_al1 jF_324_53 rfl rfl (pc2 := 54) ?_
  refine wp_cV (as := []) (rest := []) (a := 117) (mx := 2) (ci := 12) jF_324_54 kd117 (by decide) rfl rfl rfl rfl rfl (by omega) (by omega) rfl (pc2 := 57) ?_
  have q51 : (τ38.1 117 2) = 0 := ((FRw.nj f40 (by decide)).trans ((FRw.nj f36 (by decide)).trans ((FRw.nj f32 (by decide)).trans ((FRw.nj f28 (by decide)).trans ((FRw.nj f24 (by decide)).trans ((FRw.nj f20 (by decide)).trans ((FRw.nj f16 (by decide)).trans e13)))))))
  refine wp_use (m_325 τ38 g39   _ _ (by omega) (by omega)) ?_
  rintro _ τ53 ⟨z56, rfl, h57, g54, f55, p52⟩
  show WP 324 57 [(0, .ref 117)] [iV z56] _ _ _ _
  refine wp_is1 (lv2 := [(0, .ref 117), (1, iV z56)]) jF_324_57 rfl rfl rfl (pc2 := 58) ?_
  refine wp_join (α := Unit) 112 (fun a => [(0, .ref 117), (1, iV z56)]) (fun a τ => GI τ ∧ FR Wak τ53 τ ∧ ((τ.1 117 5) = 0 → 0 ≤ (dp τ))) ?_ ?_
  · rintro ⟨⟩ τ58 ⟨g59, f60, p61⟩
    have b62 := GI.b g59 117 5 kd117 (lo := (-2147483648)) (hi := 2147483647) rfl
    clear p52
    show WP 324 112 [(0, .ref 117), (1, iV z56)] [] _ _ _ _
    refine wp_al1 jF_324_112 rfl rfl (pc2 := 113) ?_
    refine wp_al1 jF_324_113 rfl rfl (pc2 := 114) ?_
    refine wp_gi jF_324_114 kd117 (by decide) rfl rfl rfl (pc2 := 117) ?_
    refine wp_pi jF_324_117 kd117 (by decide) rfl rfl rfl (pc2 := 120) g59 (lo := (-2147483648)) (hi := 2147483647) rfl (by omega) (by omega) ?_
    intro τ63 g64 f65 e66
    refine wp_al1 jF_324_120 rfl rfl (pc2 := 121) ?_
    refine wp_al1 jF_324_121 rfl rfl (pc2 := 122) ?_
    have b67 := GI.b g59 117 6 kd117 (lo := (-2147483648)) (hi := 2147483647) rfl
    refine wp_gi jF_324_122 kd117 (by decide) rfl (FRw.nj f65 (by decide)) rfl (pc2 := 125) ?_
    refine wp_pi jF_324_125 kd117 (by decide) rfl rfl rfl (pc2 := 128) g64 (lo := (-2147483648)) (hi := 2147483647) rfl (by omega) (by omega) ?_
    intro τ68 g69 f70 e71
    refine wp_al1 jF_324_128 rfl rfl (pc2 := 129) ?_
    refine wp_gi jF_324_129 kd117 (by decide) rfl ((FRw.nj f70 (by decide)).trans (FRw.nj f65 (by decide))) rfl (pc2 := 132) ?_
    refine wp_z_eq jF_324_132 (m_rgb b62 rfl) rfl (pc2 := 135) ?_ ?_
    · intro h72
      replace p61 := p61 (by omega)
      have q73 : (dp τ68) = (dp τ58) := ((dp_wr f70 (by decide)).trans (dp_wr f65 (by decide)))
      have q74 := ws_nn (σ := τ58)
      have q75 : (ws τ68) = (ws τ58) := ((ws_wr f70 (by decide)).trans (ws_wr f65 (by decide)))
      refine wp_al1 jF_324_139 rfl rfl (pc2 := 140) ?_
      refine wp_il1 jF_324_140 rfl rfl (pc2 := 141) ?_
      refine wp_ic jF_324_141 rfl (pc2 := 142) ?_
      refine wp_i_ge jF_324_142 (m_rgb h57 rfl) (m_rgl rfl) rfl (pc2 := 145) ?_ ?_
      · intro h76
        refine wp_lc jF_324_151 rfl (pc2 := 152) ?_
        refine wp_pl jF_324_152 kd117 (by decide) rfl rfl (pc2 := 155) g69 ?_
        intro τ77 g78 f79
        refine wp_al1 jF_324_155 rfl rfl (pc2 := 156) ?_
        refine wp_ic jF_324_156 rfl (pc2 := 157) ?_
        refine wp_pi jF_324_157 kd117 (by decide) rfl rfl rfl (pc2 := 160) g78 (lo := 0) (hi := 1) rfl (by omega) (by omega) ?_
        intro τ80 g81 f82 e83
        refine wp_ic jF_324_160 rfl (pc2 := 161) ?_
        refine wp_is1 (lv2 := [(0, .ref 117), (1, iV z56), (2, iV 0)]) jF_324_161 rfl rfl rfl (pc2 := 162) ?_
        refine wp_loop (α := Int) (fun a => [(0, .ref 117), (1, iV z56), (2, iV (a))]) (fun a τ => (0 ≤ a ∧ a ≤ 64) ∧ GI τ ∧ FR Wql τ80 τ) (fun a τ => Int.toNat (64 - (a))) (0) τ80 ?_ ?_
        · skip
          exact ⟨⟨by omega, by omega⟩, g81, FR.rf⟩
        · rintro x84 τ86 ⟨h85, g87, f88⟩ ih89
          show WP 324 162 [(0, .ref 117), (1, iV z56), (2, iV x84)] [] _ _ _ _
          show WP 324 162 [(0, .ref 117), (1, iV z56), (2, iV x84)] [] _ _ _ _
          refine wp_il1 jF_324_162 rfl rfl (pc2 := 163) ?_
          refine wp_al1 jF_324_163 rfl rfl (pc2 := 164) ?_
          refine wp_cV (as := []) (rest := [iV x84]) (a := 117) (mx := 1) (ci := 12) jF_324_164 kd117 (by decide) rfl rfl rfl rfl rfl (by omega) (by omega) rfl (pc2 := 167) ?_
          have q90 : (m0 τ86) = (m0 σ) := ((m0_fr f88 (fun _ => rfl)).trans ((m0_wr f82 (by decide)).trans ((m0_wr f79 (by decide)).trans ((m0_wr f70 (by decide)).trans ((m0_wr f65 (by decide)).trans ((m0_fr f60 (fun _ => rfl)).trans ((m0_fr f55 (fun _ => rfl)).trans ((m0_wr f40 (by decide)).trans ((m0_wr f36 (by decide)).trans ((m0_wr f32 (by decide)).trans ((m0_wr f28 (by decide)).trans ((m0_wr f24 (by decide)).trans ((m0_wr f20 (by decide)).trans ((m0_wr f16 (by decide)).trans ((m0_wr f12 (by decide)).trans ((m0_wr f8 (by decide)).trans (m0_wr f4 (by decide))))))))))))))))))
          have q91 : (m1 τ86) = (m1 σ) := ((m1_fr f88 (fun _ => rfl)).trans ((m1_wr f82 (by decide)).trans ((m1_wr f79 (by decide)).trans ((m1_wr f70 (by decide)).trans ((m1_wr f65 (by decide)).trans ((m1_fr f60 (fun _ => rfl)).trans ((m1_fr f55 (fun _ => rfl)).trans ((m1_wr f40 (by decide)).trans ((m1_wr f36 (by decide)).trans ((m1_wr f32 (by decide)).trans ((m1_wr f28 (by decide)).trans ((m1_wr f24 (by decide)).trans ((m1_wr f20 (by decide)).trans ((m1_wr f16 (by decide)).trans ((m1_wr f12 (by decide)).trans ((m1_wr f8 (by decide)).trans (m1_wr f4 (by decide))))))))))))))))))
          have q92 : (m2 τ86) = (m2 σ) := ((m2_fr f88 (fun _ => rfl)).trans ((m2_wr f82 (by decide)).trans ((m2_wr f79 (by decide)).trans ((m2_wr f70 (by decide)).trans ((m2_wr f65 (by decide)).trans ((m2_fr f60 (fun _ => rfl)).trans ((m2_fr f55 (fun _ => rfl)).trans ((m2_wr f40 (by decide)).trans ((m2_wr f36 (by decide)).trans ((m2_wr f32 (by decide)).trans ((m2_wr f28 (by decide)).trans ((m2_wr f24 (by decide)).trans ((m2_wr f20 (by decide)).trans ((m2_wr f16 (by decide)).trans ((m2_wr f12 (by decide)).trans ((m2_wr f8 (by decide)).trans (m2_wr f4 (by decide))))))))))))))))))
          have q93 : (cm τ86) = (cm σ) := ((cm_fr f88 (fun _ => rfl)).trans ((cm_wr f82 (by decide)).trans ((cm_wr f79 (by decide)).trans ((cm_wr f70 (by decide)).trans ((cm_wr f65 (by decide)).trans ((cm_fr f60 (fun _ => rfl)).trans ((cm_fr f55 (fun _ => rfl)).trans ((cm_wr f40 (by decide)).trans ((cm_wr f36 (by decide)).trans ((cm_wr f32 (by decide)).trans ((cm_wr f28 (by decide)).trans ((cm_wr f24 (by decide)).trans ((cm_wr f20 (by decide)).trans ((cm_wr f16 (by decide)).trans ((cm_wr f12 (by decide)).trans ((cm_wr f8 (by decide)).trans (cm_wr f4 (by decide))))))))))))))))))
          refine wp_use (m_243 τ86 g87   _ _ (by omega) (by omega)) ?_
          rintro _ _ ⟨z98, rfl, h99, rfl, p94, p95⟩
          show WP 324 167 [(0, .ref 117), (1, iV z56), (2, iV x84)] [iV z98, iV x84] _ _ _ _
          refine wp_i_ge jF_324_167 (m_rgb h85 rfl) (m_rgb h99 rfl) rfl (pc2 := 170) ?_ ?_
          · intro h100
            refine wp_al1 jF_324_187 rfl rfl (pc2 := 188) ?_
            refine wp_glA jF_324_188 kd117 (by decide) rfl rfl (pc2 := 191) ?_
            intro y101
            refine wp_rl jF_324_191 ?_
            exact ⟨y101, rfl, g87, (FR.up (FR.w (FR.w (FR.w (FR.w (FR.up (FR.up (FR.w (FR.w (FR.w (FR.w (FR.w (FR.w (FR.w (FR.w (FR.w (FR.w FR.rf f4 rfl) f8 rfl) f12 rfl) f16 rfl) f20 rfl) f24 rfl) f28 rfl) f32 rfl) f36 rfl) f40 rfl) f55 sb_Wask_Wak) f60 sb_Wak_Wak) f65 rfl) f70 rfl) f79 rfl) f82 rfl) f88 sb_Wql_Wak)⟩
          · intro h100
            refine wp_al1 jF_324_170 rfl rfl (pc2 := 171) ?_
            refine wp_il1 jF_324_171 rfl rfl (pc2 := 172) ?_
            refine wp_al1 jF_324_172 rfl rfl (pc2 := 173) ?_
            refine wp_il1 jF_324_173 rfl rfl (pc2 := 174) ?_
            refine wp_cV (as := [iV x84]) (rest := [iV z56, .ref 117]) (a := 117) (mx := 4) (ci := 12) jF_324_174 kd117 (by decide) rfl rfl rfl rfl rfl (by omega) (by omega) rfl (pc2 := 177) ?_
            have q102 : (l0 τ86) = (l0 σ) := ((l0_fr f88 rfl (fun _ => rfl)).trans ((l0_wr f82 (by decide)).trans ((l0_wr f79 (by decide)).trans ((l0_wr f70 (by decide)).trans ((l0_wr f65 (by decide)).trans ((l0_fr f60 rfl (fun _ => rfl)).trans ((l0_fr f55 rfl (fun _ => rfl)).trans ((l0_wr f40 (by decide)).trans ((l0_wr f36 (by decide)).trans ((l0_wr f32 (by decide)).trans ((l0_wr f28 (by decide)).trans ((l0_wr f24 (by decide)).trans ((l0_wr f20 (by decide)).trans ((l0_wr f16 (by decide)).trans ((l0_wr f12 (by decide)).trans ((l0_wr f8 (by decide)).trans (l0_wr f4 (by decide))))))))))))))))))
            have q103 : (l1 τ86) = (l1 σ) := ((l1_fr f88 rfl (fun _ => rfl)).trans ((l1_wr f82 (by decide)).trans ((l1_wr f79 (by decide)).trans ((l1_wr f70 (by decide)).trans ((l1_wr f65 (by decide)).trans ((l1_fr f60 rfl (fun _ => rfl)).trans ((l1_fr f55 rfl (fun _ => rfl)).trans ((l1_wr f40 (by decide)).trans ((l1_wr f36 (by decide)).trans ((l1_wr f32 (by decide)).trans ((l1_wr f28 (by decide)).trans ((l1_wr f24 (by decide)).trans ((l1_wr f20 (by decide)).trans ((l1_wr f16 (by decide)).trans ((l1_wr f12 (by decide)).trans ((l1_wr f8 (by decide)).trans (l1_wr f4 (by decide))))))))))))))))))
            have q104 : (dp τ86) = (dp τ58) := ((dp_fr f88 (fun _ => rfl) rfl).trans ((dp_wr f82 (by decide)).trans ((dp_wr f79 (by decide)).trans ((dp_wr f70 (by decide)).trans (dp_wr f65 (by decide))))))
            refine wp_use (m_345 τ86 g87 x84 (by omega) (by omega) (by omega) (by omega) (by omega) (by omega) (by omega) _ _ (by omega) (by omega)) ?_
            rintro _ τ105 ⟨y108, rfl, g106, f107⟩
            show WP 324 177 [(0, .ref 117), (1, iV z56), (2, iV x84)] [.long y108, iV z56, .ref 117] _ _ _ _
            refine wp_il1 jF_324_177 rfl rfl (pc2 := 178) ?_
            refine wp_cV (as := [iV z56, .long y108, iV x84]) (rest := []) (a := 117) (mx := 6) (ci := 12) jF_324_178 kd117 (by decide) rfl rfl rfl rfl rfl (by omega) (by omega) rfl (pc2 := 181) ?_
            refine wp_use (m_353 τ105 g106 z56 (by omega) (by omega) y108 x84 (by omega) (by omega)  _ _ (by omega) (by omega)) ?_
            rintro _ τ109 ⟨rfl, g110, f111⟩
            show WP 324 181 [(0, .ref 117), (1, iV z56), (2, iV x84)] [] _ _ _ _
            refine wp_inc (lv2 := [(0, .ref 117), (1, iV z56), (2, iV (x84 + 1))]) jF_324_181 rfl rfl rfl rfl (pc2 := 184) ?_
            refine wp_go jF_324_184 ?_
            exact ih89 ((x84 + 1)) τ109 ⟨⟨by omega, by omega⟩, g110, (FR.up (FR.up f88 f107 sb_Wqr_Wql) f111 sb_Wqt_Wql)⟩ (by show Int.toNat (64 - (x84 + 1)) < Int.toNat (64 - x84); omega)
      · intro h76
        refine wp_ld jF_324_145 rfl (pc2 := 148) ?_
        refine wp_go jF_324_148 ?_
        refine wp_pl jF_324_152 kd117 (by decide) rfl rfl (pc2 := 155) g69 ?_
        intro τ112 g113 f114
        refine wp_al1 jF_324_155 rfl rfl (pc2 := 156) ?_
        refine wp_ic jF_324_156 rfl (pc2 := 157) ?_
        refine wp_pi jF_324_157 kd117 (by decide) rfl rfl rfl (pc2 := 160) g113 (lo := 0) (hi := 1) rfl (by omega) (by omega) ?_
        intro τ115 g116 f117 e118
        refine wp_ic jF_324_160 rfl (pc2 := 161) ?_
        refine wp_is1 (lv2 := [(0, .ref 117), (1, iV z56), (2, iV 0)]) jF_324_161 rfl rfl rfl (pc2 := 162) ?_
        refine wp_loop (α := Int) (fun a => [(0, .ref 117), (1, iV z56), (2, iV (a))]) (fun a τ => (0 ≤ a ∧ a ≤ 64) ∧ GI τ ∧ FR Wql τ115 τ) (fun a τ => Int.toNat (64 - (a))) (0) τ115 ?_ ?_
        · skip
          exact ⟨⟨by omega, by omega⟩, g116, FR.rf⟩
        · rintro x119 τ121 ⟨h120, g122, f123⟩ ih124
          show WP 324 162 [(0, .ref 117), (1, iV z56), (2, iV x119)] [] _ _ _ _
          show WP 324 162 [(0, .ref 117), (1, iV z56), (2, iV x119)] [] _ _ _ _
          refine wp_il1 jF_324_162 rfl rfl (pc2 := 163) ?_
          refine wp_al1 jF_324_163 rfl rfl (pc2 := 164) ?_
          refine wp_cV (as := []) (rest := [iV x119]) (a := 117) (mx := 1) (ci := 12) jF_324_164 kd117 (by decide) rfl rfl rfl rfl rfl (by omega) (by omega) rfl (pc2 := 167) ?_
          have q125 : (m0 τ121) = (m0 σ) := ((m0_fr f123 (fun _ => rfl)).trans ((m0_wr f117 (by decide)).trans ((m0_wr f114 (by decide)).trans ((m0_wr f70 (by decide)).trans ((m0_wr f65 (by decide)).trans ((m0_fr f60 (fun _ => rfl)).trans ((m0_fr f55 (fun _ => rfl)).trans ((m0_wr f40 (by decide)).trans ((m0_wr f36 (by decide)).trans ((m0_wr f32 (by decide)).trans ((m0_wr f28 (by decide)).trans ((m0_wr f24 (by decide)).trans ((m0_wr f20 (by decide)).trans ((m0_wr f16 (by decide)).trans ((m0_wr f12 (by decide)).trans ((m0_wr f8 (by decide)).trans (m0_wr f4 (by decide))))))))))))))))))
          have q126 : (m1 τ121) = (m1 σ) := ((m1_fr f123 (fun _ => rfl)).trans ((m1_wr f117 (by decide)).trans ((m1_wr f114 (by decide)).trans ((m1_wr f70 (by decide)).trans ((m1_wr f65 (by decide)).trans ((m1_fr f60 (fun _ => rfl)).trans ((m1_fr f55 (fun _ => rfl)).trans ((m1_wr f40 (by decide)).trans ((m1_wr f36 (by decide)).trans ((m1_wr f32 (by decide)).trans ((m1_wr f28 (by decide)).trans ((m1_wr f24 (by decide)).trans ((m1_wr f20 (by decide)).trans ((m1_wr f16 (by decide)).trans ((m1_wr f12 (by decide)).trans ((m1_wr f8 (by decide)).trans (m1_wr f4 (by decide))))))))))))))))))
          have q127 : (m2 τ121) = (m2 σ) := ((m2_fr f123 (fun _ => rfl)).trans ((m2_wr f117 (by decide)).trans ((m2_wr f114 (by decide)).trans ((m2_wr f70 (by decide)).trans ((m2_wr f65 (by decide)).trans ((m2_fr f60 (fun _ => rfl)).trans ((m2_fr f55 (fun _ => rfl)).trans ((m2_wr f40 (by decide)).trans ((m2_wr f36 (by decide)).trans ((m2_wr f32 (by decide)).trans ((m2_wr f28 (by decide)).trans ((m2_wr f24 (by decide)).trans ((m2_wr f20 (by decide)).trans ((m2_wr f16 (by decide)).trans ((m2_wr f12 (by decide)).trans ((m2_wr f8 (by decide)).trans (m2_wr f4 (by decide))))))))))))))))))
          have q128 : (cm τ121) = (cm σ) := ((cm_fr f123 (fun _ => rfl)).trans ((cm_wr f117 (by decide)).trans ((cm_wr f114 (by decide)).trans ((cm_wr f70 (by decide)).trans ((cm_wr f65 (by decide)).trans ((cm_fr f60 (fun _ => rfl)).trans ((cm_fr f55 (fun _ => rfl)).trans ((cm_wr f40 (by decide)).trans ((cm_wr f36 (by decide)).trans ((cm_wr f32 (by decide)).trans ((cm_wr f28 (by decide)).trans ((cm_wr f24 (by decide)).trans ((cm_wr f20 (by decide)).trans ((cm_wr f16 (by decide)).trans ((cm_wr f12 (by decide)).trans ((cm_wr f8 (by decide)).trans (cm_wr f4 (by decide))))))))))))))))))
          refine wp_use (m_243 τ121 g122   _ _ (by omega) (by omega)) ?_
          rintro _ _ ⟨z133, rfl, h134, rfl, p129, p130⟩
          show WP 324 167 [(0, .ref 117), (1, iV z56), (2, iV x119)] [iV z133, iV x119] _ _ _ _
          refine wp_i_ge jF_324_167 (m_rgb h120 rfl) (m_rgb h134 rfl) rfl (pc2 := 170) ?_ ?_
          · intro h135
            refine wp_al1 jF_324_187 rfl rfl (pc2 := 188) ?_
            refine wp_glA jF_324_188 kd117 (by decide) rfl rfl (pc2 := 191) ?_
            intro y136
            refine wp_rl jF_324_191 ?_
            exact ⟨y136, rfl, g122, (FR.up (FR.w (FR.w (FR.w (FR.w (FR.up (FR.up (FR.w (FR.w (FR.w (FR.w (FR.w (FR.w (FR.w (FR.w (FR.w (FR.w FR.rf f4 rfl) f8 rfl) f12 rfl) f16 rfl) f20 rfl) f24 rfl) f28 rfl) f32 rfl) f36 rfl) f40 rfl) f55 sb_Wask_Wak) f60 sb_Wak_Wak) f65 rfl) f70 rfl) f114 rfl) f117 rfl) f123 sb_Wql_Wak)⟩
          · intro h135
            refine wp_al1 jF_324_170 rfl rfl (pc2 := 171) ?_
            refine wp_il1 jF_324_171 rfl rfl (pc2 := 172) ?_
            refine wp_al1 jF_324_172 rfl rfl (pc2 := 173) ?_
            refine wp_il1 jF_324_173 rfl rfl (pc2 := 174) ?_
            refine wp_cV (as := [iV x119]) (rest := [iV z56, .ref 117]) (a := 117) (mx := 4) (ci := 12) jF_324_174 kd117 (by decide) rfl rfl rfl rfl rfl (by omega) (by omega) rfl (pc2 := 177) ?_
            have q137 : (l0 τ121) = (l0 σ) := ((l0_fr f123 rfl (fun _ => rfl)).trans ((l0_wr f117 (by decide)).trans ((l0_wr f114 (by decide)).trans ((l0_wr f70 (by decide)).trans ((l0_wr f65 (by decide)).trans ((l0_fr f60 rfl (fun _ => rfl)).trans ((l0_fr f55 rfl (fun _ => rfl)).trans ((l0_wr f40 (by decide)).trans ((l0_wr f36 (by decide)).trans ((l0_wr f32 (by decide)).trans ((l0_wr f28 (by decide)).trans ((l0_wr f24 (by decide)).trans ((l0_wr f20 (by decide)).trans ((l0_wr f16 (by decide)).trans ((l0_wr f12 (by decide)).trans ((l0_wr f8 (by decide)).trans (l0_wr f4 (by decide))))))))))))))))))
            have q138 : (l1 τ121) = (l1 σ) := ((l1_fr f123 rfl (fun _ => rfl)).trans ((l1_wr f117 (by decide)).trans ((l1_wr f114 (by decide)).trans ((l1_wr f70 (by decide)).trans ((l1_wr f65 (by decide)).trans ((l1_fr f60 rfl (fun _ => rfl)).trans ((l1_fr f55 rfl (fun _ => rfl)).trans ((l1_wr f40 (by decide)).trans ((l1_wr f36 (by decide)).trans ((l1_wr f32 (by decide)).trans ((l1_wr f28 (by decide)).trans ((l1_wr f24 (by decide)).trans ((l1_wr f20 (by decide)).trans ((l1_wr f16 (by decide)).trans ((l1_wr f12 (by decide)).trans ((l1_wr f8 (by decide)).trans (l1_wr f4 (by decide))))))))))))))))))
            have q139 : (dp τ121) = (dp τ58) := ((dp_fr f123 (fun _ => rfl) rfl).trans ((dp_wr f117 (by decide)).trans ((dp_wr f114 (by decide)).trans ((dp_wr f70 (by decide)).trans (dp_wr f65 (by decide))))))
            refine wp_use (m_345 τ121 g122 x119 (by omega) (by omega) (by omega) (by omega) (by omega) (by omega) (by omega) _ _ (by omega) (by omega)) ?_
            rintro _ τ140 ⟨y143, rfl, g141, f142⟩
            show WP 324 177 [(0, .ref 117), (1, iV z56), (2, iV x119)] [.long y143, iV z56, .ref 117] _ _ _ _
            refine wp_il1 jF_324_177 rfl rfl (pc2 := 178) ?_
            refine wp_cV (as := [iV z56, .long y143, iV x119]) (rest := []) (a := 117) (mx := 6) (ci := 12) jF_324_178 kd117 (by decide) rfl rfl rfl rfl rfl (by omega) (by omega) rfl (pc2 := 181) ?_
            refine wp_use (m_353 τ140 g141 z56 (by omega) (by omega) y143 x119 (by omega) (by omega)  _ _ (by omega) (by omega)) ?_
            rintro _ τ144 ⟨rfl, g145, f146⟩
            show WP 324 181 [(0, .ref 117), (1, iV z56), (2, iV x119)] [] _ _ _ _
            refine wp_inc (lv2 := [(0, .ref 117), (1, iV z56), (2, iV (x119 + 1))]) jF_324_181 rfl rfl rfl rfl (pc2 := 184) ?_
            refine wp_go jF_324_184 ?_
            exact ih124 ((x119 + 1)) τ144 ⟨⟨by omega, by omega⟩, g145, (FR.up (FR.up f123 f142 sb_Wqr_Wql) f146 sb_Wqt_Wql)⟩ (by show Int.toNat (64 - (x119 + 1)) < Int.toNat (64 - x119); omega)
    · intro h72
      clear p61
      refine wp_ld jF_324_135 rfl (pc2 := 138) ?_
      refine wp_rl jF_324_138 ?_
      exact ⟨(-1000000000000000), rfl, g69, (FR.w (FR.w (FR.up (FR.up (FR.w (FR.w (FR.w (FR.w (FR.w (FR.w (FR.w (FR.w (FR.w (FR.w FR.rf f4 rfl) f8 rfl) f12 rfl) f16 rfl) f20 rfl) f24 rfl) f28 rfl) f32 rfl) f36 rfl) f40 rfl) f55 sb_Wask_Wak) f60 sb_Wak_Wak) f65 rfl) f70 rfl)⟩
  · intro jn147
    refine wp_al1 jF_324_58 rfl rfl (pc2 := 59) ?_
    have b148 := GI.b g54 117 5 kd117 (lo := (-2147483648)) (hi := 2147483647) rfl
    refine wp_gi jF_324_59 kd117 (by decide) rfl rfl rfl (pc2 := 62) ?_
    refine wp_z_ne jF_324_62 (m_rgb b148 rfl) rfl (pc2 := 65) ?_ ?_
    · intro h149
      refine wp_al1 jF_324_77 rfl rfl (pc2 := 78) ?_
      refine wp_gi jF_324_78 kd117 (by decide) rfl rfl rfl (pc2 := 81) ?_
      refine wp_z_ne jF_324_81 (m_rgb b148 rfl) rfl (pc2 := 84) ?_ ?_
      · intro h150
        have q151 : (dp τ53) = (dp τ26) := ((dp_fr f55 (fun _ => rfl) rfl).trans ((dp_wr f40 (by decide)).trans ((dp_wr f36 (by decide)).trans (dp_wr f32 (by decide)))))
        have q152 := ws_nn (σ := τ30)
        have q153 : (ws τ53) = (ws τ30) := ((ws_fr f55 (fun _ => rfl) rfl).trans ((ws_wr f40 (by decide)).trans (ws_wr f36 (by decide))))
        refine wp_al1 jF_324_88 rfl rfl (pc2 := 89) ?_
        refine wp_gi jF_324_89 kd117 (by decide) rfl rfl rfl (pc2 := 92) ?_
        refine wp_z_ne jF_324_92 (m_rgb b148 rfl) rfl (pc2 := 95) ?_ ?_
        · intro h154
          exact jn147 () τ53 ⟨g54, FR.rf, (by omega)⟩
        · intro h154
          refine wp_al1 jF_324_95 rfl rfl (pc2 := 96) ?_
          refine wp_cV (as := []) (rest := []) (a := 117) (mx := 1) (ci := 12) jF_324_96 kd117 (by decide) rfl rfl rfl rfl rfl (by omega) (by omega) rfl (pc2 := 99) ?_
          have b155 := GI.b g54 117 2 kd117 (lo := 0) (hi := 1601) rfl
          have q156 : (τ53.1 117 3) = (σ.1 117 1) := ((FR.at f55 117 3 rfl).trans ((FRw.nj f40 (by decide)).trans ((FRw.nj f36 (by decide)).trans ((FRw.nj f32 (by decide)).trans ((FRw.nj f28 (by decide)).trans ((FRw.nj f24 (by decide)).trans ((FRw.nj f20 (by decide)).trans ((FRw.nj f16 (by decide)).trans ((FRw.nj f12 (by decide)).trans ((FRw.nj f8 (by decide)).trans e5))))))))))
          refine wp_use (m_216 τ53 g54   _ _ (by omega) (by omega)) ?_
          rintro _ τ163 ⟨z166, rfl, h167, g164, f165, p157, p158, p159, p160, p161, p162⟩
          have b168 := GI.b hg 118 (τ163.1 117 2).toNat kd118 (lo := 0) (hi := 255) rfl
          have q169 : (τ53.1 118 (τ163.1 117 2).toNat) = (σ.1 118 (τ163.1 117 2).toNat) := ((FR.at f55 118 (τ163.1 117 2).toNat rfl).trans ((FRw.na f40 (by decide)).trans ((FRw.na f36 (by decide)).trans ((FRw.na f32 (by decide)).trans ((FRw.na f28 (by decide)).trans ((FRw.na f24 (by decide)).trans ((FRw.na f20 (by decide)).trans ((FRw.na f16 (by decide)).trans ((FRw.na f12 (by decide)).trans ((FRw.na f8 (by decide)).trans (FRw.na f4 (by decide))))))))))))
          show WP 324 99 [(0, .ref 117), (1, iV z56)] [iV z166] _ _ _ _
          refine wp_ic jF_324_99 rfl (pc2 := 100) ?_
          refine wp_i_eq jF_324_100 (m_rgb h167 rfl) (m_rgl rfl) rfl (pc2 := 103) ?_ ?_
          · intro h170
            clear p157
            clear p162
            have q171 : (dp τ163) = (dp τ26) := ((dp_fr f165 (fun _ => rfl) rfl).trans ((dp_fr f55 (fun _ => rfl) rfl).trans ((dp_wr f40 (by decide)).trans ((dp_wr f36 (by decide)).trans (dp_wr f32 (by decide))))))
            have q172 : (τ163.1 117 5) = (τ53.1 117 5) := (FR.at f165 117 5 rfl)
            exact jn147 () τ163 ⟨g164, (FR.up FR.rf f165 sb_Wat_Wak), (by omega)⟩
          · intro h170
            replace p157 := p157 (by omega)
            replace p162 := p162 (by omega)
            refine wp_al1 jF_324_103 rfl rfl (pc2 := 104) ?_
            refine wp_ic jF_324_104 rfl (pc2 := 105) ?_
            refine wp_al1 jF_324_105 rfl rfl (pc2 := 106) ?_
            have b173 := GI.b g164 117 2 kd117 (lo := 0) (hi := 1601) rfl
            refine wp_gi jF_324_106 kd117 (by decide) rfl rfl rfl (pc2 := 109) ?_
            refine wp_cV (as := [iV 1, iV (τ163.1 117 2)]) (rest := []) (a := 117) (mx := 3) (ci := 12) jF_324_109 kd117 (by decide) rfl rfl rfl rfl rfl (by omega) (by omega) rfl (pc2 := 112) ?_
            have q174 : (τ163.1 117 5) = (τ53.1 117 5) := (FR.at f165 117 5 rfl)
            refine wp_use (m_218 τ163 g164 1 (by omega) (by omega) (τ163.1 117 2) (by omega) (by omega)  _ _ (by omega) (by omega)) ?_
            rintro _ τ177 ⟨rfl, g178, f179, p175, p176⟩
            clear p175
            replace p176 := p176 (by omega)
            show WP 324 112 [(0, .ref 117), (1, iV z56)] [] _ _ _ _
            have q180 : (dp τ177) = (dp τ26) := ((dp_fr f179 (fun _ => rfl) rfl).trans ((dp_fr f165 (fun _ => rfl) rfl).trans ((dp_fr f55 (fun _ => rfl) rfl).trans ((dp_wr f40 (by decide)).trans ((dp_wr f36 (by decide)).trans (dp_wr f32 (by decide)))))))
            have b181 := GI.b g178 117 5 kd117 (lo := (-2147483648)) (hi := 2147483647) rfl
            exact jn147 () τ177 ⟨g178, (FR.up (FR.up FR.rf f165 sb_Wat_Wak) f179 sb_Wbad_Wak), (by omega)⟩
      · intro h150
        refine wp_al1 jF_324_84 rfl rfl (pc2 := 85) ?_
        refine wp_cV (as := []) (rest := []) (a := 117) (mx := 3) (ci := 12) jF_324_85 kd117 (by decide) rfl rfl rfl rfl rfl (by omega) (by omega) rfl (pc2 := 88) ?_
        have q182 : (dp τ53) = (dp τ26) := ((dp_fr f55 (fun _ => rfl) rfl).trans ((dp_wr f40 (by decide)).trans ((dp_wr f36 (by decide)).trans (dp_wr f32 (by decide)))))
        have q183 := ws_nn (σ := τ30)
        have q184 : (ws τ53) = (ws τ30) := ((ws_fr f55 (fun _ => rfl) rfl).trans ((ws_wr f40 (by decide)).trans (ws_wr f36 (by decide))))
        have q185 : (tt τ53) = (tt τ30) := ((tt_fr f55 (fun _ => rfl) rfl).trans ((tt_wr f40 (by decide)).trans (tt_wr f36 (by decide))))
        have b186 := GI.b g54 117 2 kd117 (lo := 0) (hi := 1601) rfl
        have q187 : (τ53.1 117 87) = 0 := ((FR.at f55 117 87 rfl).trans ((FRw.nj f40 (by decide)).trans ((FRw.nj f36 (by decide)).trans ((FRw.nj f32 (by decide)).trans e29))))
        have q188 : (τ53.1 117 89) = 0 := ((FR.at f55 117 89 rfl).trans ((FRw.nj f40 (by decide)).trans ((FRw.nj f36 (by decide)).trans e33)))
        have q189 : (τ53.1 117 91) = 0 := ((FR.at f55 117 91 rfl).trans e41)
        refine wp_use (m_330 τ53 g54  (by omega) (by omega) (by omega) (by omega) _ _ (by omega) (by omega)) ?_
        rintro _ τ198 ⟨rfl, g199, f200, p190, p191, p192, p193, p194, p195, p196, p197⟩
        show WP 324 88 [(0, .ref 117), (1, iV z56)] [] _ _ _ _
        have q201 := ws_nn (σ := τ198)
        refine wp_al1 jF_324_88 rfl rfl (pc2 := 89) ?_
        have b202 := GI.b g199 117 5 kd117 (lo := (-2147483648)) (hi := 2147483647) rfl
        refine wp_gi jF_324_89 kd117 (by decide) rfl rfl rfl (pc2 := 92) ?_
        refine wp_z_ne jF_324_92 (m_rgb b202 rfl) rfl (pc2 := 95) ?_ ?_
        · intro h203
          clear p192
          clear p193
          clear p194
          clear p195
          clear p196
          exact jn147 () τ198 ⟨g199, (FR.up FR.rf f200 sb_Wqs_Wak), (by omega)⟩
        · intro h203
          replace p192 := p192 (by omega)
          replace p193 := p193 (by omega)
          replace p194 := p194 (by omega)
          replace p195 := p195 (by omega)
          replace p196 := p196 (by omega)
          refine wp_al1 jF_324_95 rfl rfl (pc2 := 96) ?_
          refine wp_cV (as := []) (rest := []) (a := 117) (mx := 1) (ci := 12) jF_324_96 kd117 (by decide) rfl rfl rfl rfl rfl (by omega) (by omega) rfl (pc2 := 99) ?_
          have b204 := GI.b g199 117 2 kd117 (lo := 0) (hi := 1601) rfl
          have q205 : (τ198.1 117 3) = (σ.1 117 1) := ((FR.at f200 117 3 rfl).trans ((FR.at f55 117 3 rfl).trans ((FRw.nj f40 (by decide)).trans ((FRw.nj f36 (by decide)).trans ((FRw.nj f32 (by decide)).trans ((FRw.nj f28 (by decide)).trans ((FRw.nj f24 (by decide)).trans ((FRw.nj f20 (by decide)).trans ((FRw.nj f16 (by decide)).trans ((FRw.nj f12 (by decide)).trans ((FRw.nj f8 (by decide)).trans e5)))))))))))
          refine wp_use (m_216 τ198 g199   _ _ (by omega) (by omega)) ?_
          rintro _ τ212 ⟨z215, rfl, h216, g213, f214, p206, p207, p208, p209, p210, p211⟩
          have b217 := GI.b hg 118 (τ212.1 117 2).toNat kd118 (lo := 0) (hi := 255) rfl
          have q218 : (τ198.1 118 (τ212.1 117 2).toNat) = (σ.1 118 (τ212.1 117 2).toNat) := ((FR.at f200 118 (τ212.1 117 2).toNat rfl).trans ((FR.at f55 118 (τ212.1 117 2).toNat rfl).trans ((FRw.na f40 (by decide)).trans ((FRw.na f36 (by decide)).trans ((FRw.na f32 (by decide)).trans ((FRw.na f28 (by decide)).trans ((FRw.na f24 (by decide)).trans ((FRw.na f20 (by decide)).trans ((FRw.na f16 (by decide)).trans ((FRw.na f12 (by decide)).trans ((FRw.na f8 (by decide)).trans (FRw.na f4 (by decide)))))))))))))
          show WP 324 99 [(0, .ref 117), (1, iV z56)] [iV z215] _ _ _ _
          refine wp_ic jF_324_99 rfl (pc2 := 100) ?_
          refine wp_i_eq jF_324_100 (m_rgb h216 rfl) (m_rgl rfl) rfl (pc2 := 103) ?_ ?_
          · intro h219
            clear p206
            clear p211
            have q220 : (dp τ212) = (dp τ198) := (dp_fr f214 (fun _ => rfl) rfl)
            have q221 : (τ212.1 117 5) = (τ198.1 117 5) := (FR.at f214 117 5 rfl)
            exact jn147 () τ212 ⟨g213, (FR.up (FR.up FR.rf f200 sb_Wqs_Wak) f214 sb_Wat_Wak), (by omega)⟩
          · intro h219
            replace p206 := p206 (by omega)
            replace p211 := p211 (by omega)
            refine wp_al1 jF_324_103 rfl rfl (pc2 := 104) ?_
            refine wp_ic jF_324_104 rfl (pc2 := 105) ?_
            refine wp_al1 jF_324_105 rfl rfl (pc2 := 106) ?_
            have b222 := GI.b g213 117 2 kd117 (lo := 0) (hi := 1601) rfl
            refine wp_gi jF_324_106 kd117 (by decide) rfl rfl rfl (pc2 := 109) ?_
            refine wp_cV (as := [iV 1, iV (τ212.1 117 2)]) (rest := []) (a := 117) (mx := 3) (ci := 12) jF_324_109 kd117 (by decide) rfl rfl rfl rfl rfl (by omega) (by omega) rfl (pc2 := 112) ?_
            have q223 : (τ212.1 117 5) = (τ198.1 117 5) := (FR.at f214 117 5 rfl)
            refine wp_use (m_218 τ212 g213 1 (by omega) (by omega) (τ212.1 117 2) (by omega) (by omega)  _ _ (by omega) (by omega)) ?_
            rintro _ τ226 ⟨rfl, g227, f228, p224, p225⟩
            clear p224
            replace p225 := p225 (by omega)
            show WP 324 112 [(0, .ref 117), (1, iV z56)] [] _ _ _ _
            have q229 : (dp τ226) = (dp τ198) := ((dp_fr f228 (fun _ => rfl) rfl).trans (dp_fr f214 (fun _ => rfl) rfl))
            have b230 := GI.b g227 117 5 kd117 (lo := (-2147483648)) (hi := 2147483647) rfl
            exact jn147 () τ226 ⟨g227, (FR.up (FR.up (FR.up FR.rf f200 sb_Wqs_Wak) f214 sb_Wat_Wak) f228 sb_Wbad_Wak), (by omega)⟩
    · intro h149
      refine wp_il1 jF_324_65 rfl rfl (pc2 := 66) ?_
      refine wp_ic jF_324_66 rfl (pc2 := 67) ?_
      refine wp_i_ge jF_324_67 (m_rgb h57 rfl) (m_rgl rfl) rfl (pc2 := 70) ?_ ?_
      · intro h231
        refine wp_al1 jF_324_77 rfl rfl (pc2 := 78) ?_
        refine wp_gi jF_324_78 kd117 (by decide) rfl rfl rfl (pc2 := 81) ?_
        refine wp_z_ne jF_324_81 (m_rgb b148 rfl) rfl (pc2 := 84) ?_ ?_
        · intro h232
          have q233 : (dp τ53) = (dp τ26) := ((dp_fr f55 (fun _ => rfl) rfl).trans ((dp_wr f40 (by decide)).trans ((dp_wr f36 (by decide)).trans (dp_wr f32 (by decide)))))
          have q234 := ws_nn (σ := τ30)
          have q235 : (ws τ53) = (ws τ30) := ((ws_fr f55 (fun _ => rfl) rfl).trans ((ws_wr f40 (by decide)).trans (ws_wr f36 (by decide))))
          refine wp_al1 jF_324_88 rfl rfl (pc2 := 89) ?_
          refine wp_gi jF_324_89 kd117 (by decide) rfl rfl rfl (pc2 := 92) ?_
          refine wp_z_ne jF_324_92 (m_rgb b148 rfl) rfl (pc2 := 95) ?_ ?_
          · intro h236
            exact jn147 () τ53 ⟨g54, FR.rf, (by omega)⟩
          · intro h236
            refine wp_al1 jF_324_95 rfl rfl (pc2 := 96) ?_
            refine wp_cV (as := []) (rest := []) (a := 117) (mx := 1) (ci := 12) jF_324_96 kd117 (by decide) rfl rfl rfl rfl rfl (by omega) (by omega) rfl (pc2 := 99) ?_
            have b237 := GI.b g54 117 2 kd117 (lo := 0) (hi := 1601) rfl
            have q238 : (τ53.1 117 3) = (σ.1 117 1) := ((FR.at f55 117 3 rfl).trans ((FRw.nj f40 (by decide)).trans ((FRw.nj f36 (by decide)).trans ((FRw.nj f32 (by decide)).trans ((FRw.nj f28 (by decide)).trans ((FRw.nj f24 (by decide)).trans ((FRw.nj f20 (by decide)).trans ((FRw.nj f16 (by decide)).trans ((FRw.nj f12 (by decide)).trans ((FRw.nj f8 (by decide)).trans e5))))))))))
            refine wp_use (m_216 τ53 g54   _ _ (by omega) (by omega)) ?_
            rintro _ τ245 ⟨z248, rfl, h249, g246, f247, p239, p240, p241, p242, p243, p244⟩
            have b250 := GI.b hg 118 (τ245.1 117 2).toNat kd118 (lo := 0) (hi := 255) rfl
            have q251 : (τ53.1 118 (τ245.1 117 2).toNat) = (σ.1 118 (τ245.1 117 2).toNat) := ((FR.at f55 118 (τ245.1 117 2).toNat rfl).trans ((FRw.na f40 (by decide)).trans ((FRw.na f36 (by decide)).trans ((FRw.na f32 (by decide)).trans ((FRw.na f28 (by decide)).trans ((FRw.na f24 (by decide)).trans ((FRw.na f20 (by decide)).trans ((FRw.na f16 (by decide)).trans ((FRw.na f12 (by decide)).trans ((FRw.na f8 (by decide)).trans (FRw.na f4 (by decide))))))))))))
            show WP 324 99 [(0, .ref 117), (1, iV z56)] [iV z248] _ _ _ _
            refine wp_ic jF_324_99 rfl (pc2 := 100) ?_
            refine wp_i_eq jF_324_100 (m_rgb h249 rfl) (m_rgl rfl) rfl (pc2 := 103) ?_ ?_
            · intro h252
              clear p239
              clear p244
              have q253 : (dp τ245) = (dp τ26) := ((dp_fr f247 (fun _ => rfl) rfl).trans ((dp_fr f55 (fun _ => rfl) rfl).trans ((dp_wr f40 (by decide)).trans ((dp_wr f36 (by decide)).trans (dp_wr f32 (by decide))))))
              have q254 : (τ245.1 117 5) = (τ53.1 117 5) := (FR.at f247 117 5 rfl)
              exact jn147 () τ245 ⟨g246, (FR.up FR.rf f247 sb_Wat_Wak), (by omega)⟩
            · intro h252
              replace p239 := p239 (by omega)
              replace p244 := p244 (by omega)
              refine wp_al1 jF_324_103 rfl rfl (pc2 := 104) ?_
              refine wp_ic jF_324_104 rfl (pc2 := 105) ?_
              refine wp_al1 jF_324_105 rfl rfl (pc2 := 106) ?_
              have b255 := GI.b g246 117 2 kd117 (lo := 0) (hi := 1601) rfl
              refine wp_gi jF_324_106 kd117 (by decide) rfl rfl rfl (pc2 := 109) ?_
              refine wp_cV (as := [iV 1, iV (τ245.1 117 2)]) (rest := []) (a := 117) (mx := 3) (ci := 12) jF_324_109 kd117 (by decide) rfl rfl rfl rfl rfl (by omega) (by omega) rfl (pc2 := 112) ?_
              have q256 : (τ245.1 117 5) = (τ53.1 117 5) := (FR.at f247 117 5 rfl)
              refine wp_use (m_218 τ245 g246 1 (by omega) (by omega) (τ245.1 117 2) (by omega) (by omega)  _ _ (by omega) (by omega)) ?_
              rintro _ τ259 ⟨rfl, g260, f261, p257, p258⟩
              replace p257 := p257 (by omega)
              clear p258
              show WP 324 112 [(0, .ref 117), (1, iV z56)] [] _ _ _ _
              have q262 : (dp τ259) = (dp τ26) := ((dp_fr f261 (fun _ => rfl) rfl).trans ((dp_fr f247 (fun _ => rfl) rfl).trans ((dp_fr f55 (fun _ => rfl) rfl).trans ((dp_wr f40 (by decide)).trans ((dp_wr f36 (by decide)).trans (dp_wr f32 (by decide)))))))
              have b263 := GI.b g260 117 5 kd117 (lo := (-2147483648)) (hi := 2147483647) rfl
              exact jn147 () τ259 ⟨g260, (FR.up (FR.up FR.rf f247 sb_Wat_Wak) f261 sb_Wbad_Wak), (by omega)⟩
        · intro h232
          refine wp_al1 jF_324_84 rfl rfl (pc2 := 85) ?_
          refine wp_cV (as := []) (rest := []) (a := 117) (mx := 3) (ci := 12) jF_324_85 kd117 (by decide) rfl rfl rfl rfl rfl (by omega) (by omega) rfl (pc2 := 88) ?_
          have q264 : (dp τ53) = (dp τ26) := ((dp_fr f55 (fun _ => rfl) rfl).trans ((dp_wr f40 (by decide)).trans ((dp_wr f36 (by decide)).trans (dp_wr f32 (by decide)))))
          have q265 := ws_nn (σ := τ30)
          have q266 : (ws τ53) = (ws τ30) := ((ws_fr f55 (fun _ => rfl) rfl).trans ((ws_wr f40 (by decide)).trans (ws_wr f36 (by decide))))
          have q267 : (tt τ53) = (tt τ30) := ((tt_fr f55 (fun _ => rfl) rfl).trans ((tt_wr f40 (by decide)).trans (tt_wr f36 (by decide))))
          have b268 := GI.b g54 117 2 kd117 (lo := 0) (hi := 1601) rfl
          have q269 : (τ53.1 117 87) = 0 := ((FR.at f55 117 87 rfl).trans ((FRw.nj f40 (by decide)).trans ((FRw.nj f36 (by decide)).trans ((FRw.nj f32 (by decide)).trans e29))))
          have q270 : (τ53.1 117 89) = 0 := ((FR.at f55 117 89 rfl).trans ((FRw.nj f40 (by decide)).trans ((FRw.nj f36 (by decide)).trans e33)))
          have q271 : (τ53.1 117 91) = 0 := ((FR.at f55 117 91 rfl).trans e41)
          refine wp_use (m_330 τ53 g54  (by omega) (by omega) (by omega) (by omega) _ _ (by omega) (by omega)) ?_
          rintro _ τ280 ⟨rfl, g281, f282, p272, p273, p274, p275, p276, p277, p278, p279⟩
          show WP 324 88 [(0, .ref 117), (1, iV z56)] [] _ _ _ _
          have q283 := ws_nn (σ := τ280)
          refine wp_al1 jF_324_88 rfl rfl (pc2 := 89) ?_
          have b284 := GI.b g281 117 5 kd117 (lo := (-2147483648)) (hi := 2147483647) rfl
          refine wp_gi jF_324_89 kd117 (by decide) rfl rfl rfl (pc2 := 92) ?_
          refine wp_z_ne jF_324_92 (m_rgb b284 rfl) rfl (pc2 := 95) ?_ ?_
          · intro h285
            clear p274
            clear p275
            clear p276
            clear p277
            clear p278
            exact jn147 () τ280 ⟨g281, (FR.up FR.rf f282 sb_Wqs_Wak), (by omega)⟩
          · intro h285
            replace p274 := p274 (by omega)
            replace p275 := p275 (by omega)
            replace p276 := p276 (by omega)
            replace p277 := p277 (by omega)
            replace p278 := p278 (by omega)
            refine wp_al1 jF_324_95 rfl rfl (pc2 := 96) ?_
            refine wp_cV (as := []) (rest := []) (a := 117) (mx := 1) (ci := 12) jF_324_96 kd117 (by decide) rfl rfl rfl rfl rfl (by omega) (by omega) rfl (pc2 := 99) ?_
            have b286 := GI.b g281 117 2 kd117 (lo := 0) (hi := 1601) rfl
            have q287 : (τ280.1 117 3) = (σ.1 117 1) := ((FR.at f282 117 3 rfl).trans ((FR.at f55 117 3 rfl).trans ((FRw.nj f40 (by decide)).trans ((FRw.nj f36 (by decide)).trans ((FRw.nj f32 (by decide)).trans ((FRw.nj f28 (by decide)).trans ((FRw.nj f24 (by decide)).trans ((FRw.nj f20 (by decide)).trans ((FRw.nj f16 (by decide)).trans ((FRw.nj f12 (by decide)).trans ((FRw.nj f8 (by decide)).trans e5)))))))))))
            refine wp_use (m_216 τ280 g281   _ _ (by omega) (by omega)) ?_
            rintro _ τ294 ⟨z297, rfl, h298, g295, f296, p288, p289, p290, p291, p292, p293⟩
            have b299 := GI.b hg 118 (τ294.1 117 2).toNat kd118 (lo := 0) (hi := 255) rfl
            have q300 : (τ280.1 118 (τ294.1 117 2).toNat) = (σ.1 118 (τ294.1 117 2).toNat) := ((FR.at f282 118 (τ294.1 117 2).toNat rfl).trans ((FR.at f55 118 (τ294.1 117 2).toNat rfl).trans ((FRw.na f40 (by decide)).trans ((FRw.na f36 (by decide)).trans ((FRw.na f32 (by decide)).trans ((FRw.na f28 (by decide)).trans ((FRw.na f24 (by decide)).trans ((FRw.na f20 (by decide)).trans ((FRw.na f16 (by decide)).trans ((FRw.na f12 (by decide)).trans ((FRw.na f8 (by decide)).trans (FRw.na f4 (by decide)))))))))))))
            show WP 324 99 [(0, .ref 117), (1, iV z56)] [iV z297] _ _ _ _
            refine wp_ic jF_324_99 rfl (pc2 := 100) ?_
            refine wp_i_eq jF_324_100 (m_rgb h298 rfl) (m_rgl rfl) rfl (pc2 := 103) ?_ ?_
            · intro h301
              clear p288
              clear p293
              have q302 : (dp τ294) = (dp τ280) := (dp_fr f296 (fun _ => rfl) rfl)
              have q303 : (τ294.1 117 5) = (τ280.1 117 5) := (FR.at f296 117 5 rfl)
              exact jn147 () τ294 ⟨g295, (FR.up (FR.up FR.rf f282 sb_Wqs_Wak) f296 sb_Wat_Wak), (by omega)⟩
            · intro h301
              replace p288 := p288 (by omega)
              replace p293 := p293 (by omega)
              refine wp_al1 jF_324_103 rfl rfl (pc2 := 104) ?_
              refine wp_ic jF_324_104 rfl (pc2 := 105) ?_
              refine wp_al1 jF_324_105 rfl rfl (pc2 := 106) ?_
              have b304 := GI.b g295 117 2 kd117 (lo := 0) (hi := 1601) rfl
              refine wp_gi jF_324_106 kd117 (by decide) rfl rfl rfl (pc2 := 109) ?_
              refine wp_cV (as := [iV 1, iV (τ294.1 117 2)]) (rest := []) (a := 117) (mx := 3) (ci := 12) jF_324_109 kd117 (by decide) rfl rfl rfl rfl rfl (by omega) (by omega) rfl (pc2 := 112) ?_
              have q305 : (τ294.1 117 5) = (τ280.1 117 5) := (FR.at f296 117 5 rfl)
              refine wp_use (m_218 τ294 g295 1 (by omega) (by omega) (τ294.1 117 2) (by omega) (by omega)  _ _ (by omega) (by omega)) ?_
              rintro _ τ308 ⟨rfl, g309, f310, p306, p307⟩
              clear p306
              replace p307 := p307 (by omega)
              show WP 324 112 [(0, .ref 117), (1, iV z56)] [] _ _ _ _
              have q311 : (dp τ308) = (dp τ280) := ((dp_fr f310 (fun _ => rfl) rfl).trans (dp_fr f296 (fun _ => rfl) rfl))
              have b312 := GI.b g309 117 5 kd117 (lo := (-2147483648)) (hi := 2147483647) rfl
              exact jn147 () τ308 ⟨g309, (FR.up (FR.up (FR.up FR.rf f282 sb_Wqs_Wak) f296 sb_Wat_Wak) f310 sb_Wbad_Wak), (by omega)⟩
      · intro h231
        refine wp_al1 jF_324_70 rfl rfl (pc2 := 71) ?_
        refine wp_cV (as := []) (rest := []) (a := 117) (mx := 3) (ci := 12) jF_324_71 kd117 (by decide) rfl rfl rfl rfl rfl (by omega) (by omega) rfl (pc2 := 74) ?_
        have q313 : (dp τ53) = (dp τ26) := ((dp_fr f55 (fun _ => rfl) rfl).trans ((dp_wr f40 (by decide)).trans ((dp_wr f36 (by decide)).trans (dp_wr f32 (by decide)))))
        have q314 := ws_nn (σ := τ30)
        have q315 : (ws τ53) = (ws τ30) := ((ws_fr f55 (fun _ => rfl) rfl).trans ((ws_wr f40 (by decide)).trans (ws_wr f36 (by decide))))
        have q316 : (tt τ53) = (tt τ30) := ((tt_fr f55 (fun _ => rfl) rfl).trans ((tt_wr f40 (by decide)).trans (tt_wr f36 (by decide))))
        have b317 := GI.b g54 117 2 kd117 (lo := 0) (hi := 1601) rfl
        have q318 : (τ53.1 117 87) = 0 := ((FR.at f55 117 87 rfl).trans ((FRw.nj f40 (by decide)).trans ((FRw.nj f36 (by decide)).trans ((FRw.nj f32 (by decide)).trans e29))))
        have q319 : (τ53.1 117 89) = 0 := ((FR.at f55 117 89 rfl).trans ((FRw.nj f40 (by decide)).trans ((FRw.nj f36 (by decide)).trans e33)))
        refine wp_use (m_326 τ53 g54  (by omega) (by omega) (by omega) (by omega) (by omega) _ _ (by omega) (by omega)) ?_
        rintro _ τ322 ⟨rfl, g323, f324, p320, p321⟩
        show WP 324 74 [(0, .ref 117), (1, iV z56)] [] _ _ _ _
        refine wp_go jF_324_74 ?_
        have q325 := ws_nn (σ := τ322)
        refine wp_al1 jF_324_88 rfl rfl (pc2 := 89) ?_
        have b326 := GI.b g323 117 5 kd117 (lo := (-2147483648)) (hi := 2147483647) rfl
        refine wp_gi jF_324_89 kd117 (by decide) rfl rfl rfl (pc2 := 92) ?_
        refine wp_z_ne jF_324_92 (m_rgb b326 rfl) rfl (pc2 := 95) ?_ ?_
        · intro h327
          clear p321
          exact jn147 () τ322 ⟨g323, (FR.up FR.rf f324 sb_Wqs_Wak), (by omega)⟩
        · intro h327
          replace p321 := p321 (by omega)
          refine wp_al1 jF_324_95 rfl rfl (pc2 := 96) ?_
          refine wp_cV (as := []) (rest := []) (a := 117) (mx := 1) (ci := 12) jF_324_96 kd117 (by decide) rfl rfl rfl rfl rfl (by omega) (by omega) rfl (pc2 := 99) ?_
          have b328 := GI.b g323 117 2 kd117 (lo := 0) (hi := 1601) rfl
          have q329 : (τ322.1 117 3) = (σ.1 117 1) := ((FR.at f324 117 3 rfl).trans ((FR.at f55 117 3 rfl).trans ((FRw.nj f40 (by decide)).trans ((FRw.nj f36 (by decide)).trans ((FRw.nj f32 (by decide)).trans ((FRw.nj f28 (by decide)).trans ((FRw.nj f24 (by decide)).trans ((FRw.nj f20 (by decide)).trans ((FRw.nj f16 (by decide)).trans ((FRw.nj f12 (by decide)).trans ((FRw.nj f8 (by decide)).trans e5)))))))))))
          refine wp_use (m_216 τ322 g323   _ _ (by omega) (by omega)) ?_
          rintro _ τ336 ⟨z339, rfl, h340, g337, f338, p330, p331, p332, p333, p334, p335⟩
          have b341 := GI.b hg 118 (τ336.1 117 2).toNat kd118 (lo := 0) (hi := 255) rfl
          have q342 : (τ322.1 118 (τ336.1 117 2).toNat) = (σ.1 118 (τ336.1 117 2).toNat) := ((FR.at f324 118 (τ336.1 117 2).toNat rfl).trans ((FR.at f55 118 (τ336.1 117 2).toNat rfl).trans ((FRw.na f40 (by decide)).trans ((FRw.na f36 (by decide)).trans ((FRw.na f32 (by decide)).trans ((FRw.na f28 (by decide)).trans ((FRw.na f24 (by decide)).trans ((FRw.na f20 (by decide)).trans ((FRw.na f16 (by decide)).trans ((FRw.na f12 (by decide)).trans ((FRw.na f8 (by decide)).trans (FRw.na f4 (by decide)))))))))))))
          show WP 324 99 [(0, .ref 117), (1, iV z56)] [iV z339] _ _ _ _
          refine wp_ic jF_324_99 rfl (pc2 := 100) ?_
          refine wp_i_eq jF_324_100 (m_rgb h340 rfl) (m_rgl rfl) rfl (pc2 := 103) ?_ ?_
          · intro h343
            clear p330
            clear p335
            have q344 : (dp τ336) = (dp τ322) := (dp_fr f338 (fun _ => rfl) rfl)
            have q345 : (τ336.1 117 5) = (τ322.1 117 5) := (FR.at f338 117 5 rfl)
            exact jn147 () τ336 ⟨g337, (FR.up (FR.up FR.rf f324 sb_Wqs_Wak) f338 sb_Wat_Wak), (by omega)⟩
          · intro h343
            replace p330 := p330 (by omega)
            replace p335 := p335 (by omega)
            refine wp_al1 jF_324_103 rfl rfl (pc2 := 104) ?_
            refine wp_ic jF_324_104 rfl (pc2 := 105) ?_
            refine wp_al1 jF_324_105 rfl rfl (pc2 := 106) ?_
            have b346 := GI.b g337 117 2 kd117 (lo := 0) (hi := 1601) rfl
            refine wp_gi jF_324_106 kd117 (by decide) rfl rfl rfl (pc2 := 109) ?_
            refine wp_cV (as := [iV 1, iV (τ336.1 117 2)]) (rest := []) (a := 117) (mx := 3) (ci := 12) jF_324_109 kd117 (by decide) rfl rfl rfl rfl rfl (by omega) (by omega) rfl (pc2 := 112) ?_
            have q347 : (τ336.1 117 5) = (τ322.1 117 5) := (FR.at f338 117 5 rfl)
            refine wp_use (m_218 τ336 g337 1 (by omega) (by omega) (τ336.1 117 2) (by omega) (by omega)  _ _ (by omega) (by omega)) ?_
            rintro _ τ350 ⟨rfl, g351, f352, p348, p349⟩
            clear p348
            replace p349 := p349 (by omega)
            show WP 324 112 [(0, .ref 117), (1, iV z56)] [] _ _ _ _
            have q353 : (dp τ350) = (dp τ322) := ((dp_fr f352 (fun _ => rfl) rfl).trans (dp_fr f338 (fun _ => rfl) rfl))
            have b354 := GI.b g351 117 5 kd117 (lo := (-2147483648)) (hi := 2147483647) rfl
            exact jn147 () τ350 ⟨g351, (FR.up (FR.up (FR.up FR.rf f324 sb_Wqs_Wak) f338 sb_Wat_Wak) f352 sb_Wbad_Wak), (by omega)⟩
