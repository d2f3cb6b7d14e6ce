set_option maxHeartbeats 4000000 in
set_option maxRecDepth 20000 in
/-- M.qPartTold -/
theorem m_331 (σ : jM) (hg : GI σ)  (pre0 : (σ.1 117 5) = 0) (pre1 : (wk σ) = 1) (pre2 : (σ.1 117 91) ≤ (σ.1 117 89)) (pre3 : (ws σ) ≤ (dp σ)) (pre4 : (σ.1 117 87) + (σ.1 117 89) ≤ (σ.1 117 2)) (fr lo : Nat) (hfr : 5 ≤ fr) (hlo : 106 ≤ lo) : WP 331 0 (lv_args 0 [.ref 117]) [] fr lo σ (fun v τ => v = none ∧ GI τ ∧ FR Wqp σ τ ∧ ((σ.1 117 2) ≤ (τ.1 117 2)) ∧ ((τ.1 117 5) = 0 → (wk τ) = 1) ∧ ((τ.1 117 5) = 0 → (σ.1 117 91) ≤ (τ.1 117 89)) ∧ ((τ.1 117 5) = 0 → (dp τ) - (ws τ) = (dp σ) - (ws σ) + 1) ∧ ((τ.1 117 5) = 0 → (τ.1 117 87) + (τ.1 117 89) ≤ (τ.1 117 2)) ∧ ((τ.1 117 5) = 0 → (σ.1 117 2) < (τ.1 117 2)) ∧ ((τ.1 117 87) + (τ.1 117 89) ≤ (τ.1 117 2) + 1)) := by
  show WP 331 0 [(0, .ref 117)] [] _ _ _ _
  have q1 := ws_nn (σ := σ)
  have b2 := GI.b hg 117 2 kd117 (lo := 0) (hi := 1601) rfl
  have b3 := GI.b hg 117 91 kd117 (lo := 0) (hi := 1690) rfl
  refine wp_join (α := Unit) 186 (fun a => [(0, .ref 117)]) (fun a τ => GI τ ∧ FR Wqp σ τ ∧ ((σ.1 117 2) ≤ (τ.1 117 2)) ∧ ((τ.1 117 5) = 0 → (wk τ) = 1) ∧ ((τ.1 117 5) = 0 → (σ.1 117 91) ≤ (τ.1 117 89)) ∧ ((τ.1 117 5) = 0 → (dp τ) - (ws τ) = (dp σ) - (ws σ)) ∧ ((τ.1 117 5) = 0 → (τ.1 117 87) + (τ.1 117 89) ≤ (τ.1 117 2)) ∧ ((τ.1 117 87) + (τ.1 117 89) ≤ (τ.1 117 2) + 1)) ?_ ?_
  · rintro ⟨⟩ τ4 ⟨g5, f6, p7, p8, p9, p10, p11, p12⟩
    have q13 := ws_nn (σ := τ4)
    have b14 := GI.b g5 117 2 kd117 (lo := 0) (hi := 1601) rfl
    have b15 := GI.b g5 117 5 kd117 (lo := (-2147483648)) (hi := 2147483647) rfl
    have b16 := GI.b g5 117 87 kd117 (lo := 0) (hi := 1690) rfl
    have b17 := GI.b g5 117 89 kd117 (lo := 0) (hi := 1690) rfl
    show WP 331 186 [(0, .ref 117)] [] _ _ _ _
    refine wp_al1 jF_331_186 rfl rfl (pc2 := 187) ?_
    refine wp_gi jF_331_187 kd117 (by decide) rfl rfl rfl (pc2 := 190) ?_
    refine wp_z_eq jF_331_190 (m_rgb b15 rfl) rfl (pc2 := 193) ?_ ?_
    · intro h18
      replace p8 := p8 (by omega)
      replace p9 := p9 (by omega)
      replace p10 := p10 (by omega)
      replace p11 := p11 (by omega)
      refine wp_al1 jF_331_194 rfl rfl (pc2 := 195) ?_
      refine wp_ic jF_331_195 rfl (pc2 := 196) ?_
      refine wp_bi jF_331_196 (by decide) rfl (pc2 := 198) ?_
      refine wp_cV (as := [iV 0, iV 6]) (rest := []) (a := 117) (mx := 4) (ci := 12) jF_331_198 kd117 (by decide) rfl rfl rfl rfl rfl (by omega) (by omega) rfl (pc2 := 201) ?_
      refine wp_use (m_332 τ4 g5 0 (by omega) (by omega) 6 (by omega) (by omega)  _ _ (by omega) (by omega)) ?_
      rintro _ τ22 ⟨z25, rfl, h26, g23, f24, p19, p20, p21⟩
      show WP 331 201 [(0, .ref 117)] [iV z25] _ _ _ _
      refine wp_is1 (lv2 := [(0, .ref 117), (2, iV z25)]) jF_331_201 rfl rfl rfl (pc2 := 202) ?_
      refine wp_il1 jF_331_202 rfl rfl (pc2 := 203) ?_
      refine wp_ic jF_331_203 rfl (pc2 := 204) ?_
      refine wp_i_eq jF_331_204 (m_rgb h26 rfl) (m_rgl rfl) rfl (pc2 := 207) ?_ ?_
      · intro h27
        refine wp_al1 jF_331_212 rfl rfl (pc2 := 213) ?_
        refine wp_il1 jF_331_213 rfl rfl (pc2 := 214) ?_
        refine wp_ic jF_331_214 rfl (pc2 := 215) ?_
        refine wp_i_eq jF_331_215 ⟨by omega, by omega⟩ (m_rgl rfl) rfl (pc2 := 218) ?_ ?_
        · intro h28
          refine wp_si jF_331_225 (by decide) rfl (pc2 := 228) ?_
          refine wp_al1 jF_331_228 rfl rfl (pc2 := 229) ?_
          refine wp_ic jF_331_229 rfl (pc2 := 230) ?_
          refine wp_si jF_331_230 (by decide) rfl (pc2 := 233) ?_
          refine wp_cV (as := [iV 0, iV 9999]) (rest := [iV 1000, .ref 117]) (a := 117) (mx := 5) (ci := 12) jF_331_233 kd117 (by decide) rfl rfl rfl rfl rfl (by omega) (by omega) rfl (pc2 := 236) ?_
          have b29 := GI.b g23 117 2 kd117 (lo := 0) (hi := 1601) rfl
          have b30 := GI.b hg 117 3 kd117 (lo := 0) (hi := 1600) rfl
          have q31 : (τ22.1 117 3) = (σ.1 117 3) := ((FR.at f24 117 3 rfl).trans (FR.at f6 117 3 rfl))
          have q32 : (τ22.1 117 5) = (τ4.1 117 5) := (FR.at f24 117 5 rfl)
          refine wp_use (m_230 τ22 g23 0 (by omega) (by omega) 9999 (by omega) (by omega)  _ _ (by omega) (by omega)) ?_
          rintro _ τ36 ⟨z39, rfl, h40, g37, f38, p33, p34, p35⟩
          clear p34
          show WP 331 236 [(0, .ref 117), (2, iV z25)] [iV z39, iV 1000, .ref 117] _ _ _ _
          refine wp_addw jF_331_236 (m_rgl rfl) (m_rgb h40 rfl) rfl (pc2 := 237) ?_
          intro z41 h42
          refine wp_cV (as := [iV z41]) (rest := []) (a := 117) (mx := 2) (ci := 12) jF_331_237 kd117 (by decide) rfl rfl rfl rfl rfl (by omega) (by omega) rfl (pc2 := 240) ?_
          have q43 : (dp τ36) = (dp τ4) := ((dp_fr f38 (fun _ => rfl) rfl).trans (dp_fr f24 (fun _ => rfl) rfl))
          have q44 : (τ36.1 117 87) = (τ4.1 117 87) := ((FR.at f38 117 87 rfl).trans (FR.at f24 117 87 rfl))
          refine wp_use (m_329 τ36 g37 z41 (by omega) (by omega) (by omega) _ _ (by omega) (by omega)) ?_
          rintro _ τ49 ⟨rfl, g50, f51, p45, p46, p47, p48⟩
          show WP 331 240 [(0, .ref 117), (2, iV z25)] [] _ _ _ _
          refine wp_al1 jF_331_240 rfl rfl (pc2 := 241) ?_
          refine wp_cV (as := []) (rest := []) (a := 117) (mx := 1) (ci := 12) jF_331_241 kd117 (by decide) rfl rfl rfl rfl rfl (by omega) (by omega) rfl (pc2 := 244) ?_
          have q52 := ws_nn (σ := τ4)
          have q53 : (ws τ49) = (ws τ4) := ((ws_fr f51 (fun _ => rfl) rfl).trans ((ws_fr f38 (fun _ => rfl) rfl).trans (ws_fr f24 (fun _ => rfl) rfl)))
          have q54 : (wk τ49) = (wk τ4) := ((wk_fr f51 (fun _ => rfl) rfl rfl).trans ((wk_fr f38 (fun _ => rfl) rfl rfl).trans (wk_fr f24 (fun _ => rfl) rfl rfl)))
          have b55 := GI.b g37 117 5 kd117 (lo := (-2147483648)) (hi := 2147483647) rfl
          have q56 : (τ49.1 117 5) = (τ36.1 117 5) := (FR.at f51 117 5 rfl)
          have b57 := GI.b g50 117 87 kd117 (lo := 0) (hi := 1690) rfl
          have q58 : (τ49.1 117 89) = (τ4.1 117 89) := ((FR.at f51 117 89 rfl).trans ((FR.at f38 117 89 rfl).trans (FR.at f24 117 89 rfl)))
          have q59 : (τ49.1 117 91) = (σ.1 117 91) := ((FR.at f51 117 91 rfl).trans ((FR.at f38 117 91 rfl).trans ((FR.at f24 117 91 rfl).trans (FR.at f6 117 91 rfl))))
          refine wp_use (m_335 τ49 g50  (by omega) (by omega) (by omega) (by omega) _ _ (by omega) (by omega)) ?_
          rintro _ τ64 ⟨rfl, g65, f66, p60, p61, p62, p63⟩
          show WP 331 244 [(0, .ref 117), (2, iV z25)] [] _ _ _ _
          refine wp_rv jF_331_244 ?_
          have q67 := ws_nn (σ := τ64)
          have b68 := GI.b g37 117 2 kd117 (lo := 0) (hi := 1601) rfl
          have q69 : (τ64.1 117 2) = (τ36.1 117 2) := ((FR.at f66 117 2 rfl).trans (FR.at f51 117 2 rfl))
          have q70 : (τ64.1 117 5) = (τ36.1 117 5) := ((FR.at f66 117 5 rfl).trans (FR.at f51 117 5 rfl))
          have b71 := GI.b g65 117 87 kd117 (lo := 0) (hi := 1690) rfl
          have b72 := GI.b g65 117 89 kd117 (lo := 0) (hi := 1690) rfl
          exact ⟨rfl, g65, (FR.up (FR.up (FR.up (FR.up f6 f24 sb_Wat_Wqp) f38 sb_Wask_Wqp) f51 sb_Wqc_Wqp) f66 sb_Wqe_Wqp), (by omega), (by omega), (by omega), (by omega), (by omega), (by omega), (by omega)⟩
        · intro h28; exfalso; omega
      · intro h27
        refine wp_al1 jF_331_207 rfl rfl (pc2 := 208) ?_
        refine wp_il1 jF_331_208 rfl rfl (pc2 := 209) ?_
        refine wp_cV (as := [iV z25]) (rest := []) (a := 117) (mx := 2) (ci := 12) jF_331_209 kd117 (by decide) rfl rfl rfl rfl rfl (by omega) (by omega) rfl (pc2 := 212) ?_
        have b73 := GI.b g23 117 2 kd117 (lo := 0) (hi := 1601) rfl
        have b74 := GI.b hg 117 3 kd117 (lo := 0) (hi := 1600) rfl
        have q75 : (τ22.1 117 3) = (σ.1 117 3) := ((FR.at f24 117 3 rfl).trans (FR.at f6 117 3 rfl))
        have q76 : (τ22.1 117 5) = (τ4.1 117 5) := (FR.at f24 117 5 rfl)
        refine wp_use (m_334 τ22 g23 z25 (by omega) (by omega)  _ _ (by omega) (by omega)) ?_
        rintro _ τ80 ⟨rfl, g81, f82, p77, p78, p79⟩
        clear p78
        show WP 331 212 [(0, .ref 117), (2, iV z25)] [] _ _ _ _
        refine wp_al1 jF_331_212 rfl rfl (pc2 := 213) ?_
        refine wp_il1 jF_331_213 rfl rfl (pc2 := 214) ?_
        refine wp_ic jF_331_214 rfl (pc2 := 215) ?_
        refine wp_i_eq jF_331_215 ⟨by omega, by omega⟩ (m_rgl rfl) rfl (pc2 := 218) ?_ ?_
        · intro h83; exfalso; omega
        · intro h83
          refine wp_bi jF_331_218 (by decide) rfl (pc2 := 220) ?_
          refine wp_il1 jF_331_220 rfl rfl (pc2 := 221) ?_
          refine wp_add jF_331_221 rfl (pc2 := 222) ?_
          refine wp_go jF_331_222 ?_
          refine wp_cV (as := [iV (40 + z25)]) (rest := []) (a := 117) (mx := 2) (ci := 12) jF_331_237 kd117 (by decide) rfl rfl rfl rfl rfl (by omega) (by omega) rfl (pc2 := 240) ?_
          have q84 : (dp τ80) = (dp τ4) := ((dp_fr f82 (fun _ => rfl) rfl).trans (dp_fr f24 (fun _ => rfl) rfl))
          have q85 : (τ80.1 117 87) = (τ4.1 117 87) := ((FR.at f82 117 87 rfl).trans (FR.at f24 117 87 rfl))
          refine wp_use (m_329 τ80 g81 (40 + z25) (by omega) (by omega) (by omega) _ _ (by omega) (by omega)) ?_
          rintro _ τ90 ⟨rfl, g91, f92, p86, p87, p88, p89⟩
          show WP 331 240 [(0, .ref 117), (2, iV z25)] [] _ _ _ _
          refine wp_al1 jF_331_240 rfl rfl (pc2 := 241) ?_
          refine wp_cV (as := []) (rest := []) (a := 117) (mx := 1) (ci := 12) jF_331_241 kd117 (by decide) rfl rfl rfl rfl rfl (by omega) (by omega) rfl (pc2 := 244) ?_
          have q93 := ws_nn (σ := τ4)
          have q94 : (ws τ90) = (ws τ4) := ((ws_fr f92 (fun _ => rfl) rfl).trans ((ws_fr f82 (fun _ => rfl) rfl).trans (ws_fr f24 (fun _ => rfl) rfl)))
          have q95 : (wk τ90) = (wk τ4) := ((wk_fr f92 (fun _ => rfl) rfl rfl).trans ((wk_fr f82 (fun _ => rfl) rfl rfl).trans (wk_fr f24 (fun _ => rfl) rfl rfl)))
          have b96 := GI.b g81 117 5 kd117 (lo := (-2147483648)) (hi := 2147483647) rfl
          have q97 : (τ90.1 117 5) = (τ80.1 117 5) := (FR.at f92 117 5 rfl)
          have b98 := GI.b g91 117 87 kd117 (lo := 0) (hi := 1690) rfl
          have q99 : (τ90.1 117 89) = (τ4.1 117 89) := ((FR.at f92 117 89 rfl).trans ((FR.at f82 117 89 rfl).trans (FR.at f24 117 89 rfl)))
          have q100 : (τ90.1 117 91) = (σ.1 117 91) := ((FR.at f92 117 91 rfl).trans ((FR.at f82 117 91 rfl).trans ((FR.at f24 117 91 rfl).trans (FR.at f6 117 91 rfl))))
          refine wp_use (m_335 τ90 g91  (by omega) (by omega) (by omega) (by omega) _ _ (by omega) (by omega)) ?_
          rintro _ τ105 ⟨rfl, g106, f107, p101, p102, p103, p104⟩
          show WP 331 244 [(0, .ref 117), (2, iV z25)] [] _ _ _ _
          refine wp_rv jF_331_244 ?_
          have q108 := ws_nn (σ := τ105)
          have b109 := GI.b g81 117 2 kd117 (lo := 0) (hi := 1601) rfl
          have q110 : (τ105.1 117 2) = (τ80.1 117 2) := ((FR.at f107 117 2 rfl).trans (FR.at f92 117 2 rfl))
          have q111 : (τ105.1 117 5) = (τ80.1 117 5) := ((FR.at f107 117 5 rfl).trans (FR.at f92 117 5 rfl))
          have b112 := GI.b g106 117 87 kd117 (lo := 0) (hi := 1690) rfl
          have b113 := GI.b g106 117 89 kd117 (lo := 0) (hi := 1690) rfl
          exact ⟨rfl, g106, (FR.up (FR.up (FR.up (FR.up f6 f24 sb_Wat_Wqp) f82 sb_Wask_Wqp) f92 sb_Wqc_Wqp) f107 sb_Wqe_Wqp), (by omega), (by omega), (by omega), (by omega), (by omega), (by omega), (by omega)⟩
    · intro h18
      clear p8
      clear p9
      clear p10
      clear p11
      refine wp_rv jF_331_193 ?_
      exact ⟨rfl, g5, f6, (by omega), (by omega), (by omega), (by omega), (by omega), (by omega), (by omega)⟩
  · intro jn114
    refine wp_ic jF_331_0 rfl (pc2 := 1) ?_
    refine wp_is1 (lv2 := [(0, .ref 117), (1, iV 1)]) jF_331_1 rfl rfl rfl (pc2 := 2) ?_
    refine wp_il1 jF_331_2 rfl rfl (pc2 := 3) ?_
    refine wp_z_eq jF_331_3 (m_rgl rfl) rfl (pc2 := 6) ?_ ?_
    · intro h115; exfalso; omega
    · intro h115
      refine wp_al1 jF_331_6 rfl rfl (pc2 := 7) ?_
      have b116 := GI.b hg 117 5 kd117 (lo := (-2147483648)) (hi := 2147483647) rfl
      refine wp_gi jF_331_7 kd117 (by decide) rfl rfl rfl (pc2 := 10) ?_
      refine wp_z_ne jF_331_10 (m_rgb b116 rfl) rfl (pc2 := 13) ?_ ?_
      · intro h117
        have b118 := GI.b hg 117 87 kd117 (lo := 0) (hi := 1690) rfl
        have b119 := GI.b hg 117 89 kd117 (lo := 0) (hi := 1690) rfl
        refine wp_less [0] (lv2 := [(0, .ref 117)]) rfl rfl ?_
        exact jn114 () σ ⟨hg, FR.rf, (by omega), (by omega), (by omega), (by omega), (by omega), (by omega)⟩
      · intro h117
        refine wp_loop (α := Int) (fun a => [(0, .ref 117), (1, iV (a))]) (fun a τ => (1 ≤ a ∧ a ≤ 1) ∧ GI τ ∧ FR Wqp σ τ ∧ ((σ.1 117 2) ≤ (τ.1 117 2)) ∧ ((τ.1 117 5) = 0) ∧ ((wk τ) = 1) ∧ ((σ.1 117 91) ≤ (τ.1 117 89)) ∧ ((dp τ) - (ws τ) = (dp σ) - (ws σ)) ∧ ((τ.1 117 87) + (τ.1 117 89) ≤ (τ.1 117 2))) (fun a τ => Int.toNat (1700 - (τ.1 117 2))) (1) σ ?_ ?_
        · skip
          have b120 := GI.b hg 117 87 kd117 (lo := 0) (hi := 1690) rfl
          have b121 := GI.b hg 117 89 kd117 (lo := 0) (hi := 1690) rfl
          exact ⟨⟨by omega, by omega⟩, hg, FR.rf, (by omega), (by omega), (by omega), (by omega), (by omega), (by omega)⟩
        · rintro x122 τ124 ⟨h123, g125, f126, p127, p128, p129, p130, p131, p132⟩ ih133
          have q134 := ws_nn (σ := τ124)
          have b135 := GI.b g125 117 2 kd117 (lo := 0) (hi := 1601) rfl
          have b136 := GI.b g125 117 5 kd117 (lo := (-2147483648)) (hi := 2147483647) rfl
          have b137 := GI.b g125 117 87 kd117 (lo := 0) (hi := 1690) rfl
          have b138 := GI.b g125 117 89 kd117 (lo := 0) (hi := 1690) rfl
          show WP 331 13 [(0, .ref 117), (1, iV x122)] [] _ _ _ _
          show WP 331 13 [(0, .ref 117), (1, iV x122)] [] _ _ _ _
          refine wp_al1 jF_331_13 rfl rfl (pc2 := 14) ?_
          refine wp_cV (as := []) (rest := []) (a := 117) (mx := 1) (ci := 12) jF_331_14 kd117 (by decide) rfl rfl rfl rfl rfl (by omega) (by omega) rfl (pc2 := 17) ?_
          have b139 := GI.b hg 117 3 kd117 (lo := 0) (hi := 1600) rfl
          have q140 : (τ124.1 117 3) = (σ.1 117 3) := (FR.at f126 117 3 rfl)
          refine wp_use (m_216 τ124 g125   _ _ (by omega) (by omega)) ?_
          rintro _ τ147 ⟨z150, rfl, h151, g148, f149, p141, p142, p143, p144, p145, p146⟩
          have b152 := GI.b hg 118 (τ147.1 117 2).toNat kd118 (lo := 0) (hi := 255) rfl
          have q153 : (τ124.1 118 (τ147.1 117 2).toNat) = (σ.1 118 (τ147.1 117 2).toNat) := (FR.at f126 118 (τ147.1 117 2).toNat rfl)
          show WP 331 17 [(0, .ref 117), (1, iV x122)] [iV z150] _ _ _ _
          refine wp_is1 (lv2 := [(0, .ref 117), (1, iV x122), (2, iV z150)]) jF_331_17 rfl rfl rfl (pc2 := 18) ?_
          refine wp_al1 jF_331_18 rfl rfl (pc2 := 19) ?_
          refine wp_bi jF_331_19 (by decide) rfl (pc2 := 21) ?_
          refine wp_bi jF_331_21 (by decide) rfl (pc2 := 23) ?_
          refine wp_cV (as := [iV 6, iV 7]) (rest := []) (a := 117) (mx := 4) (ci := 12) jF_331_23 kd117 (by decide) rfl rfl rfl rfl rfl (by omega) (by omega) rfl (pc2 := 26) ?_
          have b154 := GI.b g148 117 2 kd117 (lo := 0) (hi := 1601) rfl
          refine wp_use (m_332 τ147 g148 6 (by omega) (by omega) 7 (by omega) (by omega)  _ _ (by omega) (by omega)) ?_
          rintro _ τ158 ⟨z161, rfl, h162, g159, f160, p155, p156, p157⟩
          replace p156 := p156 (by omega)
          show WP 331 26 [(0, .ref 117), (1, iV x122), (2, iV z150)] [iV z161] _ _ _ _
          refine wp_is1 (lv2 := [(0, .ref 117), (1, iV x122), (2, iV z150), (3, iV z161)]) jF_331_26 rfl rfl rfl (pc2 := 27) ?_
          refine wp_il1 jF_331_27 rfl rfl (pc2 := 28) ?_
          refine wp_bi jF_331_28 (by decide) rfl (pc2 := 30) ?_
          refine wp_i_ne jF_331_30 (m_rgb h151 rfl) (m_rgl rfl) rfl (pc2 := 33) ?_ ?_
          · intro h163
            refine wp_al1 jF_331_56 rfl rfl (pc2 := 57) ?_
            refine wp_al1 jF_331_57 rfl rfl (pc2 := 58) ?_
            refine wp_gr (b := 167) jF_331_58 kd117 (by decide) (c := 267) rfl rfl rfl (pc2 := 61) ?_
            refine wp_cV (as := [.ref 167]) (rest := []) (a := 117) (mx := 4) (ci := 12) jF_331_61 kd117 (by decide) rfl rfl rfl rfl rfl (by omega) (by omega) rfl (pc2 := 64) ?_
            have b164 := GI.b g159 117 2 kd117 (lo := 0) (hi := 1601) rfl
            have q165 : (τ158.1 117 3) = (σ.1 117 3) := ((FR.at f160 117 3 rfl).trans ((FR.at f149 117 3 rfl).trans (FR.at f126 117 3 rfl)))
            have q166 : (τ158.1 117 5) = (τ124.1 117 5) := ((FR.at f160 117 5 rfl).trans (FR.at f149 117 5 rfl))
            refine wp_use (m_220 τ158 g159 167 3 cw167.1 cw167.2 (by decide)  _ _ (by omega) (by omega)) ?_
            rintro _ τ170 ⟨z173, rfl, h174, g171, f172, p167, p168, p169⟩
            replace p169 := p169 (by omega)
            show WP 331 64 [(0, .ref 117), (1, iV x122), (2, iV z150), (3, iV z161)] [iV z173] _ _ _ _
            refine wp_z_ne jF_331_64 (m_rgb h174 rfl) rfl (pc2 := 67) ?_ ?_
            · intro h175
              replace p168 := p168 (by omega)
              refine wp_al1 jF_331_78 rfl rfl (pc2 := 79) ?_
              refine wp_al1 jF_331_79 rfl rfl (pc2 := 80) ?_
              refine wp_gr (b := 167) jF_331_80 kd117 (by decide) (c := 267) rfl rfl rfl (pc2 := 83) ?_
              refine wp_cV (as := [.ref 167]) (rest := []) (a := 117) (mx := 2) (ci := 12) jF_331_83 kd117 (by decide) rfl rfl rfl rfl rfl (by omega) (by omega) rfl (pc2 := 86) ?_
              have b176 := GI.b g171 117 2 kd117 (lo := 0) (hi := 1601) rfl
              have q177 : (τ170.1 117 3) = (σ.1 117 3) := ((FR.at f172 117 3 rfl).trans ((FR.at f160 117 3 rfl).trans ((FR.at f149 117 3 rfl).trans (FR.at f126 117 3 rfl))))
              have q178 : (τ170.1 117 5) = (τ124.1 117 5) := ((FR.at f172 117 5 rfl).trans ((FR.at f160 117 5 rfl).trans (FR.at f149 117 5 rfl)))
              refine wp_use (m_219 τ170 g171 167 3 cw167.1 cw167.2 (by decide)  _ _ (by omega) (by omega)) ?_
              rintro _ τ183 ⟨z186, rfl, h187, g184, f185, p179, p180, p181, p182⟩
              replace p181 := p181 (by omega)
              replace p182 := p182 (by omega)
              show WP 331 86 [(0, .ref 117), (1, iV x122), (2, iV z150), (3, iV z161)] [iV z186] _ _ _ _
              refine wp_is2 (lv2 := [(0, .ref 117), (1, iV x122), (2, iV z150), (3, iV z161), (4, iV z186)]) jF_331_86 rfl rfl rfl (pc2 := 88) ?_
              refine wp_il2 jF_331_88 rfl rfl (pc2 := 90) ?_
              refine wp_z_ne jF_331_90 (m_rgb h187 rfl) rfl (pc2 := 93) ?_ ?_
              · intro h188
                replace p180 := p180 (by omega)
                clear p181
                replace p182 := p182 (by omega)
                refine wp_al1 jF_331_101 rfl rfl (pc2 := 102) ?_
                refine wp_cV (as := []) (rest := []) (a := 117) (mx := 1) (ci := 12) jF_331_102 kd117 (by decide) rfl rfl rfl rfl rfl (by omega) (by omega) rfl (pc2 := 105) ?_
                have b189 := GI.b g184 117 2 kd117 (lo := 0) (hi := 1601) rfl
                have q190 : (τ183.1 117 3) = (σ.1 117 3) := ((FR.at f185 117 3 rfl).trans ((FR.at f172 117 3 rfl).trans ((FR.at f160 117 3 rfl).trans ((FR.at f149 117 3 rfl).trans (FR.at f126 117 3 rfl)))))
                refine wp_use (m_216 τ183 g184   _ _ (by omega) (by omega)) ?_
                rintro _ τ197 ⟨z200, rfl, h201, g198, f199, p191, p192, p193, p194, p195, p196⟩
                have b202 := GI.b hg 118 (τ197.1 117 2).toNat kd118 (lo := 0) (hi := 255) rfl
                have q203 : (τ183.1 118 (τ197.1 117 2).toNat) = (σ.1 118 (τ197.1 117 2).toNat) := ((FR.at f185 118 (τ197.1 117 2).toNat rfl).trans ((FR.at f172 118 (τ197.1 117 2).toNat rfl).trans ((FR.at f160 118 (τ197.1 117 2).toNat rfl).trans ((FR.at f149 118 (τ197.1 117 2).toNat rfl).trans (FR.at f126 118 (τ197.1 117 2).toNat rfl)))))
                show WP 331 105 [(0, .ref 117), (1, iV x122), (2, iV z150), (3, iV z161), (4, iV z186)] [iV z200] _ _ _ _
                refine wp_bi jF_331_105 (by decide) rfl (pc2 := 107) ?_
                refine wp_i_ne jF_331_107 (m_rgb h201 rfl) (m_rgl rfl) rfl (pc2 := 110) ?_ ?_
                · intro h204
                  refine wp_ic jF_331_117 rfl (pc2 := 118) ?_
                  refine wp_is2 (lv2 := [(0, .ref 117), (1, iV x122), (2, iV z150), (3, iV z161), (4, iV z186), (5, iV (-1))]) jF_331_118 rfl rfl rfl (pc2 := 120) ?_
                  refine wp_il2 jF_331_120 rfl rfl (pc2 := 122) ?_
                  refine wp_ic jF_331_122 rfl (pc2 := 123) ?_
                  refine wp_i_eq jF_331_123 (m_rgl rfl) (m_rgl rfl) rfl (pc2 := 126) ?_ ?_
                  · intro h205
                    refine wp_al1 jF_331_144 rfl rfl (pc2 := 145) ?_
                    refine wp_bi jF_331_145 (by decide) rfl (pc2 := 147) ?_
                    refine wp_cV (as := [iV 40]) (rest := []) (a := 117) (mx := 2) (ci := 12) jF_331_147 kd117 (by decide) rfl rfl rfl rfl rfl (by omega) (by omega) rfl (pc2 := 150) ?_
                    have b206 := GI.b g198 117 2 kd117 (lo := 0) (hi := 1601) rfl
                    have q207 : (τ197.1 117 3) = (σ.1 117 3) := ((FR.at f199 117 3 rfl).trans ((FR.at f185 117 3 rfl).trans ((FR.at f172 117 3 rfl).trans ((FR.at f160 117 3 rfl).trans ((FR.at f149 117 3 rfl).trans (FR.at f126 117 3 rfl))))))
                    have q208 : (τ197.1 117 5) = (τ124.1 117 5) := ((FR.at f199 117 5 rfl).trans ((FR.at f185 117 5 rfl).trans ((FR.at f172 117 5 rfl).trans ((FR.at f160 117 5 rfl).trans (FR.at f149 117 5 rfl)))))
                    refine wp_use (m_238 τ197 g198 40 (by omega) (by omega)  _ _ (by omega) (by omega)) ?_
                    rintro _ τ212 ⟨rfl, g213, f214, p209, p210, p211⟩
                    clear p210
                    show WP 331 150 [(0, .ref 117), (1, iV x122), (2, iV z150), (3, iV z161), (4, iV z186), (5, iV (-1))] [] _ _ _ _
                    refine wp_go jF_331_150 ?_
                    refine wp_go jF_331_183 ?_
                    refine wp_il1 jF_331_2 rfl rfl (pc2 := 3) ?_
                    refine wp_z_eq jF_331_3 (m_rgb h123 rfl) rfl (pc2 := 6) ?_ ?_
                    · intro h215; exfalso; omega
                    · intro h215
                      refine wp_al1 jF_331_6 rfl rfl (pc2 := 7) ?_
                      have b216 := GI.b g213 117 5 kd117 (lo := (-2147483648)) (hi := 2147483647) rfl
                      refine wp_gi jF_331_7 kd117 (by decide) rfl rfl rfl (pc2 := 10) ?_
                      refine wp_z_ne jF_331_10 (m_rgb b216 rfl) rfl (pc2 := 13) ?_ ?_
                      · intro h217
                        clear p211
                        have q218 : (dp τ212) = (dp τ124) := ((dp_fr f214 (fun _ => rfl) rfl).trans ((dp_fr f199 (fun _ => rfl) rfl).trans ((dp_fr f185 (fun _ => rfl) rfl).trans ((dp_fr f172 (fun _ => rfl) rfl).trans ((dp_fr f160 (fun _ => rfl) rfl).trans (dp_fr f149 (fun _ => rfl) rfl))))))
                        have q219 := ws_nn (σ := τ124)
                        have q220 : (ws τ212) = (ws τ124) := ((ws_fr f214 (fun _ => rfl) rfl).trans ((ws_fr f199 (fun _ => rfl) rfl).trans ((ws_fr f185 (fun _ => rfl) rfl).trans ((ws_fr f172 (fun _ => rfl) rfl).trans ((ws_fr f160 (fun _ => rfl) rfl).trans (ws_fr f149 (fun _ => rfl) rfl))))))
                        have q221 : (wk τ212) = (wk τ124) := ((wk_fr f214 (fun _ => rfl) rfl rfl).trans ((wk_fr f199 (fun _ => rfl) rfl rfl).trans ((wk_fr f185 (fun _ => rfl) rfl rfl).trans ((wk_fr f172 (fun _ => rfl) rfl rfl).trans ((wk_fr f160 (fun _ => rfl) rfl rfl).trans (wk_fr f149 (fun _ => rfl) rfl rfl))))))
                        have b222 := GI.b g213 117 2 kd117 (lo := 0) (hi := 1601) rfl
                        have q223 : (τ212.1 117 87) = (τ124.1 117 87) := ((FR.at f214 117 87 rfl).trans ((FR.at f199 117 87 rfl).trans ((FR.at f185 117 87 rfl).trans ((FR.at f172 117 87 rfl).trans ((FR.at f160 117 87 rfl).trans (FR.at f149 117 87 rfl))))))
                        have q224 : (τ212.1 117 89) = (τ124.1 117 89) := ((FR.at f214 117 89 rfl).trans ((FR.at f199 117 89 rfl).trans ((FR.at f185 117 89 rfl).trans ((FR.at f172 117 89 rfl).trans ((FR.at f160 117 89 rfl).trans (FR.at f149 117 89 rfl))))))
                        refine wp_less [0] (lv2 := [(0, .ref 117)]) rfl rfl ?_
                        exact jn114 () τ212 ⟨g213, (FR.up (FR.up (FR.up (FR.up (FR.up (FR.up f126 f149 sb_Wat_Wqp) f160 sb_Wat_Wqp) f172 sb_Wat_Wqp) f185 sb_Wtak_Wqp) f199 sb_Wat_Wqp) f214 sb_Wsgn_Wqp), (by omega), (by omega), (by omega), (by omega), (by omega), (by omega)⟩
                      · intro h217
                        replace p211 := p211 (by omega)
                        have q225 : (dp τ212) = (dp τ124) := ((dp_fr f214 (fun _ => rfl) rfl).trans ((dp_fr f199 (fun _ => rfl) rfl).trans ((dp_fr f185 (fun _ => rfl) rfl).trans ((dp_fr f172 (fun _ => rfl) rfl).trans ((dp_fr f160 (fun _ => rfl) rfl).trans (dp_fr f149 (fun _ => rfl) rfl))))))
                        have q226 := ws_nn (σ := τ124)
                        have q227 : (ws τ212) = (ws τ124) := ((ws_fr f214 (fun _ => rfl) rfl).trans ((ws_fr f199 (fun _ => rfl) rfl).trans ((ws_fr f185 (fun _ => rfl) rfl).trans ((ws_fr f172 (fun _ => rfl) rfl).trans ((ws_fr f160 (fun _ => rfl) rfl).trans (ws_fr f149 (fun _ => rfl) rfl))))))
                        have q228 : (wk τ212) = (wk τ124) := ((wk_fr f214 (fun _ => rfl) rfl rfl).trans ((wk_fr f199 (fun _ => rfl) rfl rfl).trans ((wk_fr f185 (fun _ => rfl) rfl rfl).trans ((wk_fr f172 (fun _ => rfl) rfl rfl).trans ((wk_fr f160 (fun _ => rfl) rfl rfl).trans (wk_fr f149 (fun _ => rfl) rfl rfl))))))
                        have b229 := GI.b g213 117 2 kd117 (lo := 0) (hi := 1601) rfl
                        have q230 : (τ212.1 117 87) = (τ124.1 117 87) := ((FR.at f214 117 87 rfl).trans ((FR.at f199 117 87 rfl).trans ((FR.at f185 117 87 rfl).trans ((FR.at f172 117 87 rfl).trans ((FR.at f160 117 87 rfl).trans (FR.at f149 117 87 rfl))))))
                        have q231 : (τ212.1 117 89) = (τ124.1 117 89) := ((FR.at f214 117 89 rfl).trans ((FR.at f199 117 89 rfl).trans ((FR.at f185 117 89 rfl).trans ((FR.at f172 117 89 rfl).trans ((FR.at f160 117 89 rfl).trans (FR.at f149 117 89 rfl))))))
                        refine wp_less [0, 1] (lv2 := [(0, .ref 117), (1, iV x122)]) rfl rfl ?_
                        exact ih133 (x122) τ212 ⟨⟨by omega, by omega⟩, g213, (FR.up (FR.up (FR.up (FR.up (FR.up (FR.up f126 f149 sb_Wat_Wqp) f160 sb_Wat_Wqp) f172 sb_Wat_Wqp) f185 sb_Wtak_Wqp) f199 sb_Wat_Wqp) f214 sb_Wsgn_Wqp), (by omega), (by omega), (by omega), (by omega), (by omega), (by omega)⟩ (by show Int.toNat (1700 - (τ212.1 117 2)) < Int.toNat (1700 - (τ124.1 117 2)); omega)
                  · intro h205; exfalso; omega
                · intro h204
                  replace p191 := p191 (by omega)
                  replace p196 := p196 (by omega)
                  refine wp_al1 jF_331_110 rfl rfl (pc2 := 111) ?_
                  have b232 := GI.b g198 117 2 kd117 (lo := 0) (hi := 1601) rfl
                  refine wp_gi jF_331_111 kd117 (by decide) rfl rfl rfl (pc2 := 114) ?_
                  refine wp_go jF_331_114 ?_
                  refine wp_is2 (lv2 := [(0, .ref 117), (1, iV x122), (2, iV z150), (3, iV z161), (4, iV z186), (5, iV (τ197.1 117 2))]) jF_331_118 rfl rfl rfl (pc2 := 120) ?_
                  refine wp_il2 jF_331_120 rfl rfl (pc2 := 122) ?_
                  refine wp_ic jF_331_122 rfl (pc2 := 123) ?_
                  refine wp_i_eq jF_331_123 (m_rgb b232 rfl) (m_rgl rfl) rfl (pc2 := 126) ?_ ?_
                  · intro h233; exfalso; omega
                  · intro h233
                    refine wp_al1 jF_331_126 rfl rfl (pc2 := 127) ?_
                    refine wp_il2 jF_331_127 rfl rfl (pc2 := 129) ?_
                    refine wp_z_eq jF_331_129 ⟨by omega, by omega⟩ rfl (pc2 := 132) ?_ ?_
                    · intro h234; exfalso; omega
                    · intro h234
                      refine wp_bi jF_331_132 (by decide) rfl (pc2 := 134) ?_
                      refine wp_go jF_331_134 ?_
                      refine wp_il2 jF_331_139 rfl rfl (pc2 := 141) ?_
                      refine wp_cV (as := [iV 21, iV (τ197.1 117 2)]) (rest := []) (a := 117) (mx := 3) (ci := 12) jF_331_141 kd117 (by decide) rfl rfl rfl rfl rfl (by omega) (by omega) rfl (pc2 := 144) ?_
                      have q235 := ws_nn (σ := τ124)
                      have q236 : (ws τ197) = (ws τ124) := ((ws_fr f199 (fun _ => rfl) rfl).trans ((ws_fr f185 (fun _ => rfl) rfl).trans ((ws_fr f172 (fun _ => rfl) rfl).trans ((ws_fr f160 (fun _ => rfl) rfl).trans (ws_fr f149 (fun _ => rfl) rfl)))))
                      have q237 : (tt τ197) = (tt τ124) := ((tt_fr f199 (fun _ => rfl) rfl).trans ((tt_fr f185 (fun _ => rfl) rfl).trans ((tt_fr f172 (fun _ => rfl) rfl).trans ((tt_fr f160 (fun _ => rfl) rfl).trans (tt_fr f149 (fun _ => rfl) rfl)))))
                      have q238 : (wk τ197) = (wk τ124) := ((wk_fr f199 (fun _ => rfl) rfl rfl).trans ((wk_fr f185 (fun _ => rfl) rfl rfl).trans ((wk_fr f172 (fun _ => rfl) rfl rfl).trans ((wk_fr f160 (fun _ => rfl) rfl rfl).trans (wk_fr f149 (fun _ => rfl) rfl rfl)))))
                      have q239 : (τ197.1 117 5) = (τ124.1 117 5) := ((FR.at f199 117 5 rfl).trans ((FR.at f185 117 5 rfl).trans ((FR.at f172 117 5 rfl).trans ((FR.at f160 117 5 rfl).trans (FR.at f149 117 5 rfl)))))
                      have q240 : (τ197.1 117 89) = (τ124.1 117 89) := ((FR.at f199 117 89 rfl).trans ((FR.at f185 117 89 rfl).trans ((FR.at f172 117 89 rfl).trans ((FR.at f160 117 89 rfl).trans (FR.at f149 117 89 rfl)))))
                      have q241 : (τ197.1 117 91) = (σ.1 117 91) := ((FR.at f199 117 91 rfl).trans ((FR.at f185 117 91 rfl).trans ((FR.at f172 117 91 rfl).trans ((FR.at f160 117 91 rfl).trans ((FR.at f149 117 91 rfl).trans (FR.at f126 117 91 rfl))))))
                      refine wp_use (m_327 τ197 g198 21 (by omega) (by omega) (τ197.1 117 2) (by omega) (by omega) (by omega) (by omega) _ _ (by omega) (by omega)) ?_
                      rintro _ τ250 ⟨rfl, g251, f252, p242, p243, p244, p245, p246, p247, p248, p249⟩
                      clear p242
                      show WP 331 144 [(0, .ref 117), (1, iV x122), (2, iV z150), (3, iV z161), (4, iV z186), (5, iV (τ197.1 117 2))] [] _ _ _ _
                      refine wp_al1 jF_331_144 rfl rfl (pc2 := 145) ?_
                      refine wp_bi jF_331_145 (by decide) rfl (pc2 := 147) ?_
                      refine wp_cV (as := [iV 40]) (rest := []) (a := 117) (mx := 2) (ci := 12) jF_331_147 kd117 (by decide) rfl rfl rfl rfl rfl (by omega) (by omega) rfl (pc2 := 150) ?_
                      have q253 : (τ250.1 117 2) = (τ197.1 117 2) := (FR.at f252 117 2 rfl)
                      have q254 : (τ250.1 117 3) = (σ.1 117 3) := ((FR.at f252 117 3 rfl).trans ((FR.at f199 117 3 rfl).trans ((FR.at f185 117 3 rfl).trans ((FR.at f172 117 3 rfl).trans ((FR.at f160 117 3 rfl).trans ((FR.at f149 117 3 rfl).trans (FR.at f126 117 3 rfl)))))))
                      have b255 := GI.b g251 117 5 kd117 (lo := (-2147483648)) (hi := 2147483647) rfl
                      refine wp_use (m_238 τ250 g251 40 (by omega) (by omega)  _ _ (by omega) (by omega)) ?_
                      rintro _ τ259 ⟨rfl, g260, f261, p256, p257, p258⟩
                      show WP 331 150 [(0, .ref 117), (1, iV x122), (2, iV z150), (3, iV z161), (4, iV z186), (5, iV (τ197.1 117 2))] [] _ _ _ _
                      refine wp_go jF_331_150 ?_
                      refine wp_go jF_331_183 ?_
                      refine wp_il1 jF_331_2 rfl rfl (pc2 := 3) ?_
                      refine wp_z_eq jF_331_3 (m_rgb h123 rfl) rfl (pc2 := 6) ?_ ?_
                      · intro h262; exfalso; omega
                      · intro h262
                        refine wp_al1 jF_331_6 rfl rfl (pc2 := 7) ?_
                        have b263 := GI.b g260 117 5 kd117 (lo := (-2147483648)) (hi := 2147483647) rfl
                        refine wp_gi jF_331_7 kd117 (by decide) rfl rfl rfl (pc2 := 10) ?_
                        refine wp_z_ne jF_331_10 (m_rgb b263 rfl) rfl (pc2 := 13) ?_ ?_
                        · intro h264
                          clear p258
                          have q265 : (dp τ259) = (dp τ124) := ((dp_fr f261 (fun _ => rfl) rfl).trans ((dp_fr f252 (fun _ => rfl) rfl).trans ((dp_fr f199 (fun _ => rfl) rfl).trans ((dp_fr f185 (fun _ => rfl) rfl).trans ((dp_fr f172 (fun _ => rfl) rfl).trans ((dp_fr f160 (fun _ => rfl) rfl).trans (dp_fr f149 (fun _ => rfl) rfl)))))))
                          have q266 := ws_nn (σ := τ250)
                          have q267 : (ws τ259) = (ws τ250) := (ws_fr f261 (fun _ => rfl) rfl)
                          have q268 : (wk τ259) = (wk τ250) := (wk_fr f261 (fun _ => rfl) rfl rfl)
                          have b269 := GI.b g260 117 2 kd117 (lo := 0) (hi := 1601) rfl
                          have q270 : (τ259.1 117 87) = (τ124.1 117 87) := ((FR.at f261 117 87 rfl).trans ((FR.at f252 117 87 rfl).trans ((FR.at f199 117 87 rfl).trans ((FR.at f185 117 87 rfl).trans ((FR.at f172 117 87 rfl).trans ((FR.at f160 117 87 rfl).trans (FR.at f149 117 87 rfl)))))))
                          have b271 := GI.b g251 117 89 kd117 (lo := 0) (hi := 1690) rfl
                          have q272 : (τ259.1 117 89) = (τ250.1 117 89) := (FR.at f261 117 89 rfl)
                          refine wp_less [0] (lv2 := [(0, .ref 117)]) rfl rfl ?_
                          exact jn114 () τ259 ⟨g260, (FR.up (FR.up (FR.up (FR.up (FR.up (FR.up (FR.up f126 f149 sb_Wat_Wqp) f160 sb_Wat_Wqp) f172 sb_Wat_Wqp) f185 sb_Wtak_Wqp) f199 sb_Wat_Wqp) f252 sb_Wqo_Wqp) f261 sb_Wsgn_Wqp), (by omega), (by omega), (by omega), (by omega), (by omega), (by omega)⟩
                        · intro h264
                          replace p258 := p258 (by omega)
                          have q273 : (dp τ259) = (dp τ124) := ((dp_fr f261 (fun _ => rfl) rfl).trans ((dp_fr f252 (fun _ => rfl) rfl).trans ((dp_fr f199 (fun _ => rfl) rfl).trans ((dp_fr f185 (fun _ => rfl) rfl).trans ((dp_fr f172 (fun _ => rfl) rfl).trans ((dp_fr f160 (fun _ => rfl) rfl).trans (dp_fr f149 (fun _ => rfl) rfl)))))))
                          have q274 := ws_nn (σ := τ250)
                          have q275 : (ws τ259) = (ws τ250) := (ws_fr f261 (fun _ => rfl) rfl)
                          have q276 : (wk τ259) = (wk τ250) := (wk_fr f261 (fun _ => rfl) rfl rfl)
                          have b277 := GI.b g260 117 2 kd117 (lo := 0) (hi := 1601) rfl
                          have q278 : (τ259.1 117 87) = (τ124.1 117 87) := ((FR.at f261 117 87 rfl).trans ((FR.at f252 117 87 rfl).trans ((FR.at f199 117 87 rfl).trans ((FR.at f185 117 87 rfl).trans ((FR.at f172 117 87 rfl).trans ((FR.at f160 117 87 rfl).trans (FR.at f149 117 87 rfl)))))))
                          have b279 := GI.b g251 117 89 kd117 (lo := 0) (hi := 1690) rfl
                          have q280 : (τ259.1 117 89) = (τ250.1 117 89) := (FR.at f261 117 89 rfl)
                          refine wp_less [0, 1] (lv2 := [(0, .ref 117), (1, iV x122)]) rfl rfl ?_
                          exact ih133 (x122) τ259 ⟨⟨by omega, by omega⟩, g260, (FR.up (FR.up (FR.up (FR.up (FR.up (FR.up (FR.up f126 f149 sb_Wat_Wqp) f160 sb_Wat_Wqp) f172 sb_Wat_Wqp) f185 sb_Wtak_Wqp) f199 sb_Wat_Wqp) f252 sb_Wqo_Wqp) f261 sb_Wsgn_Wqp), (by omega), (by omega), (by omega), (by omega), (by omega), (by omega)⟩ (by show Int.toNat (1700 - (τ259.1 117 2)) < Int.toNat (1700 - (τ124.1 117 2)); omega)
              · intro h188
                clear p180
                replace p181 := p181 (by omega)
                clear p182
                refine wp_al1 jF_331_93 rfl rfl (pc2 := 94) ?_
                refine wp_al1 jF_331_94 rfl rfl (pc2 := 95) ?_
                refine wp_gr (b := 168) jF_331_95 kd117 (by decide) (c := 268) rfl rfl rfl (pc2 := 98) ?_
                refine wp_cV (as := [.ref 168]) (rest := []) (a := 117) (mx := 2) (ci := 12) jF_331_98 kd117 (by decide) rfl rfl rfl rfl rfl (by omega) (by omega) rfl (pc2 := 101) ?_
                have b281 := GI.b g184 117 2 kd117 (lo := 0) (hi := 1601) rfl
                have q282 : (τ183.1 117 3) = (σ.1 117 3) := ((FR.at f185 117 3 rfl).trans ((FR.at f172 117 3 rfl).trans ((FR.at f160 117 3 rfl).trans ((FR.at f149 117 3 rfl).trans (FR.at f126 117 3 rfl)))))
                have q283 : (τ183.1 117 5) = (τ124.1 117 5) := ((FR.at f185 117 5 rfl).trans ((FR.at f172 117 5 rfl).trans ((FR.at f160 117 5 rfl).trans (FR.at f149 117 5 rfl))))
                refine wp_use (m_234 τ183 g184 168 3 cw168.1 cw168.2 (by decide)  _ _ (by omega) (by omega)) ?_
                rintro _ τ287 ⟨rfl, g288, f289, p284, p285, p286⟩
                clear p285
                show WP 331 101 [(0, .ref 117), (1, iV x122), (2, iV z150), (3, iV z161), (4, iV z186)] [] _ _ _ _
                refine wp_al1 jF_331_101 rfl rfl (pc2 := 102) ?_
                refine wp_cV (as := []) (rest := []) (a := 117) (mx := 1) (ci := 12) jF_331_102 kd117 (by decide) rfl rfl rfl rfl rfl (by omega) (by omega) rfl (pc2 := 105) ?_
                have b290 := GI.b g288 117 2 kd117 (lo := 0) (hi := 1601) rfl
                have q291 : (τ287.1 117 3) = (σ.1 117 3) := ((FR.at f289 117 3 rfl).trans ((FR.at f185 117 3 rfl).trans ((FR.at f172 117 3 rfl).trans ((FR.at f160 117 3 rfl).trans ((FR.at f149 117 3 rfl).trans (FR.at f126 117 3 rfl))))))
                refine wp_use (m_216 τ287 g288   _ _ (by omega) (by omega)) ?_
                rintro _ τ298 ⟨z301, rfl, h302, g299, f300, p292, p293, p294, p295, p296, p297⟩
                have b303 := GI.b hg 118 (τ298.1 117 2).toNat kd118 (lo := 0) (hi := 255) rfl
                have q304 : (τ287.1 118 (τ298.1 117 2).toNat) = (σ.1 118 (τ298.1 117 2).toNat) := ((FR.at f289 118 (τ298.1 117 2).toNat rfl).trans ((FR.at f185 118 (τ298.1 117 2).toNat rfl).trans ((FR.at f172 118 (τ298.1 117 2).toNat rfl).trans ((FR.at f160 118 (τ298.1 117 2).toNat rfl).trans ((FR.at f149 118 (τ298.1 117 2).toNat rfl).trans (FR.at f126 118 (τ298.1 117 2).toNat rfl))))))
                show WP 331 105 [(0, .ref 117), (1, iV x122), (2, iV z150), (3, iV z161), (4, iV z186)] [iV z301] _ _ _ _
                refine wp_bi jF_331_105 (by decide) rfl (pc2 := 107) ?_
                refine wp_i_ne jF_331_107 (m_rgb h302 rfl) (m_rgl rfl) rfl (pc2 := 110) ?_ ?_
                · intro h305
                  refine wp_ic jF_331_117 rfl (pc2 := 118) ?_
                  refine wp_is2 (lv2 := [(0, .ref 117), (1, iV x122), (2, iV z150), (3, iV z161), (4, iV z186), (5, iV (-1))]) jF_331_118 rfl rfl rfl (pc2 := 120) ?_
                  refine wp_il2 jF_331_120 rfl rfl (pc2 := 122) ?_
                  refine wp_ic jF_331_122 rfl (pc2 := 123) ?_
                  refine wp_i_eq jF_331_123 (m_rgl rfl) (m_rgl rfl) rfl (pc2 := 126) ?_ ?_
                  · intro h306
                    refine wp_al1 jF_331_144 rfl rfl (pc2 := 145) ?_
                    refine wp_bi jF_331_145 (by decide) rfl (pc2 := 147) ?_
                    refine wp_cV (as := [iV 40]) (rest := []) (a := 117) (mx := 2) (ci := 12) jF_331_147 kd117 (by decide) rfl rfl rfl rfl rfl (by omega) (by omega) rfl (pc2 := 150) ?_
                    have b307 := GI.b g299 117 2 kd117 (lo := 0) (hi := 1601) rfl
                    have q308 : (τ298.1 117 3) = (σ.1 117 3) := ((FR.at f300 117 3 rfl).trans ((FR.at f289 117 3 rfl).trans ((FR.at f185 117 3 rfl).trans ((FR.at f172 117 3 rfl).trans ((FR.at f160 117 3 rfl).trans ((FR.at f149 117 3 rfl).trans (FR.at f126 117 3 rfl)))))))
                    have b309 := GI.b g288 117 5 kd117 (lo := (-2147483648)) (hi := 2147483647) rfl
                    have q310 : (τ298.1 117 5) = (τ287.1 117 5) := (FR.at f300 117 5 rfl)
                    refine wp_use (m_238 τ298 g299 40 (by omega) (by omega)  _ _ (by omega) (by omega)) ?_
                    rintro _ τ314 ⟨rfl, g315, f316, p311, p312, p313⟩
                    show WP 331 150 [(0, .ref 117), (1, iV x122), (2, iV z150), (3, iV z161), (4, iV z186), (5, iV (-1))] [] _ _ _ _
                    refine wp_go jF_331_150 ?_
                    refine wp_go jF_331_183 ?_
                    refine wp_il1 jF_331_2 rfl rfl (pc2 := 3) ?_
                    refine wp_z_eq jF_331_3 (m_rgb h123 rfl) rfl (pc2 := 6) ?_ ?_
                    · intro h317; exfalso; omega
                    · intro h317
                      refine wp_al1 jF_331_6 rfl rfl (pc2 := 7) ?_
                      have b318 := GI.b g315 117 5 kd117 (lo := (-2147483648)) (hi := 2147483647) rfl
                      refine wp_gi jF_331_7 kd117 (by decide) rfl rfl rfl (pc2 := 10) ?_
                      refine wp_z_ne jF_331_10 (m_rgb b318 rfl) rfl (pc2 := 13) ?_ ?_
                      · intro h319
                        clear p313
                        have q320 : (dp τ314) = (dp τ124) := ((dp_fr f316 (fun _ => rfl) rfl).trans ((dp_fr f300 (fun _ => rfl) rfl).trans ((dp_fr f289 (fun _ => rfl) rfl).trans ((dp_fr f185 (fun _ => rfl) rfl).trans ((dp_fr f172 (fun _ => rfl) rfl).trans ((dp_fr f160 (fun _ => rfl) rfl).trans (dp_fr f149 (fun _ => rfl) rfl)))))))
                        have q321 := ws_nn (σ := τ124)
                        have q322 : (ws τ314) = (ws τ124) := ((ws_fr f316 (fun _ => rfl) rfl).trans ((ws_fr f300 (fun _ => rfl) rfl).trans ((ws_fr f289 (fun _ => rfl) rfl).trans ((ws_fr f185 (fun _ => rfl) rfl).trans ((ws_fr f172 (fun _ => rfl) rfl).trans ((ws_fr f160 (fun _ => rfl) rfl).trans (ws_fr f149 (fun _ => rfl) rfl)))))))
                        have q323 : (wk τ314) = (wk τ124) := ((wk_fr f316 (fun _ => rfl) rfl rfl).trans ((wk_fr f300 (fun _ => rfl) rfl rfl).trans ((wk_fr f289 (fun _ => rfl) rfl rfl).trans ((wk_fr f185 (fun _ => rfl) rfl rfl).trans ((wk_fr f172 (fun _ => rfl) rfl rfl).trans ((wk_fr f160 (fun _ => rfl) rfl rfl).trans (wk_fr f149 (fun _ => rfl) rfl rfl)))))))
                        have b324 := GI.b g315 117 2 kd117 (lo := 0) (hi := 1601) rfl
                        have q325 : (τ314.1 117 87) = (τ124.1 117 87) := ((FR.at f316 117 87 rfl).trans ((FR.at f300 117 87 rfl).trans ((FR.at f289 117 87 rfl).trans ((FR.at f185 117 87 rfl).trans ((FR.at f172 117 87 rfl).trans ((FR.at f160 117 87 rfl).trans (FR.at f149 117 87 rfl)))))))
                        have q326 : (τ314.1 117 89) = (τ124.1 117 89) := ((FR.at f316 117 89 rfl).trans ((FR.at f300 117 89 rfl).trans ((FR.at f289 117 89 rfl).trans ((FR.at f185 117 89 rfl).trans ((FR.at f172 117 89 rfl).trans ((FR.at f160 117 89 rfl).trans (FR.at f149 117 89 rfl)))))))
                        refine wp_less [0] (lv2 := [(0, .ref 117)]) rfl rfl ?_
                        exact jn114 () τ314 ⟨g315, (FR.up (FR.up (FR.up (FR.up (FR.up (FR.up (FR.up f126 f149 sb_Wat_Wqp) f160 sb_Wat_Wqp) f172 sb_Wat_Wqp) f185 sb_Wtak_Wqp) f289 sb_Wask_Wqp) f300 sb_Wat_Wqp) f316 sb_Wsgn_Wqp), (by omega), (by omega), (by omega), (by omega), (by omega), (by omega)⟩
                      · intro h319
                        replace p313 := p313 (by omega)
                        have q327 : (dp τ314) = (dp τ124) := ((dp_fr f316 (fun _ => rfl) rfl).trans ((dp_fr f300 (fun _ => rfl) rfl).trans ((dp_fr f289 (fun _ => rfl) rfl).trans ((dp_fr f185 (fun _ => rfl) rfl).trans ((dp_fr f172 (fun _ => rfl) rfl).trans ((dp_fr f160 (fun _ => rfl) rfl).trans (dp_fr f149 (fun _ => rfl) rfl)))))))
                        have q328 := ws_nn (σ := τ124)
                        have q329 : (ws τ314) = (ws τ124) := ((ws_fr f316 (fun _ => rfl) rfl).trans ((ws_fr f300 (fun _ => rfl) rfl).trans ((ws_fr f289 (fun _ => rfl) rfl).trans ((ws_fr f185 (fun _ => rfl) rfl).trans ((ws_fr f172 (fun _ => rfl) rfl).trans ((ws_fr f160 (fun _ => rfl) rfl).trans (ws_fr f149 (fun _ => rfl) rfl)))))))
                        have q330 : (wk τ314) = (wk τ124) := ((wk_fr f316 (fun _ => rfl) rfl rfl).trans ((wk_fr f300 (fun _ => rfl) rfl rfl).trans ((wk_fr f289 (fun _ => rfl) rfl rfl).trans ((wk_fr f185 (fun _ => rfl) rfl rfl).trans ((wk_fr f172 (fun _ => rfl) rfl rfl).trans ((wk_fr f160 (fun _ => rfl) rfl rfl).trans (wk_fr f149 (fun _ => rfl) rfl rfl)))))))
                        have b331 := GI.b g315 117 2 kd117 (lo := 0) (hi := 1601) rfl
                        have q332 : (τ314.1 117 87) = (τ124.1 117 87) := ((FR.at f316 117 87 rfl).trans ((FR.at f300 117 87 rfl).trans ((FR.at f289 117 87 rfl).trans ((FR.at f185 117 87 rfl).trans ((FR.at f172 117 87 rfl).trans ((FR.at f160 117 87 rfl).trans (FR.at f149 117 87 rfl)))))))
                        have q333 : (τ314.1 117 89) = (τ124.1 117 89) := ((FR.at f316 117 89 rfl).trans ((FR.at f300 117 89 rfl).trans ((FR.at f289 117 89 rfl).trans ((FR.at f185 117 89 rfl).trans ((FR.at f172 117 89 rfl).trans ((FR.at f160 117 89 rfl).trans (FR.at f149 117 89 rfl)))))))
                        refine wp_less [0, 1] (lv2 := [(0, .ref 117), (1, iV x122)]) rfl rfl ?_
                        exact ih133 (x122) τ314 ⟨⟨by omega, by omega⟩, g315, (FR.up (FR.up (FR.up (FR.up (FR.up (FR.up (FR.up f126 f149 sb_Wat_Wqp) f160 sb_Wat_Wqp) f172 sb_Wat_Wqp) f185 sb_Wtak_Wqp) f289 sb_Wask_Wqp) f300 sb_Wat_Wqp) f316 sb_Wsgn_Wqp), (by omega), (by omega), (by omega), (by omega), (by omega), (by omega)⟩ (by show Int.toNat (1700 - (τ314.1 117 2)) < Int.toNat (1700 - (τ124.1 117 2)); omega)
                  · intro h306; exfalso; omega
                · intro h305
                  replace p292 := p292 (by omega)
                  replace p297 := p297 (by omega)
                  refine wp_al1 jF_331_110 rfl rfl (pc2 := 111) ?_
                  have b334 := GI.b g299 117 2 kd117 (lo := 0) (hi := 1601) rfl
                  refine wp_gi jF_331_111 kd117 (by decide) rfl rfl rfl (pc2 := 114) ?_
                  refine wp_go jF_331_114 ?_
                  refine wp_is2 (lv2 := [(0, .ref 117), (1, iV x122), (2, iV z150), (3, iV z161), (4, iV z186), (5, iV (τ298.1 117 2))]) jF_331_118 rfl rfl rfl (pc2 := 120) ?_
                  refine wp_il2 jF_331_120 rfl rfl (pc2 := 122) ?_
                  refine wp_ic jF_331_122 rfl (pc2 := 123) ?_
                  refine wp_i_eq jF_331_123 (m_rgb b334 rfl) (m_rgl rfl) rfl (pc2 := 126) ?_ ?_
                  · intro h335; exfalso; omega
                  · intro h335
                    refine wp_al1 jF_331_126 rfl rfl (pc2 := 127) ?_
                    refine wp_il2 jF_331_127 rfl rfl (pc2 := 129) ?_
                    refine wp_z_eq jF_331_129 ⟨by omega, by omega⟩ rfl (pc2 := 132) ?_ ?_
                    · intro h336
                      refine wp_bi jF_331_137 (by decide) rfl (pc2 := 139) ?_
                      refine wp_il2 jF_331_139 rfl rfl (pc2 := 141) ?_
                      refine wp_cV (as := [iV 22, iV (τ298.1 117 2)]) (rest := []) (a := 117) (mx := 3) (ci := 12) jF_331_141 kd117 (by decide) rfl rfl rfl rfl rfl (by omega) (by omega) rfl (pc2 := 144) ?_
                      have q337 := ws_nn (σ := τ124)
                      have q338 : (ws τ298) = (ws τ124) := ((ws_fr f300 (fun _ => rfl) rfl).trans ((ws_fr f289 (fun _ => rfl) rfl).trans ((ws_fr f185 (fun _ => rfl) rfl).trans ((ws_fr f172 (fun _ => rfl) rfl).trans ((ws_fr f160 (fun _ => rfl) rfl).trans (ws_fr f149 (fun _ => rfl) rfl))))))
                      have q339 : (tt τ298) = (tt τ124) := ((tt_fr f300 (fun _ => rfl) rfl).trans ((tt_fr f289 (fun _ => rfl) rfl).trans ((tt_fr f185 (fun _ => rfl) rfl).trans ((tt_fr f172 (fun _ => rfl) rfl).trans ((tt_fr f160 (fun _ => rfl) rfl).trans (tt_fr f149 (fun _ => rfl) rfl))))))
                      have q340 : (wk τ298) = (wk τ124) := ((wk_fr f300 (fun _ => rfl) rfl rfl).trans ((wk_fr f289 (fun _ => rfl) rfl rfl).trans ((wk_fr f185 (fun _ => rfl) rfl rfl).trans ((wk_fr f172 (fun _ => rfl) rfl rfl).trans ((wk_fr f160 (fun _ => rfl) rfl rfl).trans (wk_fr f149 (fun _ => rfl) rfl rfl))))))
                      have b341 := GI.b g288 117 5 kd117 (lo := (-2147483648)) (hi := 2147483647) rfl
                      have q342 : (τ298.1 117 5) = (τ287.1 117 5) := (FR.at f300 117 5 rfl)
                      have q343 : (τ298.1 117 89) = (τ124.1 117 89) := ((FR.at f300 117 89 rfl).trans ((FR.at f289 117 89 rfl).trans ((FR.at f185 117 89 rfl).trans ((FR.at f172 117 89 rfl).trans ((FR.at f160 117 89 rfl).trans (FR.at f149 117 89 rfl))))))
                      have q344 : (τ298.1 117 91) = (σ.1 117 91) := ((FR.at f300 117 91 rfl).trans ((FR.at f289 117 91 rfl).trans ((FR.at f185 117 91 rfl).trans ((FR.at f172 117 91 rfl).trans ((FR.at f160 117 91 rfl).trans ((FR.at f149 117 91 rfl).trans (FR.at f126 117 91 rfl)))))))
                      refine wp_use (m_327 τ298 g299 22 (by omega) (by omega) (τ298.1 117 2) (by omega) (by omega) (by omega) (by omega) _ _ (by omega) (by omega)) ?_
                      rintro _ τ353 ⟨rfl, g354, f355, p345, p346, p347, p348, p349, p350, p351, p352⟩
                      show WP 331 144 [(0, .ref 117), (1, iV x122), (2, iV z150), (3, iV z161), (4, iV z186), (5, iV (τ298.1 117 2))] [] _ _ _ _
                      refine wp_al1 jF_331_144 rfl rfl (pc2 := 145) ?_
                      refine wp_bi jF_331_145 (by decide) rfl (pc2 := 147) ?_
                      refine wp_cV (as := [iV 40]) (rest := []) (a := 117) (mx := 2) (ci := 12) jF_331_147 kd117 (by decide) rfl rfl rfl rfl rfl (by omega) (by omega) rfl (pc2 := 150) ?_
                      have q356 : (τ353.1 117 2) = (τ298.1 117 2) := (FR.at f355 117 2 rfl)
                      have q357 : (τ353.1 117 3) = (σ.1 117 3) := ((FR.at f355 117 3 rfl).trans ((FR.at f300 117 3 rfl).trans ((FR.at f289 117 3 rfl).trans ((FR.at f185 117 3 rfl).trans ((FR.at f172 117 3 rfl).trans ((FR.at f160 117 3 rfl).trans ((FR.at f149 117 3 rfl).trans (FR.at f126 117 3 rfl))))))))
                      have b358 := GI.b g354 117 5 kd117 (lo := (-2147483648)) (hi := 2147483647) rfl
                      refine wp_use (m_238 τ353 g354 40 (by omega) (by omega)  _ _ (by omega) (by omega)) ?_
                      rintro _ τ362 ⟨rfl, g363, f364, p359, p360, p361⟩
                      show WP 331 150 [(0, .ref 117), (1, iV x122), (2, iV z150), (3, iV z161), (4, iV z186), (5, iV (τ298.1 117 2))] [] _ _ _ _
                      refine wp_go jF_331_150 ?_
                      refine wp_go jF_331_183 ?_
                      refine wp_il1 jF_331_2 rfl rfl (pc2 := 3) ?_
                      refine wp_z_eq jF_331_3 (m_rgb h123 rfl) rfl (pc2 := 6) ?_ ?_
                      · intro h365; exfalso; omega
                      · intro h365
                        refine wp_al1 jF_331_6 rfl rfl (pc2 := 7) ?_
                        have b366 := GI.b g363 117 5 kd117 (lo := (-2147483648)) (hi := 2147483647) rfl
                        refine wp_gi jF_331_7 kd117 (by decide) rfl rfl rfl (pc2 := 10) ?_
                        refine wp_z_ne jF_331_10 (m_rgb b366 rfl) rfl (pc2 := 13) ?_ ?_
                        · intro h367
                          clear p361
                          have q368 : (dp τ362) = (dp τ124) := ((dp_fr f364 (fun _ => rfl) rfl).trans ((dp_fr f355 (fun _ => rfl) rfl).trans ((dp_fr f300 (fun _ => rfl) rfl).trans ((dp_fr f289 (fun _ => rfl) rfl).trans ((dp_fr f185 (fun _ => rfl) rfl).trans ((dp_fr f172 (fun _ => rfl) rfl).trans ((dp_fr f160 (fun _ => rfl) rfl).trans (dp_fr f149 (fun _ => rfl) rfl))))))))
                          have q369 := ws_nn (σ := τ353)
                          have q370 : (ws τ362) = (ws τ353) := (ws_fr f364 (fun _ => rfl) rfl)
                          have q371 : (wk τ362) = (wk τ353) := (wk_fr f364 (fun _ => rfl) rfl rfl)
                          have b372 := GI.b g363 117 2 kd117 (lo := 0) (hi := 1601) rfl
                          have q373 : (τ362.1 117 87) = (τ124.1 117 87) := ((FR.at f364 117 87 rfl).trans ((FR.at f355 117 87 rfl).trans ((FR.at f300 117 87 rfl).trans ((FR.at f289 117 87 rfl).trans ((FR.at f185 117 87 rfl).trans ((FR.at f172 117 87 rfl).trans ((FR.at f160 117 87 rfl).trans (FR.at f149 117 87 rfl))))))))
                          have b374 := GI.b g354 117 89 kd117 (lo := 0) (hi := 1690) rfl
                          have q375 : (τ362.1 117 89) = (τ353.1 117 89) := (FR.at f364 117 89 rfl)
                          refine wp_less [0] (lv2 := [(0, .ref 117)]) rfl rfl ?_
                          exact jn114 () τ362 ⟨g363, (FR.up (FR.up (FR.up (FR.up (FR.up (FR.up (FR.up (FR.up f126 f149 sb_Wat_Wqp) f160 sb_Wat_Wqp) f172 sb_Wat_Wqp) f185 sb_Wtak_Wqp) f289 sb_Wask_Wqp) f300 sb_Wat_Wqp) f355 sb_Wqo_Wqp) f364 sb_Wsgn_Wqp), (by omega), (by omega), (by omega), (by omega), (by omega), (by omega)⟩
                        · intro h367
                          replace p361 := p361 (by omega)
                          have q376 : (dp τ362) = (dp τ124) := ((dp_fr f364 (fun _ => rfl) rfl).trans ((dp_fr f355 (fun _ => rfl) rfl).trans ((dp_fr f300 (fun _ => rfl) rfl).trans ((dp_fr f289 (fun _ => rfl) rfl).trans ((dp_fr f185 (fun _ => rfl) rfl).trans ((dp_fr f172 (fun _ => rfl) rfl).trans ((dp_fr f160 (fun _ => rfl) rfl).trans (dp_fr f149 (fun _ => rfl) rfl))))))))
                          have q377 := ws_nn (σ := τ353)
                          have q378 : (ws τ362) = (ws τ353) := (ws_fr f364 (fun _ => rfl) rfl)
                          have q379 : (wk τ362) = (wk τ353) := (wk_fr f364 (fun _ => rfl) rfl rfl)
                          have b380 := GI.b g363 117 2 kd117 (lo := 0) (hi := 1601) rfl
                          have q381 : (τ362.1 117 87) = (τ124.1 117 87) := ((FR.at f364 117 87 rfl).trans ((FR.at f355 117 87 rfl).trans ((FR.at f300 117 87 rfl).trans ((FR.at f289 117 87 rfl).trans ((FR.at f185 117 87 rfl).trans ((FR.at f172 117 87 rfl).trans ((FR.at f160 117 87 rfl).trans (FR.at f149 117 87 rfl))))))))
                          have b382 := GI.b g354 117 89 kd117 (lo := 0) (hi := 1690) rfl
                          have q383 : (τ362.1 117 89) = (τ353.1 117 89) := (FR.at f364 117 89 rfl)
                          refine wp_less [0, 1] (lv2 := [(0, .ref 117), (1, iV x122)]) rfl rfl ?_
                          exact ih133 (x122) τ362 ⟨⟨by omega, by omega⟩, g363, (FR.up (FR.up (FR.up (FR.up (FR.up (FR.up (FR.up (FR.up f126 f149 sb_Wat_Wqp) f160 sb_Wat_Wqp) f172 sb_Wat_Wqp) f185 sb_Wtak_Wqp) f289 sb_Wask_Wqp) f300 sb_Wat_Wqp) f355 sb_Wqo_Wqp) f364 sb_Wsgn_Wqp), (by omega), (by omega), (by omega), (by omega), (by omega), (by omega)⟩ (by show Int.toNat (1700 - (τ362.1 117 2)) < Int.toNat (1700 - (τ124.1 117 2)); omega)
                    · intro h336; exfalso; omega
            · intro h175
              clear p168
              refine wp_al1 jF_331_67 rfl rfl (pc2 := 68) ?_
              refine wp_al1 jF_331_68 rfl rfl (pc2 := 69) ?_
              refine wp_gr (b := 168) jF_331_69 kd117 (by decide) (c := 268) rfl rfl rfl (pc2 := 72) ?_
              refine wp_cV (as := [.ref 168]) (rest := []) (a := 117) (mx := 4) (ci := 12) jF_331_72 kd117 (by decide) rfl rfl rfl rfl rfl (by omega) (by omega) rfl (pc2 := 75) ?_
              have b384 := GI.b g171 117 2 kd117 (lo := 0) (hi := 1601) rfl
              have q385 : (τ170.1 117 3) = (σ.1 117 3) := ((FR.at f172 117 3 rfl).trans ((FR.at f160 117 3 rfl).trans ((FR.at f149 117 3 rfl).trans (FR.at f126 117 3 rfl))))
              have q386 : (τ170.1 117 5) = (τ124.1 117 5) := ((FR.at f172 117 5 rfl).trans ((FR.at f160 117 5 rfl).trans (FR.at f149 117 5 rfl)))
              refine wp_use (m_220 τ170 g171 168 3 cw168.1 cw168.2 (by decide)  _ _ (by omega) (by omega)) ?_
              rintro _ τ390 ⟨z393, rfl, h394, g391, f392, p387, p388, p389⟩
              replace p389 := p389 (by omega)
              show WP 331 75 [(0, .ref 117), (1, iV x122), (2, iV z150), (3, iV z161)] [iV z393] _ _ _ _
              refine wp_z_eq jF_331_75 (m_rgb h394 rfl) rfl (pc2 := 78) ?_ ?_
              · intro h395
                clear p388
                refine wp_il1 jF_331_153 rfl rfl (pc2 := 154) ?_
                refine wp_ic jF_331_154 rfl (pc2 := 155) ?_
                refine wp_i_eq jF_331_155 (m_rgb h162 rfl) (m_rgl rfl) rfl (pc2 := 158) ?_ ?_
                · intro h396
                  refine wp_ic jF_331_181 rfl (pc2 := 182) ?_
                  refine wp_is1 (lv2 := [(0, .ref 117), (1, iV 0), (2, iV z150), (3, iV z161)]) jF_331_182 rfl rfl rfl (pc2 := 183) ?_
                  refine wp_go jF_331_183 ?_
                  refine wp_il1 jF_331_2 rfl rfl (pc2 := 3) ?_
                  refine wp_z_eq jF_331_3 (m_rgl rfl) rfl (pc2 := 6) ?_ ?_
                  · intro h397
                    have q398 : (dp τ390) = (dp τ124) := ((dp_fr f392 (fun _ => rfl) rfl).trans ((dp_fr f172 (fun _ => rfl) rfl).trans ((dp_fr f160 (fun _ => rfl) rfl).trans (dp_fr f149 (fun _ => rfl) rfl))))
                    have q399 := ws_nn (σ := τ124)
                    have q400 : (ws τ390) = (ws τ124) := ((ws_fr f392 (fun _ => rfl) rfl).trans ((ws_fr f172 (fun _ => rfl) rfl).trans ((ws_fr f160 (fun _ => rfl) rfl).trans (ws_fr f149 (fun _ => rfl) rfl))))
                    have q401 : (wk τ390) = (wk τ124) := ((wk_fr f392 (fun _ => rfl) rfl rfl).trans ((wk_fr f172 (fun _ => rfl) rfl rfl).trans ((wk_fr f160 (fun _ => rfl) rfl rfl).trans (wk_fr f149 (fun _ => rfl) rfl rfl))))
                    have b402 := GI.b g391 117 2 kd117 (lo := 0) (hi := 1601) rfl
                    have q403 : (τ390.1 117 5) = (τ124.1 117 5) := ((FR.at f392 117 5 rfl).trans ((FR.at f172 117 5 rfl).trans ((FR.at f160 117 5 rfl).trans (FR.at f149 117 5 rfl))))
                    have q404 : (τ390.1 117 87) = (τ124.1 117 87) := ((FR.at f392 117 87 rfl).trans ((FR.at f172 117 87 rfl).trans ((FR.at f160 117 87 rfl).trans (FR.at f149 117 87 rfl))))
                    have q405 : (τ390.1 117 89) = (τ124.1 117 89) := ((FR.at f392 117 89 rfl).trans ((FR.at f172 117 89 rfl).trans ((FR.at f160 117 89 rfl).trans (FR.at f149 117 89 rfl))))
                    refine wp_less [0] (lv2 := [(0, .ref 117)]) rfl rfl ?_
                    exact jn114 () τ390 ⟨g391, (FR.up (FR.up (FR.up (FR.up f126 f149 sb_Wat_Wqp) f160 sb_Wat_Wqp) f172 sb_Wat_Wqp) f392 sb_Wat_Wqp), (by omega), (by omega), (by omega), (by omega), (by omega), (by omega)⟩
                  · intro h397; exfalso; omega
                · intro h396
                  refine wp_al1 jF_331_158 rfl rfl (pc2 := 159) ?_
                  refine wp_bi jF_331_159 (by decide) rfl (pc2 := 161) ?_
                  refine wp_il1 jF_331_161 rfl rfl (pc2 := 162) ?_
                  refine wp_add jF_331_162 rfl (pc2 := 163) ?_
                  refine wp_bi jF_331_163 (by decide) rfl (pc2 := 165) ?_
                  refine wp_sub jF_331_165 rfl (pc2 := 166) ?_
                  refine wp_al1 jF_331_166 rfl rfl (pc2 := 167) ?_
                  have b406 := GI.b g391 117 2 kd117 (lo := 0) (hi := 1601) rfl
                  refine wp_gi jF_331_167 kd117 (by decide) rfl rfl rfl (pc2 := 170) ?_
                  refine wp_cV (as := [iV ((60 + z161) - 6), iV (τ390.1 117 2)]) (rest := []) (a := 117) (mx := 3) (ci := 12) jF_331_170 kd117 (by decide) rfl rfl rfl rfl rfl (by omega) (by omega) rfl (pc2 := 173) ?_
                  have q407 := ws_nn (σ := τ124)
                  have q408 : (ws τ390) = (ws τ124) := ((ws_fr f392 (fun _ => rfl) rfl).trans ((ws_fr f172 (fun _ => rfl) rfl).trans ((ws_fr f160 (fun _ => rfl) rfl).trans (ws_fr f149 (fun _ => rfl) rfl))))
                  have q409 : (tt τ390) = (tt τ124) := ((tt_fr f392 (fun _ => rfl) rfl).trans ((tt_fr f172 (fun _ => rfl) rfl).trans ((tt_fr f160 (fun _ => rfl) rfl).trans (tt_fr f149 (fun _ => rfl) rfl))))
                  have q410 : (wk τ390) = (wk τ124) := ((wk_fr f392 (fun _ => rfl) rfl rfl).trans ((wk_fr f172 (fun _ => rfl) rfl rfl).trans ((wk_fr f160 (fun _ => rfl) rfl rfl).trans (wk_fr f149 (fun _ => rfl) rfl rfl))))
                  have q411 : (τ390.1 117 5) = (τ124.1 117 5) := ((FR.at f392 117 5 rfl).trans ((FR.at f172 117 5 rfl).trans ((FR.at f160 117 5 rfl).trans (FR.at f149 117 5 rfl))))
                  have q412 : (τ390.1 117 89) = (τ124.1 117 89) := ((FR.at f392 117 89 rfl).trans ((FR.at f172 117 89 rfl).trans ((FR.at f160 117 89 rfl).trans (FR.at f149 117 89 rfl))))
                  have q413 : (τ390.1 117 91) = (σ.1 117 91) := ((FR.at f392 117 91 rfl).trans ((FR.at f172 117 91 rfl).trans ((FR.at f160 117 91 rfl).trans ((FR.at f149 117 91 rfl).trans (FR.at f126 117 91 rfl)))))
                  refine wp_use (m_327 τ390 g391 ((60 + z161) - 6) (by omega) (by omega) (τ390.1 117 2) (by omega) (by omega) (by omega) (by omega) _ _ (by omega) (by omega)) ?_
                  rintro _ τ422 ⟨rfl, g423, f424, p414, p415, p416, p417, p418, p419, p420, p421⟩
                  clear p414
                  show WP 331 173 [(0, .ref 117), (1, iV x122), (2, iV z150), (3, iV z161)] [] _ _ _ _
                  refine wp_al1 jF_331_173 rfl rfl (pc2 := 174) ?_
                  refine wp_il1 jF_331_174 rfl rfl (pc2 := 175) ?_
                  refine wp_cV (as := [iV z161]) (rest := []) (a := 117) (mx := 2) (ci := 12) jF_331_175 kd117 (by decide) rfl rfl rfl rfl rfl (by omega) (by omega) rfl (pc2 := 178) ?_
                  have q425 : (τ422.1 117 2) = (τ390.1 117 2) := (FR.at f424 117 2 rfl)
                  have q426 : (τ422.1 117 3) = (σ.1 117 3) := ((FR.at f424 117 3 rfl).trans ((FR.at f392 117 3 rfl).trans ((FR.at f172 117 3 rfl).trans ((FR.at f160 117 3 rfl).trans ((FR.at f149 117 3 rfl).trans (FR.at f126 117 3 rfl))))))
                  have b427 := GI.b g423 117 5 kd117 (lo := (-2147483648)) (hi := 2147483647) rfl
                  refine wp_use (m_334 τ422 g423 z161 (by omega) (by omega)  _ _ (by omega) (by omega)) ?_
                  rintro _ τ431 ⟨rfl, g432, f433, p428, p429, p430⟩
                  show WP 331 178 [(0, .ref 117), (1, iV x122), (2, iV z150), (3, iV z161)] [] _ _ _ _
                  refine wp_go jF_331_178 ?_
                  refine wp_go jF_331_183 ?_
                  refine wp_il1 jF_331_2 rfl rfl (pc2 := 3) ?_
                  refine wp_z_eq jF_331_3 (m_rgb h123 rfl) rfl (pc2 := 6) ?_ ?_
                  · intro h434; exfalso; omega
                  · intro h434
                    refine wp_al1 jF_331_6 rfl rfl (pc2 := 7) ?_
                    have b435 := GI.b g432 117 5 kd117 (lo := (-2147483648)) (hi := 2147483647) rfl
                    refine wp_gi jF_331_7 kd117 (by decide) rfl rfl rfl (pc2 := 10) ?_
                    refine wp_z_ne jF_331_10 (m_rgb b435 rfl) rfl (pc2 := 13) ?_ ?_
                    · intro h436
                      clear p430
                      have q437 : (dp τ431) = (dp τ124) := ((dp_fr f433 (fun _ => rfl) rfl).trans ((dp_fr f424 (fun _ => rfl) rfl).trans ((dp_fr f392 (fun _ => rfl) rfl).trans ((dp_fr f172 (fun _ => rfl) rfl).trans ((dp_fr f160 (fun _ => rfl) rfl).trans (dp_fr f149 (fun _ => rfl) rfl))))))
                      have q438 := ws_nn (σ := τ422)
                      have q439 : (ws τ431) = (ws τ422) := (ws_fr f433 (fun _ => rfl) rfl)
                      have q440 : (wk τ431) = (wk τ422) := (wk_fr f433 (fun _ => rfl) rfl rfl)
                      have b441 := GI.b g432 117 2 kd117 (lo := 0) (hi := 1601) rfl
                      have q442 : (τ431.1 117 87) = (τ124.1 117 87) := ((FR.at f433 117 87 rfl).trans ((FR.at f424 117 87 rfl).trans ((FR.at f392 117 87 rfl).trans ((FR.at f172 117 87 rfl).trans ((FR.at f160 117 87 rfl).trans (FR.at f149 117 87 rfl))))))
                      have b443 := GI.b g423 117 89 kd117 (lo := 0) (hi := 1690) rfl
                      have q444 : (τ431.1 117 89) = (τ422.1 117 89) := (FR.at f433 117 89 rfl)
                      refine wp_less [0] (lv2 := [(0, .ref 117)]) rfl rfl ?_
                      exact jn114 () τ431 ⟨g432, (FR.up (FR.up (FR.up (FR.up (FR.up (FR.up f126 f149 sb_Wat_Wqp) f160 sb_Wat_Wqp) f172 sb_Wat_Wqp) f392 sb_Wat_Wqp) f424 sb_Wqo_Wqp) f433 sb_Wask_Wqp), (by omega), (by omega), (by omega), (by omega), (by omega), (by omega)⟩
                    · intro h436
                      replace p430 := p430 (by omega)
                      have q445 : (dp τ431) = (dp τ124) := ((dp_fr f433 (fun _ => rfl) rfl).trans ((dp_fr f424 (fun _ => rfl) rfl).trans ((dp_fr f392 (fun _ => rfl) rfl).trans ((dp_fr f172 (fun _ => rfl) rfl).trans ((dp_fr f160 (fun _ => rfl) rfl).trans (dp_fr f149 (fun _ => rfl) rfl))))))
                      have q446 := ws_nn (σ := τ422)
                      have q447 : (ws τ431) = (ws τ422) := (ws_fr f433 (fun _ => rfl) rfl)
                      have q448 : (wk τ431) = (wk τ422) := (wk_fr f433 (fun _ => rfl) rfl rfl)
                      have b449 := GI.b g432 117 2 kd117 (lo := 0) (hi := 1601) rfl
                      have q450 : (τ431.1 117 87) = (τ124.1 117 87) := ((FR.at f433 117 87 rfl).trans ((FR.at f424 117 87 rfl).trans ((FR.at f392 117 87 rfl).trans ((FR.at f172 117 87 rfl).trans ((FR.at f160 117 87 rfl).trans (FR.at f149 117 87 rfl))))))
                      have b451 := GI.b g423 117 89 kd117 (lo := 0) (hi := 1690) rfl
                      have q452 : (τ431.1 117 89) = (τ422.1 117 89) := (FR.at f433 117 89 rfl)
                      refine wp_less [0, 1] (lv2 := [(0, .ref 117), (1, iV x122)]) rfl rfl ?_
                      exact ih133 (x122) τ431 ⟨⟨by omega, by omega⟩, g432, (FR.up (FR.up (FR.up (FR.up (FR.up (FR.up f126 f149 sb_Wat_Wqp) f160 sb_Wat_Wqp) f172 sb_Wat_Wqp) f392 sb_Wat_Wqp) f424 sb_Wqo_Wqp) f433 sb_Wask_Wqp), (by omega), (by omega), (by omega), (by omega), (by omega), (by omega)⟩ (by show Int.toNat (1700 - (τ431.1 117 2)) < Int.toNat (1700 - (τ124.1 117 2)); omega)
              · intro h395
                replace p388 := p388 (by omega)
                refine wp_al1 jF_331_78 rfl rfl (pc2 := 79) ?_
                refine wp_al1 jF_331_79 rfl rfl (pc2 := 80) ?_
                refine wp_gr (b := 167) jF_331_80 kd117 (by decide) (c := 267) rfl rfl rfl (pc2 := 83) ?_
                refine wp_cV (as := [.ref 167]) (rest := []) (a := 117) (mx := 2) (ci := 12) jF_331_83 kd117 (by decide) rfl rfl rfl rfl rfl (by omega) (by omega) rfl (pc2 := 86) ?_
                have b453 := GI.b g391 117 2 kd117 (lo := 0) (hi := 1601) rfl
                have q454 : (τ390.1 117 3) = (σ.1 117 3) := ((FR.at f392 117 3 rfl).trans ((FR.at f172 117 3 rfl).trans ((FR.at f160 117 3 rfl).trans ((FR.at f149 117 3 rfl).trans (FR.at f126 117 3 rfl)))))
                have q455 : (τ390.1 117 5) = (τ124.1 117 5) := ((FR.at f392 117 5 rfl).trans ((FR.at f172 117 5 rfl).trans ((FR.at f160 117 5 rfl).trans (FR.at f149 117 5 rfl))))
                refine wp_use (m_219 τ390 g391 167 3 cw167.1 cw167.2 (by decide)  _ _ (by omega) (by omega)) ?_
                rintro _ τ460 ⟨z463, rfl, h464, g461, f462, p456, p457, p458, p459⟩
                replace p458 := p458 (by omega)
                replace p459 := p459 (by omega)
                show WP 331 86 [(0, .ref 117), (1, iV x122), (2, iV z150), (3, iV z161)] [iV z463] _ _ _ _
                refine wp_is2 (lv2 := [(0, .ref 117), (1, iV x122), (2, iV z150), (3, iV z161), (4, iV z463)]) jF_331_86 rfl rfl rfl (pc2 := 88) ?_
                refine wp_il2 jF_331_88 rfl rfl (pc2 := 90) ?_
                refine wp_z_ne jF_331_90 (m_rgb h464 rfl) rfl (pc2 := 93) ?_ ?_
                · intro h465
                  replace p457 := p457 (by omega)
                  clear p458
                  replace p459 := p459 (by omega)
                  refine wp_al1 jF_331_101 rfl rfl (pc2 := 102) ?_
                  refine wp_cV (as := []) (rest := []) (a := 117) (mx := 1) (ci := 12) jF_331_102 kd117 (by decide) rfl rfl rfl rfl rfl (by omega) (by omega) rfl (pc2 := 105) ?_
                  have b466 := GI.b g461 117 2 kd117 (lo := 0) (hi := 1601) rfl
                  have q467 : (τ460.1 117 3) = (σ.1 117 3) := ((FR.at f462 117 3 rfl).trans ((FR.at f392 117 3 rfl).trans ((FR.at f172 117 3 rfl).trans ((FR.at f160 117 3 rfl).trans ((FR.at f149 117 3 rfl).trans (FR.at f126 117 3 rfl))))))
                  refine wp_use (m_216 τ460 g461   _ _ (by omega) (by omega)) ?_
                  rintro _ τ474 ⟨z477, rfl, h478, g475, f476, p468, p469, p470, p471, p472, p473⟩
                  have b479 := GI.b hg 118 (τ474.1 117 2).toNat kd118 (lo := 0) (hi := 255) rfl
                  have q480 : (τ460.1 118 (τ474.1 117 2).toNat) = (σ.1 118 (τ474.1 117 2).toNat) := ((FR.at f462 118 (τ474.1 117 2).toNat rfl).trans ((FR.at f392 118 (τ474.1 117 2).toNat rfl).trans ((FR.at f172 118 (τ474.1 117 2).toNat rfl).trans ((FR.at f160 118 (τ474.1 117 2).toNat rfl).trans ((FR.at f149 118 (τ474.1 117 2).toNat rfl).trans (FR.at f126 118 (τ474.1 117 2).toNat rfl))))))
                  show WP 331 105 [(0, .ref 117), (1, iV x122), (2, iV z150), (3, iV z161), (4, iV z463)] [iV z477] _ _ _ _
                  refine wp_bi jF_331_105 (by decide) rfl (pc2 := 107) ?_
                  refine wp_i_ne jF_331_107 (m_rgb h478 rfl) (m_rgl rfl) rfl (pc2 := 110) ?_ ?_
                  · intro h481
                    refine wp_ic jF_331_117 rfl (pc2 := 118) ?_
                    refine wp_is2 (lv2 := [(0, .ref 117), (1, iV x122), (2, iV z150), (3, iV z161), (4, iV z463), (5, iV (-1))]) jF_331_118 rfl rfl rfl (pc2 := 120) ?_
                    refine wp_il2 jF_331_120 rfl rfl (pc2 := 122) ?_
                    refine wp_ic jF_331_122 rfl (pc2 := 123) ?_
                    refine wp_i_eq jF_331_123 (m_rgl rfl) (m_rgl rfl) rfl (pc2 := 126) ?_ ?_
                    · intro h482
                      refine wp_al1 jF_331_144 rfl rfl (pc2 := 145) ?_
                      refine wp_bi jF_331_145 (by decide) rfl (pc2 := 147) ?_
                      refine wp_cV (as := [iV 40]) (rest := []) (a := 117) (mx := 2) (ci := 12) jF_331_147 kd117 (by decide) rfl rfl rfl rfl rfl (by omega) (by omega) rfl (pc2 := 150) ?_
                      have b483 := GI.b g475 117 2 kd117 (lo := 0) (hi := 1601) rfl
                      have q484 : (τ474.1 117 3) = (σ.1 117 3) := ((FR.at f476 117 3 rfl).trans ((FR.at f462 117 3 rfl).trans ((FR.at f392 117 3 rfl).trans ((FR.at f172 117 3 rfl).trans ((FR.at f160 117 3 rfl).trans ((FR.at f149 117 3 rfl).trans (FR.at f126 117 3 rfl)))))))
                      have q485 : (τ474.1 117 5) = (τ124.1 117 5) := ((FR.at f476 117 5 rfl).trans ((FR.at f462 117 5 rfl).trans ((FR.at f392 117 5 rfl).trans ((FR.at f172 117 5 rfl).trans ((FR.at f160 117 5 rfl).trans (FR.at f149 117 5 rfl))))))
                      refine wp_use (m_238 τ474 g475 40 (by omega) (by omega)  _ _ (by omega) (by omega)) ?_
                      rintro _ τ489 ⟨rfl, g490, f491, p486, p487, p488⟩
                      clear p487
                      show WP 331 150 [(0, .ref 117), (1, iV x122), (2, iV z150), (3, iV z161), (4, iV z463), (5, iV (-1))] [] _ _ _ _
                      refine wp_go jF_331_150 ?_
                      refine wp_go jF_331_183 ?_
                      refine wp_il1 jF_331_2 rfl rfl (pc2 := 3) ?_
                      refine wp_z_eq jF_331_3 (m_rgb h123 rfl) rfl (pc2 := 6) ?_ ?_
                      · intro h492; exfalso; omega
                      · intro h492
                        refine wp_al1 jF_331_6 rfl rfl (pc2 := 7) ?_
                        have b493 := GI.b g490 117 5 kd117 (lo := (-2147483648)) (hi := 2147483647) rfl
                        refine wp_gi jF_331_7 kd117 (by decide) rfl rfl rfl (pc2 := 10) ?_
                        refine wp_z_ne jF_331_10 (m_rgb b493 rfl) rfl (pc2 := 13) ?_ ?_
                        · intro h494
                          clear p488
                          have q495 : (dp τ489) = (dp τ124) := ((dp_fr f491 (fun _ => rfl) rfl).trans ((dp_fr f476 (fun _ => rfl) rfl).trans ((dp_fr f462 (fun _ => rfl) rfl).trans ((dp_fr f392 (fun _ => rfl) rfl).trans ((dp_fr f172 (fun _ => rfl) rfl).trans ((dp_fr f160 (fun _ => rfl) rfl).trans (dp_fr f149 (fun _ => rfl) rfl)))))))
                          have q496 := ws_nn (σ := τ124)
                          have q497 : (ws τ489) = (ws τ124) := ((ws_fr f491 (fun _ => rfl) rfl).trans ((ws_fr f476 (fun _ => rfl) rfl).trans ((ws_fr f462 (fun _ => rfl) rfl).trans ((ws_fr f392 (fun _ => rfl) rfl).trans ((ws_fr f172 (fun _ => rfl) rfl).trans ((ws_fr f160 (fun _ => rfl) rfl).trans (ws_fr f149 (fun _ => rfl) rfl)))))))
                          have q498 : (wk τ489) = (wk τ124) := ((wk_fr f491 (fun _ => rfl) rfl rfl).trans ((wk_fr f476 (fun _ => rfl) rfl rfl).trans ((wk_fr f462 (fun _ => rfl) rfl rfl).trans ((wk_fr f392 (fun _ => rfl) rfl rfl).trans ((wk_fr f172 (fun _ => rfl) rfl rfl).trans ((wk_fr f160 (fun _ => rfl) rfl rfl).trans (wk_fr f149 (fun _ => rfl) rfl rfl)))))))
                          have b499 := GI.b g490 117 2 kd117 (lo := 0) (hi := 1601) rfl
                          have q500 : (τ489.1 117 87) = (τ124.1 117 87) := ((FR.at f491 117 87 rfl).trans ((FR.at f476 117 87 rfl).trans ((FR.at f462 117 87 rfl).trans ((FR.at f392 117 87 rfl).trans ((FR.at f172 117 87 rfl).trans ((FR.at f160 117 87 rfl).trans (FR.at f149 117 87 rfl)))))))
                          have q501 : (τ489.1 117 89) = (τ124.1 117 89) := ((FR.at f491 117 89 rfl).trans ((FR.at f476 117 89 rfl).trans ((FR.at f462 117 89 rfl).trans ((FR.at f392 117 89 rfl).trans ((FR.at f172 117 89 rfl).trans ((FR.at f160 117 89 rfl).trans (FR.at f149 117 89 rfl)))))))
                          refine wp_less [0] (lv2 := [(0, .ref 117)]) rfl rfl ?_
                          exact jn114 () τ489 ⟨g490, (FR.up (FR.up (FR.up (FR.up (FR.up (FR.up (FR.up f126 f149 sb_Wat_Wqp) f160 sb_Wat_Wqp) f172 sb_Wat_Wqp) f392 sb_Wat_Wqp) f462 sb_Wtak_Wqp) f476 sb_Wat_Wqp) f491 sb_Wsgn_Wqp), (by omega), (by omega), (by omega), (by omega), (by omega), (by omega)⟩
                        · intro h494
                          replace p488 := p488 (by omega)
                          have q502 : (dp τ489) = (dp τ124) := ((dp_fr f491 (fun _ => rfl) rfl).trans ((dp_fr f476 (fun _ => rfl) rfl).trans ((dp_fr f462 (fun _ => rfl) rfl).trans ((dp_fr f392 (fun _ => rfl) rfl).trans ((dp_fr f172 (fun _ => rfl) rfl).trans ((dp_fr f160 (fun _ => rfl) rfl).trans (dp_fr f149 (fun _ => rfl) rfl)))))))
                          have q503 := ws_nn (σ := τ124)
                          have q504 : (ws τ489) = (ws τ124) := ((ws_fr f491 (fun _ => rfl) rfl).trans ((ws_fr f476 (fun _ => rfl) rfl).trans ((ws_fr f462 (fun _ => rfl) rfl).trans ((ws_fr f392 (fun _ => rfl) rfl).trans ((ws_fr f172 (fun _ => rfl) rfl).trans ((ws_fr f160 (fun _ => rfl) rfl).trans (ws_fr f149 (fun _ => rfl) rfl)))))))
                          have q505 : (wk τ489) = (wk τ124) := ((wk_fr f491 (fun _ => rfl) rfl rfl).trans ((wk_fr f476 (fun _ => rfl) rfl rfl).trans ((wk_fr f462 (fun _ => rfl) rfl rfl).trans ((wk_fr f392 (fun _ => rfl) rfl rfl).trans ((wk_fr f172 (fun _ => rfl) rfl rfl).trans ((wk_fr f160 (fun _ => rfl) rfl rfl).trans (wk_fr f149 (fun _ => rfl) rfl rfl)))))))
                          have b506 := GI.b g490 117 2 kd117 (lo := 0) (hi := 1601) rfl
                          have q507 : (τ489.1 117 87) = (τ124.1 117 87) := ((FR.at f491 117 87 rfl).trans ((FR.at f476 117 87 rfl).trans ((FR.at f462 117 87 rfl).trans ((FR.at f392 117 87 rfl).trans ((FR.at f172 117 87 rfl).trans ((FR.at f160 117 87 rfl).trans (FR.at f149 117 87 rfl)))))))
                          have q508 : (τ489.1 117 89) = (τ124.1 117 89) := ((FR.at f491 117 89 rfl).trans ((FR.at f476 117 89 rfl).trans ((FR.at f462 117 89 rfl).trans ((FR.at f392 117 89 rfl).trans ((FR.at f172 117 89 rfl).trans ((FR.at f160 117 89 rfl).trans (FR.at f149 117 89 rfl)))))))
                          refine wp_less [0, 1] (lv2 := [(0, .ref 117), (1, iV x122)]) rfl rfl ?_
                          exact ih133 (x122) τ489 ⟨⟨by omega, by omega⟩, g490, (FR.up (FR.up (FR.up (FR.up (FR.up (FR.up (FR.up f126 f149 sb_Wat_Wqp) f160 sb_Wat_Wqp) f172 sb_Wat_Wqp) f392 sb_Wat_Wqp) f462 sb_Wtak_Wqp) f476 sb_Wat_Wqp) f491 sb_Wsgn_Wqp), (by omega), (by omega), (by omega), (by omega), (by omega), (by omega)⟩ (by show Int.toNat (1700 - (τ489.1 117 2)) < Int.toNat (1700 - (τ124.1 117 2)); omega)
                    · intro h482; exfalso; omega
                  · intro h481
                    replace p468 := p468 (by omega)
                    replace p473 := p473 (by omega)
                    refine wp_al1 jF_331_110 rfl rfl (pc2 := 111) ?_
                    have b509 := GI.b g475 117 2 kd117 (lo := 0) (hi := 1601) rfl
                    refine wp_gi jF_331_111 kd117 (by decide) rfl rfl rfl (pc2 := 114) ?_
                    refine wp_go jF_331_114 ?_
                    refine wp_is2 (lv2 := [(0, .ref 117), (1, iV x122), (2, iV z150), (3, iV z161), (4, iV z463), (5, iV (τ474.1 117 2))]) jF_331_118 rfl rfl rfl (pc2 := 120) ?_
                    refine wp_il2 jF_331_120 rfl rfl (pc2 := 122) ?_
                    refine wp_ic jF_331_122 rfl (pc2 := 123) ?_
                    refine wp_i_eq jF_331_123 (m_rgb b509 rfl) (m_rgl rfl) rfl (pc2 := 126) ?_ ?_
                    · intro h510; exfalso; omega
                    · intro h510
                      refine wp_al1 jF_331_126 rfl rfl (pc2 := 127) ?_
                      refine wp_il2 jF_331_127 rfl rfl (pc2 := 129) ?_
                      refine wp_z_eq jF_331_129 ⟨by omega, by omega⟩ rfl (pc2 := 132) ?_ ?_
                      · intro h511; exfalso; omega
                      · intro h511
                        refine wp_bi jF_331_132 (by decide) rfl (pc2 := 134) ?_
                        refine wp_go jF_331_134 ?_
                        refine wp_il2 jF_331_139 rfl rfl (pc2 := 141) ?_
                        refine wp_cV (as := [iV 21, iV (τ474.1 117 2)]) (rest := []) (a := 117) (mx := 3) (ci := 12) jF_331_141 kd117 (by decide) rfl rfl rfl rfl rfl (by omega) (by omega) rfl (pc2 := 144) ?_
                        have q512 := ws_nn (σ := τ124)
                        have q513 : (ws τ474) = (ws τ124) := ((ws_fr f476 (fun _ => rfl) rfl).trans ((ws_fr f462 (fun _ => rfl) rfl).trans ((ws_fr f392 (fun _ => rfl) rfl).trans ((ws_fr f172 (fun _ => rfl) rfl).trans ((ws_fr f160 (fun _ => rfl) rfl).trans (ws_fr f149 (fun _ => rfl) rfl))))))
                        have q514 : (tt τ474) = (tt τ124) := ((tt_fr f476 (fun _ => rfl) rfl).trans ((tt_fr f462 (fun _ => rfl) rfl).trans ((tt_fr f392 (fun _ => rfl) rfl).trans ((tt_fr f172 (fun _ => rfl) rfl).trans ((tt_fr f160 (fun _ => rfl) rfl).trans (tt_fr f149 (fun _ => rfl) rfl))))))
                        have q515 : (wk τ474) = (wk τ124) := ((wk_fr f476 (fun _ => rfl) rfl rfl).trans ((wk_fr f462 (fun _ => rfl) rfl rfl).trans ((wk_fr f392 (fun _ => rfl) rfl rfl).trans ((wk_fr f172 (fun _ => rfl) rfl rfl).trans ((wk_fr f160 (fun _ => rfl) rfl rfl).trans (wk_fr f149 (fun _ => rfl) rfl rfl))))))
                        have q516 : (τ474.1 117 5) = (τ124.1 117 5) := ((FR.at f476 117 5 rfl).trans ((FR.at f462 117 5 rfl).trans ((FR.at f392 117 5 rfl).trans ((FR.at f172 117 5 rfl).trans ((FR.at f160 117 5 rfl).trans (FR.at f149 117 5 rfl))))))
                        have q517 : (τ474.1 117 89) = (τ124.1 117 89) := ((FR.at f476 117 89 rfl).trans ((FR.at f462 117 89 rfl).trans ((FR.at f392 117 89 rfl).trans ((FR.at f172 117 89 rfl).trans ((FR.at f160 117 89 rfl).trans (FR.at f149 117 89 rfl))))))
                        have q518 : (τ474.1 117 91) = (σ.1 117 91) := ((FR.at f476 117 91 rfl).trans ((FR.at f462 117 91 rfl).trans ((FR.at f392 117 91 rfl).trans ((FR.at f172 117 91 rfl).trans ((FR.at f160 117 91 rfl).trans ((FR.at f149 117 91 rfl).trans (FR.at f126 117 91 rfl)))))))
                        refine wp_use (m_327 τ474 g475 21 (by omega) (by omega) (τ474.1 117 2) (by omega) (by omega) (by omega) (by omega) _ _ (by omega) (by omega)) ?_
                        rintro _ τ527 ⟨rfl, g528, f529, p519, p520, p521, p522, p523, p524, p525, p526⟩
                        clear p519
                        show WP 331 144 [(0, .ref 117), (1, iV x122), (2, iV z150), (3, iV z161), (4, iV z463), (5, iV (τ474.1 117 2))] [] _ _ _ _
                        refine wp_al1 jF_331_144 rfl rfl (pc2 := 145) ?_
                        refine wp_bi jF_331_145 (by decide) rfl (pc2 := 147) ?_
                        refine wp_cV (as := [iV 40]) (rest := []) (a := 117) (mx := 2) (ci := 12) jF_331_147 kd117 (by decide) rfl rfl rfl rfl rfl (by omega) (by omega) rfl (pc2 := 150) ?_
                        have q530 : (τ527.1 117 2) = (τ474.1 117 2) := (FR.at f529 117 2 rfl)
                        have q531 : (τ527.1 117 3) = (σ.1 117 3) := ((FR.at f529 117 3 rfl).trans ((FR.at f476 117 3 rfl).trans ((FR.at f462 117 3 rfl).trans ((FR.at f392 117 3 rfl).trans ((FR.at f172 117 3 rfl).trans ((FR.at f160 117 3 rfl).trans ((FR.at f149 117 3 rfl).trans (FR.at f126 117 3 rfl))))))))
                        have b532 := GI.b g528 117 5 kd117 (lo := (-2147483648)) (hi := 2147483647) rfl
                        refine wp_use (m_238 τ527 g528 40 (by omega) (by omega)  _ _ (by omega) (by omega)) ?_
                        rintro _ τ536 ⟨rfl, g537, f538, p533, p534, p535⟩
                        show WP 331 150 [(0, .ref 117), (1, iV x122), (2, iV z150), (3, iV z161), (4, iV z463), (5, iV (τ474.1 117 2))] [] _ _ _ _
                        refine wp_go jF_331_150 ?_
                        refine wp_go jF_331_183 ?_
                        refine wp_il1 jF_331_2 rfl rfl (pc2 := 3) ?_
                        refine wp_z_eq jF_331_3 (m_rgb h123 rfl) rfl (pc2 := 6) ?_ ?_
                        · intro h539; exfalso; omega
                        · intro h539
                          refine wp_al1 jF_331_6 rfl rfl (pc2 := 7) ?_
                          have b540 := GI.b g537 117 5 kd117 (lo := (-2147483648)) (hi := 2147483647) rfl
                          refine wp_gi jF_331_7 kd117 (by decide) rfl rfl rfl (pc2 := 10) ?_
                          refine wp_z_ne jF_331_10 (m_rgb b540 rfl) rfl (pc2 := 13) ?_ ?_
                          · intro h541
                            clear p535
                            have q542 : (dp τ536) = (dp τ124) := ((dp_fr f538 (fun _ => rfl) rfl).trans ((dp_fr f529 (fun _ => rfl) rfl).trans ((dp_fr f476 (fun _ => rfl) rfl).trans ((dp_fr f462 (fun _ => rfl) rfl).trans ((dp_fr f392 (fun _ => rfl) rfl).trans ((dp_fr f172 (fun _ => rfl) rfl).trans ((dp_fr f160 (fun _ => rfl) rfl).trans (dp_fr f149 (fun _ => rfl) rfl))))))))
                            have q543 := ws_nn (σ := τ527)
                            have q544 : (ws τ536) = (ws τ527) := (ws_fr f538 (fun _ => rfl) rfl)
                            have q545 : (wk τ536) = (wk τ527) := (wk_fr f538 (fun _ => rfl) rfl rfl)
                            have b546 := GI.b g537 117 2 kd117 (lo := 0) (hi := 1601) rfl
                            have q547 : (τ536.1 117 87) = (τ124.1 117 87) := ((FR.at f538 117 87 rfl).trans ((FR.at f529 117 87 rfl).trans ((FR.at f476 117 87 rfl).trans ((FR.at f462 117 87 rfl).trans ((FR.at f392 117 87 rfl).trans ((FR.at f172 117 87 rfl).trans ((FR.at f160 117 87 rfl).trans (FR.at f149 117 87 rfl))))))))
                            have b548 := GI.b g528 117 89 kd117 (lo := 0) (hi := 1690) rfl
                            have q549 : (τ536.1 117 89) = (τ527.1 117 89) := (FR.at f538 117 89 rfl)
                            refine wp_less [0] (lv2 := [(0, .ref 117)]) rfl rfl ?_
                            exact jn114 () τ536 ⟨g537, (FR.up (FR.up (FR.up (FR.up (FR.up (FR.up (FR.up (FR.up f126 f149 sb_Wat_Wqp) f160 sb_Wat_Wqp) f172 sb_Wat_Wqp) f392 sb_Wat_Wqp) f462 sb_Wtak_Wqp) f476 sb_Wat_Wqp) f529 sb_Wqo_Wqp) f538 sb_Wsgn_Wqp), (by omega), (by omega), (by omega), (by omega), (by omega), (by omega)⟩
                          · intro h541
                            replace p535 := p535 (by omega)
                            have q550 : (dp τ536) = (dp τ124) := ((dp_fr f538 (fun _ => rfl) rfl).trans ((dp_fr f529 (fun _ => rfl) rfl).trans ((dp_fr f476 (fun _ => rfl) rfl).trans ((dp_fr f462 (fun _ => rfl) rfl).trans ((dp_fr f392 (fun _ => rfl) rfl).trans ((dp_fr f172 (fun _ => rfl) rfl).trans ((dp_fr f160 (fun _ => rfl) rfl).trans (dp_fr f149 (fun _ => rfl) rfl))))))))
                            have q551 := ws_nn (σ := τ527)
                            have q552 : (ws τ536) = (ws τ527) := (ws_fr f538 (fun _ => rfl) rfl)
                            have q553 : (wk τ536) = (wk τ527) := (wk_fr f538 (fun _ => rfl) rfl rfl)
                            have b554 := GI.b g537 117 2 kd117 (lo := 0) (hi := 1601) rfl
                            have q555 : (τ536.1 117 87) = (τ124.1 117 87) := ((FR.at f538 117 87 rfl).trans ((FR.at f529 117 87 rfl).trans ((FR.at f476 117 87 rfl).trans ((FR.at f462 117 87 rfl).trans ((FR.at f392 117 87 rfl).trans ((FR.at f172 117 87 rfl).trans ((FR.at f160 117 87 rfl).trans (FR.at f149 117 87 rfl))))))))
                            have b556 := GI.b g528 117 89 kd117 (lo := 0) (hi := 1690) rfl
                            have q557 : (τ536.1 117 89) = (τ527.1 117 89) := (FR.at f538 117 89 rfl)
                            refine wp_less [0, 1] (lv2 := [(0, .ref 117), (1, iV x122)]) rfl rfl ?_
                            exact ih133 (x122) τ536 ⟨⟨by omega, by omega⟩, g537, (FR.up (FR.up (FR.up (FR.up (FR.up (FR.up (FR.up (FR.up f126 f149 sb_Wat_Wqp) f160 sb_Wat_Wqp) f172 sb_Wat_Wqp) f392 sb_Wat_Wqp) f462 sb_Wtak_Wqp) f476 sb_Wat_Wqp) f529 sb_Wqo_Wqp) f538 sb_Wsgn_Wqp), (by omega), (by omega), (by omega), (by omega), (by omega), (by omega)⟩ (by show Int.toNat (1700 - (τ536.1 117 2)) < Int.toNat (1700 - (τ124.1 117 2)); omega)
                · intro h465
                  clear p457
                  replace p458 := p458 (by omega)
                  clear p459
                  refine wp_al1 jF_331_93 rfl rfl (pc2 := 94) ?_
                  refine wp_al1 jF_331_94 rfl rfl (pc2 := 95) ?_
                  refine wp_gr (b := 168) jF_331_95 kd117 (by decide) (c := 268) rfl rfl rfl (pc2 := 98) ?_
                  refine wp_cV (as := [.ref 168]) (rest := []) (a := 117) (mx := 2) (ci := 12) jF_331_98 kd117 (by decide) rfl rfl rfl rfl rfl (by omega) (by omega) rfl (pc2 := 101) ?_
                  have b558 := GI.b g461 117 2 kd117 (lo := 0) (hi := 1601) rfl
                  have q559 : (τ460.1 117 3) = (σ.1 117 3) := ((FR.at f462 117 3 rfl).trans ((FR.at f392 117 3 rfl).trans ((FR.at f172 117 3 rfl).trans ((FR.at f160 117 3 rfl).trans ((FR.at f149 117 3 rfl).trans (FR.at f126 117 3 rfl))))))
                  have q560 : (τ460.1 117 5) = (τ124.1 117 5) := ((FR.at f462 117 5 rfl).trans ((FR.at f392 117 5 rfl).trans ((FR.at f172 117 5 rfl).trans ((FR.at f160 117 5 rfl).trans (FR.at f149 117 5 rfl)))))
                  refine wp_use (m_234 τ460 g461 168 3 cw168.1 cw168.2 (by decide)  _ _ (by omega) (by omega)) ?_
                  rintro _ τ564 ⟨rfl, g565, f566, p561, p562, p563⟩
                  clear p562
                  show WP 331 101 [(0, .ref 117), (1, iV x122), (2, iV z150), (3, iV z161), (4, iV z463)] [] _ _ _ _
                  refine wp_al1 jF_331_101 rfl rfl (pc2 := 102) ?_
                  refine wp_cV (as := []) (rest := []) (a := 117) (mx := 1) (ci := 12) jF_331_102 kd117 (by decide) rfl rfl rfl rfl rfl (by omega) (by omega) rfl (pc2 := 105) ?_
                  have b567 := GI.b g565 117 2 kd117 (lo := 0) (hi := 1601) rfl
                  have q568 : (τ564.1 117 3) = (σ.1 117 3) := ((FR.at f566 117 3 rfl).trans ((FR.at f462 117 3 rfl).trans ((FR.at f392 117 3 rfl).trans ((FR.at f172 117 3 rfl).trans ((FR.at f160 117 3 rfl).trans ((FR.at f149 117 3 rfl).trans (FR.at f126 117 3 rfl)))))))
                  refine wp_use (m_216 τ564 g565   _ _ (by omega) (by omega)) ?_
                  rintro _ τ575 ⟨z578, rfl, h579, g576, f577, p569, p570, p571, p572, p573, p574⟩
                  have b580 := GI.b hg 118 (τ575.1 117 2).toNat kd118 (lo := 0) (hi := 255) rfl
                  have q581 : (τ564.1 118 (τ575.1 117 2).toNat) = (σ.1 118 (τ575.1 117 2).toNat) := ((FR.at f566 118 (τ575.1 117 2).toNat rfl).trans ((FR.at f462 118 (τ575.1 117 2).toNat rfl).trans ((FR.at f392 118 (τ575.1 117 2).toNat rfl).trans ((FR.at f172 118 (τ575.1 117 2).toNat rfl).trans ((FR.at f160 118 (τ575.1 117 2).toNat rfl).trans ((FR.at f149 118 (τ575.1 117 2).toNat rfl).trans (FR.at f126 118 (τ575.1 117 2).toNat rfl)))))))
                  show WP 331 105 [(0, .ref 117), (1, iV x122), (2, iV z150), (3, iV z161), (4, iV z463)] [iV z578] _ _ _ _
                  refine wp_bi jF_331_105 (by decide) rfl (pc2 := 107) ?_
                  refine wp_i_ne jF_331_107 (m_rgb h579 rfl) (m_rgl rfl) rfl (pc2 := 110) ?_ ?_
                  · intro h582
                    refine wp_ic jF_331_117 rfl (pc2 := 118) ?_
                    refine wp_is2 (lv2 := [(0, .ref 117), (1, iV x122), (2, iV z150), (3, iV z161), (4, iV z463), (5, iV (-1))]) jF_331_118 rfl rfl rfl (pc2 := 120) ?_
                    refine wp_il2 jF_331_120 rfl rfl (pc2 := 122) ?_
                    refine wp_ic jF_331_122 rfl (pc2 := 123) ?_
                    refine wp_i_eq jF_331_123 (m_rgl rfl) (m_rgl rfl) rfl (pc2 := 126) ?_ ?_
                    · intro h583
                      refine wp_al1 jF_331_144 rfl rfl (pc2 := 145) ?_
                      refine wp_bi jF_331_145 (by decide) rfl (pc2 := 147) ?_
                      refine wp_cV (as := [iV 40]) (rest := []) (a := 117) (mx := 2) (ci := 12) jF_331_147 kd117 (by decide) rfl rfl rfl rfl rfl (by omega) (by omega) rfl (pc2 := 150) ?_
                      have b584 := GI.b g576 117 2 kd117 (lo := 0) (hi := 1601) rfl
                      have q585 : (τ575.1 117 3) = (σ.1 117 3) := ((FR.at f577 117 3 rfl).trans ((FR.at f566 117 3 rfl).trans ((FR.at f462 117 3 rfl).trans ((FR.at f392 117 3 rfl).trans ((FR.at f172 117 3 rfl).trans ((FR.at f160 117 3 rfl).trans ((FR.at f149 117 3 rfl).trans (FR.at f126 117 3 rfl))))))))
                      have b586 := GI.b g565 117 5 kd117 (lo := (-2147483648)) (hi := 2147483647) rfl
                      have q587 : (τ575.1 117 5) = (τ564.1 117 5) := (FR.at f577 117 5 rfl)
                      refine wp_use (m_238 τ575 g576 40 (by omega) (by omega)  _ _ (by omega) (by omega)) ?_
                      rintro _ τ591 ⟨rfl, g592, f593, p588, p589, p590⟩
                      show WP 331 150 [(0, .ref 117), (1, iV x122), (2, iV z150), (3, iV z161), (4, iV z463), (5, iV (-1))] [] _ _ _ _
                      refine wp_go jF_331_150 ?_
                      refine wp_go jF_331_183 ?_
                      refine wp_il1 jF_331_2 rfl rfl (pc2 := 3) ?_
                      refine wp_z_eq jF_331_3 (m_rgb h123 rfl) rfl (pc2 := 6) ?_ ?_
                      · intro h594; exfalso; omega
                      · intro h594
                        refine wp_al1 jF_331_6 rfl rfl (pc2 := 7) ?_
                        have b595 := GI.b g592 117 5 kd117 (lo := (-2147483648)) (hi := 2147483647) rfl
                        refine wp_gi jF_331_7 kd117 (by decide) rfl rfl rfl (pc2 := 10) ?_
                        refine wp_z_ne jF_331_10 (m_rgb b595 rfl) rfl (pc2 := 13) ?_ ?_
                        · intro h596
                          clear p590
                          have q597 : (dp τ591) = (dp τ124) := ((dp_fr f593 (fun _ => rfl) rfl).trans ((dp_fr f577 (fun _ => rfl) rfl).trans ((dp_fr f566 (fun _ => rfl) rfl).trans ((dp_fr f462 (fun _ => rfl) rfl).trans ((dp_fr f392 (fun _ => rfl) rfl).trans ((dp_fr f172 (fun _ => rfl) rfl).trans ((dp_fr f160 (fun _ => rfl) rfl).trans (dp_fr f149 (fun _ => rfl) rfl))))))))
                          have q598 := ws_nn (σ := τ124)
                          have q599 : (ws τ591) = (ws τ124) := ((ws_fr f593 (fun _ => rfl) rfl).trans ((ws_fr f577 (fun _ => rfl) rfl).trans ((ws_fr f566 (fun _ => rfl) rfl).trans ((ws_fr f462 (fun _ => rfl) rfl).trans ((ws_fr f392 (fun _ => rfl) rfl).trans ((ws_fr f172 (fun _ => rfl) rfl).trans ((ws_fr f160 (fun _ => rfl) rfl).trans (ws_fr f149 (fun _ => rfl) rfl))))))))
                          have q600 : (wk τ591) = (wk τ124) := ((wk_fr f593 (fun _ => rfl) rfl rfl).trans ((wk_fr f577 (fun _ => rfl) rfl rfl).trans ((wk_fr f566 (fun _ => rfl) rfl rfl).trans ((wk_fr f462 (fun _ => rfl) rfl rfl).trans ((wk_fr f392 (fun _ => rfl) rfl rfl).trans ((wk_fr f172 (fun _ => rfl) rfl rfl).trans ((wk_fr f160 (fun _ => rfl) rfl rfl).trans (wk_fr f149 (fun _ => rfl) rfl rfl))))))))
                          have b601 := GI.b g592 117 2 kd117 (lo := 0) (hi := 1601) rfl
                          have q602 : (τ591.1 117 87) = (τ124.1 117 87) := ((FR.at f593 117 87 rfl).trans ((FR.at f577 117 87 rfl).trans ((FR.at f566 117 87 rfl).trans ((FR.at f462 117 87 rfl).trans ((FR.at f392 117 87 rfl).trans ((FR.at f172 117 87 rfl).trans ((FR.at f160 117 87 rfl).trans (FR.at f149 117 87 rfl))))))))
                          have q603 : (τ591.1 117 89) = (τ124.1 117 89) := ((FR.at f593 117 89 rfl).trans ((FR.at f577 117 89 rfl).trans ((FR.at f566 117 89 rfl).trans ((FR.at f462 117 89 rfl).trans ((FR.at f392 117 89 rfl).trans ((FR.at f172 117 89 rfl).trans ((FR.at f160 117 89 rfl).trans (FR.at f149 117 89 rfl))))))))
                          refine wp_less [0] (lv2 := [(0, .ref 117)]) rfl rfl ?_
                          exact jn114 () τ591 ⟨g592, (FR.up (FR.up (FR.up (FR.up (FR.up (FR.up (FR.up (FR.up f126 f149 sb_Wat_Wqp) f160 sb_Wat_Wqp) f172 sb_Wat_Wqp) f392 sb_Wat_Wqp) f462 sb_Wtak_Wqp) f566 sb_Wask_Wqp) f577 sb_Wat_Wqp) f593 sb_Wsgn_Wqp), (by omega), (by omega), (by omega), (by omega), (by omega), (by omega)⟩
                        · intro h596
                          replace p590 := p590 (by omega)
                          have q604 : (dp τ591) = (dp τ124) := ((dp_fr f593 (fun _ => rfl) rfl).trans ((dp_fr f577 (fun _ => rfl) rfl).trans ((dp_fr f566 (fun _ => rfl) rfl).trans ((dp_fr f462 (fun _ => rfl) rfl).trans ((dp_fr f392 (fun _ => rfl) rfl).trans ((dp_fr f172 (fun _ => rfl) rfl).trans ((dp_fr f160 (fun _ => rfl) rfl).trans (dp_fr f149 (fun _ => rfl) rfl))))))))
                          have q605 := ws_nn (σ := τ124)
                          have q606 : (ws τ591) = (ws τ124) := ((ws_fr f593 (fun _ => rfl) rfl).trans ((ws_fr f577 (fun _ => rfl) rfl).trans ((ws_fr f566 (fun _ => rfl) rfl).trans ((ws_fr f462 (fun _ => rfl) rfl).trans ((ws_fr f392 (fun _ => rfl) rfl).trans ((ws_fr f172 (fun _ => rfl) rfl).trans ((ws_fr f160 (fun _ => rfl) rfl).trans (ws_fr f149 (fun _ => rfl) rfl))))))))
                          have q607 : (wk τ591) = (wk τ124) := ((wk_fr f593 (fun _ => rfl) rfl rfl).trans ((wk_fr f577 (fun _ => rfl) rfl rfl).trans ((wk_fr f566 (fun _ => rfl) rfl rfl).trans ((wk_fr f462 (fun _ => rfl) rfl rfl).trans ((wk_fr f392 (fun _ => rfl) rfl rfl).trans ((wk_fr f172 (fun _ => rfl) rfl rfl).trans ((wk_fr f160 (fun _ => rfl) rfl rfl).trans (wk_fr f149 (fun _ => rfl) rfl rfl))))))))
                          have b608 := GI.b g592 117 2 kd117 (lo := 0) (hi := 1601) rfl
                          have q609 : (τ591.1 117 87) = (τ124.1 117 87) := ((FR.at f593 117 87 rfl).trans ((FR.at f577 117 87 rfl).trans ((FR.at f566 117 87 rfl).trans ((FR.at f462 117 87 rfl).trans ((FR.at f392 117 87 rfl).trans ((FR.at f172 117 87 rfl).trans ((FR.at f160 117 87 rfl).trans (FR.at f149 117 87 rfl))))))))
                          have q610 : (τ591.1 117 89) = (τ124.1 117 89) := ((FR.at f593 117 89 rfl).trans ((FR.at f577 117 89 rfl).trans ((FR.at f566 117 89 rfl).trans ((FR.at f462 117 89 rfl).trans ((FR.at f392 117 89 rfl).trans ((FR.at f172 117 89 rfl).trans ((FR.at f160 117 89 rfl).trans (FR.at f149 117 89 rfl))))))))
                          refine wp_less [0, 1] (lv2 := [(0, .ref 117), (1, iV x122)]) rfl rfl ?_
                          exact ih133 (x122) τ591 ⟨⟨by omega, by omega⟩, g592, (FR.up (FR.up (FR.up (FR.up (FR.up (FR.up (FR.up (FR.up f126 f149 sb_Wat_Wqp) f160 sb_Wat_Wqp) f172 sb_Wat_Wqp) f392 sb_Wat_Wqp) f462 sb_Wtak_Wqp) f566 sb_Wask_Wqp) f577 sb_Wat_Wqp) f593 sb_Wsgn_Wqp), (by omega), (by omega), (by omega), (by omega), (by omega), (by omega)⟩ (by show Int.toNat (1700 - (τ591.1 117 2)) < Int.toNat (1700 - (τ124.1 117 2)); omega)
                    · intro h583; exfalso; omega
                  · intro h582
                    replace p569 := p569 (by omega)
                    replace p574 := p574 (by omega)
                    refine wp_al1 jF_331_110 rfl rfl (pc2 := 111) ?_
                    have b611 := GI.b g576 117 2 kd117 (lo := 0) (hi := 1601) rfl
                    refine wp_gi jF_331_111 kd117 (by decide) rfl rfl rfl (pc2 := 114) ?_
                    refine wp_go jF_331_114 ?_
                    refine wp_is2 (lv2 := [(0, .ref 117), (1, iV x122), (2, iV z150), (3, iV z161), (4, iV z463), (5, iV (τ575.1 117 2))]) jF_331_118 rfl rfl rfl (pc2 := 120) ?_
                    refine wp_il2 jF_331_120 rfl rfl (pc2 := 122) ?_
                    refine wp_ic jF_331_122 rfl (pc2 := 123) ?_
                    refine wp_i_eq jF_331_123 (m_rgb b611 rfl) (m_rgl rfl) rfl (pc2 := 126) ?_ ?_
                    · intro h612; exfalso; omega
                    · intro h612
                      refine wp_al1 jF_331_126 rfl rfl (pc2 := 127) ?_
                      refine wp_il2 jF_331_127 rfl rfl (pc2 := 129) ?_
                      refine wp_z_eq jF_331_129 ⟨by omega, by omega⟩ rfl (pc2 := 132) ?_ ?_
                      · intro h613
                        refine wp_bi jF_331_137 (by decide) rfl (pc2 := 139) ?_
                        refine wp_il2 jF_331_139 rfl rfl (pc2 := 141) ?_
                        refine wp_cV (as := [iV 22, iV (τ575.1 117 2)]) (rest := []) (a := 117) (mx := 3) (ci := 12) jF_331_141 kd117 (by decide) rfl rfl rfl rfl rfl (by omega) (by omega) rfl (pc2 := 144) ?_
                        have q614 := ws_nn (σ := τ124)
                        have q615 : (ws τ575) = (ws τ124) := ((ws_fr f577 (fun _ => rfl) rfl).trans ((ws_fr f566 (fun _ => rfl) rfl).trans ((ws_fr f462 (fun _ => rfl) rfl).trans ((ws_fr f392 (fun _ => rfl) rfl).trans ((ws_fr f172 (fun _ => rfl) rfl).trans ((ws_fr f160 (fun _ => rfl) rfl).trans (ws_fr f149 (fun _ => rfl) rfl)))))))
                        have q616 : (tt τ575) = (tt τ124) := ((tt_fr f577 (fun _ => rfl) rfl).trans ((tt_fr f566 (fun _ => rfl) rfl).trans ((tt_fr f462 (fun _ => rfl) rfl).trans ((tt_fr f392 (fun _ => rfl) rfl).trans ((tt_fr f172 (fun _ => rfl) rfl).trans ((tt_fr f160 (fun _ => rfl) rfl).trans (tt_fr f149 (fun _ => rfl) rfl)))))))
                        have q617 : (wk τ575) = (wk τ124) := ((wk_fr f577 (fun _ => rfl) rfl rfl).trans ((wk_fr f566 (fun _ => rfl) rfl rfl).trans ((wk_fr f462 (fun _ => rfl) rfl rfl).trans ((wk_fr f392 (fun _ => rfl) rfl rfl).trans ((wk_fr f172 (fun _ => rfl) rfl rfl).trans ((wk_fr f160 (fun _ => rfl) rfl rfl).trans (wk_fr f149 (fun _ => rfl) rfl rfl)))))))
                        have b618 := GI.b g565 117 5 kd117 (lo := (-2147483648)) (hi := 2147483647) rfl
                        have q619 : (τ575.1 117 5) = (τ564.1 117 5) := (FR.at f577 117 5 rfl)
                        have q620 : (τ575.1 117 89) = (τ124.1 117 89) := ((FR.at f577 117 89 rfl).trans ((FR.at f566 117 89 rfl).trans ((FR.at f462 117 89 rfl).trans ((FR.at f392 117 89 rfl).trans ((FR.at f172 117 89 rfl).trans ((FR.at f160 117 89 rfl).trans (FR.at f149 117 89 rfl)))))))
                        have q621 : (τ575.1 117 91) = (σ.1 117 91) := ((FR.at f577 117 91 rfl).trans ((FR.at f566 117 91 rfl).trans ((FR.at f462 117 91 rfl).trans ((FR.at f392 117 91 rfl).trans ((FR.at f172 117 91 rfl).trans ((FR.at f160 117 91 rfl).trans ((FR.at f149 117 91 rfl).trans (FR.at f126 117 91 rfl))))))))
                        refine wp_use (m_327 τ575 g576 22 (by omega) (by omega) (τ575.1 117 2) (by omega) (by omega) (by omega) (by omega) _ _ (by omega) (by omega)) ?_
                        rintro _ τ630 ⟨rfl, g631, f632, p622, p623, p624, p625, p626, p627, p628, p629⟩
                        show WP 331 144 [(0, .ref 117), (1, iV x122), (2, iV z150), (3, iV z161), (4, iV z463), (5, iV (τ575.1 117 2))] [] _ _ _ _
                        refine wp_al1 jF_331_144 rfl rfl (pc2 := 145) ?_
                        refine wp_bi jF_331_145 (by decide) rfl (pc2 := 147) ?_
                        refine wp_cV (as := [iV 40]) (rest := []) (a := 117) (mx := 2) (ci := 12) jF_331_147 kd117 (by decide) rfl rfl rfl rfl rfl (by omega) (by omega) rfl (pc2 := 150) ?_
                        have q633 : (τ630.1 117 2) = (τ575.1 117 2) := (FR.at f632 117 2 rfl)
                        have q634 : (τ630.1 117 3) = (σ.1 117 3) := ((FR.at f632 117 3 rfl).trans ((FR.at f577 117 3 rfl).trans ((FR.at f566 117 3 rfl).trans ((FR.at f462 117 3 rfl).trans ((FR.at f392 117 3 rfl).trans ((FR.at f172 117 3 rfl).trans ((FR.at f160 117 3 rfl).trans ((FR.at f149 117 3 rfl).trans (FR.at f126 117 3 rfl)))))))))
                        have b635 := GI.b g631 117 5 kd117 (lo := (-2147483648)) (hi := 2147483647) rfl
                        refine wp_use (m_238 τ630 g631 40 (by omega) (by omega)  _ _ (by omega) (by omega)) ?_
                        rintro _ τ639 ⟨rfl, g640, f641, p636, p637, p638⟩
                        show WP 331 150 [(0, .ref 117), (1, iV x122), (2, iV z150), (3, iV z161), (4, iV z463), (5, iV (τ575.1 117 2))] [] _ _ _ _
                        refine wp_go jF_331_150 ?_
                        refine wp_go jF_331_183 ?_
                        refine wp_il1 jF_331_2 rfl rfl (pc2 := 3) ?_
                        refine wp_z_eq jF_331_3 (m_rgb h123 rfl) rfl (pc2 := 6) ?_ ?_
                        · intro h642; exfalso; omega
                        · intro h642
                          refine wp_al1 jF_331_6 rfl rfl (pc2 := 7) ?_
                          have b643 := GI.b g640 117 5 kd117 (lo := (-2147483648)) (hi := 2147483647) rfl
                          refine wp_gi jF_331_7 kd117 (by decide) rfl rfl rfl (pc2 := 10) ?_
                          refine wp_z_ne jF_331_10 (m_rgb b643 rfl) rfl (pc2 := 13) ?_ ?_
                          · intro h644
                            clear p638
                            have q645 : (dp τ639) = (dp τ124) := ((dp_fr f641 (fun _ => rfl) rfl).trans ((dp_fr f632 (fun _ => rfl) rfl).trans ((dp_fr f577 (fun _ => rfl) rfl).trans ((dp_fr f566 (fun _ => rfl) rfl).trans ((dp_fr f462 (fun _ => rfl) rfl).trans ((dp_fr f392 (fun _ => rfl) rfl).trans ((dp_fr f172 (fun _ => rfl) rfl).trans ((dp_fr f160 (fun _ => rfl) rfl).trans (dp_fr f149 (fun _ => rfl) rfl)))))))))
                            have q646 := ws_nn (σ := τ630)
                            have q647 : (ws τ639) = (ws τ630) := (ws_fr f641 (fun _ => rfl) rfl)
                            have q648 : (wk τ639) = (wk τ630) := (wk_fr f641 (fun _ => rfl) rfl rfl)
                            have b649 := GI.b g640 117 2 kd117 (lo := 0) (hi := 1601) rfl
                            have q650 : (τ639.1 117 87) = (τ124.1 117 87) := ((FR.at f641 117 87 rfl).trans ((FR.at f632 117 87 rfl).trans ((FR.at f577 117 87 rfl).trans ((FR.at f566 117 87 rfl).trans ((FR.at f462 117 87 rfl).trans ((FR.at f392 117 87 rfl).trans ((FR.at f172 117 87 rfl).trans ((FR.at f160 117 87 rfl).trans (FR.at f149 117 87 rfl)))))))))
                            have b651 := GI.b g631 117 89 kd117 (lo := 0) (hi := 1690) rfl
                            have q652 : (τ639.1 117 89) = (τ630.1 117 89) := (FR.at f641 117 89 rfl)
                            refine wp_less [0] (lv2 := [(0, .ref 117)]) rfl rfl ?_
                            exact jn114 () τ639 ⟨g640, (FR.up (FR.up (FR.up (FR.up (FR.up (FR.up (FR.up (FR.up (FR.up f126 f149 sb_Wat_Wqp) f160 sb_Wat_Wqp) f172 sb_Wat_Wqp) f392 sb_Wat_Wqp) f462 sb_Wtak_Wqp) f566 sb_Wask_Wqp) f577 sb_Wat_Wqp) f632 sb_Wqo_Wqp) f641 sb_Wsgn_Wqp), (by omega), (by omega), (by omega), (by omega), (by omega), (by omega)⟩
                          · intro h644
                            replace p638 := p638 (by omega)
                            have q653 : (dp τ639) = (dp τ124) := ((dp_fr f641 (fun _ => rfl) rfl).trans ((dp_fr f632 (fun _ => rfl) rfl).trans ((dp_fr f577 (fun _ => rfl) rfl).trans ((dp_fr f566 (fun _ => rfl) rfl).trans ((dp_fr f462 (fun _ => rfl) rfl).trans ((dp_fr f392 (fun _ => rfl) rfl).trans ((dp_fr f172 (fun _ => rfl) rfl).trans ((dp_fr f160 (fun _ => rfl) rfl).trans (dp_fr f149 (fun _ => rfl) rfl)))))))))
                            have q654 := ws_nn (σ := τ630)
                            have q655 : (ws τ639) = (ws τ630) := (ws_fr f641 (fun _ => rfl) rfl)
                            have q656 : (wk τ639) = (wk τ630) := (wk_fr f641 (fun _ => rfl) rfl rfl)
                            have b657 := GI.b g640 117 2 kd117 (lo := 0) (hi := 1601) rfl
                            have q658 : (τ639.1 117 87) = (τ124.1 117 87) := ((FR.at f641 117 87 rfl).trans ((FR.at f632 117 87 rfl).trans ((FR.at f577 117 87 rfl).trans ((FR.at f566 117 87 rfl).trans ((FR.at f462 117 87 rfl).trans ((FR.at f392 117 87 rfl).trans ((FR.at f172 117 87 rfl).trans ((FR.at f160 117 87 rfl).trans (FR.at f149 117 87 rfl)))))))))
                            have b659 := GI.b g631 117 89 kd117 (lo := 0) (hi := 1690) rfl
                            have q660 : (τ639.1 117 89) = (τ630.1 117 89) := (FR.at f641 117 89 rfl)
                            refine wp_less [0, 1] (lv2 := [(0, .ref 117), (1, iV x122)]) rfl rfl ?_
                            exact ih133 (x122) τ639 ⟨⟨by omega, by omega⟩, g640, (FR.up (FR.up (FR.up (FR.up (FR.up (FR.up (FR.up (FR.up (FR.up f126 f149 sb_Wat_Wqp) f160 sb_Wat_Wqp) f172 sb_Wat_Wqp) f392 sb_Wat_Wqp) f462 sb_Wtak_Wqp) f566 sb_Wask_Wqp) f577 sb_Wat_Wqp) f632 sb_Wqo_Wqp) f641 sb_Wsgn_Wqp), (by omega), (by omega), (by omega), (by omega), (by omega), (by omega)⟩ (by show Int.toNat (1700 - (τ639.1 117 2)) < Int.toNat (1700 - (τ124.1 117 2)); omega)
                      · intro h613; exfalso; omega
          · intro h163
            replace p141 := p141 (by omega)
            replace p146 := p146 (by omega)
            refine wp_al1 jF_331_33 rfl rfl (pc2 := 34) ?_
            refine wp_bi jF_331_34 (by decide) rfl (pc2 := 36) ?_
            refine wp_al1 jF_331_36 rfl rfl (pc2 := 37) ?_
            have b661 := GI.b g159 117 2 kd117 (lo := 0) (hi := 1601) rfl
            refine wp_gi jF_331_37 kd117 (by decide) rfl rfl rfl (pc2 := 40) ?_
            refine wp_cV (as := [iV 20, iV (τ158.1 117 2)]) (rest := []) (a := 117) (mx := 3) (ci := 12) jF_331_40 kd117 (by decide) rfl rfl rfl rfl rfl (by omega) (by omega) rfl (pc2 := 43) ?_
            have q662 := ws_nn (σ := τ124)
            have q663 : (ws τ158) = (ws τ124) := ((ws_fr f160 (fun _ => rfl) rfl).trans (ws_fr f149 (fun _ => rfl) rfl))
            have q664 : (tt τ158) = (tt τ124) := ((tt_fr f160 (fun _ => rfl) rfl).trans (tt_fr f149 (fun _ => rfl) rfl))
            have q665 : (wk τ158) = (wk τ124) := ((wk_fr f160 (fun _ => rfl) rfl rfl).trans (wk_fr f149 (fun _ => rfl) rfl rfl))
            have q666 : (τ158.1 117 5) = (τ124.1 117 5) := ((FR.at f160 117 5 rfl).trans (FR.at f149 117 5 rfl))
            have q667 : (τ158.1 117 89) = (τ124.1 117 89) := ((FR.at f160 117 89 rfl).trans (FR.at f149 117 89 rfl))
            have q668 : (τ158.1 117 91) = (σ.1 117 91) := ((FR.at f160 117 91 rfl).trans ((FR.at f149 117 91 rfl).trans (FR.at f126 117 91 rfl)))
            refine wp_use (m_327 τ158 g159 20 (by omega) (by omega) (τ158.1 117 2) (by omega) (by omega) (by omega) (by omega) _ _ (by omega) (by omega)) ?_
            rintro _ τ677 ⟨rfl, g678, f679, p669, p670, p671, p672, p673, p674, p675, p676⟩
            clear p669
            show WP 331 43 [(0, .ref 117), (1, iV x122), (2, iV z150), (3, iV z161)] [] _ _ _ _
            refine wp_al1 jF_331_43 rfl rfl (pc2 := 44) ?_
            refine wp_dup jF_331_44 rfl rfl (pc2 := 45) ?_
            refine wp_gi jF_331_45 kd117 (by decide) rfl (FR.at f679 117 2 rfl) rfl (pc2 := 48) ?_
            refine wp_ic jF_331_48 rfl (pc2 := 49) ?_
            refine wp_add jF_331_49 rfl (pc2 := 50) ?_
            refine wp_pi jF_331_50 kd117 (by decide) rfl rfl rfl (pc2 := 53) g678 (lo := 0) (hi := 1601) rfl (by omega) (by omega) ?_
            intro τ680 g681 f682 e683
            refine wp_go jF_331_53 ?_
            refine wp_go jF_331_183 ?_
            refine wp_il1 jF_331_2 rfl rfl (pc2 := 3) ?_
            refine wp_z_eq jF_331_3 (m_rgb h123 rfl) rfl (pc2 := 6) ?_ ?_
            · intro h684; exfalso; omega
            · intro h684
              refine wp_al1 jF_331_6 rfl rfl (pc2 := 7) ?_
              have b685 := GI.b g678 117 5 kd117 (lo := (-2147483648)) (hi := 2147483647) rfl
              refine wp_gi jF_331_7 kd117 (by decide) rfl (FRw.nj f682 (by decide)) rfl (pc2 := 10) ?_
              refine wp_z_ne jF_331_10 (m_rgb b685 rfl) rfl (pc2 := 13) ?_ ?_
              · intro h686
                clear p670
                replace p673 := p673 (by omega)
                have q687 : (dp τ680) = (dp τ124) := ((dp_wr f682 (by decide)).trans ((dp_fr f679 (fun _ => rfl) rfl).trans ((dp_fr f160 (fun _ => rfl) rfl).trans (dp_fr f149 (fun _ => rfl) rfl))))
                have q688 := ws_nn (σ := τ677)
                have q689 : (ws τ680) = (ws τ677) := (ws_wr f682 (by decide))
                have q690 : (wk τ680) = (wk τ677) := (wk_wr f682 (by decide))
                have q691 : (τ680.1 117 2) = ((τ158.1 117 2) + 1) := e683
                have q692 : (τ680.1 117 5) = (τ677.1 117 5) := (FRw.nj f682 (by decide))
                have q693 : (τ680.1 117 87) = (τ124.1 117 87) := ((FRw.nj f682 (by decide)).trans ((FR.at f679 117 87 rfl).trans ((FR.at f160 117 87 rfl).trans (FR.at f149 117 87 rfl))))
                have b694 := GI.b g678 117 89 kd117 (lo := 0) (hi := 1690) rfl
                have q695 : (τ680.1 117 89) = (τ677.1 117 89) := (FRw.nj f682 (by decide))
                refine wp_less [0] (lv2 := [(0, .ref 117)]) rfl rfl ?_
                exact jn114 () τ680 ⟨g681, (FR.w (FR.up (FR.up (FR.up f126 f149 sb_Wat_Wqp) f160 sb_Wat_Wqp) f679 sb_Wqo_Wqp) f682 rfl), (by omega), (by omega), (by omega), (by omega), (by omega), (by omega)⟩
              · intro h686
                replace p670 := p670 (by omega)
                clear p673
                have q696 : (dp τ680) = (dp τ124) := ((dp_wr f682 (by decide)).trans ((dp_fr f679 (fun _ => rfl) rfl).trans ((dp_fr f160 (fun _ => rfl) rfl).trans (dp_fr f149 (fun _ => rfl) rfl))))
                have q697 := ws_nn (σ := τ677)
                have q698 : (ws τ680) = (ws τ677) := (ws_wr f682 (by decide))
                have q699 : (wk τ680) = (wk τ677) := (wk_wr f682 (by decide))
                have q700 : (τ680.1 117 2) = ((τ158.1 117 2) + 1) := e683
                have q701 : (τ680.1 117 5) = (τ677.1 117 5) := (FRw.nj f682 (by decide))
                have q702 : (τ680.1 117 87) = (τ124.1 117 87) := ((FRw.nj f682 (by decide)).trans ((FR.at f679 117 87 rfl).trans ((FR.at f160 117 87 rfl).trans (FR.at f149 117 87 rfl))))
                have b703 := GI.b g678 117 89 kd117 (lo := 0) (hi := 1690) rfl
                have q704 : (τ680.1 117 89) = (τ677.1 117 89) := (FRw.nj f682 (by decide))
                refine wp_less [0, 1] (lv2 := [(0, .ref 117), (1, iV x122)]) rfl rfl ?_
                exact ih133 (x122) τ680 ⟨⟨by omega, by omega⟩, g681, (FR.w (FR.up (FR.up (FR.up f126 f149 sb_Wat_Wqp) f160 sb_Wat_Wqp) f679 sb_Wqo_Wqp) f682 rfl), (by omega), (by omega), (by omega), (by omega), (by omega), (by omega)⟩ (by show Int.toNat (1700 - (τ680.1 117 2)) < Int.toNat (1700 - (τ124.1 117 2)); omega)
