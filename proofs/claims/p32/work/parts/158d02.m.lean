set_option maxHeartbeats 4000000 in
set_option maxRecDepth 20000 in
/-- M.qPartTold -/
theorem m_331 (σ : jM) (hg : GI σ)  (pre0 : (σ.1 117 5) = 0) (pre1 : (wk σ) = 1) (pre2 : (σ.1 117 91) ≤ (σ.1 117 89)) (pre3 : (ws σ) ≤ (dp σ)) (pre4 : (σ.1 117 87) + (σ.1 117 89) ≤ (σ.1 117 2)) (fr lo : Nat) (hfr : 5 ≤ fr) (hlo : 106 ≤ lo) : WP 331 0 (lv_args 0 [.ref 117]) [] fr lo σ (fun v τ => v = none ∧ GI τ ∧ FR Wqp σ τ ∧ ((σ.1 117 2) ≤ (τ.1 117 2)) ∧ ((τ.1 117 5) = 0 → (wk τ) = 1) ∧ ((τ.1 117 5) = 0 → (σ.1 117 91) ≤ (τ.1 117 89)) ∧ ((τ.1 117 5) = 0 → (dp τ) - (ws τ) = (dp σ) - (ws σ) + 1) ∧ ((τ.1 117 5) = 0 → (τ.1 117 87) + (τ.1 117 89) - (τ.1 117 2) ≤ (σ.1 117 87) + (σ.1 117 89) - (σ.1 117 2)) ∧ ((τ.1 117 5) = 0 → (σ.1 117 2) < (τ.1 117 2)) ∧ ((τ.1 117 87) + (τ.1 117 89) ≤ (τ.1 117 2) + 1)) := by
  show WP 331 0 [(0, .ref 117)] [] _ _ _ _
  have q1 := ws_nn (σ := σ)
  have b2 := GI.b hg 117 2 kd117 (lo := 0) (hi := 1601) rfl
  have b3 := GI.b hg 117 87 kd117 (lo := 0) (hi := 1690) rfl
  have b4 := GI.b hg 117 89 kd117 (lo := 0) (hi := 1690) rfl
  have b5 := GI.b hg 117 91 kd117 (lo := 0) (hi := 1690) rfl
  refine wp_join (α := Unit) 186 (fun a => [(0, .ref 117)]) (fun a τ => GI τ ∧ FR Wqp σ τ ∧ ((σ.1 117 2) ≤ (τ.1 117 2)) ∧ ((τ.1 117 5) = 0 → (wk τ) = 1) ∧ ((τ.1 117 5) = 0 → (σ.1 117 91) ≤ (τ.1 117 89)) ∧ ((τ.1 117 5) = 0 → (dp τ) - (ws τ) = (dp σ) - (ws σ)) ∧ ((τ.1 117 5) = 0 → (τ.1 117 87) + (τ.1 117 89) - (τ.1 117 2) ≤ (σ.1 117 87) + (σ.1 117 89) - (σ.1 117 2)) ∧ ((τ.1 117 87) + (τ.1 117 89) ≤ (τ.1 117 2) + 1)) ?_ ?_
  · rintro ⟨⟩ τ6 ⟨g7, f8, p9, p10, p11, p12, p13, p14⟩
    have q15 := ws_nn (σ := τ6)
    have b16 := GI.b g7 117 2 kd117 (lo := 0) (hi := 1601) rfl
    have b17 := GI.b g7 117 5 kd117 (lo := (-2147483648)) (hi := 2147483647) rfl
    have b18 := GI.b g7 117 87 kd117 (lo := 0) (hi := 1690) rfl
    have b19 := GI.b g7 117 89 kd117 (lo := 0) (hi := 1690) rfl
    show WP 331 186 [(0, .ref 117)] [] _ _ _ _
    refine wp_al1 jF_331_186 rfl rfl (pc2 := 187) ?_
    refine wp_gi jF_331_187 kd117 (by decide) rfl rfl rfl (pc2 := 190) ?_
    refine wp_z_eq jF_331_190 (m_rgb b17 rfl) rfl (pc2 := 193) ?_ ?_
    · intro h20
      replace p10 := p10 (by omega)
      replace p11 := p11 (by omega)
      replace p12 := p12 (by omega)
      replace p13 := p13 (by omega)
      refine wp_al1 jF_331_194 rfl rfl (pc2 := 195) ?_
      refine wp_ic jF_331_195 rfl (pc2 := 196) ?_
      refine wp_bi jF_331_196 (by decide) rfl (pc2 := 198) ?_
      refine wp_cV (as := [iV 0, iV 6]) (rest := []) (a := 117) (mx := 4) (ci := 12) jF_331_198 kd117 (by decide) rfl rfl rfl rfl rfl (by omega) (by omega) rfl (pc2 := 201) ?_
      refine wp_use (m_332 τ6 g7 0 (by omega) (by omega) 6 (by omega) (by omega)  _ _ (by omega) (by omega)) ?_
      rintro _ τ24 ⟨z27, rfl, h28, g25, f26, p21, p22, p23⟩
      show WP 331 201 [(0, .ref 117)] [iV z27] _ _ _ _
      refine wp_is1 (lv2 := [(0, .ref 117), (2, iV z27)]) jF_331_201 rfl rfl rfl (pc2 := 202) ?_
      refine wp_il1 jF_331_202 rfl rfl (pc2 := 203) ?_
      refine wp_ic jF_331_203 rfl (pc2 := 204) ?_
      refine wp_i_eq jF_331_204 (m_rgb h28 rfl) (m_rgl rfl) rfl (pc2 := 207) ?_ ?_
      · intro h29
        refine wp_al1 jF_331_212 rfl rfl (pc2 := 213) ?_
        refine wp_il1 jF_331_213 rfl rfl (pc2 := 214) ?_
        refine wp_ic jF_331_214 rfl (pc2 := 215) ?_
        refine wp_i_eq jF_331_215 ⟨by omega, by omega⟩ (m_rgl rfl) rfl (pc2 := 218) ?_ ?_
        · intro h30
          refine wp_si jF_331_225 (by decide) rfl (pc2 := 228) ?_
          refine wp_al1 jF_331_228 rfl rfl (pc2 := 229) ?_
          refine wp_ic jF_331_229 rfl (pc2 := 230) ?_
          refine wp_si jF_331_230 (by decide) rfl (pc2 := 233) ?_
          refine wp_cV (as := [iV 0, iV 9999]) (rest := [iV 1000, .ref 117]) (a := 117) (mx := 5) (ci := 12) jF_331_233 kd117 (by decide) rfl rfl rfl rfl rfl (by omega) (by omega) rfl (pc2 := 236) ?_
          have b31 := GI.b g25 117 2 kd117 (lo := 0) (hi := 1601) rfl
          have b32 := GI.b hg 117 3 kd117 (lo := 0) (hi := 1600) rfl
          have q33 : (τ24.1 117 3) = (σ.1 117 3) := ((FR.at f26 117 3 rfl).trans (FR.at f8 117 3 rfl))
          have q34 : (τ24.1 117 5) = (τ6.1 117 5) := (FR.at f26 117 5 rfl)
          refine wp_use (m_230 τ24 g25 0 (by omega) (by omega) 9999 (by omega) (by omega)  _ _ (by omega) (by omega)) ?_
          rintro _ τ38 ⟨z41, rfl, h42, g39, f40, p35, p36, p37⟩
          clear p36
          show WP 331 236 [(0, .ref 117), (2, iV z27)] [iV z41, iV 1000, .ref 117] _ _ _ _
          refine wp_addw jF_331_236 (m_rgl rfl) (m_rgb h42 rfl) rfl (pc2 := 237) ?_
          intro z43 h44
          refine wp_cV (as := [iV z43]) (rest := []) (a := 117) (mx := 2) (ci := 12) jF_331_237 kd117 (by decide) rfl rfl rfl rfl rfl (by omega) (by omega) rfl (pc2 := 240) ?_
          have q45 : (dp τ38) = (dp τ6) := ((dp_fr f40 (fun _ => rfl) rfl).trans (dp_fr f26 (fun _ => rfl) rfl))
          have q46 : (τ38.1 117 87) = (τ6.1 117 87) := ((FR.at f40 117 87 rfl).trans (FR.at f26 117 87 rfl))
          refine wp_use (m_329 τ38 g39 z43 (by omega) (by omega) (by omega) _ _ (by omega) (by omega)) ?_
          rintro _ τ51 ⟨rfl, g52, f53, p47, p48, p49, p50⟩
          show WP 331 240 [(0, .ref 117), (2, iV z27)] [] _ _ _ _
          refine wp_al1 jF_331_240 rfl rfl (pc2 := 241) ?_
          refine wp_cV (as := []) (rest := []) (a := 117) (mx := 1) (ci := 12) jF_331_241 kd117 (by decide) rfl rfl rfl rfl rfl (by omega) (by omega) rfl (pc2 := 244) ?_
          have q54 := ws_nn (σ := τ6)
          have q55 : (ws τ51) = (ws τ6) := ((ws_fr f53 (fun _ => rfl) rfl).trans ((ws_fr f40 (fun _ => rfl) rfl).trans (ws_fr f26 (fun _ => rfl) rfl)))
          have q56 : (wk τ51) = (wk τ6) := ((wk_fr f53 (fun _ => rfl) rfl rfl).trans ((wk_fr f40 (fun _ => rfl) rfl rfl).trans (wk_fr f26 (fun _ => rfl) rfl rfl)))
          have b57 := GI.b g39 117 5 kd117 (lo := (-2147483648)) (hi := 2147483647) rfl
          have q58 : (τ51.1 117 5) = (τ38.1 117 5) := (FR.at f53 117 5 rfl)
          have b59 := GI.b g52 117 87 kd117 (lo := 0) (hi := 1690) rfl
          have q60 : (τ51.1 117 89) = (τ6.1 117 89) := ((FR.at f53 117 89 rfl).trans ((FR.at f40 117 89 rfl).trans (FR.at f26 117 89 rfl)))
          have q61 : (τ51.1 117 91) = (σ.1 117 91) := ((FR.at f53 117 91 rfl).trans ((FR.at f40 117 91 rfl).trans ((FR.at f26 117 91 rfl).trans (FR.at f8 117 91 rfl))))
          refine wp_use (m_335 τ51 g52  (by omega) (by omega) (by omega) (by omega) _ _ (by omega) (by omega)) ?_
          rintro _ τ66 ⟨rfl, g67, f68, p62, p63, p64, p65⟩
          show WP 331 244 [(0, .ref 117), (2, iV z27)] [] _ _ _ _
          refine wp_rv jF_331_244 ?_
          have q69 := ws_nn (σ := τ66)
          have b70 := GI.b g39 117 2 kd117 (lo := 0) (hi := 1601) rfl
          have q71 : (τ66.1 117 2) = (τ38.1 117 2) := ((FR.at f68 117 2 rfl).trans (FR.at f53 117 2 rfl))
          have q72 : (τ66.1 117 5) = (τ38.1 117 5) := ((FR.at f68 117 5 rfl).trans (FR.at f53 117 5 rfl))
          have b73 := GI.b g67 117 87 kd117 (lo := 0) (hi := 1690) rfl
          have b74 := GI.b g67 117 89 kd117 (lo := 0) (hi := 1690) rfl
          exact ⟨rfl, g67, (FR.up (FR.up (FR.up (FR.up f8 f26 sb_Wat_Wqp) f40 sb_Wask_Wqp) f53 sb_Wqc_Wqp) f68 sb_Wqe_Wqp), (by omega), (by omega), (by omega), (by omega), (by omega), (by omega), (by omega)⟩
        · intro h30; exfalso; omega
      · intro h29
        refine wp_al1 jF_331_207 rfl rfl (pc2 := 208) ?_
        refine wp_il1 jF_331_208 rfl rfl (pc2 := 209) ?_
        refine wp_cV (as := [iV z27]) (rest := []) (a := 117) (mx := 2) (ci := 12) jF_331_209 kd117 (by decide) rfl rfl rfl rfl rfl (by omega) (by omega) rfl (pc2 := 212) ?_
        have b75 := GI.b g25 117 2 kd117 (lo := 0) (hi := 1601) rfl
        have b76 := GI.b hg 117 3 kd117 (lo := 0) (hi := 1600) rfl
        have q77 : (τ24.1 117 3) = (σ.1 117 3) := ((FR.at f26 117 3 rfl).trans (FR.at f8 117 3 rfl))
        have q78 : (τ24.1 117 5) = (τ6.1 117 5) := (FR.at f26 117 5 rfl)
        refine wp_use (m_334 τ24 g25 z27 (by omega) (by omega)  _ _ (by omega) (by omega)) ?_
        rintro _ τ82 ⟨rfl, g83, f84, p79, p80, p81⟩
        clear p80
        show WP 331 212 [(0, .ref 117), (2, iV z27)] [] _ _ _ _
        refine wp_al1 jF_331_212 rfl rfl (pc2 := 213) ?_
        refine wp_il1 jF_331_213 rfl rfl (pc2 := 214) ?_
        refine wp_ic jF_331_214 rfl (pc2 := 215) ?_
        refine wp_i_eq jF_331_215 ⟨by omega, by omega⟩ (m_rgl rfl) rfl (pc2 := 218) ?_ ?_
        · intro h85; exfalso; omega
        · intro h85
          refine wp_bi jF_331_218 (by decide) rfl (pc2 := 220) ?_
          refine wp_il1 jF_331_220 rfl rfl (pc2 := 221) ?_
          refine wp_add jF_331_221 rfl (pc2 := 222) ?_
          refine wp_go jF_331_222 ?_
          refine wp_cV (as := [iV (40 + z27)]) (rest := []) (a := 117) (mx := 2) (ci := 12) jF_331_237 kd117 (by decide) rfl rfl rfl rfl rfl (by omega) (by omega) rfl (pc2 := 240) ?_
          have q86 : (dp τ82) = (dp τ6) := ((dp_fr f84 (fun _ => rfl) rfl).trans (dp_fr f26 (fun _ => rfl) rfl))
          have q87 : (τ82.1 117 87) = (τ6.1 117 87) := ((FR.at f84 117 87 rfl).trans (FR.at f26 117 87 rfl))
          refine wp_use (m_329 τ82 g83 (40 + z27) (by omega) (by omega) (by omega) _ _ (by omega) (by omega)) ?_
          rintro _ τ92 ⟨rfl, g93, f94, p88, p89, p90, p91⟩
          show WP 331 240 [(0, .ref 117), (2, iV z27)] [] _ _ _ _
          refine wp_al1 jF_331_240 rfl rfl (pc2 := 241) ?_
          refine wp_cV (as := []) (rest := []) (a := 117) (mx := 1) (ci := 12) jF_331_241 kd117 (by decide) rfl rfl rfl rfl rfl (by omega) (by omega) rfl (pc2 := 244) ?_
          have q95 := ws_nn (σ := τ6)
          have q96 : (ws τ92) = (ws τ6) := ((ws_fr f94 (fun _ => rfl) rfl).trans ((ws_fr f84 (fun _ => rfl) rfl).trans (ws_fr f26 (fun _ => rfl) rfl)))
          have q97 : (wk τ92) = (wk τ6) := ((wk_fr f94 (fun _ => rfl) rfl rfl).trans ((wk_fr f84 (fun _ => rfl) rfl rfl).trans (wk_fr f26 (fun _ => rfl) rfl rfl)))
          have b98 := GI.b g83 117 5 kd117 (lo := (-2147483648)) (hi := 2147483647) rfl
          have q99 : (τ92.1 117 5) = (τ82.1 117 5) := (FR.at f94 117 5 rfl)
          have b100 := GI.b g93 117 87 kd117 (lo := 0) (hi := 1690) rfl
          have q101 : (τ92.1 117 89) = (τ6.1 117 89) := ((FR.at f94 117 89 rfl).trans ((FR.at f84 117 89 rfl).trans (FR.at f26 117 89 rfl)))
          have q102 : (τ92.1 117 91) = (σ.1 117 91) := ((FR.at f94 117 91 rfl).trans ((FR.at f84 117 91 rfl).trans ((FR.at f26 117 91 rfl).trans (FR.at f8 117 91 rfl))))
          refine wp_use (m_335 τ92 g93  (by omega) (by omega) (by omega) (by omega) _ _ (by omega) (by omega)) ?_
          rintro _ τ107 ⟨rfl, g108, f109, p103, p104, p105, p106⟩
          show WP 331 244 [(0, .ref 117), (2, iV z27)] [] _ _ _ _
          refine wp_rv jF_331_244 ?_
          have q110 := ws_nn (σ := τ107)
          have b111 := GI.b g83 117 2 kd117 (lo := 0) (hi := 1601) rfl
          have q112 : (τ107.1 117 2) = (τ82.1 117 2) := ((FR.at f109 117 2 rfl).trans (FR.at f94 117 2 rfl))
          have q113 : (τ107.1 117 5) = (τ82.1 117 5) := ((FR.at f109 117 5 rfl).trans (FR.at f94 117 5 rfl))
          have b114 := GI.b g108 117 87 kd117 (lo := 0) (hi := 1690) rfl
          have b115 := GI.b g108 117 89 kd117 (lo := 0) (hi := 1690) rfl
          exact ⟨rfl, g108, (FR.up (FR.up (FR.up (FR.up f8 f26 sb_Wat_Wqp) f84 sb_Wask_Wqp) f94 sb_Wqc_Wqp) f109 sb_Wqe_Wqp), (by omega), (by omega), (by omega), (by omega), (by omega), (by omega), (by omega)⟩
    · intro h20
      clear p10
      clear p11
      clear p12
      clear p13
      refine wp_rv jF_331_193 ?_
      exact ⟨rfl, g7, f8, (by omega), (by omega), (by omega), (by omega), (by omega), (by omega), (by omega)⟩
  · intro jn116
    refine wp_ic jF_331_0 rfl (pc2 := 1) ?_
    refine wp_is1 (lv2 := [(0, .ref 117), (1, iV 1)]) jF_331_1 rfl rfl rfl (pc2 := 2) ?_
    refine wp_il1 jF_331_2 rfl rfl (pc2 := 3) ?_
    refine wp_z_eq jF_331_3 (m_rgl rfl) rfl (pc2 := 6) ?_ ?_
    · intro h117; exfalso; omega
    · intro h117
      refine wp_al1 jF_331_6 rfl rfl (pc2 := 7) ?_
      have b118 := GI.b hg 117 5 kd117 (lo := (-2147483648)) (hi := 2147483647) rfl
      refine wp_gi jF_331_7 kd117 (by decide) rfl rfl rfl (pc2 := 10) ?_
      refine wp_z_ne jF_331_10 (m_rgb b118 rfl) rfl (pc2 := 13) ?_ ?_
      · intro h119
        refine wp_less [0] (lv2 := [(0, .ref 117)]) rfl rfl ?_
        exact jn116 () σ ⟨hg, FR.rf, (by omega), (by omega), (by omega), (by omega), (by omega), (by omega)⟩
      · intro h119
        refine wp_loop (α := Int) (fun a => [(0, .ref 117), (1, iV (a))]) (fun a τ => (1 ≤ a ∧ a ≤ 1) ∧ GI τ ∧ FR Wqp σ τ ∧ ((σ.1 117 2) ≤ (τ.1 117 2)) ∧ ((τ.1 117 5) = 0) ∧ ((wk τ) = 1) ∧ ((σ.1 117 91) ≤ (τ.1 117 89)) ∧ ((dp τ) - (ws τ) = (dp σ) - (ws σ)) ∧ ((τ.1 117 87) + (τ.1 117 89) - (τ.1 117 2) ≤ (σ.1 117 87) + (σ.1 117 89) - (σ.1 117 2))) (fun a τ => Int.toNat (1700 - (τ.1 117 2))) (1) σ ?_ ?_
        · skip
          exact ⟨⟨by omega, by omega⟩, hg, FR.rf, (by omega), (by omega), (by omega), (by omega), (by omega), (by omega)⟩
        · rintro x120 τ122 ⟨h121, g123, f124, p125, p126, p127, p128, p129, p130⟩ ih131
          have q132 := ws_nn (σ := τ122)
          have b133 := GI.b g123 117 2 kd117 (lo := 0) (hi := 1601) rfl
          have b134 := GI.b g123 117 5 kd117 (lo := (-2147483648)) (hi := 2147483647) rfl
          have b135 := GI.b g123 117 87 kd117 (lo := 0) (hi := 1690) rfl
          have b136 := GI.b g123 117 89 kd117 (lo := 0) (hi := 1690) rfl
          show WP 331 13 [(0, .ref 117), (1, iV x120)] [] _ _ _ _
          show WP 331 13 [(0, .ref 117), (1, iV x120)] [] _ _ _ _
          refine wp_al1 jF_331_13 rfl rfl (pc2 := 14) ?_
          refine wp_cV (as := []) (rest := []) (a := 117) (mx := 1) (ci := 12) jF_331_14 kd117 (by decide) rfl rfl rfl rfl rfl (by omega) (by omega) rfl (pc2 := 17) ?_
          have b137 := GI.b hg 117 3 kd117 (lo := 0) (hi := 1600) rfl
          have q138 : (τ122.1 117 3) = (σ.1 117 3) := (FR.at f124 117 3 rfl)
          refine wp_use (m_216 τ122 g123   _ _ (by omega) (by omega)) ?_
          rintro _ τ145 ⟨z148, rfl, h149, g146, f147, p139, p140, p141, p142, p143, p144⟩
          have b150 := GI.b hg 118 (τ145.1 117 2).toNat kd118 (lo := 0) (hi := 255) rfl
          have q151 : (τ122.1 118 (τ145.1 117 2).toNat) = (σ.1 118 (τ145.1 117 2).toNat) := (FR.at f124 118 (τ145.1 117 2).toNat rfl)
          show WP 331 17 [(0, .ref 117), (1, iV x120)] [iV z148] _ _ _ _
          refine wp_is1 (lv2 := [(0, .ref 117), (1, iV x120), (2, iV z148)]) jF_331_17 rfl rfl rfl (pc2 := 18) ?_
          refine wp_al1 jF_331_18 rfl rfl (pc2 := 19) ?_
          refine wp_bi jF_331_19 (by decide) rfl (pc2 := 21) ?_
          refine wp_bi jF_331_21 (by decide) rfl (pc2 := 23) ?_
          refine wp_cV (as := [iV 6, iV 7]) (rest := []) (a := 117) (mx := 4) (ci := 12) jF_331_23 kd117 (by decide) rfl rfl rfl rfl rfl (by omega) (by omega) rfl (pc2 := 26) ?_
          have b152 := GI.b g146 117 2 kd117 (lo := 0) (hi := 1601) rfl
          refine wp_use (m_332 τ145 g146 6 (by omega) (by omega) 7 (by omega) (by omega)  _ _ (by omega) (by omega)) ?_
          rintro _ τ156 ⟨z159, rfl, h160, g157, f158, p153, p154, p155⟩
          replace p154 := p154 (by omega)
          show WP 331 26 [(0, .ref 117), (1, iV x120), (2, iV z148)] [iV z159] _ _ _ _
          refine wp_is1 (lv2 := [(0, .ref 117), (1, iV x120), (2, iV z148), (3, iV z159)]) jF_331_26 rfl rfl rfl (pc2 := 27) ?_
          refine wp_il1 jF_331_27 rfl rfl (pc2 := 28) ?_
          refine wp_bi jF_331_28 (by decide) rfl (pc2 := 30) ?_
          refine wp_i_ne jF_331_30 (m_rgb h149 rfl) (m_rgl rfl) rfl (pc2 := 33) ?_ ?_
          · intro h161
            refine wp_al1 jF_331_56 rfl rfl (pc2 := 57) ?_
            refine wp_al1 jF_331_57 rfl rfl (pc2 := 58) ?_
            refine wp_gr (b := 167) jF_331_58 kd117 (by decide) (c := 267) rfl rfl rfl (pc2 := 61) ?_
            refine wp_cV (as := [.ref 167]) (rest := []) (a := 117) (mx := 4) (ci := 12) jF_331_61 kd117 (by decide) rfl rfl rfl rfl rfl (by omega) (by omega) rfl (pc2 := 64) ?_
            have b162 := GI.b g157 117 2 kd117 (lo := 0) (hi := 1601) rfl
            have q163 : (τ156.1 117 3) = (σ.1 117 3) := ((FR.at f158 117 3 rfl).trans ((FR.at f147 117 3 rfl).trans (FR.at f124 117 3 rfl)))
            have q164 : (τ156.1 117 5) = (τ122.1 117 5) := ((FR.at f158 117 5 rfl).trans (FR.at f147 117 5 rfl))
            refine wp_use (m_220 τ156 g157 167 3 cw167.1 cw167.2 (by decide)  _ _ (by omega) (by omega)) ?_
            rintro _ τ168 ⟨z171, rfl, h172, g169, f170, p165, p166, p167⟩
            replace p167 := p167 (by omega)
            show WP 331 64 [(0, .ref 117), (1, iV x120), (2, iV z148), (3, iV z159)] [iV z171] _ _ _ _
            refine wp_z_ne jF_331_64 (m_rgb h172 rfl) rfl (pc2 := 67) ?_ ?_
            · intro h173
              replace p166 := p166 (by omega)
              refine wp_al1 jF_331_78 rfl rfl (pc2 := 79) ?_
              refine wp_al1 jF_331_79 rfl rfl (pc2 := 80) ?_
              refine wp_gr (b := 167) jF_331_80 kd117 (by decide) (c := 267) rfl rfl rfl (pc2 := 83) ?_
              refine wp_cV (as := [.ref 167]) (rest := []) (a := 117) (mx := 2) (ci := 12) jF_331_83 kd117 (by decide) rfl rfl rfl rfl rfl (by omega) (by omega) rfl (pc2 := 86) ?_
              have b174 := GI.b g169 117 2 kd117 (lo := 0) (hi := 1601) rfl
              have q175 : (τ168.1 117 3) = (σ.1 117 3) := ((FR.at f170 117 3 rfl).trans ((FR.at f158 117 3 rfl).trans ((FR.at f147 117 3 rfl).trans (FR.at f124 117 3 rfl))))
              have q176 : (τ168.1 117 5) = (τ122.1 117 5) := ((FR.at f170 117 5 rfl).trans ((FR.at f158 117 5 rfl).trans (FR.at f147 117 5 rfl)))
              refine wp_use (m_219 τ168 g169 167 3 cw167.1 cw167.2 (by decide)  _ _ (by omega) (by omega)) ?_
              rintro _ τ181 ⟨z184, rfl, h185, g182, f183, p177, p178, p179, p180⟩
              replace p179 := p179 (by omega)
              replace p180 := p180 (by omega)
              show WP 331 86 [(0, .ref 117), (1, iV x120), (2, iV z148), (3, iV z159)] [iV z184] _ _ _ _
              refine wp_is2 (lv2 := [(0, .ref 117), (1, iV x120), (2, iV z148), (3, iV z159), (4, iV z184)]) jF_331_86 rfl rfl rfl (pc2 := 88) ?_
              refine wp_il2 jF_331_88 rfl rfl (pc2 := 90) ?_
              refine wp_z_ne jF_331_90 (m_rgb h185 rfl) rfl (pc2 := 93) ?_ ?_
              · intro h186
                replace p178 := p178 (by omega)
                clear p179
                replace p180 := p180 (by omega)
                refine wp_al1 jF_331_101 rfl rfl (pc2 := 102) ?_
                refine wp_cV (as := []) (rest := []) (a := 117) (mx := 1) (ci := 12) jF_331_102 kd117 (by decide) rfl rfl rfl rfl rfl (by omega) (by omega) rfl (pc2 := 105) ?_
                have b187 := GI.b g182 117 2 kd117 (lo := 0) (hi := 1601) rfl
                have q188 : (τ181.1 117 3) = (σ.1 117 3) := ((FR.at f183 117 3 rfl).trans ((FR.at f170 117 3 rfl).trans ((FR.at f158 117 3 rfl).trans ((FR.at f147 117 3 rfl).trans (FR.at f124 117 3 rfl)))))
                refine wp_use (m_216 τ181 g182   _ _ (by omega) (by omega)) ?_
                rintro _ τ195 ⟨z198, rfl, h199, g196, f197, p189, p190, p191, p192, p193, p194⟩
                have b200 := GI.b hg 118 (τ195.1 117 2).toNat kd118 (lo := 0) (hi := 255) rfl
                have q201 : (τ181.1 118 (τ195.1 117 2).toNat) = (σ.1 118 (τ195.1 117 2).toNat) := ((FR.at f183 118 (τ195.1 117 2).toNat rfl).trans ((FR.at f170 118 (τ195.1 117 2).toNat rfl).trans ((FR.at f158 118 (τ195.1 117 2).toNat rfl).trans ((FR.at f147 118 (τ195.1 117 2).toNat rfl).trans (FR.at f124 118 (τ195.1 117 2).toNat rfl)))))
                show WP 331 105 [(0, .ref 117), (1, iV x120), (2, iV z148), (3, iV z159), (4, iV z184)] [iV z198] _ _ _ _
                refine wp_bi jF_331_105 (by decide) rfl (pc2 := 107) ?_
                refine wp_i_ne jF_331_107 (m_rgb h199 rfl) (m_rgl rfl) rfl (pc2 := 110) ?_ ?_
                · intro h202
                  refine wp_ic jF_331_117 rfl (pc2 := 118) ?_
                  refine wp_is2 (lv2 := [(0, .ref 117), (1, iV x120), (2, iV z148), (3, iV z159), (4, iV z184), (5, iV (-1))]) jF_331_118 rfl rfl rfl (pc2 := 120) ?_
                  refine wp_il2 jF_331_120 rfl rfl (pc2 := 122) ?_
                  refine wp_ic jF_331_122 rfl (pc2 := 123) ?_
                  refine wp_i_eq jF_331_123 (m_rgl rfl) (m_rgl rfl) rfl (pc2 := 126) ?_ ?_
                  · intro h203
                    refine wp_al1 jF_331_144 rfl rfl (pc2 := 145) ?_
                    refine wp_bi jF_331_145 (by decide) rfl (pc2 := 147) ?_
                    refine wp_cV (as := [iV 40]) (rest := []) (a := 117) (mx := 2) (ci := 12) jF_331_147 kd117 (by decide) rfl rfl rfl rfl rfl (by omega) (by omega) rfl (pc2 := 150) ?_
                    have b204 := GI.b g196 117 2 kd117 (lo := 0) (hi := 1601) rfl
                    have q205 : (τ195.1 117 3) = (σ.1 117 3) := ((FR.at f197 117 3 rfl).trans ((FR.at f183 117 3 rfl).trans ((FR.at f170 117 3 rfl).trans ((FR.at f158 117 3 rfl).trans ((FR.at f147 117 3 rfl).trans (FR.at f124 117 3 rfl))))))
                    have q206 : (τ195.1 117 5) = (τ122.1 117 5) := ((FR.at f197 117 5 rfl).trans ((FR.at f183 117 5 rfl).trans ((FR.at f170 117 5 rfl).trans ((FR.at f158 117 5 rfl).trans (FR.at f147 117 5 rfl)))))
                    refine wp_use (m_238 τ195 g196 40 (by omega) (by omega)  _ _ (by omega) (by omega)) ?_
                    rintro _ τ210 ⟨rfl, g211, f212, p207, p208, p209⟩
                    clear p208
                    show WP 331 150 [(0, .ref 117), (1, iV x120), (2, iV z148), (3, iV z159), (4, iV z184), (5, iV (-1))] [] _ _ _ _
                    refine wp_go jF_331_150 ?_
                    refine wp_go jF_331_183 ?_
                    refine wp_il1 jF_331_2 rfl rfl (pc2 := 3) ?_
                    refine wp_z_eq jF_331_3 (m_rgb h121 rfl) rfl (pc2 := 6) ?_ ?_
                    · intro h213; exfalso; omega
                    · intro h213
                      refine wp_al1 jF_331_6 rfl rfl (pc2 := 7) ?_
                      have b214 := GI.b g211 117 5 kd117 (lo := (-2147483648)) (hi := 2147483647) rfl
                      refine wp_gi jF_331_7 kd117 (by decide) rfl rfl rfl (pc2 := 10) ?_
                      refine wp_z_ne jF_331_10 (m_rgb b214 rfl) rfl (pc2 := 13) ?_ ?_
                      · intro h215
                        clear p209
                        have q216 : (dp τ210) = (dp τ122) := ((dp_fr f212 (fun _ => rfl) rfl).trans ((dp_fr f197 (fun _ => rfl) rfl).trans ((dp_fr f183 (fun _ => rfl) rfl).trans ((dp_fr f170 (fun _ => rfl) rfl).trans ((dp_fr f158 (fun _ => rfl) rfl).trans (dp_fr f147 (fun _ => rfl) rfl))))))
                        have q217 := ws_nn (σ := τ122)
                        have q218 : (ws τ210) = (ws τ122) := ((ws_fr f212 (fun _ => rfl) rfl).trans ((ws_fr f197 (fun _ => rfl) rfl).trans ((ws_fr f183 (fun _ => rfl) rfl).trans ((ws_fr f170 (fun _ => rfl) rfl).trans ((ws_fr f158 (fun _ => rfl) rfl).trans (ws_fr f147 (fun _ => rfl) rfl))))))
                        have q219 : (wk τ210) = (wk τ122) := ((wk_fr f212 (fun _ => rfl) rfl rfl).trans ((wk_fr f197 (fun _ => rfl) rfl rfl).trans ((wk_fr f183 (fun _ => rfl) rfl rfl).trans ((wk_fr f170 (fun _ => rfl) rfl rfl).trans ((wk_fr f158 (fun _ => rfl) rfl rfl).trans (wk_fr f147 (fun _ => rfl) rfl rfl))))))
                        have b220 := GI.b g211 117 2 kd117 (lo := 0) (hi := 1601) rfl
                        have q221 : (τ210.1 117 87) = (τ122.1 117 87) := ((FR.at f212 117 87 rfl).trans ((FR.at f197 117 87 rfl).trans ((FR.at f183 117 87 rfl).trans ((FR.at f170 117 87 rfl).trans ((FR.at f158 117 87 rfl).trans (FR.at f147 117 87 rfl))))))
                        have q222 : (τ210.1 117 89) = (τ122.1 117 89) := ((FR.at f212 117 89 rfl).trans ((FR.at f197 117 89 rfl).trans ((FR.at f183 117 89 rfl).trans ((FR.at f170 117 89 rfl).trans ((FR.at f158 117 89 rfl).trans (FR.at f147 117 89 rfl))))))
                        refine wp_less [0] (lv2 := [(0, .ref 117)]) rfl rfl ?_
                        exact jn116 () τ210 ⟨g211, (FR.up (FR.up (FR.up (FR.up (FR.up (FR.up f124 f147 sb_Wat_Wqp) f158 sb_Wat_Wqp) f170 sb_Wat_Wqp) f183 sb_Wtak_Wqp) f197 sb_Wat_Wqp) f212 sb_Wsgn_Wqp), (by omega), (by omega), (by omega), (by omega), (by omega), (by omega)⟩
                      · intro h215
                        replace p209 := p209 (by omega)
                        have q223 : (dp τ210) = (dp τ122) := ((dp_fr f212 (fun _ => rfl) rfl).trans ((dp_fr f197 (fun _ => rfl) rfl).trans ((dp_fr f183 (fun _ => rfl) rfl).trans ((dp_fr f170 (fun _ => rfl) rfl).trans ((dp_fr f158 (fun _ => rfl) rfl).trans (dp_fr f147 (fun _ => rfl) rfl))))))
                        have q224 := ws_nn (σ := τ122)
                        have q225 : (ws τ210) = (ws τ122) := ((ws_fr f212 (fun _ => rfl) rfl).trans ((ws_fr f197 (fun _ => rfl) rfl).trans ((ws_fr f183 (fun _ => rfl) rfl).trans ((ws_fr f170 (fun _ => rfl) rfl).trans ((ws_fr f158 (fun _ => rfl) rfl).trans (ws_fr f147 (fun _ => rfl) rfl))))))
                        have q226 : (wk τ210) = (wk τ122) := ((wk_fr f212 (fun _ => rfl) rfl rfl).trans ((wk_fr f197 (fun _ => rfl) rfl rfl).trans ((wk_fr f183 (fun _ => rfl) rfl rfl).trans ((wk_fr f170 (fun _ => rfl) rfl rfl).trans ((wk_fr f158 (fun _ => rfl) rfl rfl).trans (wk_fr f147 (fun _ => rfl) rfl rfl))))))
                        have b227 := GI.b g211 117 2 kd117 (lo := 0) (hi := 1601) rfl
                        have q228 : (τ210.1 117 87) = (τ122.1 117 87) := ((FR.at f212 117 87 rfl).trans ((FR.at f197 117 87 rfl).trans ((FR.at f183 117 87 rfl).trans ((FR.at f170 117 87 rfl).trans ((FR.at f158 117 87 rfl).trans (FR.at f147 117 87 rfl))))))
                        have q229 : (τ210.1 117 89) = (τ122.1 117 89) := ((FR.at f212 117 89 rfl).trans ((FR.at f197 117 89 rfl).trans ((FR.at f183 117 89 rfl).trans ((FR.at f170 117 89 rfl).trans ((FR.at f158 117 89 rfl).trans (FR.at f147 117 89 rfl))))))
                        refine wp_less [0, 1] (lv2 := [(0, .ref 117), (1, iV x120)]) rfl rfl ?_
                        exact ih131 (x120) τ210 ⟨⟨by omega, by omega⟩, g211, (FR.up (FR.up (FR.up (FR.up (FR.up (FR.up f124 f147 sb_Wat_Wqp) f158 sb_Wat_Wqp) f170 sb_Wat_Wqp) f183 sb_Wtak_Wqp) f197 sb_Wat_Wqp) f212 sb_Wsgn_Wqp), (by omega), (by omega), (by omega), (by omega), (by omega), (by omega)⟩ (by show Int.toNat (1700 - (τ210.1 117 2)) < Int.toNat (1700 - (τ122.1 117 2)); omega)
                  · intro h203; exfalso; omega
                · intro h202
                  replace p189 := p189 (by omega)
                  replace p194 := p194 (by omega)
                  refine wp_al1 jF_331_110 rfl rfl (pc2 := 111) ?_
                  have b230 := GI.b g196 117 2 kd117 (lo := 0) (hi := 1601) rfl
                  refine wp_gi jF_331_111 kd117 (by decide) rfl rfl rfl (pc2 := 114) ?_
                  refine wp_go jF_331_114 ?_
                  refine wp_is2 (lv2 := [(0, .ref 117), (1, iV x120), (2, iV z148), (3, iV z159), (4, iV z184), (5, iV (τ195.1 117 2))]) jF_331_118 rfl rfl rfl (pc2 := 120) ?_
                  refine wp_il2 jF_331_120 rfl rfl (pc2 := 122) ?_
                  refine wp_ic jF_331_122 rfl (pc2 := 123) ?_
                  refine wp_i_eq jF_331_123 (m_rgb b230 rfl) (m_rgl rfl) rfl (pc2 := 126) ?_ ?_
                  · intro h231; exfalso; omega
                  · intro h231
                    refine wp_al1 jF_331_126 rfl rfl (pc2 := 127) ?_
                    refine wp_il2 jF_331_127 rfl rfl (pc2 := 129) ?_
                    refine wp_z_eq jF_331_129 ⟨by omega, by omega⟩ rfl (pc2 := 132) ?_ ?_
                    · intro h232; exfalso; omega
                    · intro h232
                      refine wp_bi jF_331_132 (by decide) rfl (pc2 := 134) ?_
                      refine wp_go jF_331_134 ?_
                      refine wp_il2 jF_331_139 rfl rfl (pc2 := 141) ?_
                      refine wp_cV (as := [iV 21, iV (τ195.1 117 2)]) (rest := []) (a := 117) (mx := 3) (ci := 12) jF_331_141 kd117 (by decide) rfl rfl rfl rfl rfl (by omega) (by omega) rfl (pc2 := 144) ?_
                      have q233 := ws_nn (σ := τ122)
                      have q234 : (ws τ195) = (ws τ122) := ((ws_fr f197 (fun _ => rfl) rfl).trans ((ws_fr f183 (fun _ => rfl) rfl).trans ((ws_fr f170 (fun _ => rfl) rfl).trans ((ws_fr f158 (fun _ => rfl) rfl).trans (ws_fr f147 (fun _ => rfl) rfl)))))
                      have q235 : (tt τ195) = (tt τ122) := ((tt_fr f197 (fun _ => rfl) rfl).trans ((tt_fr f183 (fun _ => rfl) rfl).trans ((tt_fr f170 (fun _ => rfl) rfl).trans ((tt_fr f158 (fun _ => rfl) rfl).trans (tt_fr f147 (fun _ => rfl) rfl)))))
                      have q236 : (wk τ195) = (wk τ122) := ((wk_fr f197 (fun _ => rfl) rfl rfl).trans ((wk_fr f183 (fun _ => rfl) rfl rfl).trans ((wk_fr f170 (fun _ => rfl) rfl rfl).trans ((wk_fr f158 (fun _ => rfl) rfl rfl).trans (wk_fr f147 (fun _ => rfl) rfl rfl)))))
                      have q237 : (τ195.1 117 5) = (τ122.1 117 5) := ((FR.at f197 117 5 rfl).trans ((FR.at f183 117 5 rfl).trans ((FR.at f170 117 5 rfl).trans ((FR.at f158 117 5 rfl).trans (FR.at f147 117 5 rfl)))))
                      have q238 : (τ195.1 117 89) = (τ122.1 117 89) := ((FR.at f197 117 89 rfl).trans ((FR.at f183 117 89 rfl).trans ((FR.at f170 117 89 rfl).trans ((FR.at f158 117 89 rfl).trans (FR.at f147 117 89 rfl)))))
                      have q239 : (τ195.1 117 91) = (σ.1 117 91) := ((FR.at f197 117 91 rfl).trans ((FR.at f183 117 91 rfl).trans ((FR.at f170 117 91 rfl).trans ((FR.at f158 117 91 rfl).trans ((FR.at f147 117 91 rfl).trans (FR.at f124 117 91 rfl))))))
                      refine wp_use (m_327 τ195 g196 21 (by omega) (by omega) (τ195.1 117 2) (by omega) (by omega) (by omega) (by omega) _ _ (by omega) (by omega)) ?_
                      rintro _ τ248 ⟨rfl, g249, f250, p240, p241, p242, p243, p244, p245, p246, p247⟩
                      clear p240
                      show WP 331 144 [(0, .ref 117), (1, iV x120), (2, iV z148), (3, iV z159), (4, iV z184), (5, iV (τ195.1 117 2))] [] _ _ _ _
                      refine wp_al1 jF_331_144 rfl rfl (pc2 := 145) ?_
                      refine wp_bi jF_331_145 (by decide) rfl (pc2 := 147) ?_
                      refine wp_cV (as := [iV 40]) (rest := []) (a := 117) (mx := 2) (ci := 12) jF_331_147 kd117 (by decide) rfl rfl rfl rfl rfl (by omega) (by omega) rfl (pc2 := 150) ?_
                      have q251 : (τ248.1 117 2) = (τ195.1 117 2) := (FR.at f250 117 2 rfl)
                      have q252 : (τ248.1 117 3) = (σ.1 117 3) := ((FR.at f250 117 3 rfl).trans ((FR.at f197 117 3 rfl).trans ((FR.at f183 117 3 rfl).trans ((FR.at f170 117 3 rfl).trans ((FR.at f158 117 3 rfl).trans ((FR.at f147 117 3 rfl).trans (FR.at f124 117 3 rfl)))))))
                      have b253 := GI.b g249 117 5 kd117 (lo := (-2147483648)) (hi := 2147483647) rfl
                      refine wp_use (m_238 τ248 g249 40 (by omega) (by omega)  _ _ (by omega) (by omega)) ?_
                      rintro _ τ257 ⟨rfl, g258, f259, p254, p255, p256⟩
                      show WP 331 150 [(0, .ref 117), (1, iV x120), (2, iV z148), (3, iV z159), (4, iV z184), (5, iV (τ195.1 117 2))] [] _ _ _ _
                      refine wp_go jF_331_150 ?_
                      refine wp_go jF_331_183 ?_
                      refine wp_il1 jF_331_2 rfl rfl (pc2 := 3) ?_
                      refine wp_z_eq jF_331_3 (m_rgb h121 rfl) rfl (pc2 := 6) ?_ ?_
                      · intro h260; exfalso; omega
                      · intro h260
                        refine wp_al1 jF_331_6 rfl rfl (pc2 := 7) ?_
                        have b261 := GI.b g258 117 5 kd117 (lo := (-2147483648)) (hi := 2147483647) rfl
                        refine wp_gi jF_331_7 kd117 (by decide) rfl rfl rfl (pc2 := 10) ?_
                        refine wp_z_ne jF_331_10 (m_rgb b261 rfl) rfl (pc2 := 13) ?_ ?_
                        · intro h262
                          clear p256
                          have q263 : (dp τ257) = (dp τ122) := ((dp_fr f259 (fun _ => rfl) rfl).trans ((dp_fr f250 (fun _ => rfl) rfl).trans ((dp_fr f197 (fun _ => rfl) rfl).trans ((dp_fr f183 (fun _ => rfl) rfl).trans ((dp_fr f170 (fun _ => rfl) rfl).trans ((dp_fr f158 (fun _ => rfl) rfl).trans (dp_fr f147 (fun _ => rfl) rfl)))))))
                          have q264 := ws_nn (σ := τ248)
                          have q265 : (ws τ257) = (ws τ248) := (ws_fr f259 (fun _ => rfl) rfl)
                          have q266 : (wk τ257) = (wk τ248) := (wk_fr f259 (fun _ => rfl) rfl rfl)
                          have b267 := GI.b g258 117 2 kd117 (lo := 0) (hi := 1601) rfl
                          have q268 : (τ257.1 117 87) = (τ122.1 117 87) := ((FR.at f259 117 87 rfl).trans ((FR.at f250 117 87 rfl).trans ((FR.at f197 117 87 rfl).trans ((FR.at f183 117 87 rfl).trans ((FR.at f170 117 87 rfl).trans ((FR.at f158 117 87 rfl).trans (FR.at f147 117 87 rfl)))))))
                          have b269 := GI.b g249 117 89 kd117 (lo := 0) (hi := 1690) rfl
                          have q270 : (τ257.1 117 89) = (τ248.1 117 89) := (FR.at f259 117 89 rfl)
                          refine wp_less [0] (lv2 := [(0, .ref 117)]) rfl rfl ?_
                          exact jn116 () τ257 ⟨g258, (FR.up (FR.up (FR.up (FR.up (FR.up (FR.up (FR.up f124 f147 sb_Wat_Wqp) f158 sb_Wat_Wqp) f170 sb_Wat_Wqp) f183 sb_Wtak_Wqp) f197 sb_Wat_Wqp) f250 sb_Wqo_Wqp) f259 sb_Wsgn_Wqp), (by omega), (by omega), (by omega), (by omega), (by omega), (by omega)⟩
                        · intro h262
                          replace p256 := p256 (by omega)
                          have q271 : (dp τ257) = (dp τ122) := ((dp_fr f259 (fun _ => rfl) rfl).trans ((dp_fr f250 (fun _ => rfl) rfl).trans ((dp_fr f197 (fun _ => rfl) rfl).trans ((dp_fr f183 (fun _ => rfl) rfl).trans ((dp_fr f170 (fun _ => rfl) rfl).trans ((dp_fr f158 (fun _ => rfl) rfl).trans (dp_fr f147 (fun _ => rfl) rfl)))))))
                          have q272 := ws_nn (σ := τ248)
                          have q273 : (ws τ257) = (ws τ248) := (ws_fr f259 (fun _ => rfl) rfl)
                          have q274 : (wk τ257) = (wk τ248) := (wk_fr f259 (fun _ => rfl) rfl rfl)
                          have b275 := GI.b g258 117 2 kd117 (lo := 0) (hi := 1601) rfl
                          have q276 : (τ257.1 117 87) = (τ122.1 117 87) := ((FR.at f259 117 87 rfl).trans ((FR.at f250 117 87 rfl).trans ((FR.at f197 117 87 rfl).trans ((FR.at f183 117 87 rfl).trans ((FR.at f170 117 87 rfl).trans ((FR.at f158 117 87 rfl).trans (FR.at f147 117 87 rfl)))))))
                          have b277 := GI.b g249 117 89 kd117 (lo := 0) (hi := 1690) rfl
                          have q278 : (τ257.1 117 89) = (τ248.1 117 89) := (FR.at f259 117 89 rfl)
                          refine wp_less [0, 1] (lv2 := [(0, .ref 117), (1, iV x120)]) rfl rfl ?_
                          exact ih131 (x120) τ257 ⟨⟨by omega, by omega⟩, g258, (FR.up (FR.up (FR.up (FR.up (FR.up (FR.up (FR.up f124 f147 sb_Wat_Wqp) f158 sb_Wat_Wqp) f170 sb_Wat_Wqp) f183 sb_Wtak_Wqp) f197 sb_Wat_Wqp) f250 sb_Wqo_Wqp) f259 sb_Wsgn_Wqp), (by omega), (by omega), (by omega), (by omega), (by omega), (by omega)⟩ (by show Int.toNat (1700 - (τ257.1 117 2)) < Int.toNat (1700 - (τ122.1 117 2)); omega)
              · intro h186
                clear p178
                replace p179 := p179 (by omega)
                clear p180
                refine wp_al1 jF_331_93 rfl rfl (pc2 := 94) ?_
                refine wp_al1 jF_331_94 rfl rfl (pc2 := 95) ?_
                refine wp_gr (b := 168) jF_331_95 kd117 (by decide) (c := 268) rfl rfl rfl (pc2 := 98) ?_
                refine wp_cV (as := [.ref 168]) (rest := []) (a := 117) (mx := 2) (ci := 12) jF_331_98 kd117 (by decide) rfl rfl rfl rfl rfl (by omega) (by omega) rfl (pc2 := 101) ?_
                have b279 := GI.b g182 117 2 kd117 (lo := 0) (hi := 1601) rfl
                have q280 : (τ181.1 117 3) = (σ.1 117 3) := ((FR.at f183 117 3 rfl).trans ((FR.at f170 117 3 rfl).trans ((FR.at f158 117 3 rfl).trans ((FR.at f147 117 3 rfl).trans (FR.at f124 117 3 rfl)))))
                have q281 : (τ181.1 117 5) = (τ122.1 117 5) := ((FR.at f183 117 5 rfl).trans ((FR.at f170 117 5 rfl).trans ((FR.at f158 117 5 rfl).trans (FR.at f147 117 5 rfl))))
                refine wp_use (m_234 τ181 g182 168 3 cw168.1 cw168.2 (by decide)  _ _ (by omega) (by omega)) ?_
                rintro _ τ285 ⟨rfl, g286, f287, p282, p283, p284⟩
                clear p283
                show WP 331 101 [(0, .ref 117), (1, iV x120), (2, iV z148), (3, iV z159), (4, iV z184)] [] _ _ _ _
                refine wp_al1 jF_331_101 rfl rfl (pc2 := 102) ?_
                refine wp_cV (as := []) (rest := []) (a := 117) (mx := 1) (ci := 12) jF_331_102 kd117 (by decide) rfl rfl rfl rfl rfl (by omega) (by omega) rfl (pc2 := 105) ?_
                have b288 := GI.b g286 117 2 kd117 (lo := 0) (hi := 1601) rfl
                have q289 : (τ285.1 117 3) = (σ.1 117 3) := ((FR.at f287 117 3 rfl).trans ((FR.at f183 117 3 rfl).trans ((FR.at f170 117 3 rfl).trans ((FR.at f158 117 3 rfl).trans ((FR.at f147 117 3 rfl).trans (FR.at f124 117 3 rfl))))))
                refine wp_use (m_216 τ285 g286   _ _ (by omega) (by omega)) ?_
                rintro _ τ296 ⟨z299, rfl, h300, g297, f298, p290, p291, p292, p293, p294, p295⟩
                have b301 := GI.b hg 118 (τ296.1 117 2).toNat kd118 (lo := 0) (hi := 255) rfl
                have q302 : (τ285.1 118 (τ296.1 117 2).toNat) = (σ.1 118 (τ296.1 117 2).toNat) := ((FR.at f287 118 (τ296.1 117 2).toNat rfl).trans ((FR.at f183 118 (τ296.1 117 2).toNat rfl).trans ((FR.at f170 118 (τ296.1 117 2).toNat rfl).trans ((FR.at f158 118 (τ296.1 117 2).toNat rfl).trans ((FR.at f147 118 (τ296.1 117 2).toNat rfl).trans (FR.at f124 118 (τ296.1 117 2).toNat rfl))))))
                show WP 331 105 [(0, .ref 117), (1, iV x120), (2, iV z148), (3, iV z159), (4, iV z184)] [iV z299] _ _ _ _
                refine wp_bi jF_331_105 (by decide) rfl (pc2 := 107) ?_
                refine wp_i_ne jF_331_107 (m_rgb h300 rfl) (m_rgl rfl) rfl (pc2 := 110) ?_ ?_
                · intro h303
                  refine wp_ic jF_331_117 rfl (pc2 := 118) ?_
                  refine wp_is2 (lv2 := [(0, .ref 117), (1, iV x120), (2, iV z148), (3, iV z159), (4, iV z184), (5, iV (-1))]) jF_331_118 rfl rfl rfl (pc2 := 120) ?_
                  refine wp_il2 jF_331_120 rfl rfl (pc2 := 122) ?_
                  refine wp_ic jF_331_122 rfl (pc2 := 123) ?_
                  refine wp_i_eq jF_331_123 (m_rgl rfl) (m_rgl rfl) rfl (pc2 := 126) ?_ ?_
                  · intro h304
                    refine wp_al1 jF_331_144 rfl rfl (pc2 := 145) ?_
                    refine wp_bi jF_331_145 (by decide) rfl (pc2 := 147) ?_
                    refine wp_cV (as := [iV 40]) (rest := []) (a := 117) (mx := 2) (ci := 12) jF_331_147 kd117 (by decide) rfl rfl rfl rfl rfl (by omega) (by omega) rfl (pc2 := 150) ?_
                    have b305 := GI.b g297 117 2 kd117 (lo := 0) (hi := 1601) rfl
                    have q306 : (τ296.1 117 3) = (σ.1 117 3) := ((FR.at f298 117 3 rfl).trans ((FR.at f287 117 3 rfl).trans ((FR.at f183 117 3 rfl).trans ((FR.at f170 117 3 rfl).trans ((FR.at f158 117 3 rfl).trans ((FR.at f147 117 3 rfl).trans (FR.at f124 117 3 rfl)))))))
                    have b307 := GI.b g286 117 5 kd117 (lo := (-2147483648)) (hi := 2147483647) rfl
                    have q308 : (τ296.1 117 5) = (τ285.1 117 5) := (FR.at f298 117 5 rfl)
                    refine wp_use (m_238 τ296 g297 40 (by omega) (by omega)  _ _ (by omega) (by omega)) ?_
                    rintro _ τ312 ⟨rfl, g313, f314, p309, p310, p311⟩
                    show WP 331 150 [(0, .ref 117), (1, iV x120), (2, iV z148), (3, iV z159), (4, iV z184), (5, iV (-1))] [] _ _ _ _
                    refine wp_go jF_331_150 ?_
                    refine wp_go jF_331_183 ?_
                    refine wp_il1 jF_331_2 rfl rfl (pc2 := 3) ?_
                    refine wp_z_eq jF_331_3 (m_rgb h121 rfl) rfl (pc2 := 6) ?_ ?_
                    · intro h315; exfalso; omega
                    · intro h315
                      refine wp_al1 jF_331_6 rfl rfl (pc2 := 7) ?_
                      have b316 := GI.b g313 117 5 kd117 (lo := (-2147483648)) (hi := 2147483647) rfl
                      refine wp_gi jF_331_7 kd117 (by decide) rfl rfl rfl (pc2 := 10) ?_
                      refine wp_z_ne jF_331_10 (m_rgb b316 rfl) rfl (pc2 := 13) ?_ ?_
                      · intro h317
                        clear p311
                        have q318 : (dp τ312) = (dp τ122) := ((dp_fr f314 (fun _ => rfl) rfl).trans ((dp_fr f298 (fun _ => rfl) rfl).trans ((dp_fr f287 (fun _ => rfl) rfl).trans ((dp_fr f183 (fun _ => rfl) rfl).trans ((dp_fr f170 (fun _ => rfl) rfl).trans ((dp_fr f158 (fun _ => rfl) rfl).trans (dp_fr f147 (fun _ => rfl) rfl)))))))
                        have q319 := ws_nn (σ := τ122)
                        have q320 : (ws τ312) = (ws τ122) := ((ws_fr f314 (fun _ => rfl) rfl).trans ((ws_fr f298 (fun _ => rfl) rfl).trans ((ws_fr f287 (fun _ => rfl) rfl).trans ((ws_fr f183 (fun _ => rfl) rfl).trans ((ws_fr f170 (fun _ => rfl) rfl).trans ((ws_fr f158 (fun _ => rfl) rfl).trans (ws_fr f147 (fun _ => rfl) rfl)))))))
                        have q321 : (wk τ312) = (wk τ122) := ((wk_fr f314 (fun _ => rfl) rfl rfl).trans ((wk_fr f298 (fun _ => rfl) rfl rfl).trans ((wk_fr f287 (fun _ => rfl) rfl rfl).trans ((wk_fr f183 (fun _ => rfl) rfl rfl).trans ((wk_fr f170 (fun _ => rfl) rfl rfl).trans ((wk_fr f158 (fun _ => rfl) rfl rfl).trans (wk_fr f147 (fun _ => rfl) rfl rfl)))))))
                        have b322 := GI.b g313 117 2 kd117 (lo := 0) (hi := 1601) rfl
                        have q323 : (τ312.1 117 87) = (τ122.1 117 87) := ((FR.at f314 117 87 rfl).trans ((FR.at f298 117 87 rfl).trans ((FR.at f287 117 87 rfl).trans ((FR.at f183 117 87 rfl).trans ((FR.at f170 117 87 rfl).trans ((FR.at f158 117 87 rfl).trans (FR.at f147 117 87 rfl)))))))
                        have q324 : (τ312.1 117 89) = (τ122.1 117 89) := ((FR.at f314 117 89 rfl).trans ((FR.at f298 117 89 rfl).trans ((FR.at f287 117 89 rfl).trans ((FR.at f183 117 89 rfl).trans ((FR.at f170 117 89 rfl).trans ((FR.at f158 117 89 rfl).trans (FR.at f147 117 89 rfl)))))))
                        refine wp_less [0] (lv2 := [(0, .ref 117)]) rfl rfl ?_
                        exact jn116 () τ312 ⟨g313, (FR.up (FR.up (FR.up (FR.up (FR.up (FR.up (FR.up f124 f147 sb_Wat_Wqp) f158 sb_Wat_Wqp) f170 sb_Wat_Wqp) f183 sb_Wtak_Wqp) f287 sb_Wask_Wqp) f298 sb_Wat_Wqp) f314 sb_Wsgn_Wqp), (by omega), (by omega), (by omega), (by omega), (by omega), (by omega)⟩
                      · intro h317
                        replace p311 := p311 (by omega)
                        have q325 : (dp τ312) = (dp τ122) := ((dp_fr f314 (fun _ => rfl) rfl).trans ((dp_fr f298 (fun _ => rfl) rfl).trans ((dp_fr f287 (fun _ => rfl) rfl).trans ((dp_fr f183 (fun _ => rfl) rfl).trans ((dp_fr f170 (fun _ => rfl) rfl).trans ((dp_fr f158 (fun _ => rfl) rfl).trans (dp_fr f147 (fun _ => rfl) rfl)))))))
                        have q326 := ws_nn (σ := τ122)
                        have q327 : (ws τ312) = (ws τ122) := ((ws_fr f314 (fun _ => rfl) rfl).trans ((ws_fr f298 (fun _ => rfl) rfl).trans ((ws_fr f287 (fun _ => rfl) rfl).trans ((ws_fr f183 (fun _ => rfl) rfl).trans ((ws_fr f170 (fun _ => rfl) rfl).trans ((ws_fr f158 (fun _ => rfl) rfl).trans (ws_fr f147 (fun _ => rfl) rfl)))))))
                        have q328 : (wk τ312) = (wk τ122) := ((wk_fr f314 (fun _ => rfl) rfl rfl).trans ((wk_fr f298 (fun _ => rfl) rfl rfl).trans ((wk_fr f287 (fun _ => rfl) rfl rfl).trans ((wk_fr f183 (fun _ => rfl) rfl rfl).trans ((wk_fr f170 (fun _ => rfl) rfl rfl).trans ((wk_fr f158 (fun _ => rfl) rfl rfl).trans (wk_fr f147 (fun _ => rfl) rfl rfl)))))))
                        have b329 := GI.b g313 117 2 kd117 (lo := 0) (hi := 1601) rfl
                        have q330 : (τ312.1 117 87) = (τ122.1 117 87) := ((FR.at f314 117 87 rfl).trans ((FR.at f298 117 87 rfl).trans ((FR.at f287 117 87 rfl).trans ((FR.at f183 117 87 rfl).trans ((FR.at f170 117 87 rfl).trans ((FR.at f158 117 87 rfl).trans (FR.at f147 117 87 rfl)))))))
                        have q331 : (τ312.1 117 89) = (τ122.1 117 89) := ((FR.at f314 117 89 rfl).trans ((FR.at f298 117 89 rfl).trans ((FR.at f287 117 89 rfl).trans ((FR.at f183 117 89 rfl).trans ((FR.at f170 117 89 rfl).trans ((FR.at f158 117 89 rfl).trans (FR.at f147 117 89 rfl)))))))
                        refine wp_less [0, 1] (lv2 := [(0, .ref 117), (1, iV x120)]) rfl rfl ?_
                        exact ih131 (x120) τ312 ⟨⟨by omega, by omega⟩, g313, (FR.up (FR.up (FR.up (FR.up (FR.up (FR.up (FR.up f124 f147 sb_Wat_Wqp) f158 sb_Wat_Wqp) f170 sb_Wat_Wqp) f183 sb_Wtak_Wqp) f287 sb_Wask_Wqp) f298 sb_Wat_Wqp) f314 sb_Wsgn_Wqp), (by omega), (by omega), (by omega), (by omega), (by omega), (by omega)⟩ (by show Int.toNat (1700 - (τ312.1 117 2)) < Int.toNat (1700 - (τ122.1 117 2)); omega)
                  · intro h304; exfalso; omega
                · intro h303
                  replace p290 := p290 (by omega)
                  replace p295 := p295 (by omega)
                  refine wp_al1 jF_331_110 rfl rfl (pc2 := 111) ?_
                  have b332 := GI.b g297 117 2 kd117 (lo := 0) (hi := 1601) rfl
                  refine wp_gi jF_331_111 kd117 (by decide) rfl rfl rfl (pc2 := 114) ?_
                  refine wp_go jF_331_114 ?_
                  refine wp_is2 (lv2 := [(0, .ref 117), (1, iV x120), (2, iV z148), (3, iV z159), (4, iV z184), (5, iV (τ296.1 117 2))]) jF_331_118 rfl rfl rfl (pc2 := 120) ?_
                  refine wp_il2 jF_331_120 rfl rfl (pc2 := 122) ?_
                  refine wp_ic jF_331_122 rfl (pc2 := 123) ?_
                  refine wp_i_eq jF_331_123 (m_rgb b332 rfl) (m_rgl rfl) rfl (pc2 := 126) ?_ ?_
                  · intro h333; exfalso; omega
                  · intro h333
                    refine wp_al1 jF_331_126 rfl rfl (pc2 := 127) ?_
                    refine wp_il2 jF_331_127 rfl rfl (pc2 := 129) ?_
                    refine wp_z_eq jF_331_129 ⟨by omega, by omega⟩ rfl (pc2 := 132) ?_ ?_
                    · intro h334
                      refine wp_bi jF_331_137 (by decide) rfl (pc2 := 139) ?_
                      refine wp_il2 jF_331_139 rfl rfl (pc2 := 141) ?_
                      refine wp_cV (as := [iV 22, iV (τ296.1 117 2)]) (rest := []) (a := 117) (mx := 3) (ci := 12) jF_331_141 kd117 (by decide) rfl rfl rfl rfl rfl (by omega) (by omega) rfl (pc2 := 144) ?_
                      have q335 := ws_nn (σ := τ122)
                      have q336 : (ws τ296) = (ws τ122) := ((ws_fr f298 (fun _ => rfl) rfl).trans ((ws_fr f287 (fun _ => rfl) rfl).trans ((ws_fr f183 (fun _ => rfl) rfl).trans ((ws_fr f170 (fun _ => rfl) rfl).trans ((ws_fr f158 (fun _ => rfl) rfl).trans (ws_fr f147 (fun _ => rfl) rfl))))))
                      have q337 : (tt τ296) = (tt τ122) := ((tt_fr f298 (fun _ => rfl) rfl).trans ((tt_fr f287 (fun _ => rfl) rfl).trans ((tt_fr f183 (fun _ => rfl) rfl).trans ((tt_fr f170 (fun _ => rfl) rfl).trans ((tt_fr f158 (fun _ => rfl) rfl).trans (tt_fr f147 (fun _ => rfl) rfl))))))
                      have q338 : (wk τ296) = (wk τ122) := ((wk_fr f298 (fun _ => rfl) rfl rfl).trans ((wk_fr f287 (fun _ => rfl) rfl rfl).trans ((wk_fr f183 (fun _ => rfl) rfl rfl).trans ((wk_fr f170 (fun _ => rfl) rfl rfl).trans ((wk_fr f158 (fun _ => rfl) rfl rfl).trans (wk_fr f147 (fun _ => rfl) rfl rfl))))))
                      have b339 := GI.b g286 117 5 kd117 (lo := (-2147483648)) (hi := 2147483647) rfl
                      have q340 : (τ296.1 117 5) = (τ285.1 117 5) := (FR.at f298 117 5 rfl)
                      have q341 : (τ296.1 117 89) = (τ122.1 117 89) := ((FR.at f298 117 89 rfl).trans ((FR.at f287 117 89 rfl).trans ((FR.at f183 117 89 rfl).trans ((FR.at f170 117 89 rfl).trans ((FR.at f158 117 89 rfl).trans (FR.at f147 117 89 rfl))))))
                      have q342 : (τ296.1 117 91) = (σ.1 117 91) := ((FR.at f298 117 91 rfl).trans ((FR.at f287 117 91 rfl).trans ((FR.at f183 117 91 rfl).trans ((FR.at f170 117 91 rfl).trans ((FR.at f158 117 91 rfl).trans ((FR.at f147 117 91 rfl).trans (FR.at f124 117 91 rfl)))))))
                      refine wp_use (m_327 τ296 g297 22 (by omega) (by omega) (τ296.1 117 2) (by omega) (by omega) (by omega) (by omega) _ _ (by omega) (by omega)) ?_
                      rintro _ τ351 ⟨rfl, g352, f353, p343, p344, p345, p346, p347, p348, p349, p350⟩
                      show WP 331 144 [(0, .ref 117), (1, iV x120), (2, iV z148), (3, iV z159), (4, iV z184), (5, iV (τ296.1 117 2))] [] _ _ _ _
                      refine wp_al1 jF_331_144 rfl rfl (pc2 := 145) ?_
                      refine wp_bi jF_331_145 (by decide) rfl (pc2 := 147) ?_
                      refine wp_cV (as := [iV 40]) (rest := []) (a := 117) (mx := 2) (ci := 12) jF_331_147 kd117 (by decide) rfl rfl rfl rfl rfl (by omega) (by omega) rfl (pc2 := 150) ?_
                      have q354 : (τ351.1 117 2) = (τ296.1 117 2) := (FR.at f353 117 2 rfl)
                      have q355 : (τ351.1 117 3) = (σ.1 117 3) := ((FR.at f353 117 3 rfl).trans ((FR.at f298 117 3 rfl).trans ((FR.at f287 117 3 rfl).trans ((FR.at f183 117 3 rfl).trans ((FR.at f170 117 3 rfl).trans ((FR.at f158 117 3 rfl).trans ((FR.at f147 117 3 rfl).trans (FR.at f124 117 3 rfl))))))))
                      have b356 := GI.b g352 117 5 kd117 (lo := (-2147483648)) (hi := 2147483647) rfl
                      refine wp_use (m_238 τ351 g352 40 (by omega) (by omega)  _ _ (by omega) (by omega)) ?_
                      rintro _ τ360 ⟨rfl, g361, f362, p357, p358, p359⟩
                      show WP 331 150 [(0, .ref 117), (1, iV x120), (2, iV z148), (3, iV z159), (4, iV z184), (5, iV (τ296.1 117 2))] [] _ _ _ _
                      refine wp_go jF_331_150 ?_
                      refine wp_go jF_331_183 ?_
                      refine wp_il1 jF_331_2 rfl rfl (pc2 := 3) ?_
                      refine wp_z_eq jF_331_3 (m_rgb h121 rfl) rfl (pc2 := 6) ?_ ?_
                      · intro h363; exfalso; omega
                      · intro h363
                        refine wp_al1 jF_331_6 rfl rfl (pc2 := 7) ?_
                        have b364 := GI.b g361 117 5 kd117 (lo := (-2147483648)) (hi := 2147483647) rfl
                        refine wp_gi jF_331_7 kd117 (by decide) rfl rfl rfl (pc2 := 10) ?_
                        refine wp_z_ne jF_331_10 (m_rgb b364 rfl) rfl (pc2 := 13) ?_ ?_
                        · intro h365
                          clear p359
                          have q366 : (dp τ360) = (dp τ122) := ((dp_fr f362 (fun _ => rfl) rfl).trans ((dp_fr f353 (fun _ => rfl) rfl).trans ((dp_fr f298 (fun _ => rfl) rfl).trans ((dp_fr f287 (fun _ => rfl) rfl).trans ((dp_fr f183 (fun _ => rfl) rfl).trans ((dp_fr f170 (fun _ => rfl) rfl).trans ((dp_fr f158 (fun _ => rfl) rfl).trans (dp_fr f147 (fun _ => rfl) rfl))))))))
                          have q367 := ws_nn (σ := τ351)
                          have q368 : (ws τ360) = (ws τ351) := (ws_fr f362 (fun _ => rfl) rfl)
                          have q369 : (wk τ360) = (wk τ351) := (wk_fr f362 (fun _ => rfl) rfl rfl)
                          have b370 := GI.b g361 117 2 kd117 (lo := 0) (hi := 1601) rfl
                          have q371 : (τ360.1 117 87) = (τ122.1 117 87) := ((FR.at f362 117 87 rfl).trans ((FR.at f353 117 87 rfl).trans ((FR.at f298 117 87 rfl).trans ((FR.at f287 117 87 rfl).trans ((FR.at f183 117 87 rfl).trans ((FR.at f170 117 87 rfl).trans ((FR.at f158 117 87 rfl).trans (FR.at f147 117 87 rfl))))))))
                          have b372 := GI.b g352 117 89 kd117 (lo := 0) (hi := 1690) rfl
                          have q373 : (τ360.1 117 89) = (τ351.1 117 89) := (FR.at f362 117 89 rfl)
                          refine wp_less [0] (lv2 := [(0, .ref 117)]) rfl rfl ?_
                          exact jn116 () τ360 ⟨g361, (FR.up (FR.up (FR.up (FR.up (FR.up (FR.up (FR.up (FR.up f124 f147 sb_Wat_Wqp) f158 sb_Wat_Wqp) f170 sb_Wat_Wqp) f183 sb_Wtak_Wqp) f287 sb_Wask_Wqp) f298 sb_Wat_Wqp) f353 sb_Wqo_Wqp) f362 sb_Wsgn_Wqp), (by omega), (by omega), (by omega), (by omega), (by omega), (by omega)⟩
                        · intro h365
                          replace p359 := p359 (by omega)
                          have q374 : (dp τ360) = (dp τ122) := ((dp_fr f362 (fun _ => rfl) rfl).trans ((dp_fr f353 (fun _ => rfl) rfl).trans ((dp_fr f298 (fun _ => rfl) rfl).trans ((dp_fr f287 (fun _ => rfl) rfl).trans ((dp_fr f183 (fun _ => rfl) rfl).trans ((dp_fr f170 (fun _ => rfl) rfl).trans ((dp_fr f158 (fun _ => rfl) rfl).trans (dp_fr f147 (fun _ => rfl) rfl))))))))
                          have q375 := ws_nn (σ := τ351)
                          have q376 : (ws τ360) = (ws τ351) := (ws_fr f362 (fun _ => rfl) rfl)
                          have q377 : (wk τ360) = (wk τ351) := (wk_fr f362 (fun _ => rfl) rfl rfl)
                          have b378 := GI.b g361 117 2 kd117 (lo := 0) (hi := 1601) rfl
                          have q379 : (τ360.1 117 87) = (τ122.1 117 87) := ((FR.at f362 117 87 rfl).trans ((FR.at f353 117 87 rfl).trans ((FR.at f298 117 87 rfl).trans ((FR.at f287 117 87 rfl).trans ((FR.at f183 117 87 rfl).trans ((FR.at f170 117 87 rfl).trans ((FR.at f158 117 87 rfl).trans (FR.at f147 117 87 rfl))))))))
                          have b380 := GI.b g352 117 89 kd117 (lo := 0) (hi := 1690) rfl
                          have q381 : (τ360.1 117 89) = (τ351.1 117 89) := (FR.at f362 117 89 rfl)
                          refine wp_less [0, 1] (lv2 := [(0, .ref 117), (1, iV x120)]) rfl rfl ?_
                          exact ih131 (x120) τ360 ⟨⟨by omega, by omega⟩, g361, (FR.up (FR.up (FR.up (FR.up (FR.up (FR.up (FR.up (FR.up f124 f147 sb_Wat_Wqp) f158 sb_Wat_Wqp) f170 sb_Wat_Wqp) f183 sb_Wtak_Wqp) f287 sb_Wask_Wqp) f298 sb_Wat_Wqp) f353 sb_Wqo_Wqp) f362 sb_Wsgn_Wqp), (by omega), (by omega), (by omega), (by omega), (by omega), (by omega)⟩ (by show Int.toNat (1700 - (τ360.1 117 2)) < Int.toNat (1700 - (τ122.1 117 2)); omega)
                    · intro h334; exfalso; omega
            · intro h173
              clear p166
              refine wp_al1 jF_331_67 rfl rfl (pc2 := 68) ?_
              refine wp_al1 jF_331_68 rfl rfl (pc2 := 69) ?_
              refine wp_gr (b := 168) jF_331_69 kd117 (by decide) (c := 268) rfl rfl rfl (pc2 := 72) ?_
              refine wp_cV (as := [.ref 168]) (rest := []) (a := 117) (mx := 4) (ci := 12) jF_331_72 kd117 (by decide) rfl rfl rfl rfl rfl (by omega) (by omega) rfl (pc2 := 75) ?_
              have b382 := GI.b g169 117 2 kd117 (lo := 0) (hi := 1601) rfl
              have q383 : (τ168.1 117 3) = (σ.1 117 3) := ((FR.at f170 117 3 rfl).trans ((FR.at f158 117 3 rfl).trans ((FR.at f147 117 3 rfl).trans (FR.at f124 117 3 rfl))))
              have q384 : (τ168.1 117 5) = (τ122.1 117 5) := ((FR.at f170 117 5 rfl).trans ((FR.at f158 117 5 rfl).trans (FR.at f147 117 5 rfl)))
              refine wp_use (m_220 τ168 g169 168 3 cw168.1 cw168.2 (by decide)  _ _ (by omega) (by omega)) ?_
              rintro _ τ388 ⟨z391, rfl, h392, g389, f390, p385, p386, p387⟩
              replace p387 := p387 (by omega)
              show WP 331 75 [(0, .ref 117), (1, iV x120), (2, iV z148), (3, iV z159)] [iV z391] _ _ _ _
              refine wp_z_eq jF_331_75 (m_rgb h392 rfl) rfl (pc2 := 78) ?_ ?_
              · intro h393
                clear p386
                refine wp_il1 jF_331_153 rfl rfl (pc2 := 154) ?_
                refine wp_ic jF_331_154 rfl (pc2 := 155) ?_
                refine wp_i_eq jF_331_155 (m_rgb h160 rfl) (m_rgl rfl) rfl (pc2 := 158) ?_ ?_
                · intro h394
                  refine wp_ic jF_331_181 rfl (pc2 := 182) ?_
                  refine wp_is1 (lv2 := [(0, .ref 117), (1, iV 0), (2, iV z148), (3, iV z159)]) jF_331_182 rfl rfl rfl (pc2 := 183) ?_
                  refine wp_go jF_331_183 ?_
                  refine wp_il1 jF_331_2 rfl rfl (pc2 := 3) ?_
                  refine wp_z_eq jF_331_3 (m_rgl rfl) rfl (pc2 := 6) ?_ ?_
                  · intro h395
                    have q396 : (dp τ388) = (dp τ122) := ((dp_fr f390 (fun _ => rfl) rfl).trans ((dp_fr f170 (fun _ => rfl) rfl).trans ((dp_fr f158 (fun _ => rfl) rfl).trans (dp_fr f147 (fun _ => rfl) rfl))))
                    have q397 := ws_nn (σ := τ122)
                    have q398 : (ws τ388) = (ws τ122) := ((ws_fr f390 (fun _ => rfl) rfl).trans ((ws_fr f170 (fun _ => rfl) rfl).trans ((ws_fr f158 (fun _ => rfl) rfl).trans (ws_fr f147 (fun _ => rfl) rfl))))
                    have q399 : (wk τ388) = (wk τ122) := ((wk_fr f390 (fun _ => rfl) rfl rfl).trans ((wk_fr f170 (fun _ => rfl) rfl rfl).trans ((wk_fr f158 (fun _ => rfl) rfl rfl).trans (wk_fr f147 (fun _ => rfl) rfl rfl))))
                    have b400 := GI.b g389 117 2 kd117 (lo := 0) (hi := 1601) rfl
                    have q401 : (τ388.1 117 5) = (τ122.1 117 5) := ((FR.at f390 117 5 rfl).trans ((FR.at f170 117 5 rfl).trans ((FR.at f158 117 5 rfl).trans (FR.at f147 117 5 rfl))))
                    have q402 : (τ388.1 117 87) = (τ122.1 117 87) := ((FR.at f390 117 87 rfl).trans ((FR.at f170 117 87 rfl).trans ((FR.at f158 117 87 rfl).trans (FR.at f147 117 87 rfl))))
                    have q403 : (τ388.1 117 89) = (τ122.1 117 89) := ((FR.at f390 117 89 rfl).trans ((FR.at f170 117 89 rfl).trans ((FR.at f158 117 89 rfl).trans (FR.at f147 117 89 rfl))))
                    refine wp_less [0] (lv2 := [(0, .ref 117)]) rfl rfl ?_
                    exact jn116 () τ388 ⟨g389, (FR.up (FR.up (FR.up (FR.up f124 f147 sb_Wat_Wqp) f158 sb_Wat_Wqp) f170 sb_Wat_Wqp) f390 sb_Wat_Wqp), (by omega), (by omega), (by omega), (by omega), (by omega), (by omega)⟩
                  · intro h395; exfalso; omega
                · intro h394
                  refine wp_al1 jF_331_158 rfl rfl (pc2 := 159) ?_
                  refine wp_bi jF_331_159 (by decide) rfl (pc2 := 161) ?_
                  refine wp_il1 jF_331_161 rfl rfl (pc2 := 162) ?_
                  refine wp_add jF_331_162 rfl (pc2 := 163) ?_
                  refine wp_bi jF_331_163 (by decide) rfl (pc2 := 165) ?_
                  refine wp_sub jF_331_165 rfl (pc2 := 166) ?_
                  refine wp_al1 jF_331_166 rfl rfl (pc2 := 167) ?_
                  have b404 := GI.b g389 117 2 kd117 (lo := 0) (hi := 1601) rfl
                  refine wp_gi jF_331_167 kd117 (by decide) rfl rfl rfl (pc2 := 170) ?_
                  refine wp_cV (as := [iV ((60 + z159) - 6), iV (τ388.1 117 2)]) (rest := []) (a := 117) (mx := 3) (ci := 12) jF_331_170 kd117 (by decide) rfl rfl rfl rfl rfl (by omega) (by omega) rfl (pc2 := 173) ?_
                  have q405 := ws_nn (σ := τ122)
                  have q406 : (ws τ388) = (ws τ122) := ((ws_fr f390 (fun _ => rfl) rfl).trans ((ws_fr f170 (fun _ => rfl) rfl).trans ((ws_fr f158 (fun _ => rfl) rfl).trans (ws_fr f147 (fun _ => rfl) rfl))))
                  have q407 : (tt τ388) = (tt τ122) := ((tt_fr f390 (fun _ => rfl) rfl).trans ((tt_fr f170 (fun _ => rfl) rfl).trans ((tt_fr f158 (fun _ => rfl) rfl).trans (tt_fr f147 (fun _ => rfl) rfl))))
                  have q408 : (wk τ388) = (wk τ122) := ((wk_fr f390 (fun _ => rfl) rfl rfl).trans ((wk_fr f170 (fun _ => rfl) rfl rfl).trans ((wk_fr f158 (fun _ => rfl) rfl rfl).trans (wk_fr f147 (fun _ => rfl) rfl rfl))))
                  have q409 : (τ388.1 117 5) = (τ122.1 117 5) := ((FR.at f390 117 5 rfl).trans ((FR.at f170 117 5 rfl).trans ((FR.at f158 117 5 rfl).trans (FR.at f147 117 5 rfl))))
                  have q410 : (τ388.1 117 89) = (τ122.1 117 89) := ((FR.at f390 117 89 rfl).trans ((FR.at f170 117 89 rfl).trans ((FR.at f158 117 89 rfl).trans (FR.at f147 117 89 rfl))))
                  have q411 : (τ388.1 117 91) = (σ.1 117 91) := ((FR.at f390 117 91 rfl).trans ((FR.at f170 117 91 rfl).trans ((FR.at f158 117 91 rfl).trans ((FR.at f147 117 91 rfl).trans (FR.at f124 117 91 rfl)))))
                  refine wp_use (m_327 τ388 g389 ((60 + z159) - 6) (by omega) (by omega) (τ388.1 117 2) (by omega) (by omega) (by omega) (by omega) _ _ (by omega) (by omega)) ?_
                  rintro _ τ420 ⟨rfl, g421, f422, p412, p413, p414, p415, p416, p417, p418, p419⟩
                  clear p412
                  show WP 331 173 [(0, .ref 117), (1, iV x120), (2, iV z148), (3, iV z159)] [] _ _ _ _
                  refine wp_al1 jF_331_173 rfl rfl (pc2 := 174) ?_
                  refine wp_il1 jF_331_174 rfl rfl (pc2 := 175) ?_
                  refine wp_cV (as := [iV z159]) (rest := []) (a := 117) (mx := 2) (ci := 12) jF_331_175 kd117 (by decide) rfl rfl rfl rfl rfl (by omega) (by omega) rfl (pc2 := 178) ?_
                  have q423 : (τ420.1 117 2) = (τ388.1 117 2) := (FR.at f422 117 2 rfl)
                  have q424 : (τ420.1 117 3) = (σ.1 117 3) := ((FR.at f422 117 3 rfl).trans ((FR.at f390 117 3 rfl).trans ((FR.at f170 117 3 rfl).trans ((FR.at f158 117 3 rfl).trans ((FR.at f147 117 3 rfl).trans (FR.at f124 117 3 rfl))))))
                  have b425 := GI.b g421 117 5 kd117 (lo := (-2147483648)) (hi := 2147483647) rfl
                  refine wp_use (m_334 τ420 g421 z159 (by omega) (by omega)  _ _ (by omega) (by omega)) ?_
                  rintro _ τ429 ⟨rfl, g430, f431, p426, p427, p428⟩
                  show WP 331 178 [(0, .ref 117), (1, iV x120), (2, iV z148), (3, iV z159)] [] _ _ _ _
                  refine wp_go jF_331_178 ?_
                  refine wp_go jF_331_183 ?_
                  refine wp_il1 jF_331_2 rfl rfl (pc2 := 3) ?_
                  refine wp_z_eq jF_331_3 (m_rgb h121 rfl) rfl (pc2 := 6) ?_ ?_
                  · intro h432; exfalso; omega
                  · intro h432
                    refine wp_al1 jF_331_6 rfl rfl (pc2 := 7) ?_
                    have b433 := GI.b g430 117 5 kd117 (lo := (-2147483648)) (hi := 2147483647) rfl
                    refine wp_gi jF_331_7 kd117 (by decide) rfl rfl rfl (pc2 := 10) ?_
                    refine wp_z_ne jF_331_10 (m_rgb b433 rfl) rfl (pc2 := 13) ?_ ?_
                    · intro h434
                      clear p428
                      have q435 : (dp τ429) = (dp τ122) := ((dp_fr f431 (fun _ => rfl) rfl).trans ((dp_fr f422 (fun _ => rfl) rfl).trans ((dp_fr f390 (fun _ => rfl) rfl).trans ((dp_fr f170 (fun _ => rfl) rfl).trans ((dp_fr f158 (fun _ => rfl) rfl).trans (dp_fr f147 (fun _ => rfl) rfl))))))
                      have q436 := ws_nn (σ := τ420)
                      have q437 : (ws τ429) = (ws τ420) := (ws_fr f431 (fun _ => rfl) rfl)
                      have q438 : (wk τ429) = (wk τ420) := (wk_fr f431 (fun _ => rfl) rfl rfl)
                      have b439 := GI.b g430 117 2 kd117 (lo := 0) (hi := 1601) rfl
                      have q440 : (τ429.1 117 87) = (τ122.1 117 87) := ((FR.at f431 117 87 rfl).trans ((FR.at f422 117 87 rfl).trans ((FR.at f390 117 87 rfl).trans ((FR.at f170 117 87 rfl).trans ((FR.at f158 117 87 rfl).trans (FR.at f147 117 87 rfl))))))
                      have b441 := GI.b g421 117 89 kd117 (lo := 0) (hi := 1690) rfl
                      have q442 : (τ429.1 117 89) = (τ420.1 117 89) := (FR.at f431 117 89 rfl)
                      refine wp_less [0] (lv2 := [(0, .ref 117)]) rfl rfl ?_
                      exact jn116 () τ429 ⟨g430, (FR.up (FR.up (FR.up (FR.up (FR.up (FR.up f124 f147 sb_Wat_Wqp) f158 sb_Wat_Wqp) f170 sb_Wat_Wqp) f390 sb_Wat_Wqp) f422 sb_Wqo_Wqp) f431 sb_Wask_Wqp), (by omega), (by omega), (by omega), (by omega), (by omega), (by omega)⟩
                    · intro h434
                      replace p428 := p428 (by omega)
                      have q443 : (dp τ429) = (dp τ122) := ((dp_fr f431 (fun _ => rfl) rfl).trans ((dp_fr f422 (fun _ => rfl) rfl).trans ((dp_fr f390 (fun _ => rfl) rfl).trans ((dp_fr f170 (fun _ => rfl) rfl).trans ((dp_fr f158 (fun _ => rfl) rfl).trans (dp_fr f147 (fun _ => rfl) rfl))))))
                      have q444 := ws_nn (σ := τ420)
                      have q445 : (ws τ429) = (ws τ420) := (ws_fr f431 (fun _ => rfl) rfl)
                      have q446 : (wk τ429) = (wk τ420) := (wk_fr f431 (fun _ => rfl) rfl rfl)
                      have b447 := GI.b g430 117 2 kd117 (lo := 0) (hi := 1601) rfl
                      have q448 : (τ429.1 117 87) = (τ122.1 117 87) := ((FR.at f431 117 87 rfl).trans ((FR.at f422 117 87 rfl).trans ((FR.at f390 117 87 rfl).trans ((FR.at f170 117 87 rfl).trans ((FR.at f158 117 87 rfl).trans (FR.at f147 117 87 rfl))))))
                      have b449 := GI.b g421 117 89 kd117 (lo := 0) (hi := 1690) rfl
                      have q450 : (τ429.1 117 89) = (τ420.1 117 89) := (FR.at f431 117 89 rfl)
                      refine wp_less [0, 1] (lv2 := [(0, .ref 117), (1, iV x120)]) rfl rfl ?_
                      exact ih131 (x120) τ429 ⟨⟨by omega, by omega⟩, g430, (FR.up (FR.up (FR.up (FR.up (FR.up (FR.up f124 f147 sb_Wat_Wqp) f158 sb_Wat_Wqp) f170 sb_Wat_Wqp) f390 sb_Wat_Wqp) f422 sb_Wqo_Wqp) f431 sb_Wask_Wqp), (by omega), (by omega), (by omega), (by omega), (by omega), (by omega)⟩ (by show Int.toNat (1700 - (τ429.1 117 2)) < Int.toNat (1700 - (τ122.1 117 2)); omega)
              · intro h393
                replace p386 := p386 (by omega)
                refine wp_al1 jF_331_78 rfl rfl (pc2 := 79) ?_
                refine wp_al1 jF_331_79 rfl rfl (pc2 := 80) ?_
                refine wp_gr (b := 167) jF_331_80 kd117 (by decide) (c := 267) rfl rfl rfl (pc2 := 83) ?_
                refine wp_cV (as := [.ref 167]) (rest := []) (a := 117) (mx := 2) (ci := 12) jF_331_83 kd117 (by decide) rfl rfl rfl rfl rfl (by omega) (by omega) rfl (pc2 := 86) ?_
                have b451 := GI.b g389 117 2 kd117 (lo := 0) (hi := 1601) rfl
                have q452 : (τ388.1 117 3) = (σ.1 117 3) := ((FR.at f390 117 3 rfl).trans ((FR.at f170 117 3 rfl).trans ((FR.at f158 117 3 rfl).trans ((FR.at f147 117 3 rfl).trans (FR.at f124 117 3 rfl)))))
                have q453 : (τ388.1 117 5) = (τ122.1 117 5) := ((FR.at f390 117 5 rfl).trans ((FR.at f170 117 5 rfl).trans ((FR.at f158 117 5 rfl).trans (FR.at f147 117 5 rfl))))
                refine wp_use (m_219 τ388 g389 167 3 cw167.1 cw167.2 (by decide)  _ _ (by omega) (by omega)) ?_
                rintro _ τ458 ⟨z461, rfl, h462, g459, f460, p454, p455, p456, p457⟩
                replace p456 := p456 (by omega)
                replace p457 := p457 (by omega)
                show WP 331 86 [(0, .ref 117), (1, iV x120), (2, iV z148), (3, iV z159)] [iV z461] _ _ _ _
                refine wp_is2 (lv2 := [(0, .ref 117), (1, iV x120), (2, iV z148), (3, iV z159), (4, iV z461)]) jF_331_86 rfl rfl rfl (pc2 := 88) ?_
                refine wp_il2 jF_331_88 rfl rfl (pc2 := 90) ?_
                refine wp_z_ne jF_331_90 (m_rgb h462 rfl) rfl (pc2 := 93) ?_ ?_
                · intro h463
                  replace p455 := p455 (by omega)
                  clear p456
                  replace p457 := p457 (by omega)
                  refine wp_al1 jF_331_101 rfl rfl (pc2 := 102) ?_
                  refine wp_cV (as := []) (rest := []) (a := 117) (mx := 1) (ci := 12) jF_331_102 kd117 (by decide) rfl rfl rfl rfl rfl (by omega) (by omega) rfl (pc2 := 105) ?_
                  have b464 := GI.b g459 117 2 kd117 (lo := 0) (hi := 1601) rfl
                  have q465 : (τ458.1 117 3) = (σ.1 117 3) := ((FR.at f460 117 3 rfl).trans ((FR.at f390 117 3 rfl).trans ((FR.at f170 117 3 rfl).trans ((FR.at f158 117 3 rfl).trans ((FR.at f147 117 3 rfl).trans (FR.at f124 117 3 rfl))))))
                  refine wp_use (m_216 τ458 g459   _ _ (by omega) (by omega)) ?_
                  rintro _ τ472 ⟨z475, rfl, h476, g473, f474, p466, p467, p468, p469, p470, p471⟩
                  have b477 := GI.b hg 118 (τ472.1 117 2).toNat kd118 (lo := 0) (hi := 255) rfl
                  have q478 : (τ458.1 118 (τ472.1 117 2).toNat) = (σ.1 118 (τ472.1 117 2).toNat) := ((FR.at f460 118 (τ472.1 117 2).toNat rfl).trans ((FR.at f390 118 (τ472.1 117 2).toNat rfl).trans ((FR.at f170 118 (τ472.1 117 2).toNat rfl).trans ((FR.at f158 118 (τ472.1 117 2).toNat rfl).trans ((FR.at f147 118 (τ472.1 117 2).toNat rfl).trans (FR.at f124 118 (τ472.1 117 2).toNat rfl))))))
                  show WP 331 105 [(0, .ref 117), (1, iV x120), (2, iV z148), (3, iV z159), (4, iV z461)] [iV z475] _ _ _ _
                  refine wp_bi jF_331_105 (by decide) rfl (pc2 := 107) ?_
                  refine wp_i_ne jF_331_107 (m_rgb h476 rfl) (m_rgl rfl) rfl (pc2 := 110) ?_ ?_
                  · intro h479
                    refine wp_ic jF_331_117 rfl (pc2 := 118) ?_
                    refine wp_is2 (lv2 := [(0, .ref 117), (1, iV x120), (2, iV z148), (3, iV z159), (4, iV z461), (5, iV (-1))]) jF_331_118 rfl rfl rfl (pc2 := 120) ?_
                    refine wp_il2 jF_331_120 rfl rfl (pc2 := 122) ?_
                    refine wp_ic jF_331_122 rfl (pc2 := 123) ?_
                    refine wp_i_eq jF_331_123 (m_rgl rfl) (m_rgl rfl) rfl (pc2 := 126) ?_ ?_
                    · intro h480
                      refine wp_al1 jF_331_144 rfl rfl (pc2 := 145) ?_
                      refine wp_bi jF_331_145 (by decide) rfl (pc2 := 147) ?_
                      refine wp_cV (as := [iV 40]) (rest := []) (a := 117) (mx := 2) (ci := 12) jF_331_147 kd117 (by decide) rfl rfl rfl rfl rfl (by omega) (by omega) rfl (pc2 := 150) ?_
                      have b481 := GI.b g473 117 2 kd117 (lo := 0) (hi := 1601) rfl
                      have q482 : (τ472.1 117 3) = (σ.1 117 3) := ((FR.at f474 117 3 rfl).trans ((FR.at f460 117 3 rfl).trans ((FR.at f390 117 3 rfl).trans ((FR.at f170 117 3 rfl).trans ((FR.at f158 117 3 rfl).trans ((FR.at f147 117 3 rfl).trans (FR.at f124 117 3 rfl)))))))
                      have q483 : (τ472.1 117 5) = (τ122.1 117 5) := ((FR.at f474 117 5 rfl).trans ((FR.at f460 117 5 rfl).trans ((FR.at f390 117 5 rfl).trans ((FR.at f170 117 5 rfl).trans ((FR.at f158 117 5 rfl).trans (FR.at f147 117 5 rfl))))))
                      refine wp_use (m_238 τ472 g473 40 (by omega) (by omega)  _ _ (by omega) (by omega)) ?_
                      rintro _ τ487 ⟨rfl, g488, f489, p484, p485, p486⟩
                      clear p485
                      show WP 331 150 [(0, .ref 117), (1, iV x120), (2, iV z148), (3, iV z159), (4, iV z461), (5, iV (-1))] [] _ _ _ _
                      refine wp_go jF_331_150 ?_
                      refine wp_go jF_331_183 ?_
                      refine wp_il1 jF_331_2 rfl rfl (pc2 := 3) ?_
                      refine wp_z_eq jF_331_3 (m_rgb h121 rfl) rfl (pc2 := 6) ?_ ?_
                      · intro h490; exfalso; omega
                      · intro h490
                        refine wp_al1 jF_331_6 rfl rfl (pc2 := 7) ?_
                        have b491 := GI.b g488 117 5 kd117 (lo := (-2147483648)) (hi := 2147483647) rfl
                        refine wp_gi jF_331_7 kd117 (by decide) rfl rfl rfl (pc2 := 10) ?_
                        refine wp_z_ne jF_331_10 (m_rgb b491 rfl) rfl (pc2 := 13) ?_ ?_
                        · intro h492
                          clear p486
                          have q493 : (dp τ487) = (dp τ122) := ((dp_fr f489 (fun _ => rfl) rfl).trans ((dp_fr f474 (fun _ => rfl) rfl).trans ((dp_fr f460 (fun _ => rfl) rfl).trans ((dp_fr f390 (fun _ => rfl) rfl).trans ((dp_fr f170 (fun _ => rfl) rfl).trans ((dp_fr f158 (fun _ => rfl) rfl).trans (dp_fr f147 (fun _ => rfl) rfl)))))))
                          have q494 := ws_nn (σ := τ122)
                          have q495 : (ws τ487) = (ws τ122) := ((ws_fr f489 (fun _ => rfl) rfl).trans ((ws_fr f474 (fun _ => rfl) rfl).trans ((ws_fr f460 (fun _ => rfl) rfl).trans ((ws_fr f390 (fun _ => rfl) rfl).trans ((ws_fr f170 (fun _ => rfl) rfl).trans ((ws_fr f158 (fun _ => rfl) rfl).trans (ws_fr f147 (fun _ => rfl) rfl)))))))
                          have q496 : (wk τ487) = (wk τ122) := ((wk_fr f489 (fun _ => rfl) rfl rfl).trans ((wk_fr f474 (fun _ => rfl) rfl rfl).trans ((wk_fr f460 (fun _ => rfl) rfl rfl).trans ((wk_fr f390 (fun _ => rfl) rfl rfl).trans ((wk_fr f170 (fun _ => rfl) rfl rfl).trans ((wk_fr f158 (fun _ => rfl) rfl rfl).trans (wk_fr f147 (fun _ => rfl) rfl rfl)))))))
                          have b497 := GI.b g488 117 2 kd117 (lo := 0) (hi := 1601) rfl
                          have q498 : (τ487.1 117 87) = (τ122.1 117 87) := ((FR.at f489 117 87 rfl).trans ((FR.at f474 117 87 rfl).trans ((FR.at f460 117 87 rfl).trans ((FR.at f390 117 87 rfl).trans ((FR.at f170 117 87 rfl).trans ((FR.at f158 117 87 rfl).trans (FR.at f147 117 87 rfl)))))))
                          have q499 : (τ487.1 117 89) = (τ122.1 117 89) := ((FR.at f489 117 89 rfl).trans ((FR.at f474 117 89 rfl).trans ((FR.at f460 117 89 rfl).trans ((FR.at f390 117 89 rfl).trans ((FR.at f170 117 89 rfl).trans ((FR.at f158 117 89 rfl).trans (FR.at f147 117 89 rfl)))))))
                          refine wp_less [0] (lv2 := [(0, .ref 117)]) rfl rfl ?_
                          exact jn116 () τ487 ⟨g488, (FR.up (FR.up (FR.up (FR.up (FR.up (FR.up (FR.up f124 f147 sb_Wat_Wqp) f158 sb_Wat_Wqp) f170 sb_Wat_Wqp) f390 sb_Wat_Wqp) f460 sb_Wtak_Wqp) f474 sb_Wat_Wqp) f489 sb_Wsgn_Wqp), (by omega), (by omega), (by omega), (by omega), (by omega), (by omega)⟩
                        · intro h492
                          replace p486 := p486 (by omega)
                          have q500 : (dp τ487) = (dp τ122) := ((dp_fr f489 (fun _ => rfl) rfl).trans ((dp_fr f474 (fun _ => rfl) rfl).trans ((dp_fr f460 (fun _ => rfl) rfl).trans ((dp_fr f390 (fun _ => rfl) rfl).trans ((dp_fr f170 (fun _ => rfl) rfl).trans ((dp_fr f158 (fun _ => rfl) rfl).trans (dp_fr f147 (fun _ => rfl) rfl)))))))
                          have q501 := ws_nn (σ := τ122)
                          have q502 : (ws τ487) = (ws τ122) := ((ws_fr f489 (fun _ => rfl) rfl).trans ((ws_fr f474 (fun _ => rfl) rfl).trans ((ws_fr f460 (fun _ => rfl) rfl).trans ((ws_fr f390 (fun _ => rfl) rfl).trans ((ws_fr f170 (fun _ => rfl) rfl).trans ((ws_fr f158 (fun _ => rfl) rfl).trans (ws_fr f147 (fun _ => rfl) rfl)))))))
                          have q503 : (wk τ487) = (wk τ122) := ((wk_fr f489 (fun _ => rfl) rfl rfl).trans ((wk_fr f474 (fun _ => rfl) rfl rfl).trans ((wk_fr f460 (fun _ => rfl) rfl rfl).trans ((wk_fr f390 (fun _ => rfl) rfl rfl).trans ((wk_fr f170 (fun _ => rfl) rfl rfl).trans ((wk_fr f158 (fun _ => rfl) rfl rfl).trans (wk_fr f147 (fun _ => rfl) rfl rfl)))))))
                          have b504 := GI.b g488 117 2 kd117 (lo := 0) (hi := 1601) rfl
                          have q505 : (τ487.1 117 87) = (τ122.1 117 87) := ((FR.at f489 117 87 rfl).trans ((FR.at f474 117 87 rfl).trans ((FR.at f460 117 87 rfl).trans ((FR.at f390 117 87 rfl).trans ((FR.at f170 117 87 rfl).trans ((FR.at f158 117 87 rfl).trans (FR.at f147 117 87 rfl)))))))
                          have q506 : (τ487.1 117 89) = (τ122.1 117 89) := ((FR.at f489 117 89 rfl).trans ((FR.at f474 117 89 rfl).trans ((FR.at f460 117 89 rfl).trans ((FR.at f390 117 89 rfl).trans ((FR.at f170 117 89 rfl).trans ((FR.at f158 117 89 rfl).trans (FR.at f147 117 89 rfl)))))))
                          refine wp_less [0, 1] (lv2 := [(0, .ref 117), (1, iV x120)]) rfl rfl ?_
                          exact ih131 (x120) τ487 ⟨⟨by omega, by omega⟩, g488, (FR.up (FR.up (FR.up (FR.up (FR.up (FR.up (FR.up f124 f147 sb_Wat_Wqp) f158 sb_Wat_Wqp) f170 sb_Wat_Wqp) f390 sb_Wat_Wqp) f460 sb_Wtak_Wqp) f474 sb_Wat_Wqp) f489 sb_Wsgn_Wqp), (by omega), (by omega), (by omega), (by omega), (by omega), (by omega)⟩ (by show Int.toNat (1700 - (τ487.1 117 2)) < Int.toNat (1700 - (τ122.1 117 2)); omega)
                    · intro h480; exfalso; omega
                  · intro h479
                    replace p466 := p466 (by omega)
                    replace p471 := p471 (by omega)
                    refine wp_al1 jF_331_110 rfl rfl (pc2 := 111) ?_
                    have b507 := GI.b g473 117 2 kd117 (lo := 0) (hi := 1601) rfl
                    refine wp_gi jF_331_111 kd117 (by decide) rfl rfl rfl (pc2 := 114) ?_
                    refine wp_go jF_331_114 ?_
                    refine wp_is2 (lv2 := [(0, .ref 117), (1, iV x120), (2, iV z148), (3, iV z159), (4, iV z461), (5, iV (τ472.1 117 2))]) jF_331_118 rfl rfl rfl (pc2 := 120) ?_
                    refine wp_il2 jF_331_120 rfl rfl (pc2 := 122) ?_
                    refine wp_ic jF_331_122 rfl (pc2 := 123) ?_
                    refine wp_i_eq jF_331_123 (m_rgb b507 rfl) (m_rgl rfl) rfl (pc2 := 126) ?_ ?_
                    · intro h508; exfalso; omega
                    · intro h508
                      refine wp_al1 jF_331_126 rfl rfl (pc2 := 127) ?_
                      refine wp_il2 jF_331_127 rfl rfl (pc2 := 129) ?_
                      refine wp_z_eq jF_331_129 ⟨by omega, by omega⟩ rfl (pc2 := 132) ?_ ?_
                      · intro h509; exfalso; omega
                      · intro h509
                        refine wp_bi jF_331_132 (by decide) rfl (pc2 := 134) ?_
                        refine wp_go jF_331_134 ?_
                        refine wp_il2 jF_331_139 rfl rfl (pc2 := 141) ?_
                        refine wp_cV (as := [iV 21, iV (τ472.1 117 2)]) (rest := []) (a := 117) (mx := 3) (ci := 12) jF_331_141 kd117 (by decide) rfl rfl rfl rfl rfl (by omega) (by omega) rfl (pc2 := 144) ?_
                        have q510 := ws_nn (σ := τ122)
                        have q511 : (ws τ472) = (ws τ122) := ((ws_fr f474 (fun _ => rfl) rfl).trans ((ws_fr f460 (fun _ => rfl) rfl).trans ((ws_fr f390 (fun _ => rfl) rfl).trans ((ws_fr f170 (fun _ => rfl) rfl).trans ((ws_fr f158 (fun _ => rfl) rfl).trans (ws_fr f147 (fun _ => rfl) rfl))))))
                        have q512 : (tt τ472) = (tt τ122) := ((tt_fr f474 (fun _ => rfl) rfl).trans ((tt_fr f460 (fun _ => rfl) rfl).trans ((tt_fr f390 (fun _ => rfl) rfl).trans ((tt_fr f170 (fun _ => rfl) rfl).trans ((tt_fr f158 (fun _ => rfl) rfl).trans (tt_fr f147 (fun _ => rfl) rfl))))))
                        have q513 : (wk τ472) = (wk τ122) := ((wk_fr f474 (fun _ => rfl) rfl rfl).trans ((wk_fr f460 (fun _ => rfl) rfl rfl).trans ((wk_fr f390 (fun _ => rfl) rfl rfl).trans ((wk_fr f170 (fun _ => rfl) rfl rfl).trans ((wk_fr f158 (fun _ => rfl) rfl rfl).trans (wk_fr f147 (fun _ => rfl) rfl rfl))))))
                        have q514 : (τ472.1 117 5) = (τ122.1 117 5) := ((FR.at f474 117 5 rfl).trans ((FR.at f460 117 5 rfl).trans ((FR.at f390 117 5 rfl).trans ((FR.at f170 117 5 rfl).trans ((FR.at f158 117 5 rfl).trans (FR.at f147 117 5 rfl))))))
                        have q515 : (τ472.1 117 89) = (τ122.1 117 89) := ((FR.at f474 117 89 rfl).trans ((FR.at f460 117 89 rfl).trans ((FR.at f390 117 89 rfl).trans ((FR.at f170 117 89 rfl).trans ((FR.at f158 117 89 rfl).trans (FR.at f147 117 89 rfl))))))
                        have q516 : (τ472.1 117 91) = (σ.1 117 91) := ((FR.at f474 117 91 rfl).trans ((FR.at f460 117 91 rfl).trans ((FR.at f390 117 91 rfl).trans ((FR.at f170 117 91 rfl).trans ((FR.at f158 117 91 rfl).trans ((FR.at f147 117 91 rfl).trans (FR.at f124 117 91 rfl)))))))
                        refine wp_use (m_327 τ472 g473 21 (by omega) (by omega) (τ472.1 117 2) (by omega) (by omega) (by omega) (by omega) _ _ (by omega) (by omega)) ?_
                        rintro _ τ525 ⟨rfl, g526, f527, p517, p518, p519, p520, p521, p522, p523, p524⟩
                        clear p517
                        show WP 331 144 [(0, .ref 117), (1, iV x120), (2, iV z148), (3, iV z159), (4, iV z461), (5, iV (τ472.1 117 2))] [] _ _ _ _
                        refine wp_al1 jF_331_144 rfl rfl (pc2 := 145) ?_
                        refine wp_bi jF_331_145 (by decide) rfl (pc2 := 147) ?_
                        refine wp_cV (as := [iV 40]) (rest := []) (a := 117) (mx := 2) (ci := 12) jF_331_147 kd117 (by decide) rfl rfl rfl rfl rfl (by omega) (by omega) rfl (pc2 := 150) ?_
                        have q528 : (τ525.1 117 2) = (τ472.1 117 2) := (FR.at f527 117 2 rfl)
                        have q529 : (τ525.1 117 3) = (σ.1 117 3) := ((FR.at f527 117 3 rfl).trans ((FR.at f474 117 3 rfl).trans ((FR.at f460 117 3 rfl).trans ((FR.at f390 117 3 rfl).trans ((FR.at f170 117 3 rfl).trans ((FR.at f158 117 3 rfl).trans ((FR.at f147 117 3 rfl).trans (FR.at f124 117 3 rfl))))))))
                        have b530 := GI.b g526 117 5 kd117 (lo := (-2147483648)) (hi := 2147483647) rfl
                        refine wp_use (m_238 τ525 g526 40 (by omega) (by omega)  _ _ (by omega) (by omega)) ?_
                        rintro _ τ534 ⟨rfl, g535, f536, p531, p532, p533⟩
                        show WP 331 150 [(0, .ref 117), (1, iV x120), (2, iV z148), (3, iV z159), (4, iV z461), (5, iV (τ472.1 117 2))] [] _ _ _ _
                        refine wp_go jF_331_150 ?_
                        refine wp_go jF_331_183 ?_
                        refine wp_il1 jF_331_2 rfl rfl (pc2 := 3) ?_
                        refine wp_z_eq jF_331_3 (m_rgb h121 rfl) rfl (pc2 := 6) ?_ ?_
                        · intro h537; exfalso; omega
                        · intro h537
                          refine wp_al1 jF_331_6 rfl rfl (pc2 := 7) ?_
                          have b538 := GI.b g535 117 5 kd117 (lo := (-2147483648)) (hi := 2147483647) rfl
                          refine wp_gi jF_331_7 kd117 (by decide) rfl rfl rfl (pc2 := 10) ?_
                          refine wp_z_ne jF_331_10 (m_rgb b538 rfl) rfl (pc2 := 13) ?_ ?_
                          · intro h539
                            clear p533
                            have q540 : (dp τ534) = (dp τ122) := ((dp_fr f536 (fun _ => rfl) rfl).trans ((dp_fr f527 (fun _ => rfl) rfl).trans ((dp_fr f474 (fun _ => rfl) rfl).trans ((dp_fr f460 (fun _ => rfl) rfl).trans ((dp_fr f390 (fun _ => rfl) rfl).trans ((dp_fr f170 (fun _ => rfl) rfl).trans ((dp_fr f158 (fun _ => rfl) rfl).trans (dp_fr f147 (fun _ => rfl) rfl))))))))
                            have q541 := ws_nn (σ := τ525)
                            have q542 : (ws τ534) = (ws τ525) := (ws_fr f536 (fun _ => rfl) rfl)
                            have q543 : (wk τ534) = (wk τ525) := (wk_fr f536 (fun _ => rfl) rfl rfl)
                            have b544 := GI.b g535 117 2 kd117 (lo := 0) (hi := 1601) rfl
                            have q545 : (τ534.1 117 87) = (τ122.1 117 87) := ((FR.at f536 117 87 rfl).trans ((FR.at f527 117 87 rfl).trans ((FR.at f474 117 87 rfl).trans ((FR.at f460 117 87 rfl).trans ((FR.at f390 117 87 rfl).trans ((FR.at f170 117 87 rfl).trans ((FR.at f158 117 87 rfl).trans (FR.at f147 117 87 rfl))))))))
                            have b546 := GI.b g526 117 89 kd117 (lo := 0) (hi := 1690) rfl
                            have q547 : (τ534.1 117 89) = (τ525.1 117 89) := (FR.at f536 117 89 rfl)
                            refine wp_less [0] (lv2 := [(0, .ref 117)]) rfl rfl ?_
                            exact jn116 () τ534 ⟨g535, (FR.up (FR.up (FR.up (FR.up (FR.up (FR.up (FR.up (FR.up f124 f147 sb_Wat_Wqp) f158 sb_Wat_Wqp) f170 sb_Wat_Wqp) f390 sb_Wat_Wqp) f460 sb_Wtak_Wqp) f474 sb_Wat_Wqp) f527 sb_Wqo_Wqp) f536 sb_Wsgn_Wqp), (by omega), (by omega), (by omega), (by omega), (by omega), (by omega)⟩
                          · intro h539
                            replace p533 := p533 (by omega)
                            have q548 : (dp τ534) = (dp τ122) := ((dp_fr f536 (fun _ => rfl) rfl).trans ((dp_fr f527 (fun _ => rfl) rfl).trans ((dp_fr f474 (fun _ => rfl) rfl).trans ((dp_fr f460 (fun _ => rfl) rfl).trans ((dp_fr f390 (fun _ => rfl) rfl).trans ((dp_fr f170 (fun _ => rfl) rfl).trans ((dp_fr f158 (fun _ => rfl) rfl).trans (dp_fr f147 (fun _ => rfl) rfl))))))))
                            have q549 := ws_nn (σ := τ525)
                            have q550 : (ws τ534) = (ws τ525) := (ws_fr f536 (fun _ => rfl) rfl)
                            have q551 : (wk τ534) = (wk τ525) := (wk_fr f536 (fun _ => rfl) rfl rfl)
                            have b552 := GI.b g535 117 2 kd117 (lo := 0) (hi := 1601) rfl
                            have q553 : (τ534.1 117 87) = (τ122.1 117 87) := ((FR.at f536 117 87 rfl).trans ((FR.at f527 117 87 rfl).trans ((FR.at f474 117 87 rfl).trans ((FR.at f460 117 87 rfl).trans ((FR.at f390 117 87 rfl).trans ((FR.at f170 117 87 rfl).trans ((FR.at f158 117 87 rfl).trans (FR.at f147 117 87 rfl))))))))
                            have b554 := GI.b g526 117 89 kd117 (lo := 0) (hi := 1690) rfl
                            have q555 : (τ534.1 117 89) = (τ525.1 117 89) := (FR.at f536 117 89 rfl)
                            refine wp_less [0, 1] (lv2 := [(0, .ref 117), (1, iV x120)]) rfl rfl ?_
                            exact ih131 (x120) τ534 ⟨⟨by omega, by omega⟩, g535, (FR.up (FR.up (FR.up (FR.up (FR.up (FR.up (FR.up (FR.up f124 f147 sb_Wat_Wqp) f158 sb_Wat_Wqp) f170 sb_Wat_Wqp) f390 sb_Wat_Wqp) f460 sb_Wtak_Wqp) f474 sb_Wat_Wqp) f527 sb_Wqo_Wqp) f536 sb_Wsgn_Wqp), (by omega), (by omega), (by omega), (by omega), (by omega), (by omega)⟩ (by show Int.toNat (1700 - (τ534.1 117 2)) < Int.toNat (1700 - (τ122.1 117 2)); omega)
                · intro h463
                  clear p455
                  replace p456 := p456 (by omega)
                  clear p457
                  refine wp_al1 jF_331_93 rfl rfl (pc2 := 94) ?_
                  refine wp_al1 jF_331_94 rfl rfl (pc2 := 95) ?_
                  refine wp_gr (b := 168) jF_331_95 kd117 (by decide) (c := 268) rfl rfl rfl (pc2 := 98) ?_
                  refine wp_cV (as := [.ref 168]) (rest := []) (a := 117) (mx := 2) (ci := 12) jF_331_98 kd117 (by decide) rfl rfl rfl rfl rfl (by omega) (by omega) rfl (pc2 := 101) ?_
                  have b556 := GI.b g459 117 2 kd117 (lo := 0) (hi := 1601) rfl
                  have q557 : (τ458.1 117 3) = (σ.1 117 3) := ((FR.at f460 117 3 rfl).trans ((FR.at f390 117 3 rfl).trans ((FR.at f170 117 3 rfl).trans ((FR.at f158 117 3 rfl).trans ((FR.at f147 117 3 rfl).trans (FR.at f124 117 3 rfl))))))
                  have q558 : (τ458.1 117 5) = (τ122.1 117 5) := ((FR.at f460 117 5 rfl).trans ((FR.at f390 117 5 rfl).trans ((FR.at f170 117 5 rfl).trans ((FR.at f158 117 5 rfl).trans (FR.at f147 117 5 rfl)))))
                  refine wp_use (m_234 τ458 g459 168 3 cw168.1 cw168.2 (by decide)  _ _ (by omega) (by omega)) ?_
                  rintro _ τ562 ⟨rfl, g563, f564, p559, p560, p561⟩
                  clear p560
                  show WP 331 101 [(0, .ref 117), (1, iV x120), (2, iV z148), (3, iV z159), (4, iV z461)] [] _ _ _ _
                  refine wp_al1 jF_331_101 rfl rfl (pc2 := 102) ?_
                  refine wp_cV (as := []) (rest := []) (a := 117) (mx := 1) (ci := 12) jF_331_102 kd117 (by decide) rfl rfl rfl rfl rfl (by omega) (by omega) rfl (pc2 := 105) ?_
                  have b565 := GI.b g563 117 2 kd117 (lo := 0) (hi := 1601) rfl
                  have q566 : (τ562.1 117 3) = (σ.1 117 3) := ((FR.at f564 117 3 rfl).trans ((FR.at f460 117 3 rfl).trans ((FR.at f390 117 3 rfl).trans ((FR.at f170 117 3 rfl).trans ((FR.at f158 117 3 rfl).trans ((FR.at f147 117 3 rfl).trans (FR.at f124 117 3 rfl)))))))
                  refine wp_use (m_216 τ562 g563   _ _ (by omega) (by omega)) ?_
                  rintro _ τ573 ⟨z576, rfl, h577, g574, f575, p567, p568, p569, p570, p571, p572⟩
                  have b578 := GI.b hg 118 (τ573.1 117 2).toNat kd118 (lo := 0) (hi := 255) rfl
                  have q579 : (τ562.1 118 (τ573.1 117 2).toNat) = (σ.1 118 (τ573.1 117 2).toNat) := ((FR.at f564 118 (τ573.1 117 2).toNat rfl).trans ((FR.at f460 118 (τ573.1 117 2).toNat rfl).trans ((FR.at f390 118 (τ573.1 117 2).toNat rfl).trans ((FR.at f170 118 (τ573.1 117 2).toNat rfl).trans ((FR.at f158 118 (τ573.1 117 2).toNat rfl).trans ((FR.at f147 118 (τ573.1 117 2).toNat rfl).trans (FR.at f124 118 (τ573.1 117 2).toNat rfl)))))))
                  show WP 331 105 [(0, .ref 117), (1, iV x120), (2, iV z148), (3, iV z159), (4, iV z461)] [iV z576] _ _ _ _
                  refine wp_bi jF_331_105 (by decide) rfl (pc2 := 107) ?_
                  refine wp_i_ne jF_331_107 (m_rgb h577 rfl) (m_rgl rfl) rfl (pc2 := 110) ?_ ?_
                  · intro h580
                    refine wp_ic jF_331_117 rfl (pc2 := 118) ?_
                    refine wp_is2 (lv2 := [(0, .ref 117), (1, iV x120), (2, iV z148), (3, iV z159), (4, iV z461), (5, iV (-1))]) jF_331_118 rfl rfl rfl (pc2 := 120) ?_
                    refine wp_il2 jF_331_120 rfl rfl (pc2 := 122) ?_
                    refine wp_ic jF_331_122 rfl (pc2 := 123) ?_
                    refine wp_i_eq jF_331_123 (m_rgl rfl) (m_rgl rfl) rfl (pc2 := 126) ?_ ?_
                    · intro h581
                      refine wp_al1 jF_331_144 rfl rfl (pc2 := 145) ?_
                      refine wp_bi jF_331_145 (by decide) rfl (pc2 := 147) ?_
                      refine wp_cV (as := [iV 40]) (rest := []) (a := 117) (mx := 2) (ci := 12) jF_331_147 kd117 (by decide) rfl rfl rfl rfl rfl (by omega) (by omega) rfl (pc2 := 150) ?_
                      have b582 := GI.b g574 117 2 kd117 (lo := 0) (hi := 1601) rfl
                      have q583 : (τ573.1 117 3) = (σ.1 117 3) := ((FR.at f575 117 3 rfl).trans ((FR.at f564 117 3 rfl).trans ((FR.at f460 117 3 rfl).trans ((FR.at f390 117 3 rfl).trans ((FR.at f170 117 3 rfl).trans ((FR.at f158 117 3 rfl).trans ((FR.at f147 117 3 rfl).trans (FR.at f124 117 3 rfl))))))))
                      have b584 := GI.b g563 117 5 kd117 (lo := (-2147483648)) (hi := 2147483647) rfl
                      have q585 : (τ573.1 117 5) = (τ562.1 117 5) := (FR.at f575 117 5 rfl)
                      refine wp_use (m_238 τ573 g574 40 (by omega) (by omega)  _ _ (by omega) (by omega)) ?_
                      rintro _ τ589 ⟨rfl, g590, f591, p586, p587, p588⟩
                      show WP 331 150 [(0, .ref 117), (1, iV x120), (2, iV z148), (3, iV z159), (4, iV z461), (5, iV (-1))] [] _ _ _ _
                      refine wp_go jF_331_150 ?_
                      refine wp_go jF_331_183 ?_
                      refine wp_il1 jF_331_2 rfl rfl (pc2 := 3) ?_
                      refine wp_z_eq jF_331_3 (m_rgb h121 rfl) rfl (pc2 := 6) ?_ ?_
                      · intro h592; exfalso; omega
                      · intro h592
                        refine wp_al1 jF_331_6 rfl rfl (pc2 := 7) ?_
                        have b593 := GI.b g590 117 5 kd117 (lo := (-2147483648)) (hi := 2147483647) rfl
                        refine wp_gi jF_331_7 kd117 (by decide) rfl rfl rfl (pc2 := 10) ?_
                        refine wp_z_ne jF_331_10 (m_rgb b593 rfl) rfl (pc2 := 13) ?_ ?_
                        · intro h594
                          clear p588
                          have q595 : (dp τ589) = (dp τ122) := ((dp_fr f591 (fun _ => rfl) rfl).trans ((dp_fr f575 (fun _ => rfl) rfl).trans ((dp_fr f564 (fun _ => rfl) rfl).trans ((dp_fr f460 (fun _ => rfl) rfl).trans ((dp_fr f390 (fun _ => rfl) rfl).trans ((dp_fr f170 (fun _ => rfl) rfl).trans ((dp_fr f158 (fun _ => rfl) rfl).trans (dp_fr f147 (fun _ => rfl) rfl))))))))
                          have q596 := ws_nn (σ := τ122)
                          have q597 : (ws τ589) = (ws τ122) := ((ws_fr f591 (fun _ => rfl) rfl).trans ((ws_fr f575 (fun _ => rfl) rfl).trans ((ws_fr f564 (fun _ => rfl) rfl).trans ((ws_fr f460 (fun _ => rfl) rfl).trans ((ws_fr f390 (fun _ => rfl) rfl).trans ((ws_fr f170 (fun _ => rfl) rfl).trans ((ws_fr f158 (fun _ => rfl) rfl).trans (ws_fr f147 (fun _ => rfl) rfl))))))))
                          have q598 : (wk τ589) = (wk τ122) := ((wk_fr f591 (fun _ => rfl) rfl rfl).trans ((wk_fr f575 (fun _ => rfl) rfl rfl).trans ((wk_fr f564 (fun _ => rfl) rfl rfl).trans ((wk_fr f460 (fun _ => rfl) rfl rfl).trans ((wk_fr f390 (fun _ => rfl) rfl rfl).trans ((wk_fr f170 (fun _ => rfl) rfl rfl).trans ((wk_fr f158 (fun _ => rfl) rfl rfl).trans (wk_fr f147 (fun _ => rfl) rfl rfl))))))))
                          have b599 := GI.b g590 117 2 kd117 (lo := 0) (hi := 1601) rfl
                          have q600 : (τ589.1 117 87) = (τ122.1 117 87) := ((FR.at f591 117 87 rfl).trans ((FR.at f575 117 87 rfl).trans ((FR.at f564 117 87 rfl).trans ((FR.at f460 117 87 rfl).trans ((FR.at f390 117 87 rfl).trans ((FR.at f170 117 87 rfl).trans ((FR.at f158 117 87 rfl).trans (FR.at f147 117 87 rfl))))))))
                          have q601 : (τ589.1 117 89) = (τ122.1 117 89) := ((FR.at f591 117 89 rfl).trans ((FR.at f575 117 89 rfl).trans ((FR.at f564 117 89 rfl).trans ((FR.at f460 117 89 rfl).trans ((FR.at f390 117 89 rfl).trans ((FR.at f170 117 89 rfl).trans ((FR.at f158 117 89 rfl).trans (FR.at f147 117 89 rfl))))))))
                          refine wp_less [0] (lv2 := [(0, .ref 117)]) rfl rfl ?_
                          exact jn116 () τ589 ⟨g590, (FR.up (FR.up (FR.up (FR.up (FR.up (FR.up (FR.up (FR.up f124 f147 sb_Wat_Wqp) f158 sb_Wat_Wqp) f170 sb_Wat_Wqp) f390 sb_Wat_Wqp) f460 sb_Wtak_Wqp) f564 sb_Wask_Wqp) f575 sb_Wat_Wqp) f591 sb_Wsgn_Wqp), (by omega), (by omega), (by omega), (by omega), (by omega), (by omega)⟩
                        · intro h594
                          replace p588 := p588 (by omega)
                          have q602 : (dp τ589) = (dp τ122) := ((dp_fr f591 (fun _ => rfl) rfl).trans ((dp_fr f575 (fun _ => rfl) rfl).trans ((dp_fr f564 (fun _ => rfl) rfl).trans ((dp_fr f460 (fun _ => rfl) rfl).trans ((dp_fr f390 (fun _ => rfl) rfl).trans ((dp_fr f170 (fun _ => rfl) rfl).trans ((dp_fr f158 (fun _ => rfl) rfl).trans (dp_fr f147 (fun _ => rfl) rfl))))))))
                          have q603 := ws_nn (σ := τ122)
                          have q604 : (ws τ589) = (ws τ122) := ((ws_fr f591 (fun _ => rfl) rfl).trans ((ws_fr f575 (fun _ => rfl) rfl).trans ((ws_fr f564 (fun _ => rfl) rfl).trans ((ws_fr f460 (fun _ => rfl) rfl).trans ((ws_fr f390 (fun _ => rfl) rfl).trans ((ws_fr f170 (fun _ => rfl) rfl).trans ((ws_fr f158 (fun _ => rfl) rfl).trans (ws_fr f147 (fun _ => rfl) rfl))))))))
                          have q605 : (wk τ589) = (wk τ122) := ((wk_fr f591 (fun _ => rfl) rfl rfl).trans ((wk_fr f575 (fun _ => rfl) rfl rfl).trans ((wk_fr f564 (fun _ => rfl) rfl rfl).trans ((wk_fr f460 (fun _ => rfl) rfl rfl).trans ((wk_fr f390 (fun _ => rfl) rfl rfl).trans ((wk_fr f170 (fun _ => rfl) rfl rfl).trans ((wk_fr f158 (fun _ => rfl) rfl rfl).trans (wk_fr f147 (fun _ => rfl) rfl rfl))))))))
                          have b606 := GI.b g590 117 2 kd117 (lo := 0) (hi := 1601) rfl
                          have q607 : (τ589.1 117 87) = (τ122.1 117 87) := ((FR.at f591 117 87 rfl).trans ((FR.at f575 117 87 rfl).trans ((FR.at f564 117 87 rfl).trans ((FR.at f460 117 87 rfl).trans ((FR.at f390 117 87 rfl).trans ((FR.at f170 117 87 rfl).trans ((FR.at f158 117 87 rfl).trans (FR.at f147 117 87 rfl))))))))
                          have q608 : (τ589.1 117 89) = (τ122.1 117 89) := ((FR.at f591 117 89 rfl).trans ((FR.at f575 117 89 rfl).trans ((FR.at f564 117 89 rfl).trans ((FR.at f460 117 89 rfl).trans ((FR.at f390 117 89 rfl).trans ((FR.at f170 117 89 rfl).trans ((FR.at f158 117 89 rfl).trans (FR.at f147 117 89 rfl))))))))
                          refine wp_less [0, 1] (lv2 := [(0, .ref 117), (1, iV x120)]) rfl rfl ?_
                          exact ih131 (x120) τ589 ⟨⟨by omega, by omega⟩, g590, (FR.up (FR.up (FR.up (FR.up (FR.up (FR.up (FR.up (FR.up f124 f147 sb_Wat_Wqp) f158 sb_Wat_Wqp) f170 sb_Wat_Wqp) f390 sb_Wat_Wqp) f460 sb_Wtak_Wqp) f564 sb_Wask_Wqp) f575 sb_Wat_Wqp) f591 sb_Wsgn_Wqp), (by omega), (by omega), (by omega), (by omega), (by omega), (by omega)⟩ (by show Int.toNat (1700 - (τ589.1 117 2)) < Int.toNat (1700 - (τ122.1 117 2)); omega)
                    · intro h581; exfalso; omega
                  · intro h580
                    replace p567 := p567 (by omega)
                    replace p572 := p572 (by omega)
                    refine wp_al1 jF_331_110 rfl rfl (pc2 := 111) ?_
                    have b609 := GI.b g574 117 2 kd117 (lo := 0) (hi := 1601) rfl
                    refine wp_gi jF_331_111 kd117 (by decide) rfl rfl rfl (pc2 := 114) ?_
                    refine wp_go jF_331_114 ?_
                    refine wp_is2 (lv2 := [(0, .ref 117), (1, iV x120), (2, iV z148), (3, iV z159), (4, iV z461), (5, iV (τ573.1 117 2))]) jF_331_118 rfl rfl rfl (pc2 := 120) ?_
                    refine wp_il2 jF_331_120 rfl rfl (pc2 := 122) ?_
                    refine wp_ic jF_331_122 rfl (pc2 := 123) ?_
                    refine wp_i_eq jF_331_123 (m_rgb b609 rfl) (m_rgl rfl) rfl (pc2 := 126) ?_ ?_
                    · intro h610; exfalso; omega
                    · intro h610
                      refine wp_al1 jF_331_126 rfl rfl (pc2 := 127) ?_
                      refine wp_il2 jF_331_127 rfl rfl (pc2 := 129) ?_
                      refine wp_z_eq jF_331_129 ⟨by omega, by omega⟩ rfl (pc2 := 132) ?_ ?_
                      · intro h611
                        refine wp_bi jF_331_137 (by decide) rfl (pc2 := 139) ?_
                        refine wp_il2 jF_331_139 rfl rfl (pc2 := 141) ?_
                        refine wp_cV (as := [iV 22, iV (τ573.1 117 2)]) (rest := []) (a := 117) (mx := 3) (ci := 12) jF_331_141 kd117 (by decide) rfl rfl rfl rfl rfl (by omega) (by omega) rfl (pc2 := 144) ?_
                        have q612 := ws_nn (σ := τ122)
                        have q613 : (ws τ573) = (ws τ122) := ((ws_fr f575 (fun _ => rfl) rfl).trans ((ws_fr f564 (fun _ => rfl) rfl).trans ((ws_fr f460 (fun _ => rfl) rfl).trans ((ws_fr f390 (fun _ => rfl) rfl).trans ((ws_fr f170 (fun _ => rfl) rfl).trans ((ws_fr f158 (fun _ => rfl) rfl).trans (ws_fr f147 (fun _ => rfl) rfl)))))))
                        have q614 : (tt τ573) = (tt τ122) := ((tt_fr f575 (fun _ => rfl) rfl).trans ((tt_fr f564 (fun _ => rfl) rfl).trans ((tt_fr f460 (fun _ => rfl) rfl).trans ((tt_fr f390 (fun _ => rfl) rfl).trans ((tt_fr f170 (fun _ => rfl) rfl).trans ((tt_fr f158 (fun _ => rfl) rfl).trans (tt_fr f147 (fun _ => rfl) rfl)))))))
                        have q615 : (wk τ573) = (wk τ122) := ((wk_fr f575 (fun _ => rfl) rfl rfl).trans ((wk_fr f564 (fun _ => rfl) rfl rfl).trans ((wk_fr f460 (fun _ => rfl) rfl rfl).trans ((wk_fr f390 (fun _ => rfl) rfl rfl).trans ((wk_fr f170 (fun _ => rfl) rfl rfl).trans ((wk_fr f158 (fun _ => rfl) rfl rfl).trans (wk_fr f147 (fun _ => rfl) rfl rfl)))))))
                        have b616 := GI.b g563 117 5 kd117 (lo := (-2147483648)) (hi := 2147483647) rfl
                        have q617 : (τ573.1 117 5) = (τ562.1 117 5) := (FR.at f575 117 5 rfl)
                        have q618 : (τ573.1 117 89) = (τ122.1 117 89) := ((FR.at f575 117 89 rfl).trans ((FR.at f564 117 89 rfl).trans ((FR.at f460 117 89 rfl).trans ((FR.at f390 117 89 rfl).trans ((FR.at f170 117 89 rfl).trans ((FR.at f158 117 89 rfl).trans (FR.at f147 117 89 rfl)))))))
                        have q619 : (τ573.1 117 91) = (σ.1 117 91) := ((FR.at f575 117 91 rfl).trans ((FR.at f564 117 91 rfl).trans ((FR.at f460 117 91 rfl).trans ((FR.at f390 117 91 rfl).trans ((FR.at f170 117 91 rfl).trans ((FR.at f158 117 91 rfl).trans ((FR.at f147 117 91 rfl).trans (FR.at f124 117 91 rfl))))))))
                        refine wp_use (m_327 τ573 g574 22 (by omega) (by omega) (τ573.1 117 2) (by omega) (by omega) (by omega) (by omega) _ _ (by omega) (by omega)) ?_
                        rintro _ τ628 ⟨rfl, g629, f630, p620, p621, p622, p623, p624, p625, p626, p627⟩
                        show WP 331 144 [(0, .ref 117), (1, iV x120), (2, iV z148), (3, iV z159), (4, iV z461), (5, iV (τ573.1 117 2))] [] _ _ _ _
                        refine wp_al1 jF_331_144 rfl rfl (pc2 := 145) ?_
                        refine wp_bi jF_331_145 (by decide) rfl (pc2 := 147) ?_
                        refine wp_cV (as := [iV 40]) (rest := []) (a := 117) (mx := 2) (ci := 12) jF_331_147 kd117 (by decide) rfl rfl rfl rfl rfl (by omega) (by omega) rfl (pc2 := 150) ?_
                        have q631 : (τ628.1 117 2) = (τ573.1 117 2) := (FR.at f630 117 2 rfl)
                        have q632 : (τ628.1 117 3) = (σ.1 117 3) := ((FR.at f630 117 3 rfl).trans ((FR.at f575 117 3 rfl).trans ((FR.at f564 117 3 rfl).trans ((FR.at f460 117 3 rfl).trans ((FR.at f390 117 3 rfl).trans ((FR.at f170 117 3 rfl).trans ((FR.at f158 117 3 rfl).trans ((FR.at f147 117 3 rfl).trans (FR.at f124 117 3 rfl)))))))))
                        have b633 := GI.b g629 117 5 kd117 (lo := (-2147483648)) (hi := 2147483647) rfl
                        refine wp_use (m_238 τ628 g629 40 (by omega) (by omega)  _ _ (by omega) (by omega)) ?_
                        rintro _ τ637 ⟨rfl, g638, f639, p634, p635, p636⟩
                        show WP 331 150 [(0, .ref 117), (1, iV x120), (2, iV z148), (3, iV z159), (4, iV z461), (5, iV (τ573.1 117 2))] [] _ _ _ _
                        refine wp_go jF_331_150 ?_
                        refine wp_go jF_331_183 ?_
                        refine wp_il1 jF_331_2 rfl rfl (pc2 := 3) ?_
                        refine wp_z_eq jF_331_3 (m_rgb h121 rfl) rfl (pc2 := 6) ?_ ?_
                        · intro h640; exfalso; omega
                        · intro h640
                          refine wp_al1 jF_331_6 rfl rfl (pc2 := 7) ?_
                          have b641 := GI.b g638 117 5 kd117 (lo := (-2147483648)) (hi := 2147483647) rfl
                          refine wp_gi jF_331_7 kd117 (by decide) rfl rfl rfl (pc2 := 10) ?_
                          refine wp_z_ne jF_331_10 (m_rgb b641 rfl) rfl (pc2 := 13) ?_ ?_
                          · intro h642
                            clear p636
                            have q643 : (dp τ637) = (dp τ122) := ((dp_fr f639 (fun _ => rfl) rfl).trans ((dp_fr f630 (fun _ => rfl) rfl).trans ((dp_fr f575 (fun _ => rfl) rfl).trans ((dp_fr f564 (fun _ => rfl) rfl).trans ((dp_fr f460 (fun _ => rfl) rfl).trans ((dp_fr f390 (fun _ => rfl) rfl).trans ((dp_fr f170 (fun _ => rfl) rfl).trans ((dp_fr f158 (fun _ => rfl) rfl).trans (dp_fr f147 (fun _ => rfl) rfl)))))))))
                            have q644 := ws_nn (σ := τ628)
                            have q645 : (ws τ637) = (ws τ628) := (ws_fr f639 (fun _ => rfl) rfl)
                            have q646 : (wk τ637) = (wk τ628) := (wk_fr f639 (fun _ => rfl) rfl rfl)
                            have b647 := GI.b g638 117 2 kd117 (lo := 0) (hi := 1601) rfl
                            have q648 : (τ637.1 117 87) = (τ122.1 117 87) := ((FR.at f639 117 87 rfl).trans ((FR.at f630 117 87 rfl).trans ((FR.at f575 117 87 rfl).trans ((FR.at f564 117 87 rfl).trans ((FR.at f460 117 87 rfl).trans ((FR.at f390 117 87 rfl).trans ((FR.at f170 117 87 rfl).trans ((FR.at f158 117 87 rfl).trans (FR.at f147 117 87 rfl)))))))))
                            have b649 := GI.b g629 117 89 kd117 (lo := 0) (hi := 1690) rfl
                            have q650 : (τ637.1 117 89) = (τ628.1 117 89) := (FR.at f639 117 89 rfl)
                            refine wp_less [0] (lv2 := [(0, .ref 117)]) rfl rfl ?_
                            exact jn116 () τ637 ⟨g638, (FR.up (FR.up (FR.up (FR.up (FR.up (FR.up (FR.up (FR.up (FR.up f124 f147 sb_Wat_Wqp) f158 sb_Wat_Wqp) f170 sb_Wat_Wqp) f390 sb_Wat_Wqp) f460 sb_Wtak_Wqp) f564 sb_Wask_Wqp) f575 sb_Wat_Wqp) f630 sb_Wqo_Wqp) f639 sb_Wsgn_Wqp), (by omega), (by omega), (by omega), (by omega), (by omega), (by omega)⟩
                          · intro h642
                            replace p636 := p636 (by omega)
                            have q651 : (dp τ637) = (dp τ122) := ((dp_fr f639 (fun _ => rfl) rfl).trans ((dp_fr f630 (fun _ => rfl) rfl).trans ((dp_fr f575 (fun _ => rfl) rfl).trans ((dp_fr f564 (fun _ => rfl) rfl).trans ((dp_fr f460 (fun _ => rfl) rfl).trans ((dp_fr f390 (fun _ => rfl) rfl).trans ((dp_fr f170 (fun _ => rfl) rfl).trans ((dp_fr f158 (fun _ => rfl) rfl).trans (dp_fr f147 (fun _ => rfl) rfl)))))))))
                            have q652 := ws_nn (σ := τ628)
                            have q653 : (ws τ637) = (ws τ628) := (ws_fr f639 (fun _ => rfl) rfl)
                            have q654 : (wk τ637) = (wk τ628) := (wk_fr f639 (fun _ => rfl) rfl rfl)
                            have b655 := GI.b g638 117 2 kd117 (lo := 0) (hi := 1601) rfl
                            have q656 : (τ637.1 117 87) = (τ122.1 117 87) := ((FR.at f639 117 87 rfl).trans ((FR.at f630 117 87 rfl).trans ((FR.at f575 117 87 rfl).trans ((FR.at f564 117 87 rfl).trans ((FR.at f460 117 87 rfl).trans ((FR.at f390 117 87 rfl).trans ((FR.at f170 117 87 rfl).trans ((FR.at f158 117 87 rfl).trans (FR.at f147 117 87 rfl)))))))))
                            have b657 := GI.b g629 117 89 kd117 (lo := 0) (hi := 1690) rfl
                            have q658 : (τ637.1 117 89) = (τ628.1 117 89) := (FR.at f639 117 89 rfl)
                            refine wp_less [0, 1] (lv2 := [(0, .ref 117), (1, iV x120)]) rfl rfl ?_
                            exact ih131 (x120) τ637 ⟨⟨by omega, by omega⟩, g638, (FR.up (FR.up (FR.up (FR.up (FR.up (FR.up (FR.up (FR.up (FR.up f124 f147 sb_Wat_Wqp) f158 sb_Wat_Wqp) f170 sb_Wat_Wqp) f390 sb_Wat_Wqp) f460 sb_Wtak_Wqp) f564 sb_Wask_Wqp) f575 sb_Wat_Wqp) f630 sb_Wqo_Wqp) f639 sb_Wsgn_Wqp), (by omega), (by omega), (by omega), (by omega), (by omega), (by omega)⟩ (by show Int.toNat (1700 - (τ637.1 117 2)) < Int.toNat (1700 - (τ122.1 117 2)); omega)
                      · intro h611; exfalso; omega
          · intro h161
            replace p139 := p139 (by omega)
            replace p144 := p144 (by omega)
            refine wp_al1 jF_331_33 rfl rfl (pc2 := 34) ?_
            refine wp_bi jF_331_34 (by decide) rfl (pc2 := 36) ?_
            refine wp_al1 jF_331_36 rfl rfl (pc2 := 37) ?_
            have b659 := GI.b g157 117 2 kd117 (lo := 0) (hi := 1601) rfl
            refine wp_gi jF_331_37 kd117 (by decide) rfl rfl rfl (pc2 := 40) ?_
            refine wp_cV (as := [iV 20, iV (τ156.1 117 2)]) (rest := []) (a := 117) (mx := 3) (ci := 12) jF_331_40 kd117 (by decide) rfl rfl rfl rfl rfl (by omega) (by omega) rfl (pc2 := 43) ?_
            have q660 := ws_nn (σ := τ122)
            have q661 : (ws τ156) = (ws τ122) := ((ws_fr f158 (fun _ => rfl) rfl).trans (ws_fr f147 (fun _ => rfl) rfl))
            have q662 : (tt τ156) = (tt τ122) := ((tt_fr f158 (fun _ => rfl) rfl).trans (tt_fr f147 (fun _ => rfl) rfl))
            have q663 : (wk τ156) = (wk τ122) := ((wk_fr f158 (fun _ => rfl) rfl rfl).trans (wk_fr f147 (fun _ => rfl) rfl rfl))
            have q664 : (τ156.1 117 5) = (τ122.1 117 5) := ((FR.at f158 117 5 rfl).trans (FR.at f147 117 5 rfl))
            have q665 : (τ156.1 117 89) = (τ122.1 117 89) := ((FR.at f158 117 89 rfl).trans (FR.at f147 117 89 rfl))
            have q666 : (τ156.1 117 91) = (σ.1 117 91) := ((FR.at f158 117 91 rfl).trans ((FR.at f147 117 91 rfl).trans (FR.at f124 117 91 rfl)))
            refine wp_use (m_327 τ156 g157 20 (by omega) (by omega) (τ156.1 117 2) (by omega) (by omega) (by omega) (by omega) _ _ (by omega) (by omega)) ?_
            rintro _ τ675 ⟨rfl, g676, f677, p667, p668, p669, p670, p671, p672, p673, p674⟩
            clear p667
            show WP 331 43 [(0, .ref 117), (1, iV x120), (2, iV z148), (3, iV z159)] [] _ _ _ _
            refine wp_al1 jF_331_43 rfl rfl (pc2 := 44) ?_
            refine wp_dup jF_331_44 rfl rfl (pc2 := 45) ?_
            refine wp_gi jF_331_45 kd117 (by decide) rfl (FR.at f677 117 2 rfl) rfl (pc2 := 48) ?_
            refine wp_ic jF_331_48 rfl (pc2 := 49) ?_
            refine wp_add jF_331_49 rfl (pc2 := 50) ?_
            refine wp_pi jF_331_50 kd117 (by decide) rfl rfl rfl (pc2 := 53) g676 (lo := 0) (hi := 1601) rfl (by omega) (by omega) ?_
            intro τ678 g679 f680 e681
            refine wp_go jF_331_53 ?_
            refine wp_go jF_331_183 ?_
            refine wp_il1 jF_331_2 rfl rfl (pc2 := 3) ?_
            refine wp_z_eq jF_331_3 (m_rgb h121 rfl) rfl (pc2 := 6) ?_ ?_
            · intro h682; exfalso; omega
            · intro h682
              refine wp_al1 jF_331_6 rfl rfl (pc2 := 7) ?_
              have b683 := GI.b g676 117 5 kd117 (lo := (-2147483648)) (hi := 2147483647) rfl
              refine wp_gi jF_331_7 kd117 (by decide) rfl (FRw.nj f680 (by decide)) rfl (pc2 := 10) ?_
              refine wp_z_ne jF_331_10 (m_rgb b683 rfl) rfl (pc2 := 13) ?_ ?_
              · intro h684
                clear p668
                replace p671 := p671 (by omega)
                have q685 : (dp τ678) = (dp τ122) := ((dp_wr f680 (by decide)).trans ((dp_fr f677 (fun _ => rfl) rfl).trans ((dp_fr f158 (fun _ => rfl) rfl).trans (dp_fr f147 (fun _ => rfl) rfl))))
                have q686 := ws_nn (σ := τ675)
                have q687 : (ws τ678) = (ws τ675) := (ws_wr f680 (by decide))
                have q688 : (wk τ678) = (wk τ675) := (wk_wr f680 (by decide))
                have q689 : (τ678.1 117 2) = ((τ156.1 117 2) + 1) := e681
                have q690 : (τ678.1 117 5) = (τ675.1 117 5) := (FRw.nj f680 (by decide))
                have q691 : (τ678.1 117 87) = (τ122.1 117 87) := ((FRw.nj f680 (by decide)).trans ((FR.at f677 117 87 rfl).trans ((FR.at f158 117 87 rfl).trans (FR.at f147 117 87 rfl))))
                have b692 := GI.b g676 117 89 kd117 (lo := 0) (hi := 1690) rfl
                have q693 : (τ678.1 117 89) = (τ675.1 117 89) := (FRw.nj f680 (by decide))
                refine wp_less [0] (lv2 := [(0, .ref 117)]) rfl rfl ?_
                exact jn116 () τ678 ⟨g679, (FR.w (FR.up (FR.up (FR.up f124 f147 sb_Wat_Wqp) f158 sb_Wat_Wqp) f677 sb_Wqo_Wqp) f680 rfl), (by omega), (by omega), (by omega), (by omega), (by omega), (by omega)⟩
              · intro h684
                replace p668 := p668 (by omega)
                clear p671
                have q694 : (dp τ678) = (dp τ122) := ((dp_wr f680 (by decide)).trans ((dp_fr f677 (fun _ => rfl) rfl).trans ((dp_fr f158 (fun _ => rfl) rfl).trans (dp_fr f147 (fun _ => rfl) rfl))))
                have q695 := ws_nn (σ := τ675)
                have q696 : (ws τ678) = (ws τ675) := (ws_wr f680 (by decide))
                have q697 : (wk τ678) = (wk τ675) := (wk_wr f680 (by decide))
                have q698 : (τ678.1 117 2) = ((τ156.1 117 2) + 1) := e681
                have q699 : (τ678.1 117 5) = (τ675.1 117 5) := (FRw.nj f680 (by decide))
                have q700 : (τ678.1 117 87) = (τ122.1 117 87) := ((FRw.nj f680 (by decide)).trans ((FR.at f677 117 87 rfl).trans ((FR.at f158 117 87 rfl).trans (FR.at f147 117 87 rfl))))
                have b701 := GI.b g676 117 89 kd117 (lo := 0) (hi := 1690) rfl
                have q702 : (τ678.1 117 89) = (τ675.1 117 89) := (FRw.nj f680 (by decide))
                refine wp_less [0, 1] (lv2 := [(0, .ref 117), (1, iV x120)]) rfl rfl ?_
                exact ih131 (x120) τ678 ⟨⟨by omega, by omega⟩, g679, (FR.w (FR.up (FR.up (FR.up f124 f147 sb_Wat_Wqp) f158 sb_Wat_Wqp) f677 sb_Wqo_Wqp) f680 rfl), (by omega), (by omega), (by omega), (by omega), (by omega), (by omega)⟩ (by show Int.toNat (1700 - (τ678.1 117 2)) < Int.toNat (1700 - (τ122.1 117 2)); omega)
