set_option maxHeartbeats 4000000 in
set_option maxRecDepth 20000 in
/-- M.qGoesOnTest -/
theorem m_343 (σ : jM) (hg : GI σ)  (pre0 : (σ.1 117 5) = 0) (pre1 : (tt σ) = 1) (pre2 : (ws σ) < (dp σ)) (pre3 : (σ.1 117 87) + (σ.1 117 89) ≤ (σ.1 117 2)) (fr lo : Nat) (hfr : 3 ≤ fr) (hlo : 64 ≤ lo) : WP 343 0 (lv_args 0 [.ref 117]) [] fr lo σ (fun v τ => ∃ z : Int, v = some (iV z) ∧ (0 ≤ z ∧ z ≤ 1) ∧ GI τ ∧ FR Wqp σ τ ∧ ((σ.1 117 2) ≤ (τ.1 117 2)) ∧ (z = 1 → ((τ.1 117 5) = 0 ∧ (tt τ) = 1 ∧ (dp τ) - (ws τ) = (dp σ) - (ws σ) - 1 ∧ (τ.1 117 87) + (τ.1 117 89) ≤ (τ.1 117 2))) ∧ (z = 0 → (τ.1 117 5) = 0 → ((sq τ) = 0 ∧ (tt τ) = 1 ∧ (dp τ) - (ws τ) = (dp σ) - (ws σ) ∧ (τ.1 117 87) + (τ.1 117 89) ≤ (τ.1 117 2))) ∧ ((τ.1 117 87) + (τ.1 117 89) ≤ (τ.1 117 2) + 1)) := by
  show WP 343 0 [(0, .ref 117)] [] _ _ _ _
  have q1 := ws_nn (σ := σ)
  have b2 := GI.b hg 117 2 kd117 (lo := 0) (hi := 1601) rfl
  refine wp_loop (α := Unit) (fun a => [(0, .ref 117)]) (fun a τ => GI τ ∧ FR Wqp σ τ ∧ ((τ.1 117 5) = 0) ∧ ((tt τ) = 1) ∧ ((dp τ) - (ws τ) = (dp σ) - (ws σ)) ∧ ((σ.1 117 2) ≤ (τ.1 117 2)) ∧ ((τ.1 117 87) + (τ.1 117 89) ≤ (τ.1 117 2))) (fun a τ => Int.toNat (1700 - (τ.1 117 2))) () σ ?_ ?_
  · skip
    have b3 := GI.b hg 117 5 kd117 (lo := (-2147483648)) (hi := 2147483647) rfl
    have b4 := GI.b hg 117 87 kd117 (lo := 0) (hi := 1690) rfl
    have b5 := GI.b hg 117 89 kd117 (lo := 0) (hi := 1690) rfl
    exact ⟨hg, FR.rf, (by omega), (by omega), (by omega), (by omega), (by omega)⟩
  · rintro ⟨⟩ τ6 ⟨g7, f8, p9, p10, p11, p12, p13⟩ ih14
    have q15 := ws_nn (σ := τ6)
    have b16 := GI.b g7 117 2 kd117 (lo := 0) (hi := 1601) rfl
    have b17 := GI.b g7 117 5 kd117 (lo := (-2147483648)) (hi := 2147483647) rfl
    have b18 := GI.b g7 117 87 kd117 (lo := 0) (hi := 1690) rfl
    have b19 := GI.b g7 117 89 kd117 (lo := 0) (hi := 1690) rfl
    show WP 343 0 [(0, .ref 117)] [] _ _ _ _
    show WP 343 0 [(0, .ref 117)] [] _ _ _ _
    refine wp_join (α := Unit) 76 (fun a => [(0, .ref 117)]) (fun a τ => GI τ ∧ FR Wqp τ6 τ ∧ ((τ.1 117 5) = 0) ∧ ((tt τ) = 1) ∧ ((dp τ) - (ws τ) = (dp σ) - (ws σ)) ∧ ((σ.1 117 2) ≤ (τ.1 117 2)) ∧ ((τ.1 117 87) + (τ.1 117 89) ≤ (τ.1 117 2))) ?_ ?_
    · rintro ⟨⟩ τ20 ⟨g21, f22, p23, p24, p25, p26, p27⟩
      have q28 := ws_nn (σ := τ20)
      have b29 := GI.b g21 117 2 kd117 (lo := 0) (hi := 1601) rfl
      have b30 := GI.b g21 117 5 kd117 (lo := (-2147483648)) (hi := 2147483647) rfl
      have b31 := GI.b g21 117 87 kd117 (lo := 0) (hi := 1690) rfl
      have b32 := GI.b g21 117 89 kd117 (lo := 0) (hi := 1690) rfl
      clear p9 p10 p11 p12 p13
      show WP 343 76 [(0, .ref 117)] [] _ _ _ _
      refine wp_al1 jF_343_76 rfl rfl (pc2 := 77) ?_
      refine wp_al1 jF_343_77 rfl rfl (pc2 := 78) ?_
      refine wp_gr (b := 164) jF_343_78 kd117 (by decide) (c := 264) rfl rfl rfl (pc2 := 81) ?_
      refine wp_cV (as := [.ref 164]) (rest := []) (a := 117) (mx := 2) (ci := 12) jF_343_81 kd117 (by decide) rfl rfl rfl rfl rfl (by omega) (by omega) rfl (pc2 := 84) ?_
      have b33 := GI.b hg 117 3 kd117 (lo := 0) (hi := 1600) rfl
      have q34 : (τ20.1 117 3) = (σ.1 117 3) := ((FR.at f22 117 3 rfl).trans (FR.at f8 117 3 rfl))
      refine wp_use (m_219 τ20 g21 164 3 cw164.1 cw164.2 (by decide)  _ _ (by omega) (by omega)) ?_
      rintro _ τ39 ⟨z42, rfl, h43, g40, f41, p35, p36, p37, p38⟩
      show WP 343 84 [(0, .ref 117)] [iV z42] _ _ _ _
      refine wp_z_eq jF_343_84 (m_rgb h43 rfl) rfl (pc2 := 87) ?_ ?_
      · intro h44
        clear p36
        refine wp_al1 jF_343_126 rfl rfl (pc2 := 127) ?_
        refine wp_al1 jF_343_127 rfl rfl (pc2 := 128) ?_
        refine wp_gr (b := 165) jF_343_128 kd117 (by decide) (c := 265) rfl rfl rfl (pc2 := 131) ?_
        refine wp_cV (as := [.ref 165]) (rest := []) (a := 117) (mx := 2) (ci := 12) jF_343_131 kd117 (by decide) rfl rfl rfl rfl rfl (by omega) (by omega) rfl (pc2 := 134) ?_
        have b45 := GI.b g40 117 2 kd117 (lo := 0) (hi := 1601) rfl
        have q46 : (τ39.1 117 3) = (σ.1 117 3) := ((FR.at f41 117 3 rfl).trans ((FR.at f22 117 3 rfl).trans (FR.at f8 117 3 rfl)))
        have q47 : (τ39.1 117 5) = (τ20.1 117 5) := (FR.at f41 117 5 rfl)
        refine wp_use (m_219 τ39 g40 165 2 cw165.1 cw165.2 (by decide)  _ _ (by omega) (by omega)) ?_
        rintro _ τ52 ⟨z55, rfl, h56, g53, f54, p48, p49, p50, p51⟩
        show WP 343 134 [(0, .ref 117)] [iV z55] _ _ _ _
        refine wp_z_eq jF_343_134 (m_rgb h56 rfl) rfl (pc2 := 137) ?_ ?_
        · intro h57
          clear p49
          refine wp_al1 jF_343_185 rfl rfl (pc2 := 186) ?_
          refine wp_gi jF_343_186 kd117 (by decide) rfl ((FR.at f54 117 5 rfl).trans (FR.at f41 117 5 rfl)) rfl (pc2 := 189) ?_
          refine wp_z_ne jF_343_189 (m_rgb b30 rfl) rfl (pc2 := 192) ?_ ?_
          · intro h58
            refine wp_ic jF_343_208 rfl (pc2 := 209) ?_
            refine wp_ri jF_343_209 rfl ?_
            have q59 : (dp τ52) = (dp τ20) := ((dp_fr f54 (fun _ => rfl) rfl).trans (dp_fr f41 (fun _ => rfl) rfl))
            have q60 := ws_nn (σ := τ20)
            have q61 : (ws τ52) = (ws τ20) := ((ws_fr f54 (fun _ => rfl) rfl).trans (ws_fr f41 (fun _ => rfl) rfl))
            have q62 : (tt τ52) = (tt τ20) := ((tt_fr f54 (fun _ => rfl) rfl).trans (tt_fr f41 (fun _ => rfl) rfl))
            have q63 : (sq τ52) = (sq τ20) := ((sq_fr f54 (fun _ => rfl) rfl).trans (sq_fr f41 (fun _ => rfl) rfl))
            have b64 := GI.b g53 117 2 kd117 (lo := 0) (hi := 1601) rfl
            have q65 : (τ52.1 117 5) = (τ20.1 117 5) := ((FR.at f54 117 5 rfl).trans (FR.at f41 117 5 rfl))
            have q66 : (τ52.1 117 87) = (τ20.1 117 87) := ((FR.at f54 117 87 rfl).trans (FR.at f41 117 87 rfl))
            have q67 : (τ52.1 117 89) = (τ20.1 117 89) := ((FR.at f54 117 89 rfl).trans (FR.at f41 117 89 rfl))
            have q68 : (qb τ52) = (qb τ20) := ((qb_fr f54 (fun _ => rfl) rfl rfl).trans (qb_fr f41 (fun _ => rfl) rfl rfl))
            exact ⟨0, rfl, ⟨by omega, by omega⟩, g53, (FR.up (FR.up (FR.up f8 f22 sb_Wqp_Wqp) f41 sb_Wtak_Wqp) f54 sb_Wtak_Wqp), (by omega), (by omega), (by omega), (by omega)⟩
          · intro h58
            refine wp_al1 jF_343_192 rfl rfl (pc2 := 193) ?_
            refine wp_cV (as := []) (rest := []) (a := 117) (mx := 2) (ci := 12) jF_343_193 kd117 (by decide) rfl rfl rfl rfl rfl (by omega) (by omega) rfl (pc2 := 196) ?_
            have q69 : (sq τ52) = (sq τ20) := ((sq_fr f54 (fun _ => rfl) rfl).trans (sq_fr f41 (fun _ => rfl) rfl))
            refine wp_use (m_344 τ52 g53   _ _ (by omega) (by omega)) ?_
            rintro _ _ ⟨z73, rfl, h74, rfl, p70⟩
            show WP 343 196 [(0, .ref 117)] [iV z73] _ _ _ _
            refine wp_z_eq jF_343_196 (m_rgb h74 rfl) rfl (pc2 := 199) ?_ ?_
            · intro h75
              refine wp_ic jF_343_208 rfl (pc2 := 209) ?_
              refine wp_ri jF_343_209 rfl ?_
              have q76 : (dp τ52) = (dp τ20) := ((dp_fr f54 (fun _ => rfl) rfl).trans (dp_fr f41 (fun _ => rfl) rfl))
              have q77 := ws_nn (σ := τ20)
              have q78 : (ws τ52) = (ws τ20) := ((ws_fr f54 (fun _ => rfl) rfl).trans (ws_fr f41 (fun _ => rfl) rfl))
              have q79 : (tt τ52) = (tt τ20) := ((tt_fr f54 (fun _ => rfl) rfl).trans (tt_fr f41 (fun _ => rfl) rfl))
              have b80 := GI.b g53 117 2 kd117 (lo := 0) (hi := 1601) rfl
              have q81 : (τ52.1 117 5) = (τ20.1 117 5) := ((FR.at f54 117 5 rfl).trans (FR.at f41 117 5 rfl))
              have q82 : (τ52.1 117 87) = (τ20.1 117 87) := ((FR.at f54 117 87 rfl).trans (FR.at f41 117 87 rfl))
              have q83 : (τ52.1 117 89) = (τ20.1 117 89) := ((FR.at f54 117 89 rfl).trans (FR.at f41 117 89 rfl))
              have q84 : (qb τ52) = (qb τ20) := ((qb_fr f54 (fun _ => rfl) rfl rfl).trans (qb_fr f41 (fun _ => rfl) rfl rfl))
              exact ⟨0, rfl, ⟨by omega, by omega⟩, g53, (FR.up (FR.up (FR.up f8 f22 sb_Wqp_Wqp) f41 sb_Wtak_Wqp) f54 sb_Wtak_Wqp), (by omega), (by omega), (by omega), (by omega)⟩
            · intro h75
              refine wp_al1 jF_343_199 rfl rfl (pc2 := 200) ?_
              refine wp_ic jF_343_200 rfl (pc2 := 201) ?_
              refine wp_al1 jF_343_201 rfl rfl (pc2 := 202) ?_
              have b85 := GI.b g53 117 2 kd117 (lo := 0) (hi := 1601) rfl
              refine wp_gi jF_343_202 kd117 (by decide) rfl rfl rfl (pc2 := 205) ?_
              refine wp_cV (as := [iV 1, iV (τ52.1 117 2)]) (rest := []) (a := 117) (mx := 3) (ci := 12) jF_343_205 kd117 (by decide) rfl rfl rfl rfl rfl (by omega) (by omega) rfl (pc2 := 208) ?_
              have q86 : (τ52.1 117 5) = (τ20.1 117 5) := ((FR.at f54 117 5 rfl).trans (FR.at f41 117 5 rfl))
              refine wp_use (m_218 τ52 g53 1 (by omega) (by omega) (τ52.1 117 2) (by omega) (by omega)  _ _ (by omega) (by omega)) ?_
              rintro _ τ89 ⟨rfl, g90, f91, p87, p88⟩
              clear p87
              replace p88 := p88 (by omega)
              show WP 343 208 [(0, .ref 117)] [] _ _ _ _
              refine wp_ic jF_343_208 rfl (pc2 := 209) ?_
              refine wp_ri jF_343_209 rfl ?_
              have q92 : (dp τ89) = (dp τ20) := ((dp_fr f91 (fun _ => rfl) rfl).trans ((dp_fr f54 (fun _ => rfl) rfl).trans (dp_fr f41 (fun _ => rfl) rfl)))
              have q93 := ws_nn (σ := τ20)
              have q94 : (ws τ89) = (ws τ20) := ((ws_fr f91 (fun _ => rfl) rfl).trans ((ws_fr f54 (fun _ => rfl) rfl).trans (ws_fr f41 (fun _ => rfl) rfl)))
              have q95 : (tt τ89) = (tt τ20) := ((tt_fr f91 (fun _ => rfl) rfl).trans ((tt_fr f54 (fun _ => rfl) rfl).trans (tt_fr f41 (fun _ => rfl) rfl)))
              have q96 : (sq τ89) = (sq τ20) := ((sq_fr f91 (fun _ => rfl) rfl).trans ((sq_fr f54 (fun _ => rfl) rfl).trans (sq_fr f41 (fun _ => rfl) rfl)))
              have q97 : (τ89.1 117 2) = (τ52.1 117 2) := (FR.at f91 117 2 rfl)
              have b98 := GI.b g90 117 5 kd117 (lo := (-2147483648)) (hi := 2147483647) rfl
              have q99 : (τ89.1 117 87) = (τ20.1 117 87) := ((FR.at f91 117 87 rfl).trans ((FR.at f54 117 87 rfl).trans (FR.at f41 117 87 rfl)))
              have q100 : (τ89.1 117 89) = (τ20.1 117 89) := ((FR.at f91 117 89 rfl).trans ((FR.at f54 117 89 rfl).trans (FR.at f41 117 89 rfl)))
              have q101 : (qb τ89) = (qb τ20) := ((qb_fr f91 (fun _ => rfl) rfl rfl).trans ((qb_fr f54 (fun _ => rfl) rfl rfl).trans (qb_fr f41 (fun _ => rfl) rfl rfl)))
              exact ⟨0, rfl, ⟨by omega, by omega⟩, g90, (FR.up (FR.up (FR.up (FR.up f8 f22 sb_Wqp_Wqp) f41 sb_Wtak_Wqp) f54 sb_Wtak_Wqp) f91 sb_Wbad_Wqp), (by omega), (by omega), (by omega), (by omega)⟩
        · intro h57
          replace p49 := p49 (by omega)
          refine wp_loop (α := Unit) (fun a => [(0, .ref 117)]) (fun a τ => GI τ ∧ FR Wqd τ52 τ ∧ ((τ.1 117 5) = 0) ∧ ((tt τ) = 1) ∧ ((dp τ) - (ws τ) = (dp σ) - (ws σ)) ∧ ((σ.1 117 2) ≤ (τ.1 117 2)) ∧ ((τ.1 117 87) + (τ.1 117 89) + 1 ≤ (τ.1 117 2))) (fun a τ => Int.toNat ((τ.1 117 89))) () τ52 ?_ ?_
          · skip
            have q102 : (dp τ52) = (dp τ20) := ((dp_fr f54 (fun _ => rfl) rfl).trans (dp_fr f41 (fun _ => rfl) rfl))
            have q103 := ws_nn (σ := τ20)
            have q104 : (ws τ52) = (ws τ20) := ((ws_fr f54 (fun _ => rfl) rfl).trans (ws_fr f41 (fun _ => rfl) rfl))
            have q105 : (tt τ52) = (tt τ20) := ((tt_fr f54 (fun _ => rfl) rfl).trans (tt_fr f41 (fun _ => rfl) rfl))
            have b106 := GI.b g53 117 2 kd117 (lo := 0) (hi := 1601) rfl
            have q107 : (τ52.1 117 5) = (τ20.1 117 5) := ((FR.at f54 117 5 rfl).trans (FR.at f41 117 5 rfl))
            have q108 : (τ52.1 117 87) = (τ20.1 117 87) := ((FR.at f54 117 87 rfl).trans (FR.at f41 117 87 rfl))
            have q109 : (τ52.1 117 89) = (τ20.1 117 89) := ((FR.at f54 117 89 rfl).trans (FR.at f41 117 89 rfl))
            exact ⟨g53, FR.rf, (by omega), (by omega), (by omega), (by omega), (by omega)⟩
          · rintro ⟨⟩ τ110 ⟨g111, f112, p113, p114, p115, p116, p117⟩ ih118
            have q119 := ws_nn (σ := τ110)
            have b120 := GI.b g53 117 2 kd117 (lo := 0) (hi := 1601) rfl
            have q121 : (τ110.1 117 2) = (τ52.1 117 2) := (FR.at f112 117 2 rfl)
            have q122 : (τ110.1 117 5) = (τ20.1 117 5) := ((FR.at f112 117 5 rfl).trans ((FR.at f54 117 5 rfl).trans (FR.at f41 117 5 rfl)))
            have b123 := GI.b g111 117 87 kd117 (lo := 0) (hi := 1690) rfl
            have b124 := GI.b g111 117 89 kd117 (lo := 0) (hi := 1690) rfl
            clear p23 p24 p25 p26 p27 p35 p37 p38 p48 p49 p50 p51
            show WP 343 137 [(0, .ref 117)] [] _ _ _ _
            show WP 343 137 [(0, .ref 117)] [] _ _ _ _
            refine wp_al1 jF_343_137 rfl rfl (pc2 := 138) ?_
            refine wp_bi jF_343_138 (by decide) rfl (pc2 := 140) ?_
            refine wp_cV (as := [iV 10]) (rest := []) (a := 117) (mx := 2) (ci := 12) jF_343_140 kd117 (by decide) rfl rfl rfl rfl rfl (by omega) (by omega) rfl (pc2 := 143) ?_
            refine wp_use (m_341_n τ110 g111 10 (by omega) (by omega)  _ _ (by omega) (by omega)) ?_
            rintro _ _ ⟨z128, rfl, h129, rfl, p125⟩
            show WP 343 143 [(0, .ref 117)] [iV z128] _ _ _ _
            refine wp_z_ne jF_343_143 (m_rgb h129 rfl) rfl (pc2 := 146) ?_ ?_
            · intro h130
              replace p125 := p125 (by omega)
              refine wp_al1 jF_343_155 rfl rfl (pc2 := 156) ?_
              refine wp_cV (as := []) (rest := []) (a := 117) (mx := 1) (ci := 12) jF_343_156 kd117 (by decide) rfl rfl rfl rfl rfl (by omega) (by omega) rfl (pc2 := 159) ?_
              refine wp_use (m_336_t τ110 g111  (by omega) (by omega) (by omega) (by omega) (by omega) _ _ (by omega) (by omega)) ?_
              rintro _ τ136 ⟨rfl, g137, f138, p131, p132, p133, p134, p135⟩
              show WP 343 159 [(0, .ref 117)] [] _ _ _ _
              refine wp_go jF_343_159 ?_
              have q139 := ws_nn (σ := τ136)
              have q140 : (τ136.1 117 2) = (τ52.1 117 2) := ((FR.at f138 117 2 rfl).trans (FR.at f112 117 2 rfl))
              have q141 : (τ136.1 117 5) = (τ20.1 117 5) := ((FR.at f138 117 5 rfl).trans ((FR.at f112 117 5 rfl).trans ((FR.at f54 117 5 rfl).trans (FR.at f41 117 5 rfl))))
              have b142 := GI.b g137 117 87 kd117 (lo := 0) (hi := 1690) rfl
              have b143 := GI.b g137 117 89 kd117 (lo := 0) (hi := 1690) rfl
              exact ih118 () τ136 ⟨g137, (FR.up f112 f138 sb_Wqd_Wqd), (by omega), (by omega), (by omega), (by omega), (by omega)⟩ (by show Int.toNat ((τ136.1 117 89)) < Int.toNat ((τ110.1 117 89)); omega)
            · intro h130
              clear p125
              refine wp_al1 jF_343_146 rfl rfl (pc2 := 147) ?_
              refine wp_bi jF_343_147 (by decide) rfl (pc2 := 149) ?_
              refine wp_cV (as := [iV 11]) (rest := []) (a := 117) (mx := 2) (ci := 12) jF_343_149 kd117 (by decide) rfl rfl rfl rfl rfl (by omega) (by omega) rfl (pc2 := 152) ?_
              refine wp_use (m_341_n τ110 g111 11 (by omega) (by omega)  _ _ (by omega) (by omega)) ?_
              rintro _ _ ⟨z147, rfl, h148, rfl, p144⟩
              show WP 343 152 [(0, .ref 117)] [iV z147] _ _ _ _
              refine wp_z_eq jF_343_152 (m_rgb h148 rfl) rfl (pc2 := 155) ?_ ?_
              · intro h149
                clear p144
                refine wp_al1 jF_343_162 rfl rfl (pc2 := 163) ?_
                refine wp_gr (b := 177) jF_343_163 kd117 (by decide) (c := 277) rfl rfl rfl (pc2 := 166) ?_
                refine wp_al1 jF_343_166 rfl rfl (pc2 := 167) ?_
                refine wp_gi jF_343_167 kd117 (by decide) rfl rfl rfl (pc2 := 170) ?_
                refine wp_bi jF_343_170 (by decide) rfl (pc2 := 172) ?_
                refine wp_iast (n := 1700) jF_343_172 kd177 (by decide) rfl rfl (by omega) (by omega) rfl (pc2 := 173) g111 (lo := (-2147483648)) (hi := 2147483647) rfl (by omega) (by omega) ?_
                intro τ150 g151 f152 e153
                refine wp_al1 jF_343_173 rfl rfl (pc2 := 174) ?_
                refine wp_dup jF_343_174 rfl rfl (pc2 := 175) ?_
                refine wp_gi jF_343_175 kd117 (by decide) rfl (FRw.na f152 (by decide)) rfl (pc2 := 178) ?_
                refine wp_ic jF_343_178 rfl (pc2 := 179) ?_
                refine wp_add jF_343_179 rfl (pc2 := 180) ?_
                refine wp_pi jF_343_180 kd117 (by decide) rfl rfl rfl (pc2 := 183) g151 (lo := 0) (hi := 1690) rfl (by omega) (by omega) ?_
                intro τ154 g155 f156 e157
                refine wp_ic jF_343_183 rfl (pc2 := 184) ?_
                refine wp_ri jF_343_184 rfl ?_
                have q158 : (dp τ154) = (dp τ110) := ((dp_wr f156 (by decide)).trans (dp_wa f152 (by decide)))
                have q159 := ws_nn (σ := τ154)
                have q160 : (τ154.1 117 2) = (τ52.1 117 2) := ((FRw.nj f156 (by decide)).trans ((FRw.na f152 (by decide)).trans (FR.at f112 117 2 rfl)))
                have q161 : (τ154.1 117 5) = (τ20.1 117 5) := ((FRw.nj f156 (by decide)).trans ((FRw.na f152 (by decide)).trans ((FR.at f112 117 5 rfl).trans ((FR.at f54 117 5 rfl).trans (FR.at f41 117 5 rfl)))))
                have q162 : (τ154.1 117 87) = (τ110.1 117 87) := ((FRw.nj f156 (by decide)).trans (FRw.na f152 (by decide)))
                have q163 : (τ154.1 117 89) = ((τ110.1 117 89) + 1) := e157
                have b164 := GI.b hg 117 91 kd117 (lo := 0) (hi := 1690) rfl
                have q165 : (τ110.1 117 91) = (σ.1 117 91) := ((FR.at f112 117 91 rfl).trans ((FR.at f54 117 91 rfl).trans ((FR.at f41 117 91 rfl).trans ((FR.at f22 117 91 rfl).trans (FR.at f8 117 91 rfl)))))
                have q166 : τ110.1 117 89 = (τ110.1 117 89) := rfl
                have q167 := psh (σ := τ110) f152 e153 (congrArg Int.toNat q166.symm) f156 (by have z := e157; omega) (by omega)
                have q168 := q167.1 (by omega)
                have q169 := q167.2.2.2.1 (by omega) (by omega)
                clear q167
                exact ⟨1, rfl, ⟨by omega, by omega⟩, g155, (FR.w (FR.w (FR.up (FR.up (FR.up (FR.up f8 f22 sb_Wqp_Wqp) f41 sb_Wtak_Wqp) f54 sb_Wtak_Wqp) f112 sb_Wqd_Wqp) f152 rfl) f156 rfl), (by omega), (by omega), (by omega), (by omega)⟩
              · intro h149
                replace p144 := p144 (by omega)
                refine wp_al1 jF_343_155 rfl rfl (pc2 := 156) ?_
                refine wp_cV (as := []) (rest := []) (a := 117) (mx := 1) (ci := 12) jF_343_156 kd117 (by decide) rfl rfl rfl rfl rfl (by omega) (by omega) rfl (pc2 := 159) ?_
                refine wp_use (m_336_t τ110 g111  (by omega) (by omega) (by omega) (by omega) (by omega) _ _ (by omega) (by omega)) ?_
                rintro _ τ175 ⟨rfl, g176, f177, p170, p171, p172, p173, p174⟩
                show WP 343 159 [(0, .ref 117)] [] _ _ _ _
                refine wp_go jF_343_159 ?_
                have q178 := ws_nn (σ := τ175)
                have q179 : (τ175.1 117 2) = (τ52.1 117 2) := ((FR.at f177 117 2 rfl).trans (FR.at f112 117 2 rfl))
                have q180 : (τ175.1 117 5) = (τ20.1 117 5) := ((FR.at f177 117 5 rfl).trans ((FR.at f112 117 5 rfl).trans ((FR.at f54 117 5 rfl).trans (FR.at f41 117 5 rfl))))
                have b181 := GI.b g176 117 87 kd117 (lo := 0) (hi := 1690) rfl
                have b182 := GI.b g176 117 89 kd117 (lo := 0) (hi := 1690) rfl
                exact ih118 () τ175 ⟨g176, (FR.up f112 f177 sb_Wqd_Wqd), (by omega), (by omega), (by omega), (by omega), (by omega)⟩ (by show Int.toNat ((τ175.1 117 89)) < Int.toNat ((τ110.1 117 89)); omega)
      · intro h44
        replace p36 := p36 (by omega)
        refine wp_loop (α := Unit) (fun a => [(0, .ref 117)]) (fun a τ => GI τ ∧ FR Wqd τ39 τ ∧ ((τ.1 117 5) = 0) ∧ ((tt τ) = 1) ∧ ((dp τ) - (ws τ) = (dp σ) - (ws σ)) ∧ ((σ.1 117 2) ≤ (τ.1 117 2)) ∧ ((τ.1 117 87) + (τ.1 117 89) + 1 ≤ (τ.1 117 2))) (fun a τ => Int.toNat ((τ.1 117 89))) () τ39 ?_ ?_
        · skip
          have q183 : (dp τ39) = (dp τ20) := (dp_fr f41 (fun _ => rfl) rfl)
          have q184 := ws_nn (σ := τ20)
          have q185 : (ws τ39) = (ws τ20) := (ws_fr f41 (fun _ => rfl) rfl)
          have q186 : (tt τ39) = (tt τ20) := (tt_fr f41 (fun _ => rfl) rfl)
          have b187 := GI.b g40 117 2 kd117 (lo := 0) (hi := 1601) rfl
          have q188 : (τ39.1 117 5) = (τ20.1 117 5) := (FR.at f41 117 5 rfl)
          have q189 : (τ39.1 117 87) = (τ20.1 117 87) := (FR.at f41 117 87 rfl)
          have q190 : (τ39.1 117 89) = (τ20.1 117 89) := (FR.at f41 117 89 rfl)
          exact ⟨g40, FR.rf, (by omega), (by omega), (by omega), (by omega), (by omega)⟩
        · rintro ⟨⟩ τ191 ⟨g192, f193, p194, p195, p196, p197, p198⟩ ih199
          have q200 := ws_nn (σ := τ191)
          have b201 := GI.b g40 117 2 kd117 (lo := 0) (hi := 1601) rfl
          have q202 : (τ191.1 117 2) = (τ39.1 117 2) := (FR.at f193 117 2 rfl)
          have q203 : (τ191.1 117 5) = (τ20.1 117 5) := ((FR.at f193 117 5 rfl).trans (FR.at f41 117 5 rfl))
          have b204 := GI.b g192 117 87 kd117 (lo := 0) (hi := 1690) rfl
          have b205 := GI.b g192 117 89 kd117 (lo := 0) (hi := 1690) rfl
          clear p23 p24 p25 p26 p27 p35 p36 p37 p38
          show WP 343 87 [(0, .ref 117)] [] _ _ _ _
          show WP 343 87 [(0, .ref 117)] [] _ _ _ _
          refine wp_al1 jF_343_87 rfl rfl (pc2 := 88) ?_
          refine wp_bi jF_343_88 (by decide) rfl (pc2 := 90) ?_
          refine wp_cV (as := [iV 10]) (rest := []) (a := 117) (mx := 2) (ci := 12) jF_343_90 kd117 (by decide) rfl rfl rfl rfl rfl (by omega) (by omega) rfl (pc2 := 93) ?_
          refine wp_use (m_341_n τ191 g192 10 (by omega) (by omega)  _ _ (by omega) (by omega)) ?_
          rintro _ _ ⟨z209, rfl, h210, rfl, p206⟩
          show WP 343 93 [(0, .ref 117)] [iV z209] _ _ _ _
          refine wp_z_eq jF_343_93 (m_rgb h210 rfl) rfl (pc2 := 96) ?_ ?_
          · intro h211
            clear p206
            refine wp_al1 jF_343_103 rfl rfl (pc2 := 104) ?_
            refine wp_gr (b := 177) jF_343_104 kd117 (by decide) (c := 277) rfl rfl rfl (pc2 := 107) ?_
            refine wp_al1 jF_343_107 rfl rfl (pc2 := 108) ?_
            refine wp_gi jF_343_108 kd117 (by decide) rfl rfl rfl (pc2 := 111) ?_
            refine wp_bi jF_343_111 (by decide) rfl (pc2 := 113) ?_
            refine wp_iast (n := 1700) jF_343_113 kd177 (by decide) rfl rfl (by omega) (by omega) rfl (pc2 := 114) g192 (lo := (-2147483648)) (hi := 2147483647) rfl (by omega) (by omega) ?_
            intro τ212 g213 f214 e215
            refine wp_al1 jF_343_114 rfl rfl (pc2 := 115) ?_
            refine wp_dup jF_343_115 rfl rfl (pc2 := 116) ?_
            refine wp_gi jF_343_116 kd117 (by decide) rfl (FRw.na f214 (by decide)) rfl (pc2 := 119) ?_
            refine wp_ic jF_343_119 rfl (pc2 := 120) ?_
            refine wp_add jF_343_120 rfl (pc2 := 121) ?_
            refine wp_pi jF_343_121 kd117 (by decide) rfl rfl rfl (pc2 := 124) g213 (lo := 0) (hi := 1690) rfl (by omega) (by omega) ?_
            intro τ216 g217 f218 e219
            refine wp_ic jF_343_124 rfl (pc2 := 125) ?_
            refine wp_ri jF_343_125 rfl ?_
            have q220 : (dp τ216) = (dp τ191) := ((dp_wr f218 (by decide)).trans (dp_wa f214 (by decide)))
            have q221 := ws_nn (σ := τ216)
            have q222 : (τ216.1 117 2) = (τ39.1 117 2) := ((FRw.nj f218 (by decide)).trans ((FRw.na f214 (by decide)).trans (FR.at f193 117 2 rfl)))
            have q223 : (τ216.1 117 5) = (τ20.1 117 5) := ((FRw.nj f218 (by decide)).trans ((FRw.na f214 (by decide)).trans ((FR.at f193 117 5 rfl).trans (FR.at f41 117 5 rfl))))
            have q224 : (τ216.1 117 87) = (τ191.1 117 87) := ((FRw.nj f218 (by decide)).trans (FRw.na f214 (by decide)))
            have q225 : (τ216.1 117 89) = ((τ191.1 117 89) + 1) := e219
            have b226 := GI.b hg 117 91 kd117 (lo := 0) (hi := 1690) rfl
            have q227 : (τ191.1 117 91) = (σ.1 117 91) := ((FR.at f193 117 91 rfl).trans ((FR.at f41 117 91 rfl).trans ((FR.at f22 117 91 rfl).trans (FR.at f8 117 91 rfl))))
            have q228 : τ191.1 117 89 = (τ191.1 117 89) := rfl
            have q229 := psh (σ := τ191) f214 e215 (congrArg Int.toNat q228.symm) f218 (by have z := e219; omega) (by omega)
            have q230 := q229.1 (by omega)
            have q231 := q229.2.2.2.1 (by omega) (by omega)
            clear q229
            exact ⟨1, rfl, ⟨by omega, by omega⟩, g217, (FR.w (FR.w (FR.up (FR.up (FR.up f8 f22 sb_Wqp_Wqp) f41 sb_Wtak_Wqp) f193 sb_Wqd_Wqp) f214 rfl) f218 rfl), (by omega), (by omega), (by omega), (by omega)⟩
          · intro h211
            replace p206 := p206 (by omega)
            refine wp_al1 jF_343_96 rfl rfl (pc2 := 97) ?_
            refine wp_cV (as := []) (rest := []) (a := 117) (mx := 1) (ci := 12) jF_343_97 kd117 (by decide) rfl rfl rfl rfl rfl (by omega) (by omega) rfl (pc2 := 100) ?_
            refine wp_use (m_336_t τ191 g192  (by omega) (by omega) (by omega) (by omega) (by omega) _ _ (by omega) (by omega)) ?_
            rintro _ τ237 ⟨rfl, g238, f239, p232, p233, p234, p235, p236⟩
            show WP 343 100 [(0, .ref 117)] [] _ _ _ _
            refine wp_go jF_343_100 ?_
            have q240 := ws_nn (σ := τ237)
            have q241 : (τ237.1 117 2) = (τ39.1 117 2) := ((FR.at f239 117 2 rfl).trans (FR.at f193 117 2 rfl))
            have q242 : (τ237.1 117 5) = (τ20.1 117 5) := ((FR.at f239 117 5 rfl).trans ((FR.at f193 117 5 rfl).trans (FR.at f41 117 5 rfl)))
            have b243 := GI.b g238 117 87 kd117 (lo := 0) (hi := 1690) rfl
            have b244 := GI.b g238 117 89 kd117 (lo := 0) (hi := 1690) rfl
            exact ih199 () τ237 ⟨g238, (FR.up f193 f239 sb_Wqd_Wqd), (by omega), (by omega), (by omega), (by omega), (by omega)⟩ (by show Int.toNat ((τ237.1 117 89)) < Int.toNat ((τ191.1 117 89)); omega)
    · intro jn245
      refine wp_al1 jF_343_0 rfl rfl (pc2 := 1) ?_
      refine wp_gi jF_343_1 kd117 (by decide) rfl rfl rfl (pc2 := 4) ?_
      refine wp_z_ne jF_343_4 (m_rgb b17 rfl) rfl (pc2 := 7) ?_ ?_
      · intro h246
        exact jn245 () τ6 ⟨g7, FR.rf, (by omega), (by omega), (by omega), (by omega), (by omega)⟩
      · intro h246
        refine wp_al1 jF_343_7 rfl rfl (pc2 := 8) ?_
        refine wp_cV (as := []) (rest := []) (a := 117) (mx := 1) (ci := 12) jF_343_8 kd117 (by decide) rfl rfl rfl rfl rfl (by omega) (by omega) rfl (pc2 := 11) ?_
        have b247 := GI.b hg 117 3 kd117 (lo := 0) (hi := 1600) rfl
        have q248 : (τ6.1 117 3) = (σ.1 117 3) := (FR.at f8 117 3 rfl)
        refine wp_use (m_216 τ6 g7   _ _ (by omega) (by omega)) ?_
        rintro _ τ255 ⟨z258, rfl, h259, g256, f257, p249, p250, p251, p252, p253, p254⟩
        have b260 := GI.b hg 118 (τ255.1 117 2).toNat kd118 (lo := 0) (hi := 255) rfl
        have q261 : (τ6.1 118 (τ255.1 117 2).toNat) = (σ.1 118 (τ255.1 117 2).toNat) := (FR.at f8 118 (τ255.1 117 2).toNat rfl)
        show WP 343 11 [(0, .ref 117)] [iV z258] _ _ _ _
        refine wp_bi jF_343_11 (by decide) rfl (pc2 := 13) ?_
        refine wp_i_ne jF_343_13 (m_rgb h259 rfl) (m_rgl rfl) rfl (pc2 := 16) ?_ ?_
        · intro h262
          have q263 : (dp τ255) = (dp τ6) := (dp_fr f257 (fun _ => rfl) rfl)
          have q264 := ws_nn (σ := τ6)
          have q265 : (ws τ255) = (ws τ6) := (ws_fr f257 (fun _ => rfl) rfl)
          have q266 : (tt τ255) = (tt τ6) := (tt_fr f257 (fun _ => rfl) rfl)
          have b267 := GI.b g256 117 2 kd117 (lo := 0) (hi := 1601) rfl
          have q268 : (τ255.1 117 5) = (τ6.1 117 5) := (FR.at f257 117 5 rfl)
          have q269 : (τ255.1 117 87) = (τ6.1 117 87) := (FR.at f257 117 87 rfl)
          have q270 : (τ255.1 117 89) = (τ6.1 117 89) := (FR.at f257 117 89 rfl)
          exact jn245 () τ255 ⟨g256, (FR.up FR.rf f257 sb_Wat_Wqp), (by omega), (by omega), (by omega), (by omega), (by omega)⟩
        · intro h262
          replace p249 := p249 (by omega)
          replace p254 := p254 (by omega)
          refine wp_al1 jF_343_16 rfl rfl (pc2 := 17) ?_
          refine wp_cV (as := []) (rest := []) (a := 117) (mx := 2) (ci := 12) jF_343_17 kd117 (by decide) rfl rfl rfl rfl rfl (by omega) (by omega) rfl (pc2 := 20) ?_
          have q271 : (sq τ255) = (sq τ6) := (sq_fr f257 (fun _ => rfl) rfl)
          refine wp_use (m_344 τ255 g256   _ _ (by omega) (by omega)) ?_
          rintro _ _ ⟨z275, rfl, h276, rfl, p272⟩
          show WP 343 20 [(0, .ref 117)] [iV z275] _ _ _ _
          refine wp_z_eq jF_343_20 (m_rgb h276 rfl) rfl (pc2 := 23) ?_ ?_
          · intro h277
            have q278 : (dp τ255) = (dp τ6) := (dp_fr f257 (fun _ => rfl) rfl)
            have q279 := ws_nn (σ := τ6)
            have q280 : (ws τ255) = (ws τ6) := (ws_fr f257 (fun _ => rfl) rfl)
            have q281 : (tt τ255) = (tt τ6) := (tt_fr f257 (fun _ => rfl) rfl)
            have b282 := GI.b g256 117 2 kd117 (lo := 0) (hi := 1601) rfl
            have q283 : (τ255.1 117 5) = (τ6.1 117 5) := (FR.at f257 117 5 rfl)
            have q284 : (τ255.1 117 87) = (τ6.1 117 87) := (FR.at f257 117 87 rfl)
            have q285 : (τ255.1 117 89) = (τ6.1 117 89) := (FR.at f257 117 89 rfl)
            exact jn245 () τ255 ⟨g256, (FR.up FR.rf f257 sb_Wat_Wqp), (by omega), (by omega), (by omega), (by omega), (by omega)⟩
          · intro h277
            refine wp_al1 jF_343_23 rfl rfl (pc2 := 24) ?_
            refine wp_dup jF_343_24 rfl rfl (pc2 := 25) ?_
            have b286 := GI.b g256 117 2 kd117 (lo := 0) (hi := 1601) rfl
            refine wp_gi jF_343_25 kd117 (by decide) rfl rfl rfl (pc2 := 28) ?_
            refine wp_ic jF_343_28 rfl (pc2 := 29) ?_
            refine wp_add jF_343_29 rfl (pc2 := 30) ?_
            refine wp_pi jF_343_30 kd117 (by decide) rfl rfl rfl (pc2 := 33) g256 (lo := 0) (hi := 1601) rfl (by omega) (by omega) ?_
            intro τ287 g288 f289 e290
            have q291 : (τ287.1 117 87) = (τ6.1 117 87) := ((FRw.nj f289 (by decide)).trans (FR.at f257 117 87 rfl))
            have q292 : (τ287.1 117 89) = (τ6.1 117 89) := ((FRw.nj f289 (by decide)).trans (FR.at f257 117 89 rfl))
            refine wp_loop (α := Unit) (fun a => [(0, .ref 117)]) (fun a τ => GI τ ∧ FR Wqd τ287 τ ∧ ((tt τ) = 1) ∧ ((dp τ) - (ws τ) = (dp σ) - (ws σ)) ∧ ((τ.1 117 87) + (τ.1 117 89) = (τ287.1 117 87) + (τ287.1 117 89)) ∧ ((sq τ) = 1)) (fun a τ => Int.toNat ((τ.1 117 89))) () τ287 ?_ ?_
            · skip
              have q293 : (dp τ287) = (dp τ6) := ((dp_wr f289 (by decide)).trans (dp_fr f257 (fun _ => rfl) rfl))
              have q294 := ws_nn (σ := τ6)
              have q295 : (ws τ287) = (ws τ6) := ((ws_wr f289 (by decide)).trans (ws_fr f257 (fun _ => rfl) rfl))
              have q296 : (tt τ287) = (tt τ6) := ((tt_wr f289 (by decide)).trans (tt_fr f257 (fun _ => rfl) rfl))
              have q297 : (sq τ287) = (sq τ6) := ((sq_wr f289 (by decide)).trans (sq_fr f257 (fun _ => rfl) rfl))
              have q298 : (qb τ287) = (qb τ6) := ((qb_wr f289 (by decide)).trans (qb_fr f257 (fun _ => rfl) rfl rfl))
              exact ⟨g288, FR.rf, (by omega), (by omega), (by omega), (by omega)⟩
            · rintro ⟨⟩ τ299 ⟨g300, f301, p302, p303, p304, p305⟩ ih306
              have q307 := ws_nn (σ := τ299)
              have b308 := GI.b g300 117 87 kd117 (lo := 0) (hi := 1690) rfl
              have b309 := GI.b g300 117 89 kd117 (lo := 0) (hi := 1690) rfl
              show WP 343 33 [(0, .ref 117)] [] _ _ _ _
              show WP 343 33 [(0, .ref 117)] [] _ _ _ _
              refine wp_al1 jF_343_33 rfl rfl (pc2 := 34) ?_
              refine wp_bi jF_343_34 (by decide) rfl (pc2 := 36) ?_
              refine wp_cV (as := [iV 25]) (rest := []) (a := 117) (mx := 2) (ci := 12) jF_343_36 kd117 (by decide) rfl rfl rfl rfl rfl (by omega) (by omega) rfl (pc2 := 39) ?_
              refine wp_use (m_341 τ299 g300 25 (by omega) (by omega)  _ _ (by omega) (by omega)) ?_
              rintro _ _ ⟨z314, rfl, h315, rfl, p310, p311⟩
              show WP 343 39 [(0, .ref 117)] [iV z314] _ _ _ _
              refine wp_z_ne jF_343_39 (m_rgb h315 rfl) rfl (pc2 := 42) ?_ ?_
              · intro h316
                replace p310 := p310 (by omega)
                clear p311
                refine wp_al1 jF_343_49 rfl rfl (pc2 := 50) ?_
                refine wp_dup jF_343_50 rfl rfl (pc2 := 51) ?_
                refine wp_gi jF_343_51 kd117 (by decide) rfl rfl rfl (pc2 := 54) ?_
                refine wp_ic jF_343_54 rfl (pc2 := 55) ?_
                refine wp_sub jF_343_55 rfl (pc2 := 56) ?_
                refine wp_pi jF_343_56 kd117 (by decide) rfl rfl rfl (pc2 := 59) g300 (lo := 0) (hi := 1690) rfl (by omega) (by omega) ?_
                intro τ317 g318 f319 e320
                refine wp_al1 jF_343_59 rfl rfl (pc2 := 60) ?_
                refine wp_dup jF_343_60 rfl rfl (pc2 := 61) ?_
                have b321 := GI.b g7 117 90 kd117 (lo := (-2147483648)) (hi := 2147483647) rfl
                refine wp_gi jF_343_61 kd117 (by decide) rfl ((FRw.nj f319 (by decide)).trans ((FR.at f301 117 90 rfl).trans ((FRw.nj f289 (by decide)).trans (FR.at f257 117 90 rfl)))) rfl (pc2 := 64) ?_
                refine wp_ic jF_343_64 rfl (pc2 := 65) ?_
                refine wp_any2 (pc2 := 66) jF_343_65 rfl rfl ?_
                intro z322 h323
                refine wp_pi jF_343_66 kd117 (by decide) rfl rfl rfl (pc2 := 69) g318 (lo := (-2147483648)) (hi := 2147483647) rfl (by omega) (by omega) ?_
                intro τ324 g325 f326 e327
                have b328 := GI.b hg 117 91 kd117 (lo := 0) (hi := 1690) rfl
                have q329 : (τ299.1 117 91) = (σ.1 117 91) := ((FR.at f301 117 91 rfl).trans ((FRw.nj f289 (by decide)).trans ((FR.at f257 117 91 rfl).trans (FR.at f8 117 91 rfl))))
                have b330 := GI.b g7 177 ((τ299.1 117 89) - 1).toNat kd177 (lo := (-2147483648)) (hi := 2147483647) rfl
                have q331 : (tq τ299) = (τ6.1 177 ((τ299.1 117 89) - 1).toNat) := ((tq_e (σ := τ299)).trans (congrArg (fun z : Int => τ299.1 177 (z - 1).toNat) (show (τ299.1 117 89) = (τ299.1 117 89) from rfl))).trans ((FR.at f301 177 ((τ299.1 117 89) - 1).toNat rfl).trans ((FRw.na f289 (by decide)).trans (FR.at f257 177 ((τ299.1 117 89) - 1).toNat rfl)))
                have q332 : (tq τ299) = 25 := by omega
                have q333 := pop f319 e320 (by omega)
                have q334 := q333.2.1 (by omega)
                have q335 := q333.2.2.1 (by omega)
                clear q333
                refine wp_al1 jF_343_69 rfl rfl (pc2 := 70) ?_
                refine wp_cV (as := []) (rest := []) (a := 117) (mx := 1) (ci := 12) jF_343_70 kd117 (by decide) rfl rfl rfl rfl rfl (by omega) (by omega) rfl (pc2 := 73) ?_
                have q336 : (dp τ324) = (dp τ299) := ((dp_wr f326 (by decide)).trans (dp_wr f319 (by decide)))
                have q337 := ws_nn (σ := τ317)
                have q338 : (ws τ324) = (ws τ317) := (ws_wr f326 (by decide))
                have q339 : (tt τ324) = (tt τ317) := (tt_wr f326 (by decide))
                have q340 : (sq τ324) = (sq τ317) := (sq_wr f326 (by decide))
                have q341 : (τ324.1 117 5) = (τ6.1 117 5) := ((FRw.nj f326 (by decide)).trans ((FRw.nj f319 (by decide)).trans ((FR.at f301 117 5 rfl).trans ((FRw.nj f289 (by decide)).trans (FR.at f257 117 5 rfl)))))
                have q342 : (τ324.1 117 87) = (τ299.1 117 87) := ((FRw.nj f326 (by decide)).trans (FRw.nj f319 (by decide)))
                have q343 : (τ324.1 117 89) = ((τ299.1 117 89) - 1) := ((FRw.nj f326 (by decide)).trans e320)
                refine wp_use (m_342 τ324 g325  (by omega) (by omega) (by omega) _ _ (by omega) (by omega)) ?_
                rintro _ τ348 ⟨rfl, g349, f350, p344, p345, p346, p347⟩
                replace p345 := p345 (by omega)
                replace p346 := p346 (by omega)
                replace p347 := p347 (by omega)
                show WP 343 73 [(0, .ref 117)] [] _ _ _ _
                refine wp_go jF_343_73 ?_
                have q351 := ws_nn (σ := τ348)
                have q352 : (τ348.1 117 2) = ((τ255.1 117 2) + 1) := ((FR.at f350 117 2 rfl).trans ((FRw.nj f326 (by decide)).trans ((FRw.nj f319 (by decide)).trans ((FR.at f301 117 2 rfl).trans e290))))
                have q353 : (τ348.1 117 5) = (τ6.1 117 5) := ((FR.at f350 117 5 rfl).trans ((FRw.nj f326 (by decide)).trans ((FRw.nj f319 (by decide)).trans ((FR.at f301 117 5 rfl).trans ((FRw.nj f289 (by decide)).trans (FR.at f257 117 5 rfl))))))
                have b354 := GI.b g349 117 87 kd117 (lo := 0) (hi := 1690) rfl
                have b355 := GI.b g349 117 89 kd117 (lo := 0) (hi := 1690) rfl
                exact ih14 () τ348 ⟨g349, (FR.up (FR.w (FR.w (FR.up (FR.w (FR.up f8 f257 sb_Wat_Wqp) f289 rfl) f301 sb_Wqd_Wqp) f319 rfl) f326 rfl) f350 sb_Wqe_Wqp), (by omega), (by omega), (by omega), (by omega), (by omega)⟩ (by show Int.toNat (1700 - (τ348.1 117 2)) < Int.toNat (1700 - (τ6.1 117 2)); omega)
              · intro h316
                have n356 := sq_w (σ := τ299) (by omega)
                clear p310
                replace p311 := p311 (by omega)
                refine wp_al1 jF_343_42 rfl rfl (pc2 := 43) ?_
                refine wp_cV (as := []) (rest := []) (a := 117) (mx := 1) (ci := 12) jF_343_43 kd117 (by decide) rfl rfl rfl rfl rfl (by omega) (by omega) rfl (pc2 := 46) ?_
                refine wp_use (m_336_t τ299 g300  (by omega) (by omega) (by omega) (by omega) (by omega) _ _ (by omega) (by omega)) ?_
                rintro _ τ362 ⟨rfl, g363, f364, p357, p358, p359, p360, p361⟩
                show WP 343 46 [(0, .ref 117)] [] _ _ _ _
                refine wp_go jF_343_46 ?_
                have q365 := ws_nn (σ := τ362)
                have b366 := GI.b g363 117 87 kd117 (lo := 0) (hi := 1690) rfl
                have b367 := GI.b g363 117 89 kd117 (lo := 0) (hi := 1690) rfl
                exact ih306 () τ362 ⟨g363, (FR.up f301 f364 sb_Wqd_Wqd), (by omega), (by omega), (by omega), (by omega)⟩ (by show Int.toNat ((τ362.1 117 89)) < Int.toNat ((τ299.1 117 89)); omega)
