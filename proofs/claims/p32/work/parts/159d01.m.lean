set_option maxHeartbeats 4000000 in
set_option maxRecDepth 20000 in
/-- M.qGoesOn -/
theorem m_337 (σ : jM) (hg : GI σ)  (pre0 : (σ.1 117 5) = 0) (pre1 : (wk σ) = 1) (pre2 : (σ.1 117 91) ≤ (σ.1 117 89)) (pre3 : (ws σ) < (dp σ)) (pre4 : (σ.1 117 87) + (σ.1 117 89) ≤ (σ.1 117 2)) (fr lo : Nat) (hfr : 3 ≤ fr) (hlo : 62 ≤ lo) : WP 337 0 (lv_args 0 [.ref 117]) [] fr lo σ (fun v τ => ∃ z : Int, v = some (iV z) ∧ (0 ≤ z ∧ z ≤ 1) ∧ GI τ ∧ FR Wqp σ τ ∧ ((σ.1 117 2) ≤ (τ.1 117 2)) ∧ (z = 1 → ((τ.1 117 5) = 0 ∧ (wk τ) = 1 ∧ (σ.1 117 91) ≤ (τ.1 117 89) ∧ (dp τ) - (ws τ) = (dp σ) - (ws σ) - 1 ∧ (τ.1 117 87) + (τ.1 117 89) - (τ.1 117 2) ≤ (σ.1 117 87) + (σ.1 117 89) - (σ.1 117 2))) ∧ (z = 0 → (τ.1 117 5) = 0 → ((qb τ) = -1 ∧ (wk τ) = 1 ∧ (σ.1 117 91) ≤ (τ.1 117 89) ∧ (dp τ) - (ws τ) = (dp σ) - (ws σ) ∧ (τ.1 117 87) + (τ.1 117 89) - (τ.1 117 2) ≤ (σ.1 117 87) + (σ.1 117 89) - (σ.1 117 2))) ∧ ((τ.1 117 87) + (τ.1 117 89) ≤ (τ.1 117 2) + 1)) := by
  show WP 337 0 [(0, .ref 117)] [] _ _ _ _
  have q1 := ws_nn (σ := σ)
  have b2 := GI.b hg 117 2 kd117 (lo := 0) (hi := 1601) rfl
  have b3 := GI.b hg 117 87 kd117 (lo := 0) (hi := 1690) rfl
  have b4 := GI.b hg 117 89 kd117 (lo := 0) (hi := 1690) rfl
  have b5 := GI.b hg 117 91 kd117 (lo := 0) (hi := 1690) rfl
  refine wp_loop (α := Unit) (fun a => [(0, .ref 117)]) (fun a τ => GI τ ∧ FR Wqp σ τ ∧ ((τ.1 117 5) = 0) ∧ ((wk τ) = 1) ∧ ((σ.1 117 91) ≤ (τ.1 117 89)) ∧ ((dp τ) - (ws τ) = (dp σ) - (ws σ)) ∧ ((σ.1 117 2) ≤ (τ.1 117 2)) ∧ ((τ.1 117 87) + (τ.1 117 89) - (τ.1 117 2) ≤ (σ.1 117 87) + (σ.1 117 89) - (σ.1 117 2))) (fun a τ => Int.toNat (1700 - (τ.1 117 2))) () σ ?_ ?_
  · skip
    have b6 := GI.b hg 117 5 kd117 (lo := (-2147483648)) (hi := 2147483647) rfl
    exact ⟨hg, FR.rf, (by omega), (by omega), (by omega), (by omega), (by omega), (by omega)⟩
  · rintro ⟨⟩ τ7 ⟨g8, f9, p10, p11, p12, p13, p14, p15⟩ ih16
    have q17 := ws_nn (σ := τ7)
    have b18 := GI.b g8 117 2 kd117 (lo := 0) (hi := 1601) rfl
    have b19 := GI.b g8 117 5 kd117 (lo := (-2147483648)) (hi := 2147483647) rfl
    have b20 := GI.b g8 117 87 kd117 (lo := 0) (hi := 1690) rfl
    have b21 := GI.b g8 117 89 kd117 (lo := 0) (hi := 1690) rfl
    show WP 337 0 [(0, .ref 117)] [] _ _ _ _
    show WP 337 0 [(0, .ref 117)] [] _ _ _ _
    refine wp_join (α := Unit) 122 (fun a => [(0, .ref 117)]) (fun a τ => GI τ ∧ FR Wqp τ7 τ ∧ ((τ.1 117 5) = 0) ∧ ((wk τ) = 1) ∧ ((σ.1 117 91) ≤ (τ.1 117 89)) ∧ ((dp τ) - (ws τ) = (dp σ) - (ws σ)) ∧ ((σ.1 117 2) ≤ (τ.1 117 2)) ∧ ((τ.1 117 87) + (τ.1 117 89) - (τ.1 117 2) ≤ (σ.1 117 87) + (σ.1 117 89) - (σ.1 117 2))) ?_ ?_
    · rintro ⟨⟩ τ22 ⟨g23, f24, p25, p26, p27, p28, p29, p30⟩
      have q31 := ws_nn (σ := τ22)
      have b32 := GI.b g23 117 2 kd117 (lo := 0) (hi := 1601) rfl
      have b33 := GI.b g23 117 5 kd117 (lo := (-2147483648)) (hi := 2147483647) rfl
      have b34 := GI.b g23 117 87 kd117 (lo := 0) (hi := 1690) rfl
      have b35 := GI.b g23 117 89 kd117 (lo := 0) (hi := 1690) rfl
      clear p10 p11 p12 p13 p14 p15
      show WP 337 122 [(0, .ref 117)] [] _ _ _ _
      refine wp_al1 jF_337_122 rfl rfl (pc2 := 123) ?_
      refine wp_bi jF_337_123 (by decide) rfl (pc2 := 125) ?_
      refine wp_cV (as := [iV 42]) (rest := []) (a := 117) (mx := 2) (ci := 12) jF_337_125 kd117 (by decide) rfl rfl rfl rfl rfl (by omega) (by omega) rfl (pc2 := 128) ?_
      have b36 := GI.b hg 117 3 kd117 (lo := 0) (hi := 1600) rfl
      have q37 : (τ22.1 117 3) = (σ.1 117 3) := ((FR.at f24 117 3 rfl).trans (FR.at f9 117 3 rfl))
      refine wp_use (m_239 τ22 g23 42 (by omega) (by omega)  _ _ (by omega) (by omega)) ?_
      rintro _ τ42 ⟨z45, rfl, h46, g43, f44, p38, p39, p40, p41⟩
      show WP 337 128 [(0, .ref 117)] [iV z45] _ _ _ _
      refine wp_z_ne jF_337_128 (m_rgb h46 rfl) rfl (pc2 := 131) ?_ ?_
      · intro h47
        replace p41 := p41 (by omega)
        refine wp_al1 jF_337_140 rfl rfl (pc2 := 141) ?_
        refine wp_gr (b := 118) jF_337_141 kd117 (by decide) (c := 218) rfl rfl rfl (pc2 := 144) ?_
        refine wp_al1 jF_337_144 rfl rfl (pc2 := 145) ?_
        have b48 := GI.b g43 117 2 kd117 (lo := 0) (hi := 1601) rfl
        refine wp_gi jF_337_145 kd117 (by decide) rfl rfl rfl (pc2 := 148) ?_
        refine wp_ic jF_337_148 rfl (pc2 := 149) ?_
        refine wp_sub jF_337_149 rfl (pc2 := 150) ?_
        have b49 := GI.b hg 118 ((τ42.1 117 2) - 1).toNat kd118 (lo := 0) (hi := 255) rfl
        refine wp_iald (n := 1600) (e := (σ.1 118 ((τ42.1 117 2) - 1).toNat)) jF_337_150 kd118 (by decide) rfl rfl (by omega) (by omega) ((FR.at f44 118 ((τ42.1 117 2) - 1).toNat rfl).trans ((FR.at f24 118 ((τ42.1 117 2) - 1).toNat rfl).trans (FR.at f9 118 ((τ42.1 117 2) - 1).toNat rfl))) rfl (pc2 := 151) ?_
        refine wp_bi jF_337_151 (by decide) rfl (pc2 := 153) ?_
        refine wp_i_ne jF_337_153 (m_rgb b49 rfl) (m_rgl rfl) rfl (pc2 := 156) ?_ ?_
        · intro h50
          refine wp_ic jF_337_160 rfl (pc2 := 161) ?_
          refine wp_is1 (lv2 := [(0, .ref 117), (1, iV 4)]) jF_337_161 rfl rfl rfl (pc2 := 162) ?_
          refine wp_loop (α := Unit) (fun a => [(0, .ref 117), (1, iV 4)]) (fun a τ => GI τ ∧ FR Wqd τ42 τ ∧ ((τ.1 117 5) = 0) ∧ ((wk τ) = 1) ∧ ((σ.1 117 91) ≤ (τ.1 117 89)) ∧ ((dp τ) - (ws τ) = (dp σ) - (ws σ)) ∧ ((σ.1 117 2) ≤ (τ.1 117 2)) ∧ ((τ.1 117 87) + (τ.1 117 89) - (τ.1 117 2) + 1 ≤ (σ.1 117 87) + (σ.1 117 89) - (σ.1 117 2))) (fun a τ => Int.toNat ((τ.1 117 89))) () τ42 ?_ ?_
          · skip
            have q51 : (dp τ42) = (dp τ22) := (dp_fr f44 (fun _ => rfl) rfl)
            have q52 := ws_nn (σ := τ22)
            have q53 : (ws τ42) = (ws τ22) := (ws_fr f44 (fun _ => rfl) rfl)
            have q54 : (wk τ42) = (wk τ22) := (wk_fr f44 (fun _ => rfl) rfl rfl)
            have q55 : (τ42.1 117 5) = (τ22.1 117 5) := (FR.at f44 117 5 rfl)
            have q56 : (τ42.1 117 87) = (τ22.1 117 87) := (FR.at f44 117 87 rfl)
            have q57 : (τ42.1 117 89) = (τ22.1 117 89) := (FR.at f44 117 89 rfl)
            exact ⟨g43, FR.rf, (by omega), (by omega), (by omega), (by omega), (by omega), (by omega)⟩
          · rintro ⟨⟩ τ58 ⟨g59, f60, p61, p62, p63, p64, p65, p66⟩ ih67
            have q68 := ws_nn (σ := τ58)
            have q69 : (τ58.1 117 2) = (τ42.1 117 2) := (FR.at f60 117 2 rfl)
            have q70 : (τ58.1 117 5) = (τ22.1 117 5) := ((FR.at f60 117 5 rfl).trans (FR.at f44 117 5 rfl))
            have b71 := GI.b g59 117 87 kd117 (lo := 0) (hi := 1690) rfl
            have b72 := GI.b g59 117 89 kd117 (lo := 0) (hi := 1690) rfl
            clear p25 p26 p27 p28 p29 p30 p38 p39 p40 p41
            show WP 337 162 [(0, .ref 117), (1, iV 4)] [] _ _ _ _
            show WP 337 162 [(0, .ref 117), (1, iV 4)] [] _ _ _ _
            refine wp_al1 jF_337_162 rfl rfl (pc2 := 163) ?_
            refine wp_ic jF_337_163 rfl (pc2 := 164) ?_
            refine wp_cV (as := [iV 3]) (rest := []) (a := 117) (mx := 2) (ci := 12) jF_337_164 kd117 (by decide) rfl rfl rfl rfl rfl (by omega) (by omega) rfl (pc2 := 167) ?_
            refine wp_use (m_341_n τ58 g59 3 (by omega) (by omega)  _ _ (by omega) (by omega)) ?_
            rintro _ _ ⟨z76, rfl, h77, rfl, p73⟩
            show WP 337 167 [(0, .ref 117), (1, iV 4)] [iV z76] _ _ _ _
            refine wp_z_ne jF_337_167 (m_rgb h77 rfl) rfl (pc2 := 170) ?_ ?_
            · intro h78
              have q79 : (τ58.1 117 91) = (σ.1 117 91) := ((FR.at f60 117 91 rfl).trans ((FR.at f44 117 91 rfl).trans ((FR.at f24 117 91 rfl).trans (FR.at f9 117 91 rfl))))
              have n80 := wk_b (σ := τ58) (by omega) (by omega) (by omega)
              replace p73 := p73 (by omega)
              refine wp_al1 jF_337_178 rfl rfl (pc2 := 179) ?_
              refine wp_cV (as := []) (rest := []) (a := 117) (mx := 1) (ci := 12) jF_337_179 kd117 (by decide) rfl rfl rfl rfl rfl (by omega) (by omega) rfl (pc2 := 182) ?_
              refine wp_use (m_336_s τ58 g59  (by omega) (by omega) (by omega) (by omega) (by omega) (by omega) _ _ (by omega) (by omega)) ?_
              rintro _ τ86 ⟨rfl, g87, f88, p81, p82, p83, p84, p85⟩
              show WP 337 182 [(0, .ref 117), (1, iV 4)] [] _ _ _ _
              refine wp_go jF_337_182 ?_
              have q89 := ws_nn (σ := τ86)
              have q90 : (τ86.1 117 2) = (τ42.1 117 2) := ((FR.at f88 117 2 rfl).trans (FR.at f60 117 2 rfl))
              have q91 : (τ86.1 117 5) = (τ22.1 117 5) := ((FR.at f88 117 5 rfl).trans ((FR.at f60 117 5 rfl).trans (FR.at f44 117 5 rfl)))
              have b92 := GI.b g87 117 87 kd117 (lo := 0) (hi := 1690) rfl
              have b93 := GI.b g87 117 89 kd117 (lo := 0) (hi := 1690) rfl
              exact ih67 () τ86 ⟨g87, (FR.up f60 f88 sb_Wqd_Wqd), (by omega), (by omega), (by omega), (by omega), (by omega), (by omega)⟩ (by show Int.toNat ((τ86.1 117 89)) < Int.toNat ((τ58.1 117 89)); omega)
            · intro h78
              clear p73
              refine wp_al1 jF_337_170 rfl rfl (pc2 := 171) ?_
              refine wp_ic jF_337_171 rfl (pc2 := 172) ?_
              refine wp_cV (as := [iV 4]) (rest := []) (a := 117) (mx := 2) (ci := 12) jF_337_172 kd117 (by decide) rfl rfl rfl rfl rfl (by omega) (by omega) rfl (pc2 := 175) ?_
              refine wp_use (m_341_n τ58 g59 4 (by omega) (by omega)  _ _ (by omega) (by omega)) ?_
              rintro _ _ ⟨z97, rfl, h98, rfl, p94⟩
              show WP 337 175 [(0, .ref 117), (1, iV 4)] [iV z97] _ _ _ _
              refine wp_z_eq jF_337_175 (m_rgb h98 rfl) rfl (pc2 := 178) ?_ ?_
              · intro h99
                clear p94
                refine wp_al1 jF_337_185 rfl rfl (pc2 := 186) ?_
                refine wp_gr (b := 177) jF_337_186 kd117 (by decide) (c := 277) rfl rfl rfl (pc2 := 189) ?_
                refine wp_al1 jF_337_189 rfl rfl (pc2 := 190) ?_
                refine wp_gi jF_337_190 kd117 (by decide) rfl rfl rfl (pc2 := 193) ?_
                refine wp_il1 jF_337_193 rfl rfl (pc2 := 194) ?_
                refine wp_iast (n := 1700) jF_337_194 kd177 (by decide) rfl rfl (by omega) (by omega) rfl (pc2 := 195) g59 (lo := (-2147483648)) (hi := 2147483647) rfl (by omega) (by omega) ?_
                intro τ100 g101 f102 e103
                refine wp_al1 jF_337_195 rfl rfl (pc2 := 196) ?_
                refine wp_dup jF_337_196 rfl rfl (pc2 := 197) ?_
                refine wp_gi jF_337_197 kd117 (by decide) rfl (FRw.na f102 (by decide)) rfl (pc2 := 200) ?_
                refine wp_ic jF_337_200 rfl (pc2 := 201) ?_
                refine wp_add jF_337_201 rfl (pc2 := 202) ?_
                refine wp_pi jF_337_202 kd117 (by decide) rfl rfl rfl (pc2 := 205) g101 (lo := 0) (hi := 1690) rfl (by omega) (by omega) ?_
                intro τ104 g105 f106 e107
                refine wp_ic jF_337_205 rfl (pc2 := 206) ?_
                refine wp_ri jF_337_206 rfl ?_
                have q108 : (dp τ104) = (dp τ58) := ((dp_wr f106 (by decide)).trans (dp_wa f102 (by decide)))
                have q109 := ws_nn (σ := τ104)
                have q110 : (τ104.1 117 2) = (τ42.1 117 2) := ((FRw.nj f106 (by decide)).trans ((FRw.na f102 (by decide)).trans (FR.at f60 117 2 rfl)))
                have q111 : (τ104.1 117 5) = (τ22.1 117 5) := ((FRw.nj f106 (by decide)).trans ((FRw.na f102 (by decide)).trans ((FR.at f60 117 5 rfl).trans (FR.at f44 117 5 rfl))))
                have q112 : (τ104.1 117 87) = (τ58.1 117 87) := ((FRw.nj f106 (by decide)).trans (FRw.na f102 (by decide)))
                have q113 : (τ104.1 117 89) = ((τ58.1 117 89) + 1) := e107
                have q114 : (τ58.1 117 91) = (σ.1 117 91) := ((FR.at f60 117 91 rfl).trans ((FR.at f44 117 91 rfl).trans ((FR.at f24 117 91 rfl).trans (FR.at f9 117 91 rfl))))
                have q115 : τ58.1 117 89 = (τ58.1 117 89) := rfl
                have q116 := psh (σ := τ58) f102 e103 (congrArg Int.toNat q115.symm) f106 (by have z := e107; omega) (by omega)
                have q117 := q116.1 (by omega)
                have q118 := q116.2.2.1 (by omega) (by omega) (by omega)
                clear q116
                exact ⟨1, rfl, ⟨by omega, by omega⟩, g105, (FR.w (FR.w (FR.up (FR.up (FR.up f9 f24 sb_Wqp_Wqp) f44 sb_Wat_Wqp) f60 sb_Wqd_Wqp) f102 rfl) f106 rfl), (by omega), (by omega), (by omega), (by omega)⟩
              · intro h99
                have q119 : (τ58.1 117 91) = (σ.1 117 91) := ((FR.at f60 117 91 rfl).trans ((FR.at f44 117 91 rfl).trans ((FR.at f24 117 91 rfl).trans (FR.at f9 117 91 rfl))))
                have n120 := wk_b (σ := τ58) (by omega) (by omega) (by omega)
                replace p94 := p94 (by omega)
                refine wp_al1 jF_337_178 rfl rfl (pc2 := 179) ?_
                refine wp_cV (as := []) (rest := []) (a := 117) (mx := 1) (ci := 12) jF_337_179 kd117 (by decide) rfl rfl rfl rfl rfl (by omega) (by omega) rfl (pc2 := 182) ?_
                refine wp_use (m_336_s τ58 g59  (by omega) (by omega) (by omega) (by omega) (by omega) (by omega) _ _ (by omega) (by omega)) ?_
                rintro _ τ126 ⟨rfl, g127, f128, p121, p122, p123, p124, p125⟩
                show WP 337 182 [(0, .ref 117), (1, iV 4)] [] _ _ _ _
                refine wp_go jF_337_182 ?_
                have q129 := ws_nn (σ := τ126)
                have q130 : (τ126.1 117 2) = (τ42.1 117 2) := ((FR.at f128 117 2 rfl).trans (FR.at f60 117 2 rfl))
                have q131 : (τ126.1 117 5) = (τ22.1 117 5) := ((FR.at f128 117 5 rfl).trans ((FR.at f60 117 5 rfl).trans (FR.at f44 117 5 rfl)))
                have b132 := GI.b g127 117 87 kd117 (lo := 0) (hi := 1690) rfl
                have b133 := GI.b g127 117 89 kd117 (lo := 0) (hi := 1690) rfl
                exact ih67 () τ126 ⟨g127, (FR.up f60 f128 sb_Wqd_Wqd), (by omega), (by omega), (by omega), (by omega), (by omega), (by omega)⟩ (by show Int.toNat ((τ126.1 117 89)) < Int.toNat ((τ58.1 117 89)); omega)
        · intro h50
          refine wp_ic jF_337_156 rfl (pc2 := 157) ?_
          refine wp_go jF_337_157 ?_
          refine wp_is1 (lv2 := [(0, .ref 117), (1, iV 3)]) jF_337_161 rfl rfl rfl (pc2 := 162) ?_
          refine wp_loop (α := Unit) (fun a => [(0, .ref 117), (1, iV 3)]) (fun a τ => GI τ ∧ FR Wqd τ42 τ ∧ ((τ.1 117 5) = 0) ∧ ((wk τ) = 1) ∧ ((σ.1 117 91) ≤ (τ.1 117 89)) ∧ ((dp τ) - (ws τ) = (dp σ) - (ws σ)) ∧ ((σ.1 117 2) ≤ (τ.1 117 2)) ∧ ((τ.1 117 87) + (τ.1 117 89) - (τ.1 117 2) + 1 ≤ (σ.1 117 87) + (σ.1 117 89) - (σ.1 117 2))) (fun a τ => Int.toNat ((τ.1 117 89))) () τ42 ?_ ?_
          · skip
            have q134 : (dp τ42) = (dp τ22) := (dp_fr f44 (fun _ => rfl) rfl)
            have q135 := ws_nn (σ := τ22)
            have q136 : (ws τ42) = (ws τ22) := (ws_fr f44 (fun _ => rfl) rfl)
            have q137 : (wk τ42) = (wk τ22) := (wk_fr f44 (fun _ => rfl) rfl rfl)
            have q138 : (τ42.1 117 5) = (τ22.1 117 5) := (FR.at f44 117 5 rfl)
            have q139 : (τ42.1 117 87) = (τ22.1 117 87) := (FR.at f44 117 87 rfl)
            have q140 : (τ42.1 117 89) = (τ22.1 117 89) := (FR.at f44 117 89 rfl)
            exact ⟨g43, FR.rf, (by omega), (by omega), (by omega), (by omega), (by omega), (by omega)⟩
          · rintro ⟨⟩ τ141 ⟨g142, f143, p144, p145, p146, p147, p148, p149⟩ ih150
            have q151 := ws_nn (σ := τ141)
            have q152 : (τ141.1 117 2) = (τ42.1 117 2) := (FR.at f143 117 2 rfl)
            have q153 : (τ141.1 117 5) = (τ22.1 117 5) := ((FR.at f143 117 5 rfl).trans (FR.at f44 117 5 rfl))
            have b154 := GI.b g142 117 87 kd117 (lo := 0) (hi := 1690) rfl
            have b155 := GI.b g142 117 89 kd117 (lo := 0) (hi := 1690) rfl
            clear p25 p26 p27 p28 p29 p30 p38 p39 p40 p41
            show WP 337 162 [(0, .ref 117), (1, iV 3)] [] _ _ _ _
            show WP 337 162 [(0, .ref 117), (1, iV 3)] [] _ _ _ _
            refine wp_al1 jF_337_162 rfl rfl (pc2 := 163) ?_
            refine wp_ic jF_337_163 rfl (pc2 := 164) ?_
            refine wp_cV (as := [iV 3]) (rest := []) (a := 117) (mx := 2) (ci := 12) jF_337_164 kd117 (by decide) rfl rfl rfl rfl rfl (by omega) (by omega) rfl (pc2 := 167) ?_
            refine wp_use (m_341_n τ141 g142 3 (by omega) (by omega)  _ _ (by omega) (by omega)) ?_
            rintro _ _ ⟨z159, rfl, h160, rfl, p156⟩
            show WP 337 167 [(0, .ref 117), (1, iV 3)] [iV z159] _ _ _ _
            refine wp_z_ne jF_337_167 (m_rgb h160 rfl) rfl (pc2 := 170) ?_ ?_
            · intro h161
              have q162 : (τ141.1 117 91) = (σ.1 117 91) := ((FR.at f143 117 91 rfl).trans ((FR.at f44 117 91 rfl).trans ((FR.at f24 117 91 rfl).trans (FR.at f9 117 91 rfl))))
              have n163 := wk_b (σ := τ141) (by omega) (by omega) (by omega)
              replace p156 := p156 (by omega)
              refine wp_al1 jF_337_178 rfl rfl (pc2 := 179) ?_
              refine wp_cV (as := []) (rest := []) (a := 117) (mx := 1) (ci := 12) jF_337_179 kd117 (by decide) rfl rfl rfl rfl rfl (by omega) (by omega) rfl (pc2 := 182) ?_
              refine wp_use (m_336_s τ141 g142  (by omega) (by omega) (by omega) (by omega) (by omega) (by omega) _ _ (by omega) (by omega)) ?_
              rintro _ τ169 ⟨rfl, g170, f171, p164, p165, p166, p167, p168⟩
              show WP 337 182 [(0, .ref 117), (1, iV 3)] [] _ _ _ _
              refine wp_go jF_337_182 ?_
              have q172 := ws_nn (σ := τ169)
              have q173 : (τ169.1 117 2) = (τ42.1 117 2) := ((FR.at f171 117 2 rfl).trans (FR.at f143 117 2 rfl))
              have q174 : (τ169.1 117 5) = (τ22.1 117 5) := ((FR.at f171 117 5 rfl).trans ((FR.at f143 117 5 rfl).trans (FR.at f44 117 5 rfl)))
              have b175 := GI.b g170 117 87 kd117 (lo := 0) (hi := 1690) rfl
              have b176 := GI.b g170 117 89 kd117 (lo := 0) (hi := 1690) rfl
              exact ih150 () τ169 ⟨g170, (FR.up f143 f171 sb_Wqd_Wqd), (by omega), (by omega), (by omega), (by omega), (by omega), (by omega)⟩ (by show Int.toNat ((τ169.1 117 89)) < Int.toNat ((τ141.1 117 89)); omega)
            · intro h161
              clear p156
              refine wp_al1 jF_337_170 rfl rfl (pc2 := 171) ?_
              refine wp_ic jF_337_171 rfl (pc2 := 172) ?_
              refine wp_cV (as := [iV 4]) (rest := []) (a := 117) (mx := 2) (ci := 12) jF_337_172 kd117 (by decide) rfl rfl rfl rfl rfl (by omega) (by omega) rfl (pc2 := 175) ?_
              refine wp_use (m_341_n τ141 g142 4 (by omega) (by omega)  _ _ (by omega) (by omega)) ?_
              rintro _ _ ⟨z180, rfl, h181, rfl, p177⟩
              show WP 337 175 [(0, .ref 117), (1, iV 3)] [iV z180] _ _ _ _
              refine wp_z_eq jF_337_175 (m_rgb h181 rfl) rfl (pc2 := 178) ?_ ?_
              · intro h182
                clear p177
                refine wp_al1 jF_337_185 rfl rfl (pc2 := 186) ?_
                refine wp_gr (b := 177) jF_337_186 kd117 (by decide) (c := 277) rfl rfl rfl (pc2 := 189) ?_
                refine wp_al1 jF_337_189 rfl rfl (pc2 := 190) ?_
                refine wp_gi jF_337_190 kd117 (by decide) rfl rfl rfl (pc2 := 193) ?_
                refine wp_il1 jF_337_193 rfl rfl (pc2 := 194) ?_
                refine wp_iast (n := 1700) jF_337_194 kd177 (by decide) rfl rfl (by omega) (by omega) rfl (pc2 := 195) g142 (lo := (-2147483648)) (hi := 2147483647) rfl (by omega) (by omega) ?_
                intro τ183 g184 f185 e186
                refine wp_al1 jF_337_195 rfl rfl (pc2 := 196) ?_
                refine wp_dup jF_337_196 rfl rfl (pc2 := 197) ?_
                refine wp_gi jF_337_197 kd117 (by decide) rfl (FRw.na f185 (by decide)) rfl (pc2 := 200) ?_
                refine wp_ic jF_337_200 rfl (pc2 := 201) ?_
                refine wp_add jF_337_201 rfl (pc2 := 202) ?_
                refine wp_pi jF_337_202 kd117 (by decide) rfl rfl rfl (pc2 := 205) g184 (lo := 0) (hi := 1690) rfl (by omega) (by omega) ?_
                intro τ187 g188 f189 e190
                refine wp_ic jF_337_205 rfl (pc2 := 206) ?_
                refine wp_ri jF_337_206 rfl ?_
                have q191 : (dp τ187) = (dp τ141) := ((dp_wr f189 (by decide)).trans (dp_wa f185 (by decide)))
                have q192 := ws_nn (σ := τ187)
                have q193 : (τ187.1 117 2) = (τ42.1 117 2) := ((FRw.nj f189 (by decide)).trans ((FRw.na f185 (by decide)).trans (FR.at f143 117 2 rfl)))
                have q194 : (τ187.1 117 5) = (τ22.1 117 5) := ((FRw.nj f189 (by decide)).trans ((FRw.na f185 (by decide)).trans ((FR.at f143 117 5 rfl).trans (FR.at f44 117 5 rfl))))
                have q195 : (τ187.1 117 87) = (τ141.1 117 87) := ((FRw.nj f189 (by decide)).trans (FRw.na f185 (by decide)))
                have q196 : (τ187.1 117 89) = ((τ141.1 117 89) + 1) := e190
                have q197 : (τ141.1 117 91) = (σ.1 117 91) := ((FR.at f143 117 91 rfl).trans ((FR.at f44 117 91 rfl).trans ((FR.at f24 117 91 rfl).trans (FR.at f9 117 91 rfl))))
                have q198 : τ141.1 117 89 = (τ141.1 117 89) := rfl
                have q199 := psh (σ := τ141) f185 e186 (congrArg Int.toNat q198.symm) f189 (by have z := e190; omega) (by omega)
                have q200 := q199.1 (by omega)
                have q201 := q199.2.2.1 (by omega) (by omega) (by omega)
                clear q199
                exact ⟨1, rfl, ⟨by omega, by omega⟩, g188, (FR.w (FR.w (FR.up (FR.up (FR.up f9 f24 sb_Wqp_Wqp) f44 sb_Wat_Wqp) f143 sb_Wqd_Wqp) f185 rfl) f189 rfl), (by omega), (by omega), (by omega), (by omega)⟩
              · intro h182
                have q202 : (τ141.1 117 91) = (σ.1 117 91) := ((FR.at f143 117 91 rfl).trans ((FR.at f44 117 91 rfl).trans ((FR.at f24 117 91 rfl).trans (FR.at f9 117 91 rfl))))
                have n203 := wk_b (σ := τ141) (by omega) (by omega) (by omega)
                replace p177 := p177 (by omega)
                refine wp_al1 jF_337_178 rfl rfl (pc2 := 179) ?_
                refine wp_cV (as := []) (rest := []) (a := 117) (mx := 1) (ci := 12) jF_337_179 kd117 (by decide) rfl rfl rfl rfl rfl (by omega) (by omega) rfl (pc2 := 182) ?_
                refine wp_use (m_336_s τ141 g142  (by omega) (by omega) (by omega) (by omega) (by omega) (by omega) _ _ (by omega) (by omega)) ?_
                rintro _ τ209 ⟨rfl, g210, f211, p204, p205, p206, p207, p208⟩
                show WP 337 182 [(0, .ref 117), (1, iV 3)] [] _ _ _ _
                refine wp_go jF_337_182 ?_
                have q212 := ws_nn (σ := τ209)
                have q213 : (τ209.1 117 2) = (τ42.1 117 2) := ((FR.at f211 117 2 rfl).trans (FR.at f143 117 2 rfl))
                have q214 : (τ209.1 117 5) = (τ22.1 117 5) := ((FR.at f211 117 5 rfl).trans ((FR.at f143 117 5 rfl).trans (FR.at f44 117 5 rfl)))
                have b215 := GI.b g210 117 87 kd117 (lo := 0) (hi := 1690) rfl
                have b216 := GI.b g210 117 89 kd117 (lo := 0) (hi := 1690) rfl
                exact ih150 () τ209 ⟨g210, (FR.up f143 f211 sb_Wqd_Wqd), (by omega), (by omega), (by omega), (by omega), (by omega), (by omega)⟩ (by show Int.toNat ((τ209.1 117 89)) < Int.toNat ((τ141.1 117 89)); omega)
      · intro h47
        clear p41
        refine wp_al1 jF_337_131 rfl rfl (pc2 := 132) ?_
        refine wp_bi jF_337_132 (by decide) rfl (pc2 := 134) ?_
        refine wp_cV (as := [iV 47]) (rest := []) (a := 117) (mx := 2) (ci := 12) jF_337_134 kd117 (by decide) rfl rfl rfl rfl rfl (by omega) (by omega) rfl (pc2 := 137) ?_
        have b217 := GI.b g43 117 2 kd117 (lo := 0) (hi := 1601) rfl
        have q218 : (τ42.1 117 3) = (σ.1 117 3) := ((FR.at f44 117 3 rfl).trans ((FR.at f24 117 3 rfl).trans (FR.at f9 117 3 rfl)))
        have q219 : (τ42.1 117 5) = (τ22.1 117 5) := (FR.at f44 117 5 rfl)
        refine wp_use (m_239 τ42 g43 47 (by omega) (by omega)  _ _ (by omega) (by omega)) ?_
        rintro _ τ224 ⟨z227, rfl, h228, g225, f226, p220, p221, p222, p223⟩
        show WP 337 137 [(0, .ref 117)] [iV z227] _ _ _ _
        refine wp_z_eq jF_337_137 (m_rgb h228 rfl) rfl (pc2 := 140) ?_ ?_
        · intro h229
          clear p223
          refine wp_join (α := Unit) 308 (fun a => [(0, .ref 117)]) (fun a τ => GI τ ∧ FR Wat τ224 τ ∧ ((τ.1 117 5) = 0) ∧ ((wk τ) = 1) ∧ ((σ.1 117 91) ≤ (τ.1 117 89)) ∧ ((dp τ) - (ws τ) = (dp σ) - (ws σ)) ∧ ((σ.1 117 2) ≤ (τ.1 117 2)) ∧ ((τ.1 117 87) + (τ.1 117 89) - (τ.1 117 2) ≤ (σ.1 117 87) + (σ.1 117 89) - (σ.1 117 2))) ?_ ?_
          · rintro ⟨⟩ τ230 ⟨g231, f232, p233, p234, p235, p236, p237, p238⟩
            have q239 : (dp τ230) = (dp τ22) := ((dp_fr f232 (fun _ => rfl) rfl).trans ((dp_fr f226 (fun _ => rfl) rfl).trans (dp_fr f44 (fun _ => rfl) rfl)))
            have q240 := ws_nn (σ := τ22)
            have q241 : (ws τ230) = (ws τ22) := ((ws_fr f232 (fun _ => rfl) rfl).trans ((ws_fr f226 (fun _ => rfl) rfl).trans (ws_fr f44 (fun _ => rfl) rfl)))
            have q242 : (wk τ230) = (wk τ22) := ((wk_fr f232 (fun _ => rfl) rfl rfl).trans ((wk_fr f226 (fun _ => rfl) rfl rfl).trans (wk_fr f44 (fun _ => rfl) rfl rfl)))
            have b243 := GI.b g231 117 2 kd117 (lo := 0) (hi := 1601) rfl
            have q244 : (τ230.1 117 5) = (τ22.1 117 5) := ((FR.at f232 117 5 rfl).trans ((FR.at f226 117 5 rfl).trans (FR.at f44 117 5 rfl)))
            have q245 : (τ230.1 117 87) = (τ22.1 117 87) := ((FR.at f232 117 87 rfl).trans ((FR.at f226 117 87 rfl).trans (FR.at f44 117 87 rfl)))
            have q246 : (τ230.1 117 89) = (τ22.1 117 89) := ((FR.at f232 117 89 rfl).trans ((FR.at f226 117 89 rfl).trans (FR.at f44 117 89 rfl)))
            clear p25 p26 p27 p28 p29 p30 p38 p39 p40 p220 p221 p222
            show WP 337 308 [(0, .ref 117)] [] _ _ _ _
            refine wp_al1 jF_337_308 rfl rfl (pc2 := 309) ?_
            refine wp_cV (as := []) (rest := []) (a := 117) (mx := 2) (ci := 12) jF_337_309 kd117 (by decide) rfl rfl rfl rfl rfl (by omega) (by omega) rfl (pc2 := 312) ?_
            have q247 : (qb τ230) = (qb τ22) := ((qb_fr f232 (fun _ => rfl) rfl rfl).trans ((qb_fr f226 (fun _ => rfl) rfl rfl).trans (qb_fr f44 (fun _ => rfl) rfl rfl)))
            refine wp_use (m_338 τ230 g231   _ _ (by omega) (by omega)) ?_
            rintro _ _ ⟨z251, rfl, h252, rfl, p248⟩
            show WP 337 312 [(0, .ref 117)] [iV z251] _ _ _ _
            refine wp_bi jF_337_312 (by decide) rfl (pc2 := 314) ?_
            refine wp_i_eq jF_337_314 (m_rgb h252 rfl) (m_rgl rfl) rfl (pc2 := 317) ?_ ?_
            · intro h253
              refine wp_al1 jF_337_326 rfl rfl (pc2 := 327) ?_
              refine wp_bi jF_337_327 (by decide) rfl (pc2 := 329) ?_
              refine wp_cV (as := [iV 44]) (rest := []) (a := 117) (mx := 2) (ci := 12) jF_337_329 kd117 (by decide) rfl rfl rfl rfl rfl (by omega) (by omega) rfl (pc2 := 332) ?_
              have q254 : (τ230.1 117 3) = (σ.1 117 3) := ((FR.at f232 117 3 rfl).trans ((FR.at f226 117 3 rfl).trans ((FR.at f44 117 3 rfl).trans ((FR.at f24 117 3 rfl).trans (FR.at f9 117 3 rfl)))))
              refine wp_use (m_238 τ230 g231 44 (by omega) (by omega)  _ _ (by omega) (by omega)) ?_
              rintro _ τ258 ⟨rfl, g259, f260, p255, p256, p257⟩
              clear p256
              show WP 337 332 [(0, .ref 117)] [] _ _ _ _
              refine wp_al1 jF_337_332 rfl rfl (pc2 := 333) ?_
              have b261 := GI.b g259 117 5 kd117 (lo := (-2147483648)) (hi := 2147483647) rfl
              refine wp_gi jF_337_333 kd117 (by decide) rfl rfl rfl (pc2 := 336) ?_
              refine wp_z_eq jF_337_336 (m_rgb b261 rfl) rfl (pc2 := 339) ?_ ?_
              · intro h262
                replace p257 := p257 (by omega)
                refine wp_al1 jF_337_341 rfl rfl (pc2 := 342) ?_
                refine wp_cV (as := []) (rest := []) (a := 117) (mx := 1) (ci := 12) jF_337_342 kd117 (by decide) rfl rfl rfl rfl rfl (by omega) (by omega) rfl (pc2 := 345) ?_
                have q263 : (dp τ258) = (dp τ22) := ((dp_fr f260 (fun _ => rfl) rfl).trans ((dp_fr f232 (fun _ => rfl) rfl).trans ((dp_fr f226 (fun _ => rfl) rfl).trans (dp_fr f44 (fun _ => rfl) rfl))))
                have q264 := ws_nn (σ := τ22)
                have q265 : (ws τ258) = (ws τ22) := ((ws_fr f260 (fun _ => rfl) rfl).trans ((ws_fr f232 (fun _ => rfl) rfl).trans ((ws_fr f226 (fun _ => rfl) rfl).trans (ws_fr f44 (fun _ => rfl) rfl))))
                have q266 : (wk τ258) = (wk τ22) := ((wk_fr f260 (fun _ => rfl) rfl rfl).trans ((wk_fr f232 (fun _ => rfl) rfl rfl).trans ((wk_fr f226 (fun _ => rfl) rfl rfl).trans (wk_fr f44 (fun _ => rfl) rfl rfl))))
                have q267 : (qb τ258) = (qb τ22) := ((qb_fr f260 (fun _ => rfl) rfl rfl).trans ((qb_fr f232 (fun _ => rfl) rfl rfl).trans ((qb_fr f226 (fun _ => rfl) rfl rfl).trans (qb_fr f44 (fun _ => rfl) rfl rfl))))
                have q268 : (τ258.1 117 87) = (τ22.1 117 87) := ((FR.at f260 117 87 rfl).trans ((FR.at f232 117 87 rfl).trans ((FR.at f226 117 87 rfl).trans (FR.at f44 117 87 rfl))))
                have q269 : (τ258.1 117 89) = (τ22.1 117 89) := ((FR.at f260 117 89 rfl).trans ((FR.at f232 117 89 rfl).trans ((FR.at f226 117 89 rfl).trans (FR.at f44 117 89 rfl))))
                have q270 : (τ258.1 117 91) = (σ.1 117 91) := ((FR.at f260 117 91 rfl).trans ((FR.at f232 117 91 rfl).trans ((FR.at f226 117 91 rfl).trans ((FR.at f44 117 91 rfl).trans ((FR.at f24 117 91 rfl).trans (FR.at f9 117 91 rfl))))))
                refine wp_use (m_340 τ258 g259  (by omega) (by omega) (by omega) (by omega) _ _ (by omega) (by omega)) ?_
                rintro _ τ276 ⟨rfl, g277, f278, p271, p272, p273, p274, p275⟩
                show WP 337 345 [(0, .ref 117)] [] _ _ _ _
                refine wp_al1 jF_337_345 rfl rfl (pc2 := 346) ?_
                refine wp_gr (b := 177) jF_337_346 kd117 (by decide) (c := 277) rfl rfl rfl (pc2 := 349) ?_
                refine wp_al1 jF_337_349 rfl rfl (pc2 := 350) ?_
                have b279 := GI.b g277 117 89 kd117 (lo := 0) (hi := 1690) rfl
                refine wp_gi jF_337_350 kd117 (by decide) rfl rfl rfl (pc2 := 353) ?_
                refine wp_ic jF_337_353 rfl (pc2 := 354) ?_
                refine wp_sub jF_337_354 rfl (pc2 := 355) ?_
                refine wp_du2 jF_337_355 rfl rfl (pc2 := 356) ?_
                have b280 := GI.b g23 177 ((τ276.1 117 89) - 1).toNat kd177 (lo := (-2147483648)) (hi := 2147483647) rfl
                refine wp_iald (n := 1700) (e := (τ22.1 177 ((τ276.1 117 89) - 1).toNat)) jF_337_356 kd177 (by decide) rfl rfl (by omega) (by omega) ((FR.at f278 177 ((τ276.1 117 89) - 1).toNat rfl).trans ((FR.at f260 177 ((τ276.1 117 89) - 1).toNat rfl).trans ((FR.at f232 177 ((τ276.1 117 89) - 1).toNat rfl).trans ((FR.at f226 177 ((τ276.1 117 89) - 1).toNat rfl).trans (FR.at f44 177 ((τ276.1 117 89) - 1).toNat rfl))))) rfl (pc2 := 357) ?_
                refine wp_ic jF_337_357 rfl (pc2 := 358) ?_
                refine wp_addw jF_337_358 (m_rgb b280 rfl) (m_rgl rfl) rfl (pc2 := 359) ?_
                intro z281 h282
                refine wp_iast (n := 1700) jF_337_359 kd177 (by decide) rfl rfl (by omega) (by omega) rfl (pc2 := 360) g277 (lo := (-2147483648)) (hi := 2147483647) rfl (by omega) (by omega) ?_
                intro τ283 g284 f285 e286
                refine wp_ic jF_337_360 rfl (pc2 := 361) ?_
                refine wp_ri jF_337_361 rfl ?_
                have q287 : (dp τ283) = (dp τ276) := (dp_wa f285 (by decide))
                have q288 := ws_nn (σ := τ283)
                have b289 := GI.b g259 117 2 kd117 (lo := 0) (hi := 1601) rfl
                have q290 : (τ283.1 117 2) = (τ258.1 117 2) := ((FRw.na f285 (by decide)).trans (FR.at f278 117 2 rfl))
                have q291 : (τ283.1 117 5) = (τ258.1 117 5) := ((FRw.na f285 (by decide)).trans (FR.at f278 117 5 rfl))
                have b292 := GI.b g277 117 87 kd117 (lo := 0) (hi := 1690) rfl
                have q293 : (τ283.1 117 87) = (τ276.1 117 87) := (FRw.na f285 (by decide))
                have q294 : (τ283.1 117 89) = (τ276.1 117 89) := (FRw.na f285 (by decide))
                have q295 := ws_nn (σ := τ276)
                have q296 : (τ276.1 117 91) = (σ.1 117 91) := ((FR.at f278 117 91 rfl).trans ((FR.at f260 117 91 rfl).trans ((FR.at f232 117 91 rfl).trans ((FR.at f226 117 91 rfl).trans ((FR.at f44 117 91 rfl).trans ((FR.at f24 117 91 rfl).trans (FR.at f9 117 91 rfl)))))))
                have q297 : (tq τ276) = (τ22.1 177 ((τ276.1 117 89) - 1).toNat) := ((tq_e (σ := τ276)).trans (congrArg (fun z : Int => τ276.1 177 (z - 1).toNat) (show (τ276.1 117 89) = (τ276.1 117 89) from rfl))).trans ((FR.at f278 177 ((τ276.1 117 89) - 1).toNat rfl).trans ((FR.at f260 177 ((τ276.1 117 89) - 1).toNat rfl).trans ((FR.at f232 177 ((τ276.1 117 89) - 1).toNat rfl).trans ((FR.at f226 177 ((τ276.1 117 89) - 1).toNat rfl).trans (FR.at f44 177 ((τ276.1 117 89) - 1).toNat rfl)))))
                have q298 := bmp (σ := τ276) f285 e286 (congrArg (fun z : Int => (z - 1).toNat) (show (τ276.1 117 89) = (τ276.1 117 89) from rfl).symm) (by omega) (by omega) (by omega) (by omega)
                exact ⟨1, rfl, ⟨by omega, by omega⟩, g284, (FR.w (FR.up (FR.up (FR.up (FR.up (FR.up (FR.up f9 f24 sb_Wqp_Wqp) f44 sb_Wat_Wqp) f226 sb_Wat_Wqp) f232 sb_Wat_Wqp) f260 sb_Wsgn_Wqp) f278 sb_Wqd_Wqp) f285 rfl), (by omega), (by omega), (by omega), (by omega)⟩
              · intro h262
                clear p257
                refine wp_ic jF_337_339 rfl (pc2 := 340) ?_
                refine wp_ri jF_337_340 rfl ?_
                have q299 : (dp τ258) = (dp τ22) := ((dp_fr f260 (fun _ => rfl) rfl).trans ((dp_fr f232 (fun _ => rfl) rfl).trans ((dp_fr f226 (fun _ => rfl) rfl).trans (dp_fr f44 (fun _ => rfl) rfl))))
                have q300 := ws_nn (σ := τ22)
                have q301 : (ws τ258) = (ws τ22) := ((ws_fr f260 (fun _ => rfl) rfl).trans ((ws_fr f232 (fun _ => rfl) rfl).trans ((ws_fr f226 (fun _ => rfl) rfl).trans (ws_fr f44 (fun _ => rfl) rfl))))
                have q302 : (wk τ258) = (wk τ22) := ((wk_fr f260 (fun _ => rfl) rfl rfl).trans ((wk_fr f232 (fun _ => rfl) rfl rfl).trans ((wk_fr f226 (fun _ => rfl) rfl rfl).trans (wk_fr f44 (fun _ => rfl) rfl rfl))))
                have q303 : (qb τ258) = (qb τ22) := ((qb_fr f260 (fun _ => rfl) rfl rfl).trans ((qb_fr f232 (fun _ => rfl) rfl rfl).trans ((qb_fr f226 (fun _ => rfl) rfl rfl).trans (qb_fr f44 (fun _ => rfl) rfl rfl))))
                have b304 := GI.b g259 117 2 kd117 (lo := 0) (hi := 1601) rfl
                have q305 : (τ258.1 117 87) = (τ22.1 117 87) := ((FR.at f260 117 87 rfl).trans ((FR.at f232 117 87 rfl).trans ((FR.at f226 117 87 rfl).trans (FR.at f44 117 87 rfl))))
                have q306 : (τ258.1 117 89) = (τ22.1 117 89) := ((FR.at f260 117 89 rfl).trans ((FR.at f232 117 89 rfl).trans ((FR.at f226 117 89 rfl).trans (FR.at f44 117 89 rfl))))
                have q307 : (sq τ258) = (sq τ22) := ((sq_fr f260 (fun _ => rfl) rfl).trans ((sq_fr f232 (fun _ => rfl) rfl).trans ((sq_fr f226 (fun _ => rfl) rfl).trans (sq_fr f44 (fun _ => rfl) rfl))))
                exact ⟨0, rfl, ⟨by omega, by omega⟩, g259, (FR.up (FR.up (FR.up (FR.up (FR.up f9 f24 sb_Wqp_Wqp) f44 sb_Wat_Wqp) f226 sb_Wat_Wqp) f232 sb_Wat_Wqp) f260 sb_Wsgn_Wqp), (by omega), (by omega), (by omega), (by omega)⟩
            · intro h253
              refine wp_al1 jF_337_317 rfl rfl (pc2 := 318) ?_
              refine wp_cV (as := []) (rest := []) (a := 117) (mx := 2) (ci := 12) jF_337_318 kd117 (by decide) rfl rfl rfl rfl rfl (by omega) (by omega) rfl (pc2 := 321) ?_
              refine wp_use (m_338 τ230 g231   _ _ (by omega) (by omega)) ?_
              rintro _ _ ⟨z311, rfl, h312, rfl, p308⟩
              show WP 337 321 [(0, .ref 117)] [iV z311] _ _ _ _
              refine wp_bi jF_337_321 (by decide) rfl (pc2 := 323) ?_
              refine wp_i_ne jF_337_323 (m_rgb h312 rfl) (m_rgl rfl) rfl (pc2 := 326) ?_ ?_
              · intro h313
                refine wp_al1 jF_337_362 rfl rfl (pc2 := 363) ?_
                refine wp_cV (as := []) (rest := []) (a := 117) (mx := 2) (ci := 12) jF_337_363 kd117 (by decide) rfl rfl rfl rfl rfl (by omega) (by omega) rfl (pc2 := 366) ?_
                refine wp_use (m_338 τ230 g231   _ _ (by omega) (by omega)) ?_
                rintro _ _ ⟨z317, rfl, h318, rfl, p314⟩
                show WP 337 366 [(0, .ref 117)] [iV z317] _ _ _ _
                refine wp_ic jF_337_366 rfl (pc2 := 367) ?_
                refine wp_i_eq jF_337_367 (m_rgb h318 rfl) (m_rgl rfl) rfl (pc2 := 370) ?_ ?_
                · intro h319
                  refine wp_ic jF_337_386 rfl (pc2 := 387) ?_
                  refine wp_ri jF_337_387 rfl ?_
                  have q320 : (sq τ230) = (sq τ22) := ((sq_fr f232 (fun _ => rfl) rfl).trans ((sq_fr f226 (fun _ => rfl) rfl).trans (sq_fr f44 (fun _ => rfl) rfl)))
                  exact ⟨0, rfl, ⟨by omega, by omega⟩, g231, (FR.up (FR.up (FR.up (FR.up f9 f24 sb_Wqp_Wqp) f44 sb_Wat_Wqp) f226 sb_Wat_Wqp) f232 sb_Wat_Wqp), (by omega), (by omega), (by omega), (by omega)⟩
                · intro h319
                  refine wp_al1 jF_337_370 rfl rfl (pc2 := 371) ?_
                  refine wp_gi jF_337_371 kd117 (by decide) rfl ((FR.at f232 117 5 rfl).trans ((FR.at f226 117 5 rfl).trans (FR.at f44 117 5 rfl))) rfl (pc2 := 374) ?_
                  refine wp_z_ne jF_337_374 (m_rgb b33 rfl) rfl (pc2 := 377) ?_ ?_
                  · intro h321
                    refine wp_ic jF_337_386 rfl (pc2 := 387) ?_
                    refine wp_ri jF_337_387 rfl ?_
                    have q322 : (sq τ230) = (sq τ22) := ((sq_fr f232 (fun _ => rfl) rfl).trans ((sq_fr f226 (fun _ => rfl) rfl).trans (sq_fr f44 (fun _ => rfl) rfl)))
                    exact ⟨0, rfl, ⟨by omega, by omega⟩, g231, (FR.up (FR.up (FR.up (FR.up f9 f24 sb_Wqp_Wqp) f44 sb_Wat_Wqp) f226 sb_Wat_Wqp) f232 sb_Wat_Wqp), (by omega), (by omega), (by omega), (by omega)⟩
                  · intro h321
                    refine wp_al1 jF_337_377 rfl rfl (pc2 := 378) ?_
                    refine wp_ic jF_337_378 rfl (pc2 := 379) ?_
                    refine wp_al1 jF_337_379 rfl rfl (pc2 := 380) ?_
                    refine wp_gi jF_337_380 kd117 (by decide) rfl rfl rfl (pc2 := 383) ?_
                    refine wp_cV (as := [iV 1, iV (τ230.1 117 2)]) (rest := []) (a := 117) (mx := 3) (ci := 12) jF_337_383 kd117 (by decide) rfl rfl rfl rfl rfl (by omega) (by omega) rfl (pc2 := 386) ?_
                    refine wp_use (m_218 τ230 g231 1 (by omega) (by omega) (τ230.1 117 2) (by omega) (by omega)  _ _ (by omega) (by omega)) ?_
                    rintro _ τ325 ⟨rfl, g326, f327, p323, p324⟩
                    clear p323
                    replace p324 := p324 (by omega)
                    show WP 337 386 [(0, .ref 117)] [] _ _ _ _
                    refine wp_ic jF_337_386 rfl (pc2 := 387) ?_
                    refine wp_ri jF_337_387 rfl ?_
                    have q328 : (dp τ325) = (dp τ22) := ((dp_fr f327 (fun _ => rfl) rfl).trans ((dp_fr f232 (fun _ => rfl) rfl).trans ((dp_fr f226 (fun _ => rfl) rfl).trans (dp_fr f44 (fun _ => rfl) rfl))))
                    have q329 := ws_nn (σ := τ22)
                    have q330 : (ws τ325) = (ws τ22) := ((ws_fr f327 (fun _ => rfl) rfl).trans ((ws_fr f232 (fun _ => rfl) rfl).trans ((ws_fr f226 (fun _ => rfl) rfl).trans (ws_fr f44 (fun _ => rfl) rfl))))
                    have q331 : (wk τ325) = (wk τ22) := ((wk_fr f327 (fun _ => rfl) rfl rfl).trans ((wk_fr f232 (fun _ => rfl) rfl rfl).trans ((wk_fr f226 (fun _ => rfl) rfl rfl).trans (wk_fr f44 (fun _ => rfl) rfl rfl))))
                    have q332 : (qb τ325) = (qb τ22) := ((qb_fr f327 (fun _ => rfl) rfl rfl).trans ((qb_fr f232 (fun _ => rfl) rfl rfl).trans ((qb_fr f226 (fun _ => rfl) rfl rfl).trans (qb_fr f44 (fun _ => rfl) rfl rfl))))
                    have q333 : (τ325.1 117 2) = (τ230.1 117 2) := (FR.at f327 117 2 rfl)
                    have b334 := GI.b g326 117 5 kd117 (lo := (-2147483648)) (hi := 2147483647) rfl
                    have q335 : (τ325.1 117 87) = (τ22.1 117 87) := ((FR.at f327 117 87 rfl).trans ((FR.at f232 117 87 rfl).trans ((FR.at f226 117 87 rfl).trans (FR.at f44 117 87 rfl))))
                    have q336 : (τ325.1 117 89) = (τ22.1 117 89) := ((FR.at f327 117 89 rfl).trans ((FR.at f232 117 89 rfl).trans ((FR.at f226 117 89 rfl).trans (FR.at f44 117 89 rfl))))
                    have q337 : (sq τ325) = (sq τ22) := ((sq_fr f327 (fun _ => rfl) rfl).trans ((sq_fr f232 (fun _ => rfl) rfl).trans ((sq_fr f226 (fun _ => rfl) rfl).trans (sq_fr f44 (fun _ => rfl) rfl))))
                    exact ⟨0, rfl, ⟨by omega, by omega⟩, g326, (FR.up (FR.up (FR.up (FR.up (FR.up f9 f24 sb_Wqp_Wqp) f44 sb_Wat_Wqp) f226 sb_Wat_Wqp) f232 sb_Wat_Wqp) f327 sb_Wbad_Wqp), (by omega), (by omega), (by omega), (by omega)⟩
              · intro h313
                refine wp_al1 jF_337_326 rfl rfl (pc2 := 327) ?_
                refine wp_bi jF_337_327 (by decide) rfl (pc2 := 329) ?_
                refine wp_cV (as := [iV 44]) (rest := []) (a := 117) (mx := 2) (ci := 12) jF_337_329 kd117 (by decide) rfl rfl rfl rfl rfl (by omega) (by omega) rfl (pc2 := 332) ?_
                have q338 : (τ230.1 117 3) = (σ.1 117 3) := ((FR.at f232 117 3 rfl).trans ((FR.at f226 117 3 rfl).trans ((FR.at f44 117 3 rfl).trans ((FR.at f24 117 3 rfl).trans (FR.at f9 117 3 rfl)))))
                refine wp_use (m_238 τ230 g231 44 (by omega) (by omega)  _ _ (by omega) (by omega)) ?_
                rintro _ τ342 ⟨rfl, g343, f344, p339, p340, p341⟩
                clear p340
                show WP 337 332 [(0, .ref 117)] [] _ _ _ _
                refine wp_al1 jF_337_332 rfl rfl (pc2 := 333) ?_
                have b345 := GI.b g343 117 5 kd117 (lo := (-2147483648)) (hi := 2147483647) rfl
                refine wp_gi jF_337_333 kd117 (by decide) rfl rfl rfl (pc2 := 336) ?_
                refine wp_z_eq jF_337_336 (m_rgb b345 rfl) rfl (pc2 := 339) ?_ ?_
                · intro h346
                  replace p341 := p341 (by omega)
                  refine wp_al1 jF_337_341 rfl rfl (pc2 := 342) ?_
                  refine wp_cV (as := []) (rest := []) (a := 117) (mx := 1) (ci := 12) jF_337_342 kd117 (by decide) rfl rfl rfl rfl rfl (by omega) (by omega) rfl (pc2 := 345) ?_
                  have q347 : (dp τ342) = (dp τ22) := ((dp_fr f344 (fun _ => rfl) rfl).trans ((dp_fr f232 (fun _ => rfl) rfl).trans ((dp_fr f226 (fun _ => rfl) rfl).trans (dp_fr f44 (fun _ => rfl) rfl))))
                  have q348 := ws_nn (σ := τ22)
                  have q349 : (ws τ342) = (ws τ22) := ((ws_fr f344 (fun _ => rfl) rfl).trans ((ws_fr f232 (fun _ => rfl) rfl).trans ((ws_fr f226 (fun _ => rfl) rfl).trans (ws_fr f44 (fun _ => rfl) rfl))))
                  have q350 : (wk τ342) = (wk τ22) := ((wk_fr f344 (fun _ => rfl) rfl rfl).trans ((wk_fr f232 (fun _ => rfl) rfl rfl).trans ((wk_fr f226 (fun _ => rfl) rfl rfl).trans (wk_fr f44 (fun _ => rfl) rfl rfl))))
                  have q351 : (qb τ342) = (qb τ22) := ((qb_fr f344 (fun _ => rfl) rfl rfl).trans ((qb_fr f232 (fun _ => rfl) rfl rfl).trans ((qb_fr f226 (fun _ => rfl) rfl rfl).trans (qb_fr f44 (fun _ => rfl) rfl rfl))))
                  have q352 : (τ342.1 117 87) = (τ22.1 117 87) := ((FR.at f344 117 87 rfl).trans ((FR.at f232 117 87 rfl).trans ((FR.at f226 117 87 rfl).trans (FR.at f44 117 87 rfl))))
                  have q353 : (τ342.1 117 89) = (τ22.1 117 89) := ((FR.at f344 117 89 rfl).trans ((FR.at f232 117 89 rfl).trans ((FR.at f226 117 89 rfl).trans (FR.at f44 117 89 rfl))))
                  have q354 : (τ342.1 117 91) = (σ.1 117 91) := ((FR.at f344 117 91 rfl).trans ((FR.at f232 117 91 rfl).trans ((FR.at f226 117 91 rfl).trans ((FR.at f44 117 91 rfl).trans ((FR.at f24 117 91 rfl).trans (FR.at f9 117 91 rfl))))))
                  refine wp_use (m_340 τ342 g343  (by omega) (by omega) (by omega) (by omega) _ _ (by omega) (by omega)) ?_
                  rintro _ τ360 ⟨rfl, g361, f362, p355, p356, p357, p358, p359⟩
                  show WP 337 345 [(0, .ref 117)] [] _ _ _ _
                  refine wp_al1 jF_337_345 rfl rfl (pc2 := 346) ?_
                  refine wp_gr (b := 177) jF_337_346 kd117 (by decide) (c := 277) rfl rfl rfl (pc2 := 349) ?_
                  refine wp_al1 jF_337_349 rfl rfl (pc2 := 350) ?_
                  have b363 := GI.b g361 117 89 kd117 (lo := 0) (hi := 1690) rfl
                  refine wp_gi jF_337_350 kd117 (by decide) rfl rfl rfl (pc2 := 353) ?_
                  refine wp_ic jF_337_353 rfl (pc2 := 354) ?_
                  refine wp_sub jF_337_354 rfl (pc2 := 355) ?_
                  refine wp_du2 jF_337_355 rfl rfl (pc2 := 356) ?_
                  have b364 := GI.b g23 177 ((τ360.1 117 89) - 1).toNat kd177 (lo := (-2147483648)) (hi := 2147483647) rfl
                  refine wp_iald (n := 1700) (e := (τ22.1 177 ((τ360.1 117 89) - 1).toNat)) jF_337_356 kd177 (by decide) rfl rfl (by omega) (by omega) ((FR.at f362 177 ((τ360.1 117 89) - 1).toNat rfl).trans ((FR.at f344 177 ((τ360.1 117 89) - 1).toNat rfl).trans ((FR.at f232 177 ((τ360.1 117 89) - 1).toNat rfl).trans ((FR.at f226 177 ((τ360.1 117 89) - 1).toNat rfl).trans (FR.at f44 177 ((τ360.1 117 89) - 1).toNat rfl))))) rfl (pc2 := 357) ?_
                  refine wp_ic jF_337_357 rfl (pc2 := 358) ?_
                  refine wp_addw jF_337_358 (m_rgb b364 rfl) (m_rgl rfl) rfl (pc2 := 359) ?_
                  intro z365 h366
                  refine wp_iast (n := 1700) jF_337_359 kd177 (by decide) rfl rfl (by omega) (by omega) rfl (pc2 := 360) g361 (lo := (-2147483648)) (hi := 2147483647) rfl (by omega) (by omega) ?_
                  intro τ367 g368 f369 e370
                  refine wp_ic jF_337_360 rfl (pc2 := 361) ?_
                  refine wp_ri jF_337_361 rfl ?_
                  have q371 : (dp τ367) = (dp τ360) := (dp_wa f369 (by decide))
                  have q372 := ws_nn (σ := τ367)
                  have b373 := GI.b g343 117 2 kd117 (lo := 0) (hi := 1601) rfl
                  have q374 : (τ367.1 117 2) = (τ342.1 117 2) := ((FRw.na f369 (by decide)).trans (FR.at f362 117 2 rfl))
                  have q375 : (τ367.1 117 5) = (τ342.1 117 5) := ((FRw.na f369 (by decide)).trans (FR.at f362 117 5 rfl))
                  have b376 := GI.b g361 117 87 kd117 (lo := 0) (hi := 1690) rfl
                  have q377 : (τ367.1 117 87) = (τ360.1 117 87) := (FRw.na f369 (by decide))
                  have q378 : (τ367.1 117 89) = (τ360.1 117 89) := (FRw.na f369 (by decide))
                  have q379 := ws_nn (σ := τ360)
                  have q380 : (τ360.1 117 91) = (σ.1 117 91) := ((FR.at f362 117 91 rfl).trans ((FR.at f344 117 91 rfl).trans ((FR.at f232 117 91 rfl).trans ((FR.at f226 117 91 rfl).trans ((FR.at f44 117 91 rfl).trans ((FR.at f24 117 91 rfl).trans (FR.at f9 117 91 rfl)))))))
                  have q381 : (tq τ360) = (τ22.1 177 ((τ360.1 117 89) - 1).toNat) := ((tq_e (σ := τ360)).trans (congrArg (fun z : Int => τ360.1 177 (z - 1).toNat) (show (τ360.1 117 89) = (τ360.1 117 89) from rfl))).trans ((FR.at f362 177 ((τ360.1 117 89) - 1).toNat rfl).trans ((FR.at f344 177 ((τ360.1 117 89) - 1).toNat rfl).trans ((FR.at f232 177 ((τ360.1 117 89) - 1).toNat rfl).trans ((FR.at f226 177 ((τ360.1 117 89) - 1).toNat rfl).trans (FR.at f44 177 ((τ360.1 117 89) - 1).toNat rfl)))))
                  have q382 := bmp (σ := τ360) f369 e370 (congrArg (fun z : Int => (z - 1).toNat) (show (τ360.1 117 89) = (τ360.1 117 89) from rfl).symm) (by omega) (by omega) (by omega) (by omega)
                  exact ⟨1, rfl, ⟨by omega, by omega⟩, g368, (FR.w (FR.up (FR.up (FR.up (FR.up (FR.up (FR.up f9 f24 sb_Wqp_Wqp) f44 sb_Wat_Wqp) f226 sb_Wat_Wqp) f232 sb_Wat_Wqp) f344 sb_Wsgn_Wqp) f362 sb_Wqd_Wqp) f369 rfl), (by omega), (by omega), (by omega), (by omega)⟩
                · intro h346
                  clear p341
                  refine wp_ic jF_337_339 rfl (pc2 := 340) ?_
                  refine wp_ri jF_337_340 rfl ?_
                  have q383 : (dp τ342) = (dp τ22) := ((dp_fr f344 (fun _ => rfl) rfl).trans ((dp_fr f232 (fun _ => rfl) rfl).trans ((dp_fr f226 (fun _ => rfl) rfl).trans (dp_fr f44 (fun _ => rfl) rfl))))
                  have q384 := ws_nn (σ := τ22)
                  have q385 : (ws τ342) = (ws τ22) := ((ws_fr f344 (fun _ => rfl) rfl).trans ((ws_fr f232 (fun _ => rfl) rfl).trans ((ws_fr f226 (fun _ => rfl) rfl).trans (ws_fr f44 (fun _ => rfl) rfl))))
                  have q386 : (wk τ342) = (wk τ22) := ((wk_fr f344 (fun _ => rfl) rfl rfl).trans ((wk_fr f232 (fun _ => rfl) rfl rfl).trans ((wk_fr f226 (fun _ => rfl) rfl rfl).trans (wk_fr f44 (fun _ => rfl) rfl rfl))))
                  have q387 : (qb τ342) = (qb τ22) := ((qb_fr f344 (fun _ => rfl) rfl rfl).trans ((qb_fr f232 (fun _ => rfl) rfl rfl).trans ((qb_fr f226 (fun _ => rfl) rfl rfl).trans (qb_fr f44 (fun _ => rfl) rfl rfl))))
                  have b388 := GI.b g343 117 2 kd117 (lo := 0) (hi := 1601) rfl
                  have q389 : (τ342.1 117 87) = (τ22.1 117 87) := ((FR.at f344 117 87 rfl).trans ((FR.at f232 117 87 rfl).trans ((FR.at f226 117 87 rfl).trans (FR.at f44 117 87 rfl))))
                  have q390 : (τ342.1 117 89) = (τ22.1 117 89) := ((FR.at f344 117 89 rfl).trans ((FR.at f232 117 89 rfl).trans ((FR.at f226 117 89 rfl).trans (FR.at f44 117 89 rfl))))
                  have q391 : (sq τ342) = (sq τ22) := ((sq_fr f344 (fun _ => rfl) rfl).trans ((sq_fr f232 (fun _ => rfl) rfl).trans ((sq_fr f226 (fun _ => rfl) rfl).trans (sq_fr f44 (fun _ => rfl) rfl))))
                  exact ⟨0, rfl, ⟨by omega, by omega⟩, g343, (FR.up (FR.up (FR.up (FR.up (FR.up f9 f24 sb_Wqp_Wqp) f44 sb_Wat_Wqp) f226 sb_Wat_Wqp) f232 sb_Wat_Wqp) f344 sb_Wsgn_Wqp), (by omega), (by omega), (by omega), (by omega)⟩
          · intro jn392
            refine wp_al1 jF_337_207 rfl rfl (pc2 := 208) ?_
            refine wp_bi jF_337_208 (by decide) rfl (pc2 := 210) ?_
            refine wp_cV (as := [iV 43]) (rest := []) (a := 117) (mx := 2) (ci := 12) jF_337_210 kd117 (by decide) rfl rfl rfl rfl rfl (by omega) (by omega) rfl (pc2 := 213) ?_
            have b393 := GI.b g225 117 2 kd117 (lo := 0) (hi := 1601) rfl
            have q394 : (τ224.1 117 3) = (σ.1 117 3) := ((FR.at f226 117 3 rfl).trans ((FR.at f44 117 3 rfl).trans ((FR.at f24 117 3 rfl).trans (FR.at f9 117 3 rfl))))
            have q395 : (τ224.1 117 5) = (τ22.1 117 5) := ((FR.at f226 117 5 rfl).trans (FR.at f44 117 5 rfl))
            refine wp_use (m_239 τ224 g225 43 (by omega) (by omega)  _ _ (by omega) (by omega)) ?_
            rintro _ τ400 ⟨z403, rfl, h404, g401, f402, p396, p397, p398, p399⟩
            show WP 337 213 [(0, .ref 117)] [iV z403] _ _ _ _
            refine wp_z_ne jF_337_213 (m_rgb h404 rfl) rfl (pc2 := 216) ?_ ?_
            · intro h405
              replace p399 := p399 (by omega)
              refine wp_al1 jF_337_225 rfl rfl (pc2 := 226) ?_
              refine wp_gr (b := 118) jF_337_226 kd117 (by decide) (c := 218) rfl rfl rfl (pc2 := 229) ?_
              refine wp_al1 jF_337_229 rfl rfl (pc2 := 230) ?_
              have b406 := GI.b g401 117 2 kd117 (lo := 0) (hi := 1601) rfl
              refine wp_gi jF_337_230 kd117 (by decide) rfl rfl rfl (pc2 := 233) ?_
              refine wp_ic jF_337_233 rfl (pc2 := 234) ?_
              refine wp_sub jF_337_234 rfl (pc2 := 235) ?_
              have b407 := GI.b hg 118 ((τ400.1 117 2) - 1).toNat kd118 (lo := 0) (hi := 255) rfl
              refine wp_iald (n := 1600) (e := (σ.1 118 ((τ400.1 117 2) - 1).toNat)) jF_337_235 kd118 (by decide) rfl rfl (by omega) (by omega) ((FR.at f402 118 ((τ400.1 117 2) - 1).toNat rfl).trans ((FR.at f226 118 ((τ400.1 117 2) - 1).toNat rfl).trans ((FR.at f44 118 ((τ400.1 117 2) - 1).toNat rfl).trans ((FR.at f24 118 ((τ400.1 117 2) - 1).toNat rfl).trans (FR.at f9 118 ((τ400.1 117 2) - 1).toNat rfl))))) rfl (pc2 := 236) ?_
              refine wp_bi jF_337_236 (by decide) rfl (pc2 := 238) ?_
              refine wp_i_ne jF_337_238 (m_rgb b407 rfl) (m_rgl rfl) rfl (pc2 := 241) ?_ ?_
              · intro h408
                refine wp_ic jF_337_245 rfl (pc2 := 246) ?_
                refine wp_is1 (lv2 := [(0, .ref 117), (1, iV 2)]) jF_337_246 rfl rfl rfl (pc2 := 247) ?_
                refine wp_loop (α := Unit) (fun a => [(0, .ref 117), (1, iV 2)]) (fun a τ => GI τ ∧ FR Wqd τ400 τ ∧ ((τ.1 117 5) = 0) ∧ ((wk τ) = 1) ∧ ((σ.1 117 91) ≤ (τ.1 117 89)) ∧ ((dp τ) - (ws τ) = (dp σ) - (ws σ)) ∧ ((σ.1 117 2) ≤ (τ.1 117 2)) ∧ ((τ.1 117 87) + (τ.1 117 89) - (τ.1 117 2) + 1 ≤ (σ.1 117 87) + (σ.1 117 89) - (σ.1 117 2))) (fun a τ => Int.toNat ((τ.1 117 89))) () τ400 ?_ ?_
                · skip
                  have q409 : (dp τ400) = (dp τ22) := ((dp_fr f402 (fun _ => rfl) rfl).trans ((dp_fr f226 (fun _ => rfl) rfl).trans (dp_fr f44 (fun _ => rfl) rfl)))
                  have q410 := ws_nn (σ := τ22)
                  have q411 : (ws τ400) = (ws τ22) := ((ws_fr f402 (fun _ => rfl) rfl).trans ((ws_fr f226 (fun _ => rfl) rfl).trans (ws_fr f44 (fun _ => rfl) rfl)))
                  have q412 : (wk τ400) = (wk τ22) := ((wk_fr f402 (fun _ => rfl) rfl rfl).trans ((wk_fr f226 (fun _ => rfl) rfl rfl).trans (wk_fr f44 (fun _ => rfl) rfl rfl)))
                  have q413 : (τ400.1 117 5) = (τ22.1 117 5) := ((FR.at f402 117 5 rfl).trans ((FR.at f226 117 5 rfl).trans (FR.at f44 117 5 rfl)))
                  have q414 : (τ400.1 117 87) = (τ22.1 117 87) := ((FR.at f402 117 87 rfl).trans ((FR.at f226 117 87 rfl).trans (FR.at f44 117 87 rfl)))
                  have q415 : (τ400.1 117 89) = (τ22.1 117 89) := ((FR.at f402 117 89 rfl).trans ((FR.at f226 117 89 rfl).trans (FR.at f44 117 89 rfl)))
                  exact ⟨g401, FR.rf, (by omega), (by omega), (by omega), (by omega), (by omega), (by omega)⟩
                · rintro ⟨⟩ τ416 ⟨g417, f418, p419, p420, p421, p422, p423, p424⟩ ih425
                  have q426 := ws_nn (σ := τ416)
                  have q427 : (τ416.1 117 2) = (τ400.1 117 2) := (FR.at f418 117 2 rfl)
                  have q428 : (τ416.1 117 5) = (τ22.1 117 5) := ((FR.at f418 117 5 rfl).trans ((FR.at f402 117 5 rfl).trans ((FR.at f226 117 5 rfl).trans (FR.at f44 117 5 rfl))))
                  have b429 := GI.b g417 117 87 kd117 (lo := 0) (hi := 1690) rfl
                  have b430 := GI.b g417 117 89 kd117 (lo := 0) (hi := 1690) rfl
                  clear p25 p26 p27 p28 p29 p30 p38 p39 p40 p220 p221 p222 p396 p397 p398 p399
                  show WP 337 247 [(0, .ref 117), (1, iV 2)] [] _ _ _ _
                  show WP 337 247 [(0, .ref 117), (1, iV 2)] [] _ _ _ _
                  refine wp_al1 jF_337_247 rfl rfl (pc2 := 248) ?_
                  refine wp_ic jF_337_248 rfl (pc2 := 249) ?_
                  refine wp_cV (as := [iV 3]) (rest := []) (a := 117) (mx := 2) (ci := 12) jF_337_249 kd117 (by decide) rfl rfl rfl rfl rfl (by omega) (by omega) rfl (pc2 := 252) ?_
                  refine wp_use (m_341_n τ416 g417 3 (by omega) (by omega)  _ _ (by omega) (by omega)) ?_
                  rintro _ _ ⟨z434, rfl, h435, rfl, p431⟩
                  show WP 337 252 [(0, .ref 117), (1, iV 2)] [iV z434] _ _ _ _
                  refine wp_z_ne jF_337_252 (m_rgb h435 rfl) rfl (pc2 := 255) ?_ ?_
                  · intro h436
                    have q437 : (τ416.1 117 91) = (σ.1 117 91) := ((FR.at f418 117 91 rfl).trans ((FR.at f402 117 91 rfl).trans ((FR.at f226 117 91 rfl).trans ((FR.at f44 117 91 rfl).trans ((FR.at f24 117 91 rfl).trans (FR.at f9 117 91 rfl))))))
                    have n438 := wk_b (σ := τ416) (by omega) (by omega) (by omega)
                    replace p431 := p431 (by omega)
                    refine wp_al1 jF_337_279 rfl rfl (pc2 := 280) ?_
                    refine wp_cV (as := []) (rest := []) (a := 117) (mx := 1) (ci := 12) jF_337_280 kd117 (by decide) rfl rfl rfl rfl rfl (by omega) (by omega) rfl (pc2 := 283) ?_
                    refine wp_use (m_336_s τ416 g417  (by omega) (by omega) (by omega) (by omega) (by omega) (by omega) _ _ (by omega) (by omega)) ?_
                    rintro _ τ444 ⟨rfl, g445, f446, p439, p440, p441, p442, p443⟩
                    show WP 337 283 [(0, .ref 117), (1, iV 2)] [] _ _ _ _
                    refine wp_go jF_337_283 ?_
                    have q447 := ws_nn (σ := τ444)
                    have q448 : (τ444.1 117 2) = (τ400.1 117 2) := ((FR.at f446 117 2 rfl).trans (FR.at f418 117 2 rfl))
                    have q449 : (τ444.1 117 5) = (τ22.1 117 5) := ((FR.at f446 117 5 rfl).trans ((FR.at f418 117 5 rfl).trans ((FR.at f402 117 5 rfl).trans ((FR.at f226 117 5 rfl).trans (FR.at f44 117 5 rfl)))))
                    have b450 := GI.b g445 117 87 kd117 (lo := 0) (hi := 1690) rfl
                    have b451 := GI.b g445 117 89 kd117 (lo := 0) (hi := 1690) rfl
                    exact ih425 () τ444 ⟨g445, (FR.up f418 f446 sb_Wqd_Wqd), (by omega), (by omega), (by omega), (by omega), (by omega), (by omega)⟩ (by show Int.toNat ((τ444.1 117 89)) < Int.toNat ((τ416.1 117 89)); omega)
                  · intro h436
                    clear p431
                    refine wp_al1 jF_337_255 rfl rfl (pc2 := 256) ?_
                    refine wp_ic jF_337_256 rfl (pc2 := 257) ?_
                    refine wp_cV (as := [iV 4]) (rest := []) (a := 117) (mx := 2) (ci := 12) jF_337_257 kd117 (by decide) rfl rfl rfl rfl rfl (by omega) (by omega) rfl (pc2 := 260) ?_
                    refine wp_use (m_341_n τ416 g417 4 (by omega) (by omega)  _ _ (by omega) (by omega)) ?_
                    rintro _ _ ⟨z455, rfl, h456, rfl, p452⟩
                    show WP 337 260 [(0, .ref 117), (1, iV 2)] [iV z455] _ _ _ _
                    refine wp_z_ne jF_337_260 (m_rgb h456 rfl) rfl (pc2 := 263) ?_ ?_
                    · intro h457
                      have q458 : (τ416.1 117 91) = (σ.1 117 91) := ((FR.at f418 117 91 rfl).trans ((FR.at f402 117 91 rfl).trans ((FR.at f226 117 91 rfl).trans ((FR.at f44 117 91 rfl).trans ((FR.at f24 117 91 rfl).trans (FR.at f9 117 91 rfl))))))
                      have n459 := wk_b (σ := τ416) (by omega) (by omega) (by omega)
                      replace p452 := p452 (by omega)
                      refine wp_al1 jF_337_279 rfl rfl (pc2 := 280) ?_
                      refine wp_cV (as := []) (rest := []) (a := 117) (mx := 1) (ci := 12) jF_337_280 kd117 (by decide) rfl rfl rfl rfl rfl (by omega) (by omega) rfl (pc2 := 283) ?_
                      refine wp_use (m_336_s τ416 g417  (by omega) (by omega) (by omega) (by omega) (by omega) (by omega) _ _ (by omega) (by omega)) ?_
                      rintro _ τ465 ⟨rfl, g466, f467, p460, p461, p462, p463, p464⟩
                      show WP 337 283 [(0, .ref 117), (1, iV 2)] [] _ _ _ _
                      refine wp_go jF_337_283 ?_
                      have q468 := ws_nn (σ := τ465)
                      have q469 : (τ465.1 117 2) = (τ400.1 117 2) := ((FR.at f467 117 2 rfl).trans (FR.at f418 117 2 rfl))
                      have q470 : (τ465.1 117 5) = (τ22.1 117 5) := ((FR.at f467 117 5 rfl).trans ((FR.at f418 117 5 rfl).trans ((FR.at f402 117 5 rfl).trans ((FR.at f226 117 5 rfl).trans (FR.at f44 117 5 rfl)))))
                      have b471 := GI.b g466 117 87 kd117 (lo := 0) (hi := 1690) rfl
                      have b472 := GI.b g466 117 89 kd117 (lo := 0) (hi := 1690) rfl
                      exact ih425 () τ465 ⟨g466, (FR.up f418 f467 sb_Wqd_Wqd), (by omega), (by omega), (by omega), (by omega), (by omega), (by omega)⟩ (by show Int.toNat ((τ465.1 117 89)) < Int.toNat ((τ416.1 117 89)); omega)
                    · intro h457
                      clear p452
                      refine wp_al1 jF_337_263 rfl rfl (pc2 := 264) ?_
                      refine wp_ic jF_337_264 rfl (pc2 := 265) ?_
                      refine wp_cV (as := [iV 1]) (rest := []) (a := 117) (mx := 2) (ci := 12) jF_337_265 kd117 (by decide) rfl rfl rfl rfl rfl (by omega) (by omega) rfl (pc2 := 268) ?_
                      refine wp_use (m_341_n τ416 g417 1 (by omega) (by omega)  _ _ (by omega) (by omega)) ?_
                      rintro _ _ ⟨z476, rfl, h477, rfl, p473⟩
                      show WP 337 268 [(0, .ref 117), (1, iV 2)] [iV z476] _ _ _ _
                      refine wp_z_ne jF_337_268 (m_rgb h477 rfl) rfl (pc2 := 271) ?_ ?_
                      · intro h478
                        have q479 : (τ416.1 117 91) = (σ.1 117 91) := ((FR.at f418 117 91 rfl).trans ((FR.at f402 117 91 rfl).trans ((FR.at f226 117 91 rfl).trans ((FR.at f44 117 91 rfl).trans ((FR.at f24 117 91 rfl).trans (FR.at f9 117 91 rfl))))))
                        have n480 := wk_b (σ := τ416) (by omega) (by omega) (by omega)
                        replace p473 := p473 (by omega)
                        refine wp_al1 jF_337_279 rfl rfl (pc2 := 280) ?_
                        refine wp_cV (as := []) (rest := []) (a := 117) (mx := 1) (ci := 12) jF_337_280 kd117 (by decide) rfl rfl rfl rfl rfl (by omega) (by omega) rfl (pc2 := 283) ?_
                        refine wp_use (m_336_s τ416 g417  (by omega) (by omega) (by omega) (by omega) (by omega) (by omega) _ _ (by omega) (by omega)) ?_
                        rintro _ τ486 ⟨rfl, g487, f488, p481, p482, p483, p484, p485⟩
                        show WP 337 283 [(0, .ref 117), (1, iV 2)] [] _ _ _ _
                        refine wp_go jF_337_283 ?_
                        have q489 := ws_nn (σ := τ486)
                        have q490 : (τ486.1 117 2) = (τ400.1 117 2) := ((FR.at f488 117 2 rfl).trans (FR.at f418 117 2 rfl))
                        have q491 : (τ486.1 117 5) = (τ22.1 117 5) := ((FR.at f488 117 5 rfl).trans ((FR.at f418 117 5 rfl).trans ((FR.at f402 117 5 rfl).trans ((FR.at f226 117 5 rfl).trans (FR.at f44 117 5 rfl)))))
                        have b492 := GI.b g487 117 87 kd117 (lo := 0) (hi := 1690) rfl
                        have b493 := GI.b g487 117 89 kd117 (lo := 0) (hi := 1690) rfl
                        exact ih425 () τ486 ⟨g487, (FR.up f418 f488 sb_Wqd_Wqd), (by omega), (by omega), (by omega), (by omega), (by omega), (by omega)⟩ (by show Int.toNat ((τ486.1 117 89)) < Int.toNat ((τ416.1 117 89)); omega)
                      · intro h478
                        clear p473
                        refine wp_al1 jF_337_271 rfl rfl (pc2 := 272) ?_
                        refine wp_ic jF_337_272 rfl (pc2 := 273) ?_
                        refine wp_cV (as := [iV 2]) (rest := []) (a := 117) (mx := 2) (ci := 12) jF_337_273 kd117 (by decide) rfl rfl rfl rfl rfl (by omega) (by omega) rfl (pc2 := 276) ?_
                        refine wp_use (m_341_n τ416 g417 2 (by omega) (by omega)  _ _ (by omega) (by omega)) ?_
                        rintro _ _ ⟨z497, rfl, h498, rfl, p494⟩
                        show WP 337 276 [(0, .ref 117), (1, iV 2)] [iV z497] _ _ _ _
                        refine wp_z_eq jF_337_276 (m_rgb h498 rfl) rfl (pc2 := 279) ?_ ?_
                        · intro h499
                          clear p494
                          refine wp_al1 jF_337_286 rfl rfl (pc2 := 287) ?_
                          refine wp_gr (b := 177) jF_337_287 kd117 (by decide) (c := 277) rfl rfl rfl (pc2 := 290) ?_
                          refine wp_al1 jF_337_290 rfl rfl (pc2 := 291) ?_
                          refine wp_gi jF_337_291 kd117 (by decide) rfl rfl rfl (pc2 := 294) ?_
                          refine wp_il1 jF_337_294 rfl rfl (pc2 := 295) ?_
                          refine wp_iast (n := 1700) jF_337_295 kd177 (by decide) rfl rfl (by omega) (by omega) rfl (pc2 := 296) g417 (lo := (-2147483648)) (hi := 2147483647) rfl (by omega) (by omega) ?_
                          intro τ500 g501 f502 e503
                          refine wp_al1 jF_337_296 rfl rfl (pc2 := 297) ?_
                          refine wp_dup jF_337_297 rfl rfl (pc2 := 298) ?_
                          refine wp_gi jF_337_298 kd117 (by decide) rfl (FRw.na f502 (by decide)) rfl (pc2 := 301) ?_
                          refine wp_ic jF_337_301 rfl (pc2 := 302) ?_
                          refine wp_add jF_337_302 rfl (pc2 := 303) ?_
                          refine wp_pi jF_337_303 kd117 (by decide) rfl rfl rfl (pc2 := 306) g501 (lo := 0) (hi := 1690) rfl (by omega) (by omega) ?_
                          intro τ504 g505 f506 e507
                          refine wp_ic jF_337_306 rfl (pc2 := 307) ?_
                          refine wp_ri jF_337_307 rfl ?_
                          have q508 : (dp τ504) = (dp τ416) := ((dp_wr f506 (by decide)).trans (dp_wa f502 (by decide)))
                          have q509 := ws_nn (σ := τ504)
                          have q510 : (τ504.1 117 2) = (τ400.1 117 2) := ((FRw.nj f506 (by decide)).trans ((FRw.na f502 (by decide)).trans (FR.at f418 117 2 rfl)))
                          have q511 : (τ504.1 117 5) = (τ22.1 117 5) := ((FRw.nj f506 (by decide)).trans ((FRw.na f502 (by decide)).trans ((FR.at f418 117 5 rfl).trans ((FR.at f402 117 5 rfl).trans ((FR.at f226 117 5 rfl).trans (FR.at f44 117 5 rfl))))))
                          have q512 : (τ504.1 117 87) = (τ416.1 117 87) := ((FRw.nj f506 (by decide)).trans (FRw.na f502 (by decide)))
                          have q513 : (τ504.1 117 89) = ((τ416.1 117 89) + 1) := e507
                          have q514 : (τ416.1 117 91) = (σ.1 117 91) := ((FR.at f418 117 91 rfl).trans ((FR.at f402 117 91 rfl).trans ((FR.at f226 117 91 rfl).trans ((FR.at f44 117 91 rfl).trans ((FR.at f24 117 91 rfl).trans (FR.at f9 117 91 rfl))))))
                          have q515 : τ416.1 117 89 = (τ416.1 117 89) := rfl
                          have q516 := psh (σ := τ416) f502 e503 (congrArg Int.toNat q515.symm) f506 (by have z := e507; omega) (by omega)
                          have q517 := q516.1 (by omega)
                          have q518 := q516.2.2.1 (by omega) (by omega) (by omega)
                          clear q516
                          exact ⟨1, rfl, ⟨by omega, by omega⟩, g505, (FR.w (FR.w (FR.up (FR.up (FR.up (FR.up (FR.up f9 f24 sb_Wqp_Wqp) f44 sb_Wat_Wqp) f226 sb_Wat_Wqp) f402 sb_Wat_Wqp) f418 sb_Wqd_Wqp) f502 rfl) f506 rfl), (by omega), (by omega), (by omega), (by omega)⟩
                        · intro h499
                          have q519 : (τ416.1 117 91) = (σ.1 117 91) := ((FR.at f418 117 91 rfl).trans ((FR.at f402 117 91 rfl).trans ((FR.at f226 117 91 rfl).trans ((FR.at f44 117 91 rfl).trans ((FR.at f24 117 91 rfl).trans (FR.at f9 117 91 rfl))))))
                          have n520 := wk_b (σ := τ416) (by omega) (by omega) (by omega)
                          replace p494 := p494 (by omega)
                          refine wp_al1 jF_337_279 rfl rfl (pc2 := 280) ?_
                          refine wp_cV (as := []) (rest := []) (a := 117) (mx := 1) (ci := 12) jF_337_280 kd117 (by decide) rfl rfl rfl rfl rfl (by omega) (by omega) rfl (pc2 := 283) ?_
                          refine wp_use (m_336_s τ416 g417  (by omega) (by omega) (by omega) (by omega) (by omega) (by omega) _ _ (by omega) (by omega)) ?_
                          rintro _ τ526 ⟨rfl, g527, f528, p521, p522, p523, p524, p525⟩
                          show WP 337 283 [(0, .ref 117), (1, iV 2)] [] _ _ _ _
                          refine wp_go jF_337_283 ?_
                          have q529 := ws_nn (σ := τ526)
                          have q530 : (τ526.1 117 2) = (τ400.1 117 2) := ((FR.at f528 117 2 rfl).trans (FR.at f418 117 2 rfl))
                          have q531 : (τ526.1 117 5) = (τ22.1 117 5) := ((FR.at f528 117 5 rfl).trans ((FR.at f418 117 5 rfl).trans ((FR.at f402 117 5 rfl).trans ((FR.at f226 117 5 rfl).trans (FR.at f44 117 5 rfl)))))
                          have b532 := GI.b g527 117 87 kd117 (lo := 0) (hi := 1690) rfl
                          have b533 := GI.b g527 117 89 kd117 (lo := 0) (hi := 1690) rfl
                          exact ih425 () τ526 ⟨g527, (FR.up f418 f528 sb_Wqd_Wqd), (by omega), (by omega), (by omega), (by omega), (by omega), (by omega)⟩ (by show Int.toNat ((τ526.1 117 89)) < Int.toNat ((τ416.1 117 89)); omega)
              · intro h408
                refine wp_ic jF_337_241 rfl (pc2 := 242) ?_
                refine wp_go jF_337_242 ?_
                refine wp_is1 (lv2 := [(0, .ref 117), (1, iV 1)]) jF_337_246 rfl rfl rfl (pc2 := 247) ?_
                refine wp_loop (α := Unit) (fun a => [(0, .ref 117), (1, iV 1)]) (fun a τ => GI τ ∧ FR Wqd τ400 τ ∧ ((τ.1 117 5) = 0) ∧ ((wk τ) = 1) ∧ ((σ.1 117 91) ≤ (τ.1 117 89)) ∧ ((dp τ) - (ws τ) = (dp σ) - (ws σ)) ∧ ((σ.1 117 2) ≤ (τ.1 117 2)) ∧ ((τ.1 117 87) + (τ.1 117 89) - (τ.1 117 2) + 1 ≤ (σ.1 117 87) + (σ.1 117 89) - (σ.1 117 2))) (fun a τ => Int.toNat ((τ.1 117 89))) () τ400 ?_ ?_
                · skip
                  have q534 : (dp τ400) = (dp τ22) := ((dp_fr f402 (fun _ => rfl) rfl).trans ((dp_fr f226 (fun _ => rfl) rfl).trans (dp_fr f44 (fun _ => rfl) rfl)))
                  have q535 := ws_nn (σ := τ22)
                  have q536 : (ws τ400) = (ws τ22) := ((ws_fr f402 (fun _ => rfl) rfl).trans ((ws_fr f226 (fun _ => rfl) rfl).trans (ws_fr f44 (fun _ => rfl) rfl)))
                  have q537 : (wk τ400) = (wk τ22) := ((wk_fr f402 (fun _ => rfl) rfl rfl).trans ((wk_fr f226 (fun _ => rfl) rfl rfl).trans (wk_fr f44 (fun _ => rfl) rfl rfl)))
                  have q538 : (τ400.1 117 5) = (τ22.1 117 5) := ((FR.at f402 117 5 rfl).trans ((FR.at f226 117 5 rfl).trans (FR.at f44 117 5 rfl)))
                  have q539 : (τ400.1 117 87) = (τ22.1 117 87) := ((FR.at f402 117 87 rfl).trans ((FR.at f226 117 87 rfl).trans (FR.at f44 117 87 rfl)))
                  have q540 : (τ400.1 117 89) = (τ22.1 117 89) := ((FR.at f402 117 89 rfl).trans ((FR.at f226 117 89 rfl).trans (FR.at f44 117 89 rfl)))
                  exact ⟨g401, FR.rf, (by omega), (by omega), (by omega), (by omega), (by omega), (by omega)⟩
                · rintro ⟨⟩ τ541 ⟨g542, f543, p544, p545, p546, p547, p548, p549⟩ ih550
                  have q551 := ws_nn (σ := τ541)
                  have q552 : (τ541.1 117 2) = (τ400.1 117 2) := (FR.at f543 117 2 rfl)
                  have q553 : (τ541.1 117 5) = (τ22.1 117 5) := ((FR.at f543 117 5 rfl).trans ((FR.at f402 117 5 rfl).trans ((FR.at f226 117 5 rfl).trans (FR.at f44 117 5 rfl))))
                  have b554 := GI.b g542 117 87 kd117 (lo := 0) (hi := 1690) rfl
                  have b555 := GI.b g542 117 89 kd117 (lo := 0) (hi := 1690) rfl
                  clear p25 p26 p27 p28 p29 p30 p38 p39 p40 p220 p221 p222 p396 p397 p398 p399
                  show WP 337 247 [(0, .ref 117), (1, iV 1)] [] _ _ _ _
                  show WP 337 247 [(0, .ref 117), (1, iV 1)] [] _ _ _ _
                  refine wp_al1 jF_337_247 rfl rfl (pc2 := 248) ?_
                  refine wp_ic jF_337_248 rfl (pc2 := 249) ?_
                  refine wp_cV (as := [iV 3]) (rest := []) (a := 117) (mx := 2) (ci := 12) jF_337_249 kd117 (by decide) rfl rfl rfl rfl rfl (by omega) (by omega) rfl (pc2 := 252) ?_
                  refine wp_use (m_341_n τ541 g542 3 (by omega) (by omega)  _ _ (by omega) (by omega)) ?_
                  rintro _ _ ⟨z559, rfl, h560, rfl, p556⟩
                  show WP 337 252 [(0, .ref 117), (1, iV 1)] [iV z559] _ _ _ _
                  refine wp_z_ne jF_337_252 (m_rgb h560 rfl) rfl (pc2 := 255) ?_ ?_
                  · intro h561
                    have q562 : (τ541.1 117 91) = (σ.1 117 91) := ((FR.at f543 117 91 rfl).trans ((FR.at f402 117 91 rfl).trans ((FR.at f226 117 91 rfl).trans ((FR.at f44 117 91 rfl).trans ((FR.at f24 117 91 rfl).trans (FR.at f9 117 91 rfl))))))
                    have n563 := wk_b (σ := τ541) (by omega) (by omega) (by omega)
                    replace p556 := p556 (by omega)
                    refine wp_al1 jF_337_279 rfl rfl (pc2 := 280) ?_
                    refine wp_cV (as := []) (rest := []) (a := 117) (mx := 1) (ci := 12) jF_337_280 kd117 (by decide) rfl rfl rfl rfl rfl (by omega) (by omega) rfl (pc2 := 283) ?_
                    refine wp_use (m_336_s τ541 g542  (by omega) (by omega) (by omega) (by omega) (by omega) (by omega) _ _ (by omega) (by omega)) ?_
                    rintro _ τ569 ⟨rfl, g570, f571, p564, p565, p566, p567, p568⟩
                    show WP 337 283 [(0, .ref 117), (1, iV 1)] [] _ _ _ _
                    refine wp_go jF_337_283 ?_
                    have q572 := ws_nn (σ := τ569)
                    have q573 : (τ569.1 117 2) = (τ400.1 117 2) := ((FR.at f571 117 2 rfl).trans (FR.at f543 117 2 rfl))
                    have q574 : (τ569.1 117 5) = (τ22.1 117 5) := ((FR.at f571 117 5 rfl).trans ((FR.at f543 117 5 rfl).trans ((FR.at f402 117 5 rfl).trans ((FR.at f226 117 5 rfl).trans (FR.at f44 117 5 rfl)))))
                    have b575 := GI.b g570 117 87 kd117 (lo := 0) (hi := 1690) rfl
                    have b576 := GI.b g570 117 89 kd117 (lo := 0) (hi := 1690) rfl
                    exact ih550 () τ569 ⟨g570, (FR.up f543 f571 sb_Wqd_Wqd), (by omega), (by omega), (by omega), (by omega), (by omega), (by omega)⟩ (by show Int.toNat ((τ569.1 117 89)) < Int.toNat ((τ541.1 117 89)); omega)
                  · intro h561
                    clear p556
                    refine wp_al1 jF_337_255 rfl rfl (pc2 := 256) ?_
                    refine wp_ic jF_337_256 rfl (pc2 := 257) ?_
                    refine wp_cV (as := [iV 4]) (rest := []) (a := 117) (mx := 2) (ci := 12) jF_337_257 kd117 (by decide) rfl rfl rfl rfl rfl (by omega) (by omega) rfl (pc2 := 260) ?_
                    refine wp_use (m_341_n τ541 g542 4 (by omega) (by omega)  _ _ (by omega) (by omega)) ?_
                    rintro _ _ ⟨z580, rfl, h581, rfl, p577⟩
                    show WP 337 260 [(0, .ref 117), (1, iV 1)] [iV z580] _ _ _ _
                    refine wp_z_ne jF_337_260 (m_rgb h581 rfl) rfl (pc2 := 263) ?_ ?_
                    · intro h582
                      have q583 : (τ541.1 117 91) = (σ.1 117 91) := ((FR.at f543 117 91 rfl).trans ((FR.at f402 117 91 rfl).trans ((FR.at f226 117 91 rfl).trans ((FR.at f44 117 91 rfl).trans ((FR.at f24 117 91 rfl).trans (FR.at f9 117 91 rfl))))))
                      have n584 := wk_b (σ := τ541) (by omega) (by omega) (by omega)
                      replace p577 := p577 (by omega)
                      refine wp_al1 jF_337_279 rfl rfl (pc2 := 280) ?_
                      refine wp_cV (as := []) (rest := []) (a := 117) (mx := 1) (ci := 12) jF_337_280 kd117 (by decide) rfl rfl rfl rfl rfl (by omega) (by omega) rfl (pc2 := 283) ?_
                      refine wp_use (m_336_s τ541 g542  (by omega) (by omega) (by omega) (by omega) (by omega) (by omega) _ _ (by omega) (by omega)) ?_
                      rintro _ τ590 ⟨rfl, g591, f592, p585, p586, p587, p588, p589⟩
                      show WP 337 283 [(0, .ref 117), (1, iV 1)] [] _ _ _ _
                      refine wp_go jF_337_283 ?_
                      have q593 := ws_nn (σ := τ590)
                      have q594 : (τ590.1 117 2) = (τ400.1 117 2) := ((FR.at f592 117 2 rfl).trans (FR.at f543 117 2 rfl))
                      have q595 : (τ590.1 117 5) = (τ22.1 117 5) := ((FR.at f592 117 5 rfl).trans ((FR.at f543 117 5 rfl).trans ((FR.at f402 117 5 rfl).trans ((FR.at f226 117 5 rfl).trans (FR.at f44 117 5 rfl)))))
                      have b596 := GI.b g591 117 87 kd117 (lo := 0) (hi := 1690) rfl
                      have b597 := GI.b g591 117 89 kd117 (lo := 0) (hi := 1690) rfl
                      exact ih550 () τ590 ⟨g591, (FR.up f543 f592 sb_Wqd_Wqd), (by omega), (by omega), (by omega), (by omega), (by omega), (by omega)⟩ (by show Int.toNat ((τ590.1 117 89)) < Int.toNat ((τ541.1 117 89)); omega)
                    · intro h582
                      clear p577
                      refine wp_al1 jF_337_263 rfl rfl (pc2 := 264) ?_
                      refine wp_ic jF_337_264 rfl (pc2 := 265) ?_
                      refine wp_cV (as := [iV 1]) (rest := []) (a := 117) (mx := 2) (ci := 12) jF_337_265 kd117 (by decide) rfl rfl rfl rfl rfl (by omega) (by omega) rfl (pc2 := 268) ?_
                      refine wp_use (m_341_n τ541 g542 1 (by omega) (by omega)  _ _ (by omega) (by omega)) ?_
                      rintro _ _ ⟨z601, rfl, h602, rfl, p598⟩
                      show WP 337 268 [(0, .ref 117), (1, iV 1)] [iV z601] _ _ _ _
                      refine wp_z_ne jF_337_268 (m_rgb h602 rfl) rfl (pc2 := 271) ?_ ?_
                      · intro h603
                        have q604 : (τ541.1 117 91) = (σ.1 117 91) := ((FR.at f543 117 91 rfl).trans ((FR.at f402 117 91 rfl).trans ((FR.at f226 117 91 rfl).trans ((FR.at f44 117 91 rfl).trans ((FR.at f24 117 91 rfl).trans (FR.at f9 117 91 rfl))))))
                        have n605 := wk_b (σ := τ541) (by omega) (by omega) (by omega)
                        replace p598 := p598 (by omega)
                        refine wp_al1 jF_337_279 rfl rfl (pc2 := 280) ?_
                        refine wp_cV (as := []) (rest := []) (a := 117) (mx := 1) (ci := 12) jF_337_280 kd117 (by decide) rfl rfl rfl rfl rfl (by omega) (by omega) rfl (pc2 := 283) ?_
                        refine wp_use (m_336_s τ541 g542  (by omega) (by omega) (by omega) (by omega) (by omega) (by omega) _ _ (by omega) (by omega)) ?_
                        rintro _ τ611 ⟨rfl, g612, f613, p606, p607, p608, p609, p610⟩
                        show WP 337 283 [(0, .ref 117), (1, iV 1)] [] _ _ _ _
                        refine wp_go jF_337_283 ?_
                        have q614 := ws_nn (σ := τ611)
                        have q615 : (τ611.1 117 2) = (τ400.1 117 2) := ((FR.at f613 117 2 rfl).trans (FR.at f543 117 2 rfl))
                        have q616 : (τ611.1 117 5) = (τ22.1 117 5) := ((FR.at f613 117 5 rfl).trans ((FR.at f543 117 5 rfl).trans ((FR.at f402 117 5 rfl).trans ((FR.at f226 117 5 rfl).trans (FR.at f44 117 5 rfl)))))
                        have b617 := GI.b g612 117 87 kd117 (lo := 0) (hi := 1690) rfl
                        have b618 := GI.b g612 117 89 kd117 (lo := 0) (hi := 1690) rfl
                        exact ih550 () τ611 ⟨g612, (FR.up f543 f613 sb_Wqd_Wqd), (by omega), (by omega), (by omega), (by omega), (by omega), (by omega)⟩ (by show Int.toNat ((τ611.1 117 89)) < Int.toNat ((τ541.1 117 89)); omega)
                      · intro h603
                        clear p598
                        refine wp_al1 jF_337_271 rfl rfl (pc2 := 272) ?_
                        refine wp_ic jF_337_272 rfl (pc2 := 273) ?_
                        refine wp_cV (as := [iV 2]) (rest := []) (a := 117) (mx := 2) (ci := 12) jF_337_273 kd117 (by decide) rfl rfl rfl rfl rfl (by omega) (by omega) rfl (pc2 := 276) ?_
                        refine wp_use (m_341_n τ541 g542 2 (by omega) (by omega)  _ _ (by omega) (by omega)) ?_
                        rintro _ _ ⟨z622, rfl, h623, rfl, p619⟩
                        show WP 337 276 [(0, .ref 117), (1, iV 1)] [iV z622] _ _ _ _
                        refine wp_z_eq jF_337_276 (m_rgb h623 rfl) rfl (pc2 := 279) ?_ ?_
                        · intro h624
                          clear p619
                          refine wp_al1 jF_337_286 rfl rfl (pc2 := 287) ?_
                          refine wp_gr (b := 177) jF_337_287 kd117 (by decide) (c := 277) rfl rfl rfl (pc2 := 290) ?_
                          refine wp_al1 jF_337_290 rfl rfl (pc2 := 291) ?_
                          refine wp_gi jF_337_291 kd117 (by decide) rfl rfl rfl (pc2 := 294) ?_
                          refine wp_il1 jF_337_294 rfl rfl (pc2 := 295) ?_
                          refine wp_iast (n := 1700) jF_337_295 kd177 (by decide) rfl rfl (by omega) (by omega) rfl (pc2 := 296) g542 (lo := (-2147483648)) (hi := 2147483647) rfl (by omega) (by omega) ?_
                          intro τ625 g626 f627 e628
                          refine wp_al1 jF_337_296 rfl rfl (pc2 := 297) ?_
                          refine wp_dup jF_337_297 rfl rfl (pc2 := 298) ?_
                          refine wp_gi jF_337_298 kd117 (by decide) rfl (FRw.na f627 (by decide)) rfl (pc2 := 301) ?_
                          refine wp_ic jF_337_301 rfl (pc2 := 302) ?_
                          refine wp_add jF_337_302 rfl (pc2 := 303) ?_
                          refine wp_pi jF_337_303 kd117 (by decide) rfl rfl rfl (pc2 := 306) g626 (lo := 0) (hi := 1690) rfl (by omega) (by omega) ?_
                          intro τ629 g630 f631 e632
                          refine wp_ic jF_337_306 rfl (pc2 := 307) ?_
                          refine wp_ri jF_337_307 rfl ?_
                          have q633 : (dp τ629) = (dp τ541) := ((dp_wr f631 (by decide)).trans (dp_wa f627 (by decide)))
                          have q634 := ws_nn (σ := τ629)
                          have q635 : (τ629.1 117 2) = (τ400.1 117 2) := ((FRw.nj f631 (by decide)).trans ((FRw.na f627 (by decide)).trans (FR.at f543 117 2 rfl)))
                          have q636 : (τ629.1 117 5) = (τ22.1 117 5) := ((FRw.nj f631 (by decide)).trans ((FRw.na f627 (by decide)).trans ((FR.at f543 117 5 rfl).trans ((FR.at f402 117 5 rfl).trans ((FR.at f226 117 5 rfl).trans (FR.at f44 117 5 rfl))))))
                          have q637 : (τ629.1 117 87) = (τ541.1 117 87) := ((FRw.nj f631 (by decide)).trans (FRw.na f627 (by decide)))
                          have q638 : (τ629.1 117 89) = ((τ541.1 117 89) + 1) := e632
                          have q639 : (τ541.1 117 91) = (σ.1 117 91) := ((FR.at f543 117 91 rfl).trans ((FR.at f402 117 91 rfl).trans ((FR.at f226 117 91 rfl).trans ((FR.at f44 117 91 rfl).trans ((FR.at f24 117 91 rfl).trans (FR.at f9 117 91 rfl))))))
                          have q640 : τ541.1 117 89 = (τ541.1 117 89) := rfl
                          have q641 := psh (σ := τ541) f627 e628 (congrArg Int.toNat q640.symm) f631 (by have z := e632; omega) (by omega)
                          have q642 := q641.1 (by omega)
                          have q643 := q641.2.2.1 (by omega) (by omega) (by omega)
                          clear q641
                          exact ⟨1, rfl, ⟨by omega, by omega⟩, g630, (FR.w (FR.w (FR.up (FR.up (FR.up (FR.up (FR.up f9 f24 sb_Wqp_Wqp) f44 sb_Wat_Wqp) f226 sb_Wat_Wqp) f402 sb_Wat_Wqp) f543 sb_Wqd_Wqp) f627 rfl) f631 rfl), (by omega), (by omega), (by omega), (by omega)⟩
                        · intro h624
                          have q644 : (τ541.1 117 91) = (σ.1 117 91) := ((FR.at f543 117 91 rfl).trans ((FR.at f402 117 91 rfl).trans ((FR.at f226 117 91 rfl).trans ((FR.at f44 117 91 rfl).trans ((FR.at f24 117 91 rfl).trans (FR.at f9 117 91 rfl))))))
                          have n645 := wk_b (σ := τ541) (by omega) (by omega) (by omega)
                          replace p619 := p619 (by omega)
                          refine wp_al1 jF_337_279 rfl rfl (pc2 := 280) ?_
                          refine wp_cV (as := []) (rest := []) (a := 117) (mx := 1) (ci := 12) jF_337_280 kd117 (by decide) rfl rfl rfl rfl rfl (by omega) (by omega) rfl (pc2 := 283) ?_
                          refine wp_use (m_336_s τ541 g542  (by omega) (by omega) (by omega) (by omega) (by omega) (by omega) _ _ (by omega) (by omega)) ?_
                          rintro _ τ651 ⟨rfl, g652, f653, p646, p647, p648, p649, p650⟩
                          show WP 337 283 [(0, .ref 117), (1, iV 1)] [] _ _ _ _
                          refine wp_go jF_337_283 ?_
                          have q654 := ws_nn (σ := τ651)
                          have q655 : (τ651.1 117 2) = (τ400.1 117 2) := ((FR.at f653 117 2 rfl).trans (FR.at f543 117 2 rfl))
                          have q656 : (τ651.1 117 5) = (τ22.1 117 5) := ((FR.at f653 117 5 rfl).trans ((FR.at f543 117 5 rfl).trans ((FR.at f402 117 5 rfl).trans ((FR.at f226 117 5 rfl).trans (FR.at f44 117 5 rfl)))))
                          have b657 := GI.b g652 117 87 kd117 (lo := 0) (hi := 1690) rfl
                          have b658 := GI.b g652 117 89 kd117 (lo := 0) (hi := 1690) rfl
                          exact ih550 () τ651 ⟨g652, (FR.up f543 f653 sb_Wqd_Wqd), (by omega), (by omega), (by omega), (by omega), (by omega), (by omega)⟩ (by show Int.toNat ((τ651.1 117 89)) < Int.toNat ((τ541.1 117 89)); omega)
            · intro h405
              clear p399
              refine wp_al1 jF_337_216 rfl rfl (pc2 := 217) ?_
              refine wp_bi jF_337_217 (by decide) rfl (pc2 := 219) ?_
              refine wp_cV (as := [iV 45]) (rest := []) (a := 117) (mx := 2) (ci := 12) jF_337_219 kd117 (by decide) rfl rfl rfl rfl rfl (by omega) (by omega) rfl (pc2 := 222) ?_
              have b659 := GI.b g401 117 2 kd117 (lo := 0) (hi := 1601) rfl
              have q660 : (τ400.1 117 3) = (σ.1 117 3) := ((FR.at f402 117 3 rfl).trans ((FR.at f226 117 3 rfl).trans ((FR.at f44 117 3 rfl).trans ((FR.at f24 117 3 rfl).trans (FR.at f9 117 3 rfl)))))
              have q661 : (τ400.1 117 5) = (τ22.1 117 5) := ((FR.at f402 117 5 rfl).trans ((FR.at f226 117 5 rfl).trans (FR.at f44 117 5 rfl)))
              refine wp_use (m_239 τ400 g401 45 (by omega) (by omega)  _ _ (by omega) (by omega)) ?_
              rintro _ τ666 ⟨z669, rfl, h670, g667, f668, p662, p663, p664, p665⟩
              show WP 337 222 [(0, .ref 117)] [iV z669] _ _ _ _
              refine wp_z_eq jF_337_222 (m_rgb h670 rfl) rfl (pc2 := 225) ?_ ?_
              · intro h671
                clear p665
                have q672 : (dp τ666) = (dp τ22) := ((dp_fr f668 (fun _ => rfl) rfl).trans ((dp_fr f402 (fun _ => rfl) rfl).trans ((dp_fr f226 (fun _ => rfl) rfl).trans (dp_fr f44 (fun _ => rfl) rfl))))
                have q673 := ws_nn (σ := τ22)
                have q674 : (ws τ666) = (ws τ22) := ((ws_fr f668 (fun _ => rfl) rfl).trans ((ws_fr f402 (fun _ => rfl) rfl).trans ((ws_fr f226 (fun _ => rfl) rfl).trans (ws_fr f44 (fun _ => rfl) rfl))))
                have q675 : (wk τ666) = (wk τ22) := ((wk_fr f668 (fun _ => rfl) rfl rfl).trans ((wk_fr f402 (fun _ => rfl) rfl rfl).trans ((wk_fr f226 (fun _ => rfl) rfl rfl).trans (wk_fr f44 (fun _ => rfl) rfl rfl))))
                have b676 := GI.b g667 117 2 kd117 (lo := 0) (hi := 1601) rfl
                have q677 : (τ666.1 117 5) = (τ22.1 117 5) := ((FR.at f668 117 5 rfl).trans ((FR.at f402 117 5 rfl).trans ((FR.at f226 117 5 rfl).trans (FR.at f44 117 5 rfl))))
                have q678 : (τ666.1 117 87) = (τ22.1 117 87) := ((FR.at f668 117 87 rfl).trans ((FR.at f402 117 87 rfl).trans ((FR.at f226 117 87 rfl).trans (FR.at f44 117 87 rfl))))
                have q679 : (τ666.1 117 89) = (τ22.1 117 89) := ((FR.at f668 117 89 rfl).trans ((FR.at f402 117 89 rfl).trans ((FR.at f226 117 89 rfl).trans (FR.at f44 117 89 rfl))))
                exact jn392 () τ666 ⟨g667, (FR.up f402 f668 sb_Wat_Wat), (by omega), (by omega), (by omega), (by omega), (by omega), (by omega)⟩
              · intro h671
                replace p665 := p665 (by omega)
                refine wp_al1 jF_337_225 rfl rfl (pc2 := 226) ?_
                refine wp_gr (b := 118) jF_337_226 kd117 (by decide) (c := 218) rfl rfl rfl (pc2 := 229) ?_
                refine wp_al1 jF_337_229 rfl rfl (pc2 := 230) ?_
                have b680 := GI.b g667 117 2 kd117 (lo := 0) (hi := 1601) rfl
                refine wp_gi jF_337_230 kd117 (by decide) rfl rfl rfl (pc2 := 233) ?_
                refine wp_ic jF_337_233 rfl (pc2 := 234) ?_
                refine wp_sub jF_337_234 rfl (pc2 := 235) ?_
                have b681 := GI.b hg 118 ((τ666.1 117 2) - 1).toNat kd118 (lo := 0) (hi := 255) rfl
                refine wp_iald (n := 1600) (e := (σ.1 118 ((τ666.1 117 2) - 1).toNat)) jF_337_235 kd118 (by decide) rfl rfl (by omega) (by omega) ((FR.at f668 118 ((τ666.1 117 2) - 1).toNat rfl).trans ((FR.at f402 118 ((τ666.1 117 2) - 1).toNat rfl).trans ((FR.at f226 118 ((τ666.1 117 2) - 1).toNat rfl).trans ((FR.at f44 118 ((τ666.1 117 2) - 1).toNat rfl).trans ((FR.at f24 118 ((τ666.1 117 2) - 1).toNat rfl).trans (FR.at f9 118 ((τ666.1 117 2) - 1).toNat rfl)))))) rfl (pc2 := 236) ?_
                refine wp_bi jF_337_236 (by decide) rfl (pc2 := 238) ?_
                refine wp_i_ne jF_337_238 (m_rgb b681 rfl) (m_rgl rfl) rfl (pc2 := 241) ?_ ?_
                · intro h682
                  refine wp_ic jF_337_245 rfl (pc2 := 246) ?_
                  refine wp_is1 (lv2 := [(0, .ref 117), (1, iV 2)]) jF_337_246 rfl rfl rfl (pc2 := 247) ?_
                  refine wp_loop (α := Unit) (fun a => [(0, .ref 117), (1, iV 2)]) (fun a τ => GI τ ∧ FR Wqd τ666 τ ∧ ((τ.1 117 5) = 0) ∧ ((wk τ) = 1) ∧ ((σ.1 117 91) ≤ (τ.1 117 89)) ∧ ((dp τ) - (ws τ) = (dp σ) - (ws σ)) ∧ ((σ.1 117 2) ≤ (τ.1 117 2)) ∧ ((τ.1 117 87) + (τ.1 117 89) - (τ.1 117 2) + 1 ≤ (σ.1 117 87) + (σ.1 117 89) - (σ.1 117 2))) (fun a τ => Int.toNat ((τ.1 117 89))) () τ666 ?_ ?_
                  · skip
                    have q683 : (dp τ666) = (dp τ22) := ((dp_fr f668 (fun _ => rfl) rfl).trans ((dp_fr f402 (fun _ => rfl) rfl).trans ((dp_fr f226 (fun _ => rfl) rfl).trans (dp_fr f44 (fun _ => rfl) rfl))))
                    have q684 := ws_nn (σ := τ22)
                    have q685 : (ws τ666) = (ws τ22) := ((ws_fr f668 (fun _ => rfl) rfl).trans ((ws_fr f402 (fun _ => rfl) rfl).trans ((ws_fr f226 (fun _ => rfl) rfl).trans (ws_fr f44 (fun _ => rfl) rfl))))
                    have q686 : (wk τ666) = (wk τ22) := ((wk_fr f668 (fun _ => rfl) rfl rfl).trans ((wk_fr f402 (fun _ => rfl) rfl rfl).trans ((wk_fr f226 (fun _ => rfl) rfl rfl).trans (wk_fr f44 (fun _ => rfl) rfl rfl))))
                    have q687 : (τ666.1 117 5) = (τ22.1 117 5) := ((FR.at f668 117 5 rfl).trans ((FR.at f402 117 5 rfl).trans ((FR.at f226 117 5 rfl).trans (FR.at f44 117 5 rfl))))
                    have q688 : (τ666.1 117 87) = (τ22.1 117 87) := ((FR.at f668 117 87 rfl).trans ((FR.at f402 117 87 rfl).trans ((FR.at f226 117 87 rfl).trans (FR.at f44 117 87 rfl))))
                    have q689 : (τ666.1 117 89) = (τ22.1 117 89) := ((FR.at f668 117 89 rfl).trans ((FR.at f402 117 89 rfl).trans ((FR.at f226 117 89 rfl).trans (FR.at f44 117 89 rfl))))
                    exact ⟨g667, FR.rf, (by omega), (by omega), (by omega), (by omega), (by omega), (by omega)⟩
                  · rintro ⟨⟩ τ690 ⟨g691, f692, p693, p694, p695, p696, p697, p698⟩ ih699
                    have q700 := ws_nn (σ := τ690)
                    have q701 : (τ690.1 117 2) = (τ666.1 117 2) := (FR.at f692 117 2 rfl)
                    have q702 : (τ690.1 117 5) = (τ22.1 117 5) := ((FR.at f692 117 5 rfl).trans ((FR.at f668 117 5 rfl).trans ((FR.at f402 117 5 rfl).trans ((FR.at f226 117 5 rfl).trans (FR.at f44 117 5 rfl)))))
                    have b703 := GI.b g691 117 87 kd117 (lo := 0) (hi := 1690) rfl
                    have b704 := GI.b g691 117 89 kd117 (lo := 0) (hi := 1690) rfl
                    clear p25 p26 p27 p28 p29 p30 p38 p39 p40 p220 p221 p222 p396 p397 p398 p662 p663 p664 p665
                    show WP 337 247 [(0, .ref 117), (1, iV 2)] [] _ _ _ _
                    show WP 337 247 [(0, .ref 117), (1, iV 2)] [] _ _ _ _
                    refine wp_al1 jF_337_247 rfl rfl (pc2 := 248) ?_
                    refine wp_ic jF_337_248 rfl (pc2 := 249) ?_
                    refine wp_cV (as := [iV 3]) (rest := []) (a := 117) (mx := 2) (ci := 12) jF_337_249 kd117 (by decide) rfl rfl rfl rfl rfl (by omega) (by omega) rfl (pc2 := 252) ?_
                    refine wp_use (m_341_n τ690 g691 3 (by omega) (by omega)  _ _ (by omega) (by omega)) ?_
                    rintro _ _ ⟨z708, rfl, h709, rfl, p705⟩
                    show WP 337 252 [(0, .ref 117), (1, iV 2)] [iV z708] _ _ _ _
                    refine wp_z_ne jF_337_252 (m_rgb h709 rfl) rfl (pc2 := 255) ?_ ?_
                    · intro h710
                      have q711 : (τ690.1 117 91) = (σ.1 117 91) := ((FR.at f692 117 91 rfl).trans ((FR.at f668 117 91 rfl).trans ((FR.at f402 117 91 rfl).trans ((FR.at f226 117 91 rfl).trans ((FR.at f44 117 91 rfl).trans ((FR.at f24 117 91 rfl).trans (FR.at f9 117 91 rfl)))))))
                      have n712 := wk_b (σ := τ690) (by omega) (by omega) (by omega)
                      replace p705 := p705 (by omega)
                      refine wp_al1 jF_337_279 rfl rfl (pc2 := 280) ?_
                      refine wp_cV (as := []) (rest := []) (a := 117) (mx := 1) (ci := 12) jF_337_280 kd117 (by decide) rfl rfl rfl rfl rfl (by omega) (by omega) rfl (pc2 := 283) ?_
                      refine wp_use (m_336_s τ690 g691  (by omega) (by omega) (by omega) (by omega) (by omega) (by omega) _ _ (by omega) (by omega)) ?_
                      rintro _ τ718 ⟨rfl, g719, f720, p713, p714, p715, p716, p717⟩
                      show WP 337 283 [(0, .ref 117), (1, iV 2)] [] _ _ _ _
                      refine wp_go jF_337_283 ?_
                      have q721 := ws_nn (σ := τ718)
                      have q722 : (τ718.1 117 2) = (τ666.1 117 2) := ((FR.at f720 117 2 rfl).trans (FR.at f692 117 2 rfl))
                      have q723 : (τ718.1 117 5) = (τ22.1 117 5) := ((FR.at f720 117 5 rfl).trans ((FR.at f692 117 5 rfl).trans ((FR.at f668 117 5 rfl).trans ((FR.at f402 117 5 rfl).trans ((FR.at f226 117 5 rfl).trans (FR.at f44 117 5 rfl))))))
                      have b724 := GI.b g719 117 87 kd117 (lo := 0) (hi := 1690) rfl
                      have b725 := GI.b g719 117 89 kd117 (lo := 0) (hi := 1690) rfl
                      exact ih699 () τ718 ⟨g719, (FR.up f692 f720 sb_Wqd_Wqd), (by omega), (by omega), (by omega), (by omega), (by omega), (by omega)⟩ (by show Int.toNat ((τ718.1 117 89)) < Int.toNat ((τ690.1 117 89)); omega)
                    · intro h710
                      clear p705
                      refine wp_al1 jF_337_255 rfl rfl (pc2 := 256) ?_
                      refine wp_ic jF_337_256 rfl (pc2 := 257) ?_
                      refine wp_cV (as := [iV 4]) (rest := []) (a := 117) (mx := 2) (ci := 12) jF_337_257 kd117 (by decide) rfl rfl rfl rfl rfl (by omega) (by omega) rfl (pc2 := 260) ?_
                      refine wp_use (m_341_n τ690 g691 4 (by omega) (by omega)  _ _ (by omega) (by omega)) ?_
                      rintro _ _ ⟨z729, rfl, h730, rfl, p726⟩
                      show WP 337 260 [(0, .ref 117), (1, iV 2)] [iV z729] _ _ _ _
                      refine wp_z_ne jF_337_260 (m_rgb h730 rfl) rfl (pc2 := 263) ?_ ?_
                      · intro h731
                        have q732 : (τ690.1 117 91) = (σ.1 117 91) := ((FR.at f692 117 91 rfl).trans ((FR.at f668 117 91 rfl).trans ((FR.at f402 117 91 rfl).trans ((FR.at f226 117 91 rfl).trans ((FR.at f44 117 91 rfl).trans ((FR.at f24 117 91 rfl).trans (FR.at f9 117 91 rfl)))))))
                        have n733 := wk_b (σ := τ690) (by omega) (by omega) (by omega)
                        replace p726 := p726 (by omega)
                        refine wp_al1 jF_337_279 rfl rfl (pc2 := 280) ?_
                        refine wp_cV (as := []) (rest := []) (a := 117) (mx := 1) (ci := 12) jF_337_280 kd117 (by decide) rfl rfl rfl rfl rfl (by omega) (by omega) rfl (pc2 := 283) ?_
                        refine wp_use (m_336_s τ690 g691  (by omega) (by omega) (by omega) (by omega) (by omega) (by omega) _ _ (by omega) (by omega)) ?_
                        rintro _ τ739 ⟨rfl, g740, f741, p734, p735, p736, p737, p738⟩
                        show WP 337 283 [(0, .ref 117), (1, iV 2)] [] _ _ _ _
                        refine wp_go jF_337_283 ?_
                        have q742 := ws_nn (σ := τ739)
                        have q743 : (τ739.1 117 2) = (τ666.1 117 2) := ((FR.at f741 117 2 rfl).trans (FR.at f692 117 2 rfl))
                        have q744 : (τ739.1 117 5) = (τ22.1 117 5) := ((FR.at f741 117 5 rfl).trans ((FR.at f692 117 5 rfl).trans ((FR.at f668 117 5 rfl).trans ((FR.at f402 117 5 rfl).trans ((FR.at f226 117 5 rfl).trans (FR.at f44 117 5 rfl))))))
                        have b745 := GI.b g740 117 87 kd117 (lo := 0) (hi := 1690) rfl
                        have b746 := GI.b g740 117 89 kd117 (lo := 0) (hi := 1690) rfl
                        exact ih699 () τ739 ⟨g740, (FR.up f692 f741 sb_Wqd_Wqd), (by omega), (by omega), (by omega), (by omega), (by omega), (by omega)⟩ (by show Int.toNat ((τ739.1 117 89)) < Int.toNat ((τ690.1 117 89)); omega)
                      · intro h731
                        clear p726
                        refine wp_al1 jF_337_263 rfl rfl (pc2 := 264) ?_
                        refine wp_ic jF_337_264 rfl (pc2 := 265) ?_
                        refine wp_cV (as := [iV 1]) (rest := []) (a := 117) (mx := 2) (ci := 12) jF_337_265 kd117 (by decide) rfl rfl rfl rfl rfl (by omega) (by omega) rfl (pc2 := 268) ?_
                        refine wp_use (m_341_n τ690 g691 1 (by omega) (by omega)  _ _ (by omega) (by omega)) ?_
                        rintro _ _ ⟨z750, rfl, h751, rfl, p747⟩
                        show WP 337 268 [(0, .ref 117), (1, iV 2)] [iV z750] _ _ _ _
                        refine wp_z_ne jF_337_268 (m_rgb h751 rfl) rfl (pc2 := 271) ?_ ?_
                        · intro h752
                          have q753 : (τ690.1 117 91) = (σ.1 117 91) := ((FR.at f692 117 91 rfl).trans ((FR.at f668 117 91 rfl).trans ((FR.at f402 117 91 rfl).trans ((FR.at f226 117 91 rfl).trans ((FR.at f44 117 91 rfl).trans ((FR.at f24 117 91 rfl).trans (FR.at f9 117 91 rfl)))))))
                          have n754 := wk_b (σ := τ690) (by omega) (by omega) (by omega)
                          replace p747 := p747 (by omega)
                          refine wp_al1 jF_337_279 rfl rfl (pc2 := 280) ?_
                          refine wp_cV (as := []) (rest := []) (a := 117) (mx := 1) (ci := 12) jF_337_280 kd117 (by decide) rfl rfl rfl rfl rfl (by omega) (by omega) rfl (pc2 := 283) ?_
                          refine wp_use (m_336_s τ690 g691  (by omega) (by omega) (by omega) (by omega) (by omega) (by omega) _ _ (by omega) (by omega)) ?_
                          rintro _ τ760 ⟨rfl, g761, f762, p755, p756, p757, p758, p759⟩
                          show WP 337 283 [(0, .ref 117), (1, iV 2)] [] _ _ _ _
                          refine wp_go jF_337_283 ?_
                          have q763 := ws_nn (σ := τ760)
                          have q764 : (τ760.1 117 2) = (τ666.1 117 2) := ((FR.at f762 117 2 rfl).trans (FR.at f692 117 2 rfl))
                          have q765 : (τ760.1 117 5) = (τ22.1 117 5) := ((FR.at f762 117 5 rfl).trans ((FR.at f692 117 5 rfl).trans ((FR.at f668 117 5 rfl).trans ((FR.at f402 117 5 rfl).trans ((FR.at f226 117 5 rfl).trans (FR.at f44 117 5 rfl))))))
                          have b766 := GI.b g761 117 87 kd117 (lo := 0) (hi := 1690) rfl
                          have b767 := GI.b g761 117 89 kd117 (lo := 0) (hi := 1690) rfl
                          exact ih699 () τ760 ⟨g761, (FR.up f692 f762 sb_Wqd_Wqd), (by omega), (by omega), (by omega), (by omega), (by omega), (by omega)⟩ (by show Int.toNat ((τ760.1 117 89)) < Int.toNat ((τ690.1 117 89)); omega)
                        · intro h752
                          clear p747
                          refine wp_al1 jF_337_271 rfl rfl (pc2 := 272) ?_
                          refine wp_ic jF_337_272 rfl (pc2 := 273) ?_
                          refine wp_cV (as := [iV 2]) (rest := []) (a := 117) (mx := 2) (ci := 12) jF_337_273 kd117 (by decide) rfl rfl rfl rfl rfl (by omega) (by omega) rfl (pc2 := 276) ?_
                          refine wp_use (m_341_n τ690 g691 2 (by omega) (by omega)  _ _ (by omega) (by omega)) ?_
                          rintro _ _ ⟨z771, rfl, h772, rfl, p768⟩
                          show WP 337 276 [(0, .ref 117), (1, iV 2)] [iV z771] _ _ _ _
                          refine wp_z_eq jF_337_276 (m_rgb h772 rfl) rfl (pc2 := 279) ?_ ?_
                          · intro h773
                            clear p768
                            refine wp_al1 jF_337_286 rfl rfl (pc2 := 287) ?_
                            refine wp_gr (b := 177) jF_337_287 kd117 (by decide) (c := 277) rfl rfl rfl (pc2 := 290) ?_
                            refine wp_al1 jF_337_290 rfl rfl (pc2 := 291) ?_
                            refine wp_gi jF_337_291 kd117 (by decide) rfl rfl rfl (pc2 := 294) ?_
                            refine wp_il1 jF_337_294 rfl rfl (pc2 := 295) ?_
                            refine wp_iast (n := 1700) jF_337_295 kd177 (by decide) rfl rfl (by omega) (by omega) rfl (pc2 := 296) g691 (lo := (-2147483648)) (hi := 2147483647) rfl (by omega) (by omega) ?_
                            intro τ774 g775 f776 e777
                            refine wp_al1 jF_337_296 rfl rfl (pc2 := 297) ?_
                            refine wp_dup jF_337_297 rfl rfl (pc2 := 298) ?_
                            refine wp_gi jF_337_298 kd117 (by decide) rfl (FRw.na f776 (by decide)) rfl (pc2 := 301) ?_
                            refine wp_ic jF_337_301 rfl (pc2 := 302) ?_
                            refine wp_add jF_337_302 rfl (pc2 := 303) ?_
                            refine wp_pi jF_337_303 kd117 (by decide) rfl rfl rfl (pc2 := 306) g775 (lo := 0) (hi := 1690) rfl (by omega) (by omega) ?_
                            intro τ778 g779 f780 e781
                            refine wp_ic jF_337_306 rfl (pc2 := 307) ?_
                            refine wp_ri jF_337_307 rfl ?_
                            have q782 : (dp τ778) = (dp τ690) := ((dp_wr f780 (by decide)).trans (dp_wa f776 (by decide)))
                            have q783 := ws_nn (σ := τ778)
                            have q784 : (τ778.1 117 2) = (τ666.1 117 2) := ((FRw.nj f780 (by decide)).trans ((FRw.na f776 (by decide)).trans (FR.at f692 117 2 rfl)))
                            have q785 : (τ778.1 117 5) = (τ22.1 117 5) := ((FRw.nj f780 (by decide)).trans ((FRw.na f776 (by decide)).trans ((FR.at f692 117 5 rfl).trans ((FR.at f668 117 5 rfl).trans ((FR.at f402 117 5 rfl).trans ((FR.at f226 117 5 rfl).trans (FR.at f44 117 5 rfl)))))))
                            have q786 : (τ778.1 117 87) = (τ690.1 117 87) := ((FRw.nj f780 (by decide)).trans (FRw.na f776 (by decide)))
                            have q787 : (τ778.1 117 89) = ((τ690.1 117 89) + 1) := e781
                            have q788 : (τ690.1 117 91) = (σ.1 117 91) := ((FR.at f692 117 91 rfl).trans ((FR.at f668 117 91 rfl).trans ((FR.at f402 117 91 rfl).trans ((FR.at f226 117 91 rfl).trans ((FR.at f44 117 91 rfl).trans ((FR.at f24 117 91 rfl).trans (FR.at f9 117 91 rfl)))))))
                            have q789 : τ690.1 117 89 = (τ690.1 117 89) := rfl
                            have q790 := psh (σ := τ690) f776 e777 (congrArg Int.toNat q789.symm) f780 (by have z := e781; omega) (by omega)
                            have q791 := q790.1 (by omega)
                            have q792 := q790.2.2.1 (by omega) (by omega) (by omega)
                            clear q790
                            exact ⟨1, rfl, ⟨by omega, by omega⟩, g779, (FR.w (FR.w (FR.up (FR.up (FR.up (FR.up (FR.up (FR.up f9 f24 sb_Wqp_Wqp) f44 sb_Wat_Wqp) f226 sb_Wat_Wqp) f402 sb_Wat_Wqp) f668 sb_Wat_Wqp) f692 sb_Wqd_Wqp) f776 rfl) f780 rfl), (by omega), (by omega), (by omega), (by omega)⟩
                          · intro h773
                            have q793 : (τ690.1 117 91) = (σ.1 117 91) := ((FR.at f692 117 91 rfl).trans ((FR.at f668 117 91 rfl).trans ((FR.at f402 117 91 rfl).trans ((FR.at f226 117 91 rfl).trans ((FR.at f44 117 91 rfl).trans ((FR.at f24 117 91 rfl).trans (FR.at f9 117 91 rfl)))))))
                            have n794 := wk_b (σ := τ690) (by omega) (by omega) (by omega)
                            replace p768 := p768 (by omega)
                            refine wp_al1 jF_337_279 rfl rfl (pc2 := 280) ?_
                            refine wp_cV (as := []) (rest := []) (a := 117) (mx := 1) (ci := 12) jF_337_280 kd117 (by decide) rfl rfl rfl rfl rfl (by omega) (by omega) rfl (pc2 := 283) ?_
                            refine wp_use (m_336_s τ690 g691  (by omega) (by omega) (by omega) (by omega) (by omega) (by omega) _ _ (by omega) (by omega)) ?_
                            rintro _ τ800 ⟨rfl, g801, f802, p795, p796, p797, p798, p799⟩
                            show WP 337 283 [(0, .ref 117), (1, iV 2)] [] _ _ _ _
                            refine wp_go jF_337_283 ?_
                            have q803 := ws_nn (σ := τ800)
                            have q804 : (τ800.1 117 2) = (τ666.1 117 2) := ((FR.at f802 117 2 rfl).trans (FR.at f692 117 2 rfl))
                            have q805 : (τ800.1 117 5) = (τ22.1 117 5) := ((FR.at f802 117 5 rfl).trans ((FR.at f692 117 5 rfl).trans ((FR.at f668 117 5 rfl).trans ((FR.at f402 117 5 rfl).trans ((FR.at f226 117 5 rfl).trans (FR.at f44 117 5 rfl))))))
                            have b806 := GI.b g801 117 87 kd117 (lo := 0) (hi := 1690) rfl
                            have b807 := GI.b g801 117 89 kd117 (lo := 0) (hi := 1690) rfl
                            exact ih699 () τ800 ⟨g801, (FR.up f692 f802 sb_Wqd_Wqd), (by omega), (by omega), (by omega), (by omega), (by omega), (by omega)⟩ (by show Int.toNat ((τ800.1 117 89)) < Int.toNat ((τ690.1 117 89)); omega)
                · intro h682
                  refine wp_ic jF_337_241 rfl (pc2 := 242) ?_
                  refine wp_go jF_337_242 ?_
                  refine wp_is1 (lv2 := [(0, .ref 117), (1, iV 1)]) jF_337_246 rfl rfl rfl (pc2 := 247) ?_
                  refine wp_loop (α := Unit) (fun a => [(0, .ref 117), (1, iV 1)]) (fun a τ => GI τ ∧ FR Wqd τ666 τ ∧ ((τ.1 117 5) = 0) ∧ ((wk τ) = 1) ∧ ((σ.1 117 91) ≤ (τ.1 117 89)) ∧ ((dp τ) - (ws τ) = (dp σ) - (ws σ)) ∧ ((σ.1 117 2) ≤ (τ.1 117 2)) ∧ ((τ.1 117 87) + (τ.1 117 89) - (τ.1 117 2) + 1 ≤ (σ.1 117 87) + (σ.1 117 89) - (σ.1 117 2))) (fun a τ => Int.toNat ((τ.1 117 89))) () τ666 ?_ ?_
                  · skip
                    have q808 : (dp τ666) = (dp τ22) := ((dp_fr f668 (fun _ => rfl) rfl).trans ((dp_fr f402 (fun _ => rfl) rfl).trans ((dp_fr f226 (fun _ => rfl) rfl).trans (dp_fr f44 (fun _ => rfl) rfl))))
                    have q809 := ws_nn (σ := τ22)
                    have q810 : (ws τ666) = (ws τ22) := ((ws_fr f668 (fun _ => rfl) rfl).trans ((ws_fr f402 (fun _ => rfl) rfl).trans ((ws_fr f226 (fun _ => rfl) rfl).trans (ws_fr f44 (fun _ => rfl) rfl))))
                    have q811 : (wk τ666) = (wk τ22) := ((wk_fr f668 (fun _ => rfl) rfl rfl).trans ((wk_fr f402 (fun _ => rfl) rfl rfl).trans ((wk_fr f226 (fun _ => rfl) rfl rfl).trans (wk_fr f44 (fun _ => rfl) rfl rfl))))
                    have q812 : (τ666.1 117 5) = (τ22.1 117 5) := ((FR.at f668 117 5 rfl).trans ((FR.at f402 117 5 rfl).trans ((FR.at f226 117 5 rfl).trans (FR.at f44 117 5 rfl))))
                    have q813 : (τ666.1 117 87) = (τ22.1 117 87) := ((FR.at f668 117 87 rfl).trans ((FR.at f402 117 87 rfl).trans ((FR.at f226 117 87 rfl).trans (FR.at f44 117 87 rfl))))
                    have q814 : (τ666.1 117 89) = (τ22.1 117 89) := ((FR.at f668 117 89 rfl).trans ((FR.at f402 117 89 rfl).trans ((FR.at f226 117 89 rfl).trans (FR.at f44 117 89 rfl))))
                    exact ⟨g667, FR.rf, (by omega), (by omega), (by omega), (by omega), (by omega), (by omega)⟩
                  · rintro ⟨⟩ τ815 ⟨g816, f817, p818, p819, p820, p821, p822, p823⟩ ih824
                    have q825 := ws_nn (σ := τ815)
                    have q826 : (τ815.1 117 2) = (τ666.1 117 2) := (FR.at f817 117 2 rfl)
                    have q827 : (τ815.1 117 5) = (τ22.1 117 5) := ((FR.at f817 117 5 rfl).trans ((FR.at f668 117 5 rfl).trans ((FR.at f402 117 5 rfl).trans ((FR.at f226 117 5 rfl).trans (FR.at f44 117 5 rfl)))))
                    have b828 := GI.b g816 117 87 kd117 (lo := 0) (hi := 1690) rfl
                    have b829 := GI.b g816 117 89 kd117 (lo := 0) (hi := 1690) rfl
                    clear p25 p26 p27 p28 p29 p30 p38 p39 p40 p220 p221 p222 p396 p397 p398 p662 p663 p664 p665
                    show WP 337 247 [(0, .ref 117), (1, iV 1)] [] _ _ _ _
                    show WP 337 247 [(0, .ref 117), (1, iV 1)] [] _ _ _ _
                    refine wp_al1 jF_337_247 rfl rfl (pc2 := 248) ?_
                    refine wp_ic jF_337_248 rfl (pc2 := 249) ?_
                    refine wp_cV (as := [iV 3]) (rest := []) (a := 117) (mx := 2) (ci := 12) jF_337_249 kd117 (by decide) rfl rfl rfl rfl rfl (by omega) (by omega) rfl (pc2 := 252) ?_
                    refine wp_use (m_341_n τ815 g816 3 (by omega) (by omega)  _ _ (by omega) (by omega)) ?_
                    rintro _ _ ⟨z833, rfl, h834, rfl, p830⟩
                    show WP 337 252 [(0, .ref 117), (1, iV 1)] [iV z833] _ _ _ _
                    refine wp_z_ne jF_337_252 (m_rgb h834 rfl) rfl (pc2 := 255) ?_ ?_
                    · intro h835
                      have q836 : (τ815.1 117 91) = (σ.1 117 91) := ((FR.at f817 117 91 rfl).trans ((FR.at f668 117 91 rfl).trans ((FR.at f402 117 91 rfl).trans ((FR.at f226 117 91 rfl).trans ((FR.at f44 117 91 rfl).trans ((FR.at f24 117 91 rfl).trans (FR.at f9 117 91 rfl)))))))
                      have n837 := wk_b (σ := τ815) (by omega) (by omega) (by omega)
                      replace p830 := p830 (by omega)
                      refine wp_al1 jF_337_279 rfl rfl (pc2 := 280) ?_
                      refine wp_cV (as := []) (rest := []) (a := 117) (mx := 1) (ci := 12) jF_337_280 kd117 (by decide) rfl rfl rfl rfl rfl (by omega) (by omega) rfl (pc2 := 283) ?_
                      refine wp_use (m_336_s τ815 g816  (by omega) (by omega) (by omega) (by omega) (by omega) (by omega) _ _ (by omega) (by omega)) ?_
                      rintro _ τ843 ⟨rfl, g844, f845, p838, p839, p840, p841, p842⟩
                      show WP 337 283 [(0, .ref 117), (1, iV 1)] [] _ _ _ _
                      refine wp_go jF_337_283 ?_
                      have q846 := ws_nn (σ := τ843)
                      have q847 : (τ843.1 117 2) = (τ666.1 117 2) := ((FR.at f845 117 2 rfl).trans (FR.at f817 117 2 rfl))
                      have q848 : (τ843.1 117 5) = (τ22.1 117 5) := ((FR.at f845 117 5 rfl).trans ((FR.at f817 117 5 rfl).trans ((FR.at f668 117 5 rfl).trans ((FR.at f402 117 5 rfl).trans ((FR.at f226 117 5 rfl).trans (FR.at f44 117 5 rfl))))))
                      have b849 := GI.b g844 117 87 kd117 (lo := 0) (hi := 1690) rfl
                      have b850 := GI.b g844 117 89 kd117 (lo := 0) (hi := 1690) rfl
                      exact ih824 () τ843 ⟨g844, (FR.up f817 f845 sb_Wqd_Wqd), (by omega), (by omega), (by omega), (by omega), (by omega), (by omega)⟩ (by show Int.toNat ((τ843.1 117 89)) < Int.toNat ((τ815.1 117 89)); omega)
                    · intro h835
                      clear p830
                      refine wp_al1 jF_337_255 rfl rfl (pc2 := 256) ?_
                      refine wp_ic jF_337_256 rfl (pc2 := 257) ?_
                      refine wp_cV (as := [iV 4]) (rest := []) (a := 117) (mx := 2) (ci := 12) jF_337_257 kd117 (by decide) rfl rfl rfl rfl rfl (by omega) (by omega) rfl (pc2 := 260) ?_
                      refine wp_use (m_341_n τ815 g816 4 (by omega) (by omega)  _ _ (by omega) (by omega)) ?_
                      rintro _ _ ⟨z854, rfl, h855, rfl, p851⟩
                      show WP 337 260 [(0, .ref 117), (1, iV 1)] [iV z854] _ _ _ _
                      refine wp_z_ne jF_337_260 (m_rgb h855 rfl) rfl (pc2 := 263) ?_ ?_
                      · intro h856
                        have q857 : (τ815.1 117 91) = (σ.1 117 91) := ((FR.at f817 117 91 rfl).trans ((FR.at f668 117 91 rfl).trans ((FR.at f402 117 91 rfl).trans ((FR.at f226 117 91 rfl).trans ((FR.at f44 117 91 rfl).trans ((FR.at f24 117 91 rfl).trans (FR.at f9 117 91 rfl)))))))
                        have n858 := wk_b (σ := τ815) (by omega) (by omega) (by omega)
                        replace p851 := p851 (by omega)
                        refine wp_al1 jF_337_279 rfl rfl (pc2 := 280) ?_
                        refine wp_cV (as := []) (rest := []) (a := 117) (mx := 1) (ci := 12) jF_337_280 kd117 (by decide) rfl rfl rfl rfl rfl (by omega) (by omega) rfl (pc2 := 283) ?_
                        refine wp_use (m_336_s τ815 g816  (by omega) (by omega) (by omega) (by omega) (by omega) (by omega) _ _ (by omega) (by omega)) ?_
                        rintro _ τ864 ⟨rfl, g865, f866, p859, p860, p861, p862, p863⟩
                        show WP 337 283 [(0, .ref 117), (1, iV 1)] [] _ _ _ _
                        refine wp_go jF_337_283 ?_
                        have q867 := ws_nn (σ := τ864)
                        have q868 : (τ864.1 117 2) = (τ666.1 117 2) := ((FR.at f866 117 2 rfl).trans (FR.at f817 117 2 rfl))
                        have q869 : (τ864.1 117 5) = (τ22.1 117 5) := ((FR.at f866 117 5 rfl).trans ((FR.at f817 117 5 rfl).trans ((FR.at f668 117 5 rfl).trans ((FR.at f402 117 5 rfl).trans ((FR.at f226 117 5 rfl).trans (FR.at f44 117 5 rfl))))))
                        have b870 := GI.b g865 117 87 kd117 (lo := 0) (hi := 1690) rfl
                        have b871 := GI.b g865 117 89 kd117 (lo := 0) (hi := 1690) rfl
                        exact ih824 () τ864 ⟨g865, (FR.up f817 f866 sb_Wqd_Wqd), (by omega), (by omega), (by omega), (by omega), (by omega), (by omega)⟩ (by show Int.toNat ((τ864.1 117 89)) < Int.toNat ((τ815.1 117 89)); omega)
                      · intro h856
                        clear p851
                        refine wp_al1 jF_337_263 rfl rfl (pc2 := 264) ?_
                        refine wp_ic jF_337_264 rfl (pc2 := 265) ?_
                        refine wp_cV (as := [iV 1]) (rest := []) (a := 117) (mx := 2) (ci := 12) jF_337_265 kd117 (by decide) rfl rfl rfl rfl rfl (by omega) (by omega) rfl (pc2 := 268) ?_
                        refine wp_use (m_341_n τ815 g816 1 (by omega) (by omega)  _ _ (by omega) (by omega)) ?_
                        rintro _ _ ⟨z875, rfl, h876, rfl, p872⟩
                        show WP 337 268 [(0, .ref 117), (1, iV 1)] [iV z875] _ _ _ _
                        refine wp_z_ne jF_337_268 (m_rgb h876 rfl) rfl (pc2 := 271) ?_ ?_
                        · intro h877
                          have q878 : (τ815.1 117 91) = (σ.1 117 91) := ((FR.at f817 117 91 rfl).trans ((FR.at f668 117 91 rfl).trans ((FR.at f402 117 91 rfl).trans ((FR.at f226 117 91 rfl).trans ((FR.at f44 117 91 rfl).trans ((FR.at f24 117 91 rfl).trans (FR.at f9 117 91 rfl)))))))
                          have n879 := wk_b (σ := τ815) (by omega) (by omega) (by omega)
                          replace p872 := p872 (by omega)
                          refine wp_al1 jF_337_279 rfl rfl (pc2 := 280) ?_
                          refine wp_cV (as := []) (rest := []) (a := 117) (mx := 1) (ci := 12) jF_337_280 kd117 (by decide) rfl rfl rfl rfl rfl (by omega) (by omega) rfl (pc2 := 283) ?_
                          refine wp_use (m_336_s τ815 g816  (by omega) (by omega) (by omega) (by omega) (by omega) (by omega) _ _ (by omega) (by omega)) ?_
                          rintro _ τ885 ⟨rfl, g886, f887, p880, p881, p882, p883, p884⟩
                          show WP 337 283 [(0, .ref 117), (1, iV 1)] [] _ _ _ _
                          refine wp_go jF_337_283 ?_
                          have q888 := ws_nn (σ := τ885)
                          have q889 : (τ885.1 117 2) = (τ666.1 117 2) := ((FR.at f887 117 2 rfl).trans (FR.at f817 117 2 rfl))
                          have q890 : (τ885.1 117 5) = (τ22.1 117 5) := ((FR.at f887 117 5 rfl).trans ((FR.at f817 117 5 rfl).trans ((FR.at f668 117 5 rfl).trans ((FR.at f402 117 5 rfl).trans ((FR.at f226 117 5 rfl).trans (FR.at f44 117 5 rfl))))))
                          have b891 := GI.b g886 117 87 kd117 (lo := 0) (hi := 1690) rfl
                          have b892 := GI.b g886 117 89 kd117 (lo := 0) (hi := 1690) rfl
                          exact ih824 () τ885 ⟨g886, (FR.up f817 f887 sb_Wqd_Wqd), (by omega), (by omega), (by omega), (by omega), (by omega), (by omega)⟩ (by show Int.toNat ((τ885.1 117 89)) < Int.toNat ((τ815.1 117 89)); omega)
                        · intro h877
                          clear p872
                          refine wp_al1 jF_337_271 rfl rfl (pc2 := 272) ?_
                          refine wp_ic jF_337_272 rfl (pc2 := 273) ?_
                          refine wp_cV (as := [iV 2]) (rest := []) (a := 117) (mx := 2) (ci := 12) jF_337_273 kd117 (by decide) rfl rfl rfl rfl rfl (by omega) (by omega) rfl (pc2 := 276) ?_
                          refine wp_use (m_341_n τ815 g816 2 (by omega) (by omega)  _ _ (by omega) (by omega)) ?_
                          rintro _ _ ⟨z896, rfl, h897, rfl, p893⟩
                          show WP 337 276 [(0, .ref 117), (1, iV 1)] [iV z896] _ _ _ _
                          refine wp_z_eq jF_337_276 (m_rgb h897 rfl) rfl (pc2 := 279) ?_ ?_
                          · intro h898
                            clear p893
                            refine wp_al1 jF_337_286 rfl rfl (pc2 := 287) ?_
                            refine wp_gr (b := 177) jF_337_287 kd117 (by decide) (c := 277) rfl rfl rfl (pc2 := 290) ?_
                            refine wp_al1 jF_337_290 rfl rfl (pc2 := 291) ?_
                            refine wp_gi jF_337_291 kd117 (by decide) rfl rfl rfl (pc2 := 294) ?_
                            refine wp_il1 jF_337_294 rfl rfl (pc2 := 295) ?_
                            refine wp_iast (n := 1700) jF_337_295 kd177 (by decide) rfl rfl (by omega) (by omega) rfl (pc2 := 296) g816 (lo := (-2147483648)) (hi := 2147483647) rfl (by omega) (by omega) ?_
                            intro τ899 g900 f901 e902
                            refine wp_al1 jF_337_296 rfl rfl (pc2 := 297) ?_
                            refine wp_dup jF_337_297 rfl rfl (pc2 := 298) ?_
                            refine wp_gi jF_337_298 kd117 (by decide) rfl (FRw.na f901 (by decide)) rfl (pc2 := 301) ?_
                            refine wp_ic jF_337_301 rfl (pc2 := 302) ?_
                            refine wp_add jF_337_302 rfl (pc2 := 303) ?_
                            refine wp_pi jF_337_303 kd117 (by decide) rfl rfl rfl (pc2 := 306) g900 (lo := 0) (hi := 1690) rfl (by omega) (by omega) ?_
                            intro τ903 g904 f905 e906
                            refine wp_ic jF_337_306 rfl (pc2 := 307) ?_
                            refine wp_ri jF_337_307 rfl ?_
                            have q907 : (dp τ903) = (dp τ815) := ((dp_wr f905 (by decide)).trans (dp_wa f901 (by decide)))
                            have q908 := ws_nn (σ := τ903)
                            have q909 : (τ903.1 117 2) = (τ666.1 117 2) := ((FRw.nj f905 (by decide)).trans ((FRw.na f901 (by decide)).trans (FR.at f817 117 2 rfl)))
                            have q910 : (τ903.1 117 5) = (τ22.1 117 5) := ((FRw.nj f905 (by decide)).trans ((FRw.na f901 (by decide)).trans ((FR.at f817 117 5 rfl).trans ((FR.at f668 117 5 rfl).trans ((FR.at f402 117 5 rfl).trans ((FR.at f226 117 5 rfl).trans (FR.at f44 117 5 rfl)))))))
                            have q911 : (τ903.1 117 87) = (τ815.1 117 87) := ((FRw.nj f905 (by decide)).trans (FRw.na f901 (by decide)))
                            have q912 : (τ903.1 117 89) = ((τ815.1 117 89) + 1) := e906
                            have q913 : (τ815.1 117 91) = (σ.1 117 91) := ((FR.at f817 117 91 rfl).trans ((FR.at f668 117 91 rfl).trans ((FR.at f402 117 91 rfl).trans ((FR.at f226 117 91 rfl).trans ((FR.at f44 117 91 rfl).trans ((FR.at f24 117 91 rfl).trans (FR.at f9 117 91 rfl)))))))
                            have q914 : τ815.1 117 89 = (τ815.1 117 89) := rfl
                            have q915 := psh (σ := τ815) f901 e902 (congrArg Int.toNat q914.symm) f905 (by have z := e906; omega) (by omega)
                            have q916 := q915.1 (by omega)
                            have q917 := q915.2.2.1 (by omega) (by omega) (by omega)
                            clear q915
                            exact ⟨1, rfl, ⟨by omega, by omega⟩, g904, (FR.w (FR.w (FR.up (FR.up (FR.up (FR.up (FR.up (FR.up f9 f24 sb_Wqp_Wqp) f44 sb_Wat_Wqp) f226 sb_Wat_Wqp) f402 sb_Wat_Wqp) f668 sb_Wat_Wqp) f817 sb_Wqd_Wqp) f901 rfl) f905 rfl), (by omega), (by omega), (by omega), (by omega)⟩
                          · intro h898
                            have q918 : (τ815.1 117 91) = (σ.1 117 91) := ((FR.at f817 117 91 rfl).trans ((FR.at f668 117 91 rfl).trans ((FR.at f402 117 91 rfl).trans ((FR.at f226 117 91 rfl).trans ((FR.at f44 117 91 rfl).trans ((FR.at f24 117 91 rfl).trans (FR.at f9 117 91 rfl)))))))
                            have n919 := wk_b (σ := τ815) (by omega) (by omega) (by omega)
                            replace p893 := p893 (by omega)
                            refine wp_al1 jF_337_279 rfl rfl (pc2 := 280) ?_
                            refine wp_cV (as := []) (rest := []) (a := 117) (mx := 1) (ci := 12) jF_337_280 kd117 (by decide) rfl rfl rfl rfl rfl (by omega) (by omega) rfl (pc2 := 283) ?_
                            refine wp_use (m_336_s τ815 g816  (by omega) (by omega) (by omega) (by omega) (by omega) (by omega) _ _ (by omega) (by omega)) ?_
                            rintro _ τ925 ⟨rfl, g926, f927, p920, p921, p922, p923, p924⟩
                            show WP 337 283 [(0, .ref 117), (1, iV 1)] [] _ _ _ _
                            refine wp_go jF_337_283 ?_
                            have q928 := ws_nn (σ := τ925)
                            have q929 : (τ925.1 117 2) = (τ666.1 117 2) := ((FR.at f927 117 2 rfl).trans (FR.at f817 117 2 rfl))
                            have q930 : (τ925.1 117 5) = (τ22.1 117 5) := ((FR.at f927 117 5 rfl).trans ((FR.at f817 117 5 rfl).trans ((FR.at f668 117 5 rfl).trans ((FR.at f402 117 5 rfl).trans ((FR.at f226 117 5 rfl).trans (FR.at f44 117 5 rfl))))))
                            have b931 := GI.b g926 117 87 kd117 (lo := 0) (hi := 1690) rfl
                            have b932 := GI.b g926 117 89 kd117 (lo := 0) (hi := 1690) rfl
                            exact ih824 () τ925 ⟨g926, (FR.up f817 f927 sb_Wqd_Wqd), (by omega), (by omega), (by omega), (by omega), (by omega), (by omega)⟩ (by show Int.toNat ((τ925.1 117 89)) < Int.toNat ((τ815.1 117 89)); omega)
        · intro h229
          replace p223 := p223 (by omega)
          refine wp_al1 jF_337_140 rfl rfl (pc2 := 141) ?_
          refine wp_gr (b := 118) jF_337_141 kd117 (by decide) (c := 218) rfl rfl rfl (pc2 := 144) ?_
          refine wp_al1 jF_337_144 rfl rfl (pc2 := 145) ?_
          have b933 := GI.b g225 117 2 kd117 (lo := 0) (hi := 1601) rfl
          refine wp_gi jF_337_145 kd117 (by decide) rfl rfl rfl (pc2 := 148) ?_
          refine wp_ic jF_337_148 rfl (pc2 := 149) ?_
          refine wp_sub jF_337_149 rfl (pc2 := 150) ?_
          have b934 := GI.b hg 118 ((τ224.1 117 2) - 1).toNat kd118 (lo := 0) (hi := 255) rfl
          refine wp_iald (n := 1600) (e := (σ.1 118 ((τ224.1 117 2) - 1).toNat)) jF_337_150 kd118 (by decide) rfl rfl (by omega) (by omega) ((FR.at f226 118 ((τ224.1 117 2) - 1).toNat rfl).trans ((FR.at f44 118 ((τ224.1 117 2) - 1).toNat rfl).trans ((FR.at f24 118 ((τ224.1 117 2) - 1).toNat rfl).trans (FR.at f9 118 ((τ224.1 117 2) - 1).toNat rfl)))) rfl (pc2 := 151) ?_
          refine wp_bi jF_337_151 (by decide) rfl (pc2 := 153) ?_
          refine wp_i_ne jF_337_153 (m_rgb b934 rfl) (m_rgl rfl) rfl (pc2 := 156) ?_ ?_
          · intro h935
            refine wp_ic jF_337_160 rfl (pc2 := 161) ?_
            refine wp_is1 (lv2 := [(0, .ref 117), (1, iV 4)]) jF_337_161 rfl rfl rfl (pc2 := 162) ?_
            refine wp_loop (α := Unit) (fun a => [(0, .ref 117), (1, iV 4)]) (fun a τ => GI τ ∧ FR Wqd τ224 τ ∧ ((τ.1 117 5) = 0) ∧ ((wk τ) = 1) ∧ ((σ.1 117 91) ≤ (τ.1 117 89)) ∧ ((dp τ) - (ws τ) = (dp σ) - (ws σ)) ∧ ((σ.1 117 2) ≤ (τ.1 117 2)) ∧ ((τ.1 117 87) + (τ.1 117 89) - (τ.1 117 2) + 1 ≤ (σ.1 117 87) + (σ.1 117 89) - (σ.1 117 2))) (fun a τ => Int.toNat ((τ.1 117 89))) () τ224 ?_ ?_
            · skip
              have q936 : (dp τ224) = (dp τ22) := ((dp_fr f226 (fun _ => rfl) rfl).trans (dp_fr f44 (fun _ => rfl) rfl))
              have q937 := ws_nn (σ := τ22)
              have q938 : (ws τ224) = (ws τ22) := ((ws_fr f226 (fun _ => rfl) rfl).trans (ws_fr f44 (fun _ => rfl) rfl))
              have q939 : (wk τ224) = (wk τ22) := ((wk_fr f226 (fun _ => rfl) rfl rfl).trans (wk_fr f44 (fun _ => rfl) rfl rfl))
              have q940 : (τ224.1 117 5) = (τ22.1 117 5) := ((FR.at f226 117 5 rfl).trans (FR.at f44 117 5 rfl))
              have q941 : (τ224.1 117 87) = (τ22.1 117 87) := ((FR.at f226 117 87 rfl).trans (FR.at f44 117 87 rfl))
              have q942 : (τ224.1 117 89) = (τ22.1 117 89) := ((FR.at f226 117 89 rfl).trans (FR.at f44 117 89 rfl))
              exact ⟨g225, FR.rf, (by omega), (by omega), (by omega), (by omega), (by omega), (by omega)⟩
            · rintro ⟨⟩ τ943 ⟨g944, f945, p946, p947, p948, p949, p950, p951⟩ ih952
              have q953 := ws_nn (σ := τ943)
              have q954 : (τ943.1 117 2) = (τ224.1 117 2) := (FR.at f945 117 2 rfl)
              have q955 : (τ943.1 117 5) = (τ22.1 117 5) := ((FR.at f945 117 5 rfl).trans ((FR.at f226 117 5 rfl).trans (FR.at f44 117 5 rfl)))
              have b956 := GI.b g944 117 87 kd117 (lo := 0) (hi := 1690) rfl
              have b957 := GI.b g944 117 89 kd117 (lo := 0) (hi := 1690) rfl
              clear p25 p26 p27 p28 p29 p30 p38 p39 p40 p220 p221 p222 p223
              show WP 337 162 [(0, .ref 117), (1, iV 4)] [] _ _ _ _
              show WP 337 162 [(0, .ref 117), (1, iV 4)] [] _ _ _ _
              refine wp_al1 jF_337_162 rfl rfl (pc2 := 163) ?_
              refine wp_ic jF_337_163 rfl (pc2 := 164) ?_
              refine wp_cV (as := [iV 3]) (rest := []) (a := 117) (mx := 2) (ci := 12) jF_337_164 kd117 (by decide) rfl rfl rfl rfl rfl (by omega) (by omega) rfl (pc2 := 167) ?_
              refine wp_use (m_341_n τ943 g944 3 (by omega) (by omega)  _ _ (by omega) (by omega)) ?_
              rintro _ _ ⟨z961, rfl, h962, rfl, p958⟩
              show WP 337 167 [(0, .ref 117), (1, iV 4)] [iV z961] _ _ _ _
              refine wp_z_ne jF_337_167 (m_rgb h962 rfl) rfl (pc2 := 170) ?_ ?_
              · intro h963
                have q964 : (τ943.1 117 91) = (σ.1 117 91) := ((FR.at f945 117 91 rfl).trans ((FR.at f226 117 91 rfl).trans ((FR.at f44 117 91 rfl).trans ((FR.at f24 117 91 rfl).trans (FR.at f9 117 91 rfl)))))
                have n965 := wk_b (σ := τ943) (by omega) (by omega) (by omega)
                replace p958 := p958 (by omega)
                refine wp_al1 jF_337_178 rfl rfl (pc2 := 179) ?_
                refine wp_cV (as := []) (rest := []) (a := 117) (mx := 1) (ci := 12) jF_337_179 kd117 (by decide) rfl rfl rfl rfl rfl (by omega) (by omega) rfl (pc2 := 182) ?_
                refine wp_use (m_336_s τ943 g944  (by omega) (by omega) (by omega) (by omega) (by omega) (by omega) _ _ (by omega) (by omega)) ?_
                rintro _ τ971 ⟨rfl, g972, f973, p966, p967, p968, p969, p970⟩
                show WP 337 182 [(0, .ref 117), (1, iV 4)] [] _ _ _ _
                refine wp_go jF_337_182 ?_
                have q974 := ws_nn (σ := τ971)
                have q975 : (τ971.1 117 2) = (τ224.1 117 2) := ((FR.at f973 117 2 rfl).trans (FR.at f945 117 2 rfl))
                have q976 : (τ971.1 117 5) = (τ22.1 117 5) := ((FR.at f973 117 5 rfl).trans ((FR.at f945 117 5 rfl).trans ((FR.at f226 117 5 rfl).trans (FR.at f44 117 5 rfl))))
                have b977 := GI.b g972 117 87 kd117 (lo := 0) (hi := 1690) rfl
                have b978 := GI.b g972 117 89 kd117 (lo := 0) (hi := 1690) rfl
                exact ih952 () τ971 ⟨g972, (FR.up f945 f973 sb_Wqd_Wqd), (by omega), (by omega), (by omega), (by omega), (by omega), (by omega)⟩ (by show Int.toNat ((τ971.1 117 89)) < Int.toNat ((τ943.1 117 89)); omega)
              · intro h963
                clear p958
                refine wp_al1 jF_337_170 rfl rfl (pc2 := 171) ?_
                refine wp_ic jF_337_171 rfl (pc2 := 172) ?_
                refine wp_cV (as := [iV 4]) (rest := []) (a := 117) (mx := 2) (ci := 12) jF_337_172 kd117 (by decide) rfl rfl rfl rfl rfl (by omega) (by omega) rfl (pc2 := 175) ?_
                refine wp_use (m_341_n τ943 g944 4 (by omega) (by omega)  _ _ (by omega) (by omega)) ?_
                rintro _ _ ⟨z982, rfl, h983, rfl, p979⟩
                show WP 337 175 [(0, .ref 117), (1, iV 4)] [iV z982] _ _ _ _
                refine wp_z_eq jF_337_175 (m_rgb h983 rfl) rfl (pc2 := 178) ?_ ?_
                · intro h984
                  clear p979
                  refine wp_al1 jF_337_185 rfl rfl (pc2 := 186) ?_
                  refine wp_gr (b := 177) jF_337_186 kd117 (by decide) (c := 277) rfl rfl rfl (pc2 := 189) ?_
                  refine wp_al1 jF_337_189 rfl rfl (pc2 := 190) ?_
                  refine wp_gi jF_337_190 kd117 (by decide) rfl rfl rfl (pc2 := 193) ?_
                  refine wp_il1 jF_337_193 rfl rfl (pc2 := 194) ?_
                  refine wp_iast (n := 1700) jF_337_194 kd177 (by decide) rfl rfl (by omega) (by omega) rfl (pc2 := 195) g944 (lo := (-2147483648)) (hi := 2147483647) rfl (by omega) (by omega) ?_
                  intro τ985 g986 f987 e988
                  refine wp_al1 jF_337_195 rfl rfl (pc2 := 196) ?_
                  refine wp_dup jF_337_196 rfl rfl (pc2 := 197) ?_
                  refine wp_gi jF_337_197 kd117 (by decide) rfl (FRw.na f987 (by decide)) rfl (pc2 := 200) ?_
                  refine wp_ic jF_337_200 rfl (pc2 := 201) ?_
                  refine wp_add jF_337_201 rfl (pc2 := 202) ?_
                  refine wp_pi jF_337_202 kd117 (by decide) rfl rfl rfl (pc2 := 205) g986 (lo := 0) (hi := 1690) rfl (by omega) (by omega) ?_
                  intro τ989 g990 f991 e992
                  refine wp_ic jF_337_205 rfl (pc2 := 206) ?_
                  refine wp_ri jF_337_206 rfl ?_
                  have q993 : (dp τ989) = (dp τ943) := ((dp_wr f991 (by decide)).trans (dp_wa f987 (by decide)))
                  have q994 := ws_nn (σ := τ989)
                  have q995 : (τ989.1 117 2) = (τ224.1 117 2) := ((FRw.nj f991 (by decide)).trans ((FRw.na f987 (by decide)).trans (FR.at f945 117 2 rfl)))
                  have q996 : (τ989.1 117 5) = (τ22.1 117 5) := ((FRw.nj f991 (by decide)).trans ((FRw.na f987 (by decide)).trans ((FR.at f945 117 5 rfl).trans ((FR.at f226 117 5 rfl).trans (FR.at f44 117 5 rfl)))))
                  have q997 : (τ989.1 117 87) = (τ943.1 117 87) := ((FRw.nj f991 (by decide)).trans (FRw.na f987 (by decide)))
                  have q998 : (τ989.1 117 89) = ((τ943.1 117 89) + 1) := e992
                  have q999 : (τ943.1 117 91) = (σ.1 117 91) := ((FR.at f945 117 91 rfl).trans ((FR.at f226 117 91 rfl).trans ((FR.at f44 117 91 rfl).trans ((FR.at f24 117 91 rfl).trans (FR.at f9 117 91 rfl)))))
                  have q1000 : τ943.1 117 89 = (τ943.1 117 89) := rfl
                  have q1001 := psh (σ := τ943) f987 e988 (congrArg Int.toNat q1000.symm) f991 (by have z := e992; omega) (by omega)
                  have q1002 := q1001.1 (by omega)
                  have q1003 := q1001.2.2.1 (by omega) (by omega) (by omega)
                  clear q1001
                  exact ⟨1, rfl, ⟨by omega, by omega⟩, g990, (FR.w (FR.w (FR.up (FR.up (FR.up (FR.up f9 f24 sb_Wqp_Wqp) f44 sb_Wat_Wqp) f226 sb_Wat_Wqp) f945 sb_Wqd_Wqp) f987 rfl) f991 rfl), (by omega), (by omega), (by omega), (by omega)⟩
                · intro h984
                  have q1004 : (τ943.1 117 91) = (σ.1 117 91) := ((FR.at f945 117 91 rfl).trans ((FR.at f226 117 91 rfl).trans ((FR.at f44 117 91 rfl).trans ((FR.at f24 117 91 rfl).trans (FR.at f9 117 91 rfl)))))
                  have n1005 := wk_b (σ := τ943) (by omega) (by omega) (by omega)
                  replace p979 := p979 (by omega)
                  refine wp_al1 jF_337_178 rfl rfl (pc2 := 179) ?_
                  refine wp_cV (as := []) (rest := []) (a := 117) (mx := 1) (ci := 12) jF_337_179 kd117 (by decide) rfl rfl rfl rfl rfl (by omega) (by omega) rfl (pc2 := 182) ?_
                  refine wp_use (m_336_s τ943 g944  (by omega) (by omega) (by omega) (by omega) (by omega) (by omega) _ _ (by omega) (by omega)) ?_
                  rintro _ τ1011 ⟨rfl, g1012, f1013, p1006, p1007, p1008, p1009, p1010⟩
                  show WP 337 182 [(0, .ref 117), (1, iV 4)] [] _ _ _ _
                  refine wp_go jF_337_182 ?_
                  have q1014 := ws_nn (σ := τ1011)
                  have q1015 : (τ1011.1 117 2) = (τ224.1 117 2) := ((FR.at f1013 117 2 rfl).trans (FR.at f945 117 2 rfl))
                  have q1016 : (τ1011.1 117 5) = (τ22.1 117 5) := ((FR.at f1013 117 5 rfl).trans ((FR.at f945 117 5 rfl).trans ((FR.at f226 117 5 rfl).trans (FR.at f44 117 5 rfl))))
                  have b1017 := GI.b g1012 117 87 kd117 (lo := 0) (hi := 1690) rfl
                  have b1018 := GI.b g1012 117 89 kd117 (lo := 0) (hi := 1690) rfl
                  exact ih952 () τ1011 ⟨g1012, (FR.up f945 f1013 sb_Wqd_Wqd), (by omega), (by omega), (by omega), (by omega), (by omega), (by omega)⟩ (by show Int.toNat ((τ1011.1 117 89)) < Int.toNat ((τ943.1 117 89)); omega)
          · intro h935
            refine wp_ic jF_337_156 rfl (pc2 := 157) ?_
            refine wp_go jF_337_157 ?_
            refine wp_is1 (lv2 := [(0, .ref 117), (1, iV 3)]) jF_337_161 rfl rfl rfl (pc2 := 162) ?_
            refine wp_loop (α := Unit) (fun a => [(0, .ref 117), (1, iV 3)]) (fun a τ => GI τ ∧ FR Wqd τ224 τ ∧ ((τ.1 117 5) = 0) ∧ ((wk τ) = 1) ∧ ((σ.1 117 91) ≤ (τ.1 117 89)) ∧ ((dp τ) - (ws τ) = (dp σ) - (ws σ)) ∧ ((σ.1 117 2) ≤ (τ.1 117 2)) ∧ ((τ.1 117 87) + (τ.1 117 89) - (τ.1 117 2) + 1 ≤ (σ.1 117 87) + (σ.1 117 89) - (σ.1 117 2))) (fun a τ => Int.toNat ((τ.1 117 89))) () τ224 ?_ ?_
            · skip
              have q1019 : (dp τ224) = (dp τ22) := ((dp_fr f226 (fun _ => rfl) rfl).trans (dp_fr f44 (fun _ => rfl) rfl))
              have q1020 := ws_nn (σ := τ22)
              have q1021 : (ws τ224) = (ws τ22) := ((ws_fr f226 (fun _ => rfl) rfl).trans (ws_fr f44 (fun _ => rfl) rfl))
              have q1022 : (wk τ224) = (wk τ22) := ((wk_fr f226 (fun _ => rfl) rfl rfl).trans (wk_fr f44 (fun _ => rfl) rfl rfl))
              have q1023 : (τ224.1 117 5) = (τ22.1 117 5) := ((FR.at f226 117 5 rfl).trans (FR.at f44 117 5 rfl))
              have q1024 : (τ224.1 117 87) = (τ22.1 117 87) := ((FR.at f226 117 87 rfl).trans (FR.at f44 117 87 rfl))
              have q1025 : (τ224.1 117 89) = (τ22.1 117 89) := ((FR.at f226 117 89 rfl).trans (FR.at f44 117 89 rfl))
              exact ⟨g225, FR.rf, (by omega), (by omega), (by omega), (by omega), (by omega), (by omega)⟩
            · rintro ⟨⟩ τ1026 ⟨g1027, f1028, p1029, p1030, p1031, p1032, p1033, p1034⟩ ih1035
              have q1036 := ws_nn (σ := τ1026)
              have q1037 : (τ1026.1 117 2) = (τ224.1 117 2) := (FR.at f1028 117 2 rfl)
              have q1038 : (τ1026.1 117 5) = (τ22.1 117 5) := ((FR.at f1028 117 5 rfl).trans ((FR.at f226 117 5 rfl).trans (FR.at f44 117 5 rfl)))
              have b1039 := GI.b g1027 117 87 kd117 (lo := 0) (hi := 1690) rfl
              have b1040 := GI.b g1027 117 89 kd117 (lo := 0) (hi := 1690) rfl
              clear p25 p26 p27 p28 p29 p30 p38 p39 p40 p220 p221 p222 p223
              show WP 337 162 [(0, .ref 117), (1, iV 3)] [] _ _ _ _
              show WP 337 162 [(0, .ref 117), (1, iV 3)] [] _ _ _ _
              refine wp_al1 jF_337_162 rfl rfl (pc2 := 163) ?_
              refine wp_ic jF_337_163 rfl (pc2 := 164) ?_
              refine wp_cV (as := [iV 3]) (rest := []) (a := 117) (mx := 2) (ci := 12) jF_337_164 kd117 (by decide) rfl rfl rfl rfl rfl (by omega) (by omega) rfl (pc2 := 167) ?_
              refine wp_use (m_341_n τ1026 g1027 3 (by omega) (by omega)  _ _ (by omega) (by omega)) ?_
              rintro _ _ ⟨z1044, rfl, h1045, rfl, p1041⟩
              show WP 337 167 [(0, .ref 117), (1, iV 3)] [iV z1044] _ _ _ _
              refine wp_z_ne jF_337_167 (m_rgb h1045 rfl) rfl (pc2 := 170) ?_ ?_
              · intro h1046
                have q1047 : (τ1026.1 117 91) = (σ.1 117 91) := ((FR.at f1028 117 91 rfl).trans ((FR.at f226 117 91 rfl).trans ((FR.at f44 117 91 rfl).trans ((FR.at f24 117 91 rfl).trans (FR.at f9 117 91 rfl)))))
                have n1048 := wk_b (σ := τ1026) (by omega) (by omega) (by omega)
                replace p1041 := p1041 (by omega)
                refine wp_al1 jF_337_178 rfl rfl (pc2 := 179) ?_
                refine wp_cV (as := []) (rest := []) (a := 117) (mx := 1) (ci := 12) jF_337_179 kd117 (by decide) rfl rfl rfl rfl rfl (by omega) (by omega) rfl (pc2 := 182) ?_
                refine wp_use (m_336_s τ1026 g1027  (by omega) (by omega) (by omega) (by omega) (by omega) (by omega) _ _ (by omega) (by omega)) ?_
                rintro _ τ1054 ⟨rfl, g1055, f1056, p1049, p1050, p1051, p1052, p1053⟩
                show WP 337 182 [(0, .ref 117), (1, iV 3)] [] _ _ _ _
                refine wp_go jF_337_182 ?_
                have q1057 := ws_nn (σ := τ1054)
                have q1058 : (τ1054.1 117 2) = (τ224.1 117 2) := ((FR.at f1056 117 2 rfl).trans (FR.at f1028 117 2 rfl))
                have q1059 : (τ1054.1 117 5) = (τ22.1 117 5) := ((FR.at f1056 117 5 rfl).trans ((FR.at f1028 117 5 rfl).trans ((FR.at f226 117 5 rfl).trans (FR.at f44 117 5 rfl))))
                have b1060 := GI.b g1055 117 87 kd117 (lo := 0) (hi := 1690) rfl
                have b1061 := GI.b g1055 117 89 kd117 (lo := 0) (hi := 1690) rfl
                exact ih1035 () τ1054 ⟨g1055, (FR.up f1028 f1056 sb_Wqd_Wqd), (by omega), (by omega), (by omega), (by omega), (by omega), (by omega)⟩ (by show Int.toNat ((τ1054.1 117 89)) < Int.toNat ((τ1026.1 117 89)); omega)
              · intro h1046
                clear p1041
                refine wp_al1 jF_337_170 rfl rfl (pc2 := 171) ?_
                refine wp_ic jF_337_171 rfl (pc2 := 172) ?_
                refine wp_cV (as := [iV 4]) (rest := []) (a := 117) (mx := 2) (ci := 12) jF_337_172 kd117 (by decide) rfl rfl rfl rfl rfl (by omega) (by omega) rfl (pc2 := 175) ?_
                refine wp_use (m_341_n τ1026 g1027 4 (by omega) (by omega)  _ _ (by omega) (by omega)) ?_
                rintro _ _ ⟨z1065, rfl, h1066, rfl, p1062⟩
                show WP 337 175 [(0, .ref 117), (1, iV 3)] [iV z1065] _ _ _ _
                refine wp_z_eq jF_337_175 (m_rgb h1066 rfl) rfl (pc2 := 178) ?_ ?_
                · intro h1067
                  clear p1062
                  refine wp_al1 jF_337_185 rfl rfl (pc2 := 186) ?_
                  refine wp_gr (b := 177) jF_337_186 kd117 (by decide) (c := 277) rfl rfl rfl (pc2 := 189) ?_
                  refine wp_al1 jF_337_189 rfl rfl (pc2 := 190) ?_
                  refine wp_gi jF_337_190 kd117 (by decide) rfl rfl rfl (pc2 := 193) ?_
                  refine wp_il1 jF_337_193 rfl rfl (pc2 := 194) ?_
                  refine wp_iast (n := 1700) jF_337_194 kd177 (by decide) rfl rfl (by omega) (by omega) rfl (pc2 := 195) g1027 (lo := (-2147483648)) (hi := 2147483647) rfl (by omega) (by omega) ?_
                  intro τ1068 g1069 f1070 e1071
                  refine wp_al1 jF_337_195 rfl rfl (pc2 := 196) ?_
                  refine wp_dup jF_337_196 rfl rfl (pc2 := 197) ?_
                  refine wp_gi jF_337_197 kd117 (by decide) rfl (FRw.na f1070 (by decide)) rfl (pc2 := 200) ?_
                  refine wp_ic jF_337_200 rfl (pc2 := 201) ?_
                  refine wp_add jF_337_201 rfl (pc2 := 202) ?_
                  refine wp_pi jF_337_202 kd117 (by decide) rfl rfl rfl (pc2 := 205) g1069 (lo := 0) (hi := 1690) rfl (by omega) (by omega) ?_
                  intro τ1072 g1073 f1074 e1075
                  refine wp_ic jF_337_205 rfl (pc2 := 206) ?_
                  refine wp_ri jF_337_206 rfl ?_
                  have q1076 : (dp τ1072) = (dp τ1026) := ((dp_wr f1074 (by decide)).trans (dp_wa f1070 (by decide)))
                  have q1077 := ws_nn (σ := τ1072)
                  have q1078 : (τ1072.1 117 2) = (τ224.1 117 2) := ((FRw.nj f1074 (by decide)).trans ((FRw.na f1070 (by decide)).trans (FR.at f1028 117 2 rfl)))
                  have q1079 : (τ1072.1 117 5) = (τ22.1 117 5) := ((FRw.nj f1074 (by decide)).trans ((FRw.na f1070 (by decide)).trans ((FR.at f1028 117 5 rfl).trans ((FR.at f226 117 5 rfl).trans (FR.at f44 117 5 rfl)))))
                  have q1080 : (τ1072.1 117 87) = (τ1026.1 117 87) := ((FRw.nj f1074 (by decide)).trans (FRw.na f1070 (by decide)))
                  have q1081 : (τ1072.1 117 89) = ((τ1026.1 117 89) + 1) := e1075
                  have q1082 : (τ1026.1 117 91) = (σ.1 117 91) := ((FR.at f1028 117 91 rfl).trans ((FR.at f226 117 91 rfl).trans ((FR.at f44 117 91 rfl).trans ((FR.at f24 117 91 rfl).trans (FR.at f9 117 91 rfl)))))
                  have q1083 : τ1026.1 117 89 = (τ1026.1 117 89) := rfl
                  have q1084 := psh (σ := τ1026) f1070 e1071 (congrArg Int.toNat q1083.symm) f1074 (by have z := e1075; omega) (by omega)
                  have q1085 := q1084.1 (by omega)
                  have q1086 := q1084.2.2.1 (by omega) (by omega) (by omega)
                  clear q1084
                  exact ⟨1, rfl, ⟨by omega, by omega⟩, g1073, (FR.w (FR.w (FR.up (FR.up (FR.up (FR.up f9 f24 sb_Wqp_Wqp) f44 sb_Wat_Wqp) f226 sb_Wat_Wqp) f1028 sb_Wqd_Wqp) f1070 rfl) f1074 rfl), (by omega), (by omega), (by omega), (by omega)⟩
                · intro h1067
                  have q1087 : (τ1026.1 117 91) = (σ.1 117 91) := ((FR.at f1028 117 91 rfl).trans ((FR.at f226 117 91 rfl).trans ((FR.at f44 117 91 rfl).trans ((FR.at f24 117 91 rfl).trans (FR.at f9 117 91 rfl)))))
                  have n1088 := wk_b (σ := τ1026) (by omega) (by omega) (by omega)
                  replace p1062 := p1062 (by omega)
                  refine wp_al1 jF_337_178 rfl rfl (pc2 := 179) ?_
                  refine wp_cV (as := []) (rest := []) (a := 117) (mx := 1) (ci := 12) jF_337_179 kd117 (by decide) rfl rfl rfl rfl rfl (by omega) (by omega) rfl (pc2 := 182) ?_
                  refine wp_use (m_336_s τ1026 g1027  (by omega) (by omega) (by omega) (by omega) (by omega) (by omega) _ _ (by omega) (by omega)) ?_
                  rintro _ τ1094 ⟨rfl, g1095, f1096, p1089, p1090, p1091, p1092, p1093⟩
                  show WP 337 182 [(0, .ref 117), (1, iV 3)] [] _ _ _ _
                  refine wp_go jF_337_182 ?_
                  have q1097 := ws_nn (σ := τ1094)
                  have q1098 : (τ1094.1 117 2) = (τ224.1 117 2) := ((FR.at f1096 117 2 rfl).trans (FR.at f1028 117 2 rfl))
                  have q1099 : (τ1094.1 117 5) = (τ22.1 117 5) := ((FR.at f1096 117 5 rfl).trans ((FR.at f1028 117 5 rfl).trans ((FR.at f226 117 5 rfl).trans (FR.at f44 117 5 rfl))))
                  have b1100 := GI.b g1095 117 87 kd117 (lo := 0) (hi := 1690) rfl
                  have b1101 := GI.b g1095 117 89 kd117 (lo := 0) (hi := 1690) rfl
                  exact ih1035 () τ1094 ⟨g1095, (FR.up f1028 f1096 sb_Wqd_Wqd), (by omega), (by omega), (by omega), (by omega), (by omega), (by omega)⟩ (by show Int.toNat ((τ1094.1 117 89)) < Int.toNat ((τ1026.1 117 89)); omega)
    · intro jn1102
      refine wp_al1 jF_337_0 rfl rfl (pc2 := 1) ?_
      refine wp_gi jF_337_1 kd117 (by decide) rfl rfl rfl (pc2 := 4) ?_
      refine wp_z_ne jF_337_4 (m_rgb b19 rfl) rfl (pc2 := 7) ?_ ?_
      · intro h1103
        exact jn1102 () τ7 ⟨g8, FR.rf, (by omega), (by omega), (by omega), (by omega), (by omega), (by omega)⟩
      · intro h1103
        refine wp_al1 jF_337_7 rfl rfl (pc2 := 8) ?_
        refine wp_cV (as := []) (rest := []) (a := 117) (mx := 1) (ci := 12) jF_337_8 kd117 (by decide) rfl rfl rfl rfl rfl (by omega) (by omega) rfl (pc2 := 11) ?_
        have b1104 := GI.b hg 117 3 kd117 (lo := 0) (hi := 1600) rfl
        have q1105 : (τ7.1 117 3) = (σ.1 117 3) := (FR.at f9 117 3 rfl)
        refine wp_use (m_216 τ7 g8   _ _ (by omega) (by omega)) ?_
        rintro _ τ1112 ⟨z1115, rfl, h1116, g1113, f1114, p1106, p1107, p1108, p1109, p1110, p1111⟩
        have b1117 := GI.b hg 118 (τ1112.1 117 2).toNat kd118 (lo := 0) (hi := 255) rfl
        have q1118 : (τ7.1 118 (τ1112.1 117 2).toNat) = (σ.1 118 (τ1112.1 117 2).toNat) := (FR.at f9 118 (τ1112.1 117 2).toNat rfl)
        show WP 337 11 [(0, .ref 117)] [iV z1115] _ _ _ _
        refine wp_bi jF_337_11 (by decide) rfl (pc2 := 13) ?_
        refine wp_i_ne jF_337_13 (m_rgb h1116 rfl) (m_rgl rfl) rfl (pc2 := 16) ?_ ?_
        · intro h1119
          have q1120 : (dp τ1112) = (dp τ7) := (dp_fr f1114 (fun _ => rfl) rfl)
          have q1121 := ws_nn (σ := τ7)
          have q1122 : (ws τ1112) = (ws τ7) := (ws_fr f1114 (fun _ => rfl) rfl)
          have q1123 : (wk τ1112) = (wk τ7) := (wk_fr f1114 (fun _ => rfl) rfl rfl)
          have b1124 := GI.b g1113 117 2 kd117 (lo := 0) (hi := 1601) rfl
          have q1125 : (τ1112.1 117 5) = (τ7.1 117 5) := (FR.at f1114 117 5 rfl)
          have q1126 : (τ1112.1 117 87) = (τ7.1 117 87) := (FR.at f1114 117 87 rfl)
          have q1127 : (τ1112.1 117 89) = (τ7.1 117 89) := (FR.at f1114 117 89 rfl)
          exact jn1102 () τ1112 ⟨g1113, (FR.up FR.rf f1114 sb_Wat_Wqp), (by omega), (by omega), (by omega), (by omega), (by omega), (by omega)⟩
        · intro h1119
          replace p1106 := p1106 (by omega)
          replace p1111 := p1111 (by omega)
          refine wp_al1 jF_337_16 rfl rfl (pc2 := 17) ?_
          refine wp_cV (as := []) (rest := []) (a := 117) (mx := 2) (ci := 12) jF_337_17 kd117 (by decide) rfl rfl rfl rfl rfl (by omega) (by omega) rfl (pc2 := 20) ?_
          have q1128 : (qb τ1112) = (qb τ7) := (qb_fr f1114 (fun _ => rfl) rfl rfl)
          refine wp_use (m_338 τ1112 g1113   _ _ (by omega) (by omega)) ?_
          rintro _ _ ⟨z1132, rfl, h1133, rfl, p1129⟩
          show WP 337 20 [(0, .ref 117)] [iV z1132] _ _ _ _
          refine wp_bi jF_337_20 (by decide) rfl (pc2 := 22) ?_
          refine wp_i_eq jF_337_22 (m_rgb h1133 rfl) (m_rgl rfl) rfl (pc2 := 25) ?_ ?_
          · intro h1134
            refine wp_al1 jF_337_43 rfl rfl (pc2 := 44) ?_
            refine wp_dup jF_337_44 rfl rfl (pc2 := 45) ?_
            have b1135 := GI.b g1113 117 2 kd117 (lo := 0) (hi := 1601) rfl
            refine wp_gi jF_337_45 kd117 (by decide) rfl rfl rfl (pc2 := 48) ?_
            refine wp_ic jF_337_48 rfl (pc2 := 49) ?_
            refine wp_add jF_337_49 rfl (pc2 := 50) ?_
            refine wp_pi jF_337_50 kd117 (by decide) rfl rfl rfl (pc2 := 53) g1113 (lo := 0) (hi := 1601) rfl (by omega) (by omega) ?_
            intro τ1136 g1137 f1138 e1139
            refine wp_al1 jF_337_53 rfl rfl (pc2 := 54) ?_
            refine wp_cV (as := []) (rest := []) (a := 117) (mx := 1) (ci := 12) jF_337_54 kd117 (by decide) rfl rfl rfl rfl rfl (by omega) (by omega) rfl (pc2 := 57) ?_
            have q1140 : (dp τ1136) = (dp τ7) := ((dp_wr f1138 (by decide)).trans (dp_fr f1114 (fun _ => rfl) rfl))
            have q1141 := ws_nn (σ := τ7)
            have q1142 : (ws τ1136) = (ws τ7) := ((ws_wr f1138 (by decide)).trans (ws_fr f1114 (fun _ => rfl) rfl))
            have q1143 : (wk τ1136) = (wk τ7) := ((wk_wr f1138 (by decide)).trans (wk_fr f1114 (fun _ => rfl) rfl rfl))
            have q1144 : (qb τ1136) = (qb τ7) := ((qb_wr f1138 (by decide)).trans (qb_fr f1114 (fun _ => rfl) rfl rfl))
            have q1145 : (τ1136.1 117 87) = (τ7.1 117 87) := ((FRw.nj f1138 (by decide)).trans (FR.at f1114 117 87 rfl))
            have q1146 : (τ1136.1 117 89) = (τ7.1 117 89) := ((FRw.nj f1138 (by decide)).trans (FR.at f1114 117 89 rfl))
            have q1147 : (τ1136.1 117 91) = (σ.1 117 91) := ((FRw.nj f1138 (by decide)).trans ((FR.at f1114 117 91 rfl).trans (FR.at f9 117 91 rfl)))
            refine wp_use (m_340 τ1136 g1137  (by omega) (by omega) (by omega) (by omega) _ _ (by omega) (by omega)) ?_
            rintro _ τ1153 ⟨rfl, g1154, f1155, p1148, p1149, p1150, p1151, p1152⟩
            show WP 337 57 [(0, .ref 117)] [] _ _ _ _
            refine wp_al1 jF_337_57 rfl rfl (pc2 := 58) ?_
            refine wp_dup jF_337_58 rfl rfl (pc2 := 59) ?_
            have b1156 := GI.b g1154 117 89 kd117 (lo := 0) (hi := 1690) rfl
            refine wp_gi jF_337_59 kd117 (by decide) rfl rfl rfl (pc2 := 62) ?_
            refine wp_ic jF_337_62 rfl (pc2 := 63) ?_
            refine wp_sub jF_337_63 rfl (pc2 := 64) ?_
            refine wp_pi jF_337_64 kd117 (by decide) rfl rfl rfl (pc2 := 67) g1154 (lo := 0) (hi := 1690) rfl (by omega) (by omega) ?_
            intro τ1157 g1158 f1159 e1160
            refine wp_al1 jF_337_67 rfl rfl (pc2 := 68) ?_
            refine wp_dup jF_337_68 rfl rfl (pc2 := 69) ?_
            have b1161 := GI.b g8 117 90 kd117 (lo := (-2147483648)) (hi := 2147483647) rfl
            refine wp_gi jF_337_69 kd117 (by decide) rfl ((FRw.nj f1159 (by decide)).trans ((FR.at f1155 117 90 rfl).trans ((FRw.nj f1138 (by decide)).trans (FR.at f1114 117 90 rfl)))) rfl (pc2 := 72) ?_
            refine wp_ic jF_337_72 rfl (pc2 := 73) ?_
            refine wp_subw jF_337_73 (m_rgb b1161 rfl) (m_rgl rfl) rfl (pc2 := 74) ?_
            intro z1162 h1163
            refine wp_pi jF_337_74 kd117 (by decide) rfl rfl rfl (pc2 := 77) g1158 (lo := (-2147483648)) (hi := 2147483647) rfl (by omega) (by omega) ?_
            intro τ1164 g1165 f1166 e1167
            have q1168 := ws_nn (σ := τ1153)
            have q1169 : (τ1153.1 117 91) = (σ.1 117 91) := ((FR.at f1155 117 91 rfl).trans ((FRw.nj f1138 (by decide)).trans ((FR.at f1114 117 91 rfl).trans (FR.at f9 117 91 rfl))))
            have b1170 := GI.b g8 177 ((τ1153.1 117 89) - 1).toNat kd177 (lo := (-2147483648)) (hi := 2147483647) rfl
            have q1171 : (tq τ1153) = (τ7.1 177 ((τ1153.1 117 89) - 1).toNat) := ((tq_e (σ := τ1153)).trans (congrArg (fun z : Int => τ1153.1 177 (z - 1).toNat) (show (τ1153.1 117 89) = (τ1153.1 117 89) from rfl))).trans ((FR.at f1155 177 ((τ1153.1 117 89) - 1).toNat rfl).trans ((FRw.na f1138 (by decide)).trans (FR.at f1114 177 ((τ1153.1 117 89) - 1).toNat rfl)))
            have q1172 : (tq τ1153) = 20 := by omega
            have q1173 := pop f1159 e1160 (by omega)
            have q1174 := q1173.2.1 (by omega)
            have q1175 := q1173.2.2.2.1 (by omega)
            clear q1173
            refine wp_al1 jF_337_77 rfl rfl (pc2 := 78) ?_
            refine wp_gr (b := 177) jF_337_78 kd117 (by decide) (c := 277) rfl rfl rfl (pc2 := 81) ?_
            refine wp_al1 jF_337_81 rfl rfl (pc2 := 82) ?_
            refine wp_gi jF_337_82 kd117 (by decide) rfl ((FRw.nj f1166 (by decide)).trans e1160) rfl (pc2 := 85) ?_
            refine wp_iald (n := 1700) (e := (τ7.1 177 ((τ1153.1 117 89) - 1).toNat)) jF_337_85 kd177 (by decide) rfl rfl (by omega) (by omega) ((FRw.na f1166 (by decide)).trans ((FRw.na f1159 (by decide)).trans ((FR.at f1155 177 ((τ1153.1 117 89) - 1).toNat rfl).trans ((FRw.na f1138 (by decide)).trans (FR.at f1114 177 ((τ1153.1 117 89) - 1).toNat rfl))))) rfl (pc2 := 86) ?_
            refine wp_bi jF_337_86 (by decide) rfl (pc2 := 88) ?_
            refine wp_i_eq jF_337_88 ⟨by omega, by omega⟩ (m_rgl rfl) rfl (pc2 := 91) ?_ ?_
            · intro h1176
              refine wp_al1 jF_337_115 rfl rfl (pc2 := 116) ?_
              refine wp_cV (as := []) (rest := []) (a := 117) (mx := 1) (ci := 12) jF_337_116 kd117 (by decide) rfl rfl rfl rfl rfl (by omega) (by omega) rfl (pc2 := 119) ?_
              have q1177 : (dp τ1164) = (dp τ1153) := ((dp_wr f1166 (by decide)).trans (dp_wr f1159 (by decide)))
              have q1178 := ws_nn (σ := τ1157)
              have q1179 : (ws τ1164) = (ws τ1157) := (ws_wr f1166 (by decide))
              have q1180 : (wk τ1164) = (wk τ1157) := (wk_wr f1166 (by decide))
              have q1181 : (τ1164.1 117 5) = (τ7.1 117 5) := ((FRw.nj f1166 (by decide)).trans ((FRw.nj f1159 (by decide)).trans ((FR.at f1155 117 5 rfl).trans ((FRw.nj f1138 (by decide)).trans (FR.at f1114 117 5 rfl)))))
              have b1182 := GI.b g1154 117 87 kd117 (lo := 0) (hi := 1690) rfl
              have q1183 : (τ1164.1 117 87) = (τ1153.1 117 87) := ((FRw.nj f1166 (by decide)).trans (FRw.nj f1159 (by decide)))
              have q1184 : (τ1164.1 117 89) = ((τ1153.1 117 89) - 1) := ((FRw.nj f1166 (by decide)).trans e1160)
              have q1185 : (τ1164.1 117 91) = (σ.1 117 91) := ((FRw.nj f1166 (by decide)).trans ((FRw.nj f1159 (by decide)).trans ((FR.at f1155 117 91 rfl).trans ((FRw.nj f1138 (by decide)).trans ((FR.at f1114 117 91 rfl).trans (FR.at f9 117 91 rfl))))))
              refine wp_use (m_335 τ1164 g1165  (by omega) (by omega) (by omega) (by omega) _ _ (by omega) (by omega)) ?_
              rintro _ τ1190 ⟨rfl, g1191, f1192, p1186, p1187, p1188, p1189⟩
              show WP 337 119 [(0, .ref 117)] [] _ _ _ _
              refine wp_go jF_337_119 ?_
              have q1193 := ws_nn (σ := τ1190)
              have q1194 : (τ1190.1 117 2) = ((τ1112.1 117 2) + 1) := ((FR.at f1192 117 2 rfl).trans ((FRw.nj f1166 (by decide)).trans ((FRw.nj f1159 (by decide)).trans ((FR.at f1155 117 2 rfl).trans e1139))))
              have q1195 : (τ1190.1 117 5) = (τ7.1 117 5) := ((FR.at f1192 117 5 rfl).trans ((FRw.nj f1166 (by decide)).trans ((FRw.nj f1159 (by decide)).trans ((FR.at f1155 117 5 rfl).trans ((FRw.nj f1138 (by decide)).trans (FR.at f1114 117 5 rfl))))))
              have b1196 := GI.b g1191 117 87 kd117 (lo := 0) (hi := 1690) rfl
              have b1197 := GI.b g1191 117 89 kd117 (lo := 0) (hi := 1690) rfl
              exact ih16 () τ1190 ⟨g1191, (FR.up (FR.w (FR.w (FR.up (FR.w (FR.up f9 f1114 sb_Wat_Wqp) f1138 rfl) f1155 sb_Wqd_Wqp) f1159 rfl) f1166 rfl) f1192 sb_Wqe_Wqp), (by omega), (by omega), (by omega), (by omega), (by omega), (by omega)⟩ (by show Int.toNat (1700 - (τ1190.1 117 2)) < Int.toNat (1700 - (τ7.1 117 2)); omega)
            · intro h1176; exfalso; omega
          · intro h1134
            refine wp_al1 jF_337_25 rfl rfl (pc2 := 26) ?_
            refine wp_cV (as := []) (rest := []) (a := 117) (mx := 2) (ci := 12) jF_337_26 kd117 (by decide) rfl rfl rfl rfl rfl (by omega) (by omega) rfl (pc2 := 29) ?_
            refine wp_use (m_338 τ1112 g1113   _ _ (by omega) (by omega)) ?_
            rintro _ _ ⟨z1201, rfl, h1202, rfl, p1198⟩
            show WP 337 29 [(0, .ref 117)] [iV z1201] _ _ _ _
            refine wp_bi jF_337_29 (by decide) rfl (pc2 := 31) ?_
            refine wp_i_eq jF_337_31 (m_rgb h1202 rfl) (m_rgl rfl) rfl (pc2 := 34) ?_ ?_
            · intro h1203
              refine wp_al1 jF_337_43 rfl rfl (pc2 := 44) ?_
              refine wp_dup jF_337_44 rfl rfl (pc2 := 45) ?_
              have b1204 := GI.b g1113 117 2 kd117 (lo := 0) (hi := 1601) rfl
              refine wp_gi jF_337_45 kd117 (by decide) rfl rfl rfl (pc2 := 48) ?_
              refine wp_ic jF_337_48 rfl (pc2 := 49) ?_
              refine wp_add jF_337_49 rfl (pc2 := 50) ?_
              refine wp_pi jF_337_50 kd117 (by decide) rfl rfl rfl (pc2 := 53) g1113 (lo := 0) (hi := 1601) rfl (by omega) (by omega) ?_
              intro τ1205 g1206 f1207 e1208
              refine wp_al1 jF_337_53 rfl rfl (pc2 := 54) ?_
              refine wp_cV (as := []) (rest := []) (a := 117) (mx := 1) (ci := 12) jF_337_54 kd117 (by decide) rfl rfl rfl rfl rfl (by omega) (by omega) rfl (pc2 := 57) ?_
              have q1209 : (dp τ1205) = (dp τ7) := ((dp_wr f1207 (by decide)).trans (dp_fr f1114 (fun _ => rfl) rfl))
              have q1210 := ws_nn (σ := τ7)
              have q1211 : (ws τ1205) = (ws τ7) := ((ws_wr f1207 (by decide)).trans (ws_fr f1114 (fun _ => rfl) rfl))
              have q1212 : (wk τ1205) = (wk τ7) := ((wk_wr f1207 (by decide)).trans (wk_fr f1114 (fun _ => rfl) rfl rfl))
              have q1213 : (qb τ1205) = (qb τ7) := ((qb_wr f1207 (by decide)).trans (qb_fr f1114 (fun _ => rfl) rfl rfl))
              have q1214 : (τ1205.1 117 87) = (τ7.1 117 87) := ((FRw.nj f1207 (by decide)).trans (FR.at f1114 117 87 rfl))
              have q1215 : (τ1205.1 117 89) = (τ7.1 117 89) := ((FRw.nj f1207 (by decide)).trans (FR.at f1114 117 89 rfl))
              have q1216 : (τ1205.1 117 91) = (σ.1 117 91) := ((FRw.nj f1207 (by decide)).trans ((FR.at f1114 117 91 rfl).trans (FR.at f9 117 91 rfl)))
              refine wp_use (m_340 τ1205 g1206  (by omega) (by omega) (by omega) (by omega) _ _ (by omega) (by omega)) ?_
              rintro _ τ1222 ⟨rfl, g1223, f1224, p1217, p1218, p1219, p1220, p1221⟩
              show WP 337 57 [(0, .ref 117)] [] _ _ _ _
              refine wp_al1 jF_337_57 rfl rfl (pc2 := 58) ?_
              refine wp_dup jF_337_58 rfl rfl (pc2 := 59) ?_
              have b1225 := GI.b g1223 117 89 kd117 (lo := 0) (hi := 1690) rfl
              refine wp_gi jF_337_59 kd117 (by decide) rfl rfl rfl (pc2 := 62) ?_
              refine wp_ic jF_337_62 rfl (pc2 := 63) ?_
              refine wp_sub jF_337_63 rfl (pc2 := 64) ?_
              refine wp_pi jF_337_64 kd117 (by decide) rfl rfl rfl (pc2 := 67) g1223 (lo := 0) (hi := 1690) rfl (by omega) (by omega) ?_
              intro τ1226 g1227 f1228 e1229
              refine wp_al1 jF_337_67 rfl rfl (pc2 := 68) ?_
              refine wp_dup jF_337_68 rfl rfl (pc2 := 69) ?_
              have b1230 := GI.b g8 117 90 kd117 (lo := (-2147483648)) (hi := 2147483647) rfl
              refine wp_gi jF_337_69 kd117 (by decide) rfl ((FRw.nj f1228 (by decide)).trans ((FR.at f1224 117 90 rfl).trans ((FRw.nj f1207 (by decide)).trans (FR.at f1114 117 90 rfl)))) rfl (pc2 := 72) ?_
              refine wp_ic jF_337_72 rfl (pc2 := 73) ?_
              refine wp_subw jF_337_73 (m_rgb b1230 rfl) (m_rgl rfl) rfl (pc2 := 74) ?_
              intro z1231 h1232
              refine wp_pi jF_337_74 kd117 (by decide) rfl rfl rfl (pc2 := 77) g1227 (lo := (-2147483648)) (hi := 2147483647) rfl (by omega) (by omega) ?_
              intro τ1233 g1234 f1235 e1236
              have q1237 := ws_nn (σ := τ1222)
              have q1238 : (τ1222.1 117 91) = (σ.1 117 91) := ((FR.at f1224 117 91 rfl).trans ((FRw.nj f1207 (by decide)).trans ((FR.at f1114 117 91 rfl).trans (FR.at f9 117 91 rfl))))
              have b1239 := GI.b g8 177 ((τ1222.1 117 89) - 1).toNat kd177 (lo := (-2147483648)) (hi := 2147483647) rfl
              have q1240 : (tq τ1222) = (τ7.1 177 ((τ1222.1 117 89) - 1).toNat) := ((tq_e (σ := τ1222)).trans (congrArg (fun z : Int => τ1222.1 177 (z - 1).toNat) (show (τ1222.1 117 89) = (τ1222.1 117 89) from rfl))).trans ((FR.at f1224 177 ((τ1222.1 117 89) - 1).toNat rfl).trans ((FRw.na f1207 (by decide)).trans (FR.at f1114 177 ((τ1222.1 117 89) - 1).toNat rfl)))
              have q1241 : (tq τ1222) = 23 := by omega
              have q1242 := pop f1228 e1229 (by omega)
              have q1243 := q1242.1 (by omega)
              have q1244 := ws_b (σ := τ1222) (by omega) (by omega)
              have q1245 := q1242.2.2.2.1 (by omega)
              clear q1242
              refine wp_al1 jF_337_77 rfl rfl (pc2 := 78) ?_
              refine wp_gr (b := 177) jF_337_78 kd117 (by decide) (c := 277) rfl rfl rfl (pc2 := 81) ?_
              refine wp_al1 jF_337_81 rfl rfl (pc2 := 82) ?_
              refine wp_gi jF_337_82 kd117 (by decide) rfl ((FRw.nj f1235 (by decide)).trans e1229) rfl (pc2 := 85) ?_
              refine wp_iald (n := 1700) (e := (τ7.1 177 ((τ1222.1 117 89) - 1).toNat)) jF_337_85 kd177 (by decide) rfl rfl (by omega) (by omega) ((FRw.na f1235 (by decide)).trans ((FRw.na f1228 (by decide)).trans ((FR.at f1224 177 ((τ1222.1 117 89) - 1).toNat rfl).trans ((FRw.na f1207 (by decide)).trans (FR.at f1114 177 ((τ1222.1 117 89) - 1).toNat rfl))))) rfl (pc2 := 86) ?_
              refine wp_bi jF_337_86 (by decide) rfl (pc2 := 88) ?_
              refine wp_i_eq jF_337_88 ⟨by omega, by omega⟩ (m_rgl rfl) rfl (pc2 := 91) ?_ ?_
              · intro h1246; exfalso; omega
              · intro h1246
                refine wp_al1 jF_337_91 rfl rfl (pc2 := 92) ?_
                refine wp_al1 jF_337_92 rfl rfl (pc2 := 93) ?_
                refine wp_gr (b := 177) jF_337_93 kd117 (by decide) (c := 277) rfl rfl rfl (pc2 := 96) ?_
                refine wp_al1 jF_337_96 rfl rfl (pc2 := 97) ?_
                refine wp_gi jF_337_97 kd117 (by decide) rfl ((FRw.nj f1235 (by decide)).trans e1229) rfl (pc2 := 100) ?_
                refine wp_iald (n := 1700) (e := (τ7.1 177 ((τ1222.1 117 89) - 1).toNat)) jF_337_100 kd177 (by decide) rfl rfl (by omega) (by omega) ((FRw.na f1235 (by decide)).trans ((FRw.na f1228 (by decide)).trans ((FR.at f1224 177 ((τ1222.1 117 89) - 1).toNat rfl).trans ((FRw.na f1207 (by decide)).trans (FR.at f1114 177 ((τ1222.1 117 89) - 1).toNat rfl))))) rfl (pc2 := 101) ?_
                refine wp_bi jF_337_101 (by decide) rfl (pc2 := 103) ?_
                refine wp_i_ne jF_337_103 ⟨by omega, by omega⟩ (m_rgl rfl) rfl (pc2 := 106) ?_ ?_
                · intro h1247; exfalso; omega
                · intro h1247
                  refine wp_ic jF_337_106 rfl (pc2 := 107) ?_
                  refine wp_go jF_337_107 ?_
                  refine wp_cV (as := [iV 5]) (rest := []) (a := 117) (mx := 2) (ci := 12) jF_337_112 kd117 (by decide) rfl rfl rfl rfl rfl (by omega) (by omega) rfl (pc2 := 115) ?_
                  have q1248 : (dp τ1233) = (dp τ1222) := ((dp_wr f1235 (by decide)).trans (dp_wr f1228 (by decide)))
                  have q1249 : (τ1233.1 117 5) = (τ7.1 117 5) := ((FRw.nj f1235 (by decide)).trans ((FRw.nj f1228 (by decide)).trans ((FR.at f1224 117 5 rfl).trans ((FRw.nj f1207 (by decide)).trans (FR.at f1114 117 5 rfl)))))
                  have b1250 := GI.b g1223 117 87 kd117 (lo := 0) (hi := 1690) rfl
                  have q1251 : (τ1233.1 117 87) = (τ1222.1 117 87) := ((FRw.nj f1235 (by decide)).trans (FRw.nj f1228 (by decide)))
                  refine wp_use (m_329_b τ1233 g1234 5 (by omega) (by omega) (by omega) (by omega) (by omega) _ _ (by omega) (by omega)) ?_
                  rintro _ τ1254 ⟨rfl, g1255, f1256, p1252, p1253⟩
                  replace p1253 := p1253 (by omega)
                  show WP 337 115 [(0, .ref 117)] [] _ _ _ _
                  refine wp_al1 jF_337_115 rfl rfl (pc2 := 116) ?_
                  refine wp_cV (as := []) (rest := []) (a := 117) (mx := 1) (ci := 12) jF_337_116 kd117 (by decide) rfl rfl rfl rfl rfl (by omega) (by omega) rfl (pc2 := 119) ?_
                  have q1257 := ws_nn (σ := τ1226)
                  have q1258 : (ws τ1254) = (ws τ1226) := ((ws_fr f1256 (fun _ => rfl) rfl).trans (ws_wr f1235 (by decide)))
                  have q1259 : (wk τ1254) = (wk τ1226) := ((wk_fr f1256 (fun _ => rfl) rfl rfl).trans (wk_wr f1235 (by decide)))
                  have q1260 : (τ1254.1 117 5) = (τ7.1 117 5) := ((FR.at f1256 117 5 rfl).trans ((FRw.nj f1235 (by decide)).trans ((FRw.nj f1228 (by decide)).trans ((FR.at f1224 117 5 rfl).trans ((FRw.nj f1207 (by decide)).trans (FR.at f1114 117 5 rfl))))))
                  have b1261 := GI.b g1255 117 87 kd117 (lo := 0) (hi := 1690) rfl
                  have q1262 : (τ1254.1 117 89) = ((τ1222.1 117 89) - 1) := ((FR.at f1256 117 89 rfl).trans ((FRw.nj f1235 (by decide)).trans e1229))
                  have q1263 : (τ1254.1 117 91) = (σ.1 117 91) := ((FR.at f1256 117 91 rfl).trans ((FRw.nj f1235 (by decide)).trans ((FRw.nj f1228 (by decide)).trans ((FR.at f1224 117 91 rfl).trans ((FRw.nj f1207 (by decide)).trans ((FR.at f1114 117 91 rfl).trans (FR.at f9 117 91 rfl)))))))
                  refine wp_use (m_335 τ1254 g1255  (by omega) (by omega) (by omega) (by omega) _ _ (by omega) (by omega)) ?_
                  rintro _ τ1268 ⟨rfl, g1269, f1270, p1264, p1265, p1266, p1267⟩
                  show WP 337 119 [(0, .ref 117)] [] _ _ _ _
                  refine wp_go jF_337_119 ?_
                  have q1271 := ws_nn (σ := τ1268)
                  have q1272 : (τ1268.1 117 2) = ((τ1112.1 117 2) + 1) := ((FR.at f1270 117 2 rfl).trans ((FR.at f1256 117 2 rfl).trans ((FRw.nj f1235 (by decide)).trans ((FRw.nj f1228 (by decide)).trans ((FR.at f1224 117 2 rfl).trans e1208)))))
                  have q1273 : (τ1268.1 117 5) = (τ7.1 117 5) := ((FR.at f1270 117 5 rfl).trans ((FR.at f1256 117 5 rfl).trans ((FRw.nj f1235 (by decide)).trans ((FRw.nj f1228 (by decide)).trans ((FR.at f1224 117 5 rfl).trans ((FRw.nj f1207 (by decide)).trans (FR.at f1114 117 5 rfl)))))))
                  have b1274 := GI.b g1269 117 87 kd117 (lo := 0) (hi := 1690) rfl
                  have b1275 := GI.b g1269 117 89 kd117 (lo := 0) (hi := 1690) rfl
                  exact ih16 () τ1268 ⟨g1269, (FR.up (FR.up (FR.w (FR.w (FR.up (FR.w (FR.up f9 f1114 sb_Wat_Wqp) f1207 rfl) f1224 sb_Wqd_Wqp) f1228 rfl) f1235 rfl) f1256 sb_Wqc_Wqp) f1270 sb_Wqe_Wqp), (by omega), (by omega), (by omega), (by omega), (by omega), (by omega)⟩ (by show Int.toNat (1700 - (τ1268.1 117 2)) < Int.toNat (1700 - (τ7.1 117 2)); omega)
            · intro h1203
              refine wp_al1 jF_337_34 rfl rfl (pc2 := 35) ?_
              refine wp_cV (as := []) (rest := []) (a := 117) (mx := 2) (ci := 12) jF_337_35 kd117 (by decide) rfl rfl rfl rfl rfl (by omega) (by omega) rfl (pc2 := 38) ?_
              refine wp_use (m_338 τ1112 g1113   _ _ (by omega) (by omega)) ?_
              rintro _ _ ⟨z1279, rfl, h1280, rfl, p1276⟩
              show WP 337 38 [(0, .ref 117)] [iV z1279] _ _ _ _
              refine wp_bi jF_337_38 (by decide) rfl (pc2 := 40) ?_
              refine wp_i_ne jF_337_40 (m_rgb h1280 rfl) (m_rgl rfl) rfl (pc2 := 43) ?_ ?_
              · intro h1281
                have q1282 : (dp τ1112) = (dp τ7) := (dp_fr f1114 (fun _ => rfl) rfl)
                have q1283 := ws_nn (σ := τ7)
                have q1284 : (ws τ1112) = (ws τ7) := (ws_fr f1114 (fun _ => rfl) rfl)
                have q1285 : (wk τ1112) = (wk τ7) := (wk_fr f1114 (fun _ => rfl) rfl rfl)
                have b1286 := GI.b g1113 117 2 kd117 (lo := 0) (hi := 1601) rfl
                have q1287 : (τ1112.1 117 5) = (τ7.1 117 5) := (FR.at f1114 117 5 rfl)
                have q1288 : (τ1112.1 117 87) = (τ7.1 117 87) := (FR.at f1114 117 87 rfl)
                have q1289 : (τ1112.1 117 89) = (τ7.1 117 89) := (FR.at f1114 117 89 rfl)
                exact jn1102 () τ1112 ⟨g1113, (FR.up FR.rf f1114 sb_Wat_Wqp), (by omega), (by omega), (by omega), (by omega), (by omega), (by omega)⟩
              · intro h1281
                refine wp_al1 jF_337_43 rfl rfl (pc2 := 44) ?_
                refine wp_dup jF_337_44 rfl rfl (pc2 := 45) ?_
                have b1290 := GI.b g1113 117 2 kd117 (lo := 0) (hi := 1601) rfl
                refine wp_gi jF_337_45 kd117 (by decide) rfl rfl rfl (pc2 := 48) ?_
                refine wp_ic jF_337_48 rfl (pc2 := 49) ?_
                refine wp_add jF_337_49 rfl (pc2 := 50) ?_
                refine wp_pi jF_337_50 kd117 (by decide) rfl rfl rfl (pc2 := 53) g1113 (lo := 0) (hi := 1601) rfl (by omega) (by omega) ?_
                intro τ1291 g1292 f1293 e1294
                refine wp_al1 jF_337_53 rfl rfl (pc2 := 54) ?_
                refine wp_cV (as := []) (rest := []) (a := 117) (mx := 1) (ci := 12) jF_337_54 kd117 (by decide) rfl rfl rfl rfl rfl (by omega) (by omega) rfl (pc2 := 57) ?_
                have q1295 : (dp τ1291) = (dp τ7) := ((dp_wr f1293 (by decide)).trans (dp_fr f1114 (fun _ => rfl) rfl))
                have q1296 := ws_nn (σ := τ7)
                have q1297 : (ws τ1291) = (ws τ7) := ((ws_wr f1293 (by decide)).trans (ws_fr f1114 (fun _ => rfl) rfl))
                have q1298 : (wk τ1291) = (wk τ7) := ((wk_wr f1293 (by decide)).trans (wk_fr f1114 (fun _ => rfl) rfl rfl))
                have q1299 : (qb τ1291) = (qb τ7) := ((qb_wr f1293 (by decide)).trans (qb_fr f1114 (fun _ => rfl) rfl rfl))
                have q1300 : (τ1291.1 117 87) = (τ7.1 117 87) := ((FRw.nj f1293 (by decide)).trans (FR.at f1114 117 87 rfl))
                have q1301 : (τ1291.1 117 89) = (τ7.1 117 89) := ((FRw.nj f1293 (by decide)).trans (FR.at f1114 117 89 rfl))
                have q1302 : (τ1291.1 117 91) = (σ.1 117 91) := ((FRw.nj f1293 (by decide)).trans ((FR.at f1114 117 91 rfl).trans (FR.at f9 117 91 rfl)))
                refine wp_use (m_340 τ1291 g1292  (by omega) (by omega) (by omega) (by omega) _ _ (by omega) (by omega)) ?_
                rintro _ τ1308 ⟨rfl, g1309, f1310, p1303, p1304, p1305, p1306, p1307⟩
                show WP 337 57 [(0, .ref 117)] [] _ _ _ _
                refine wp_al1 jF_337_57 rfl rfl (pc2 := 58) ?_
                refine wp_dup jF_337_58 rfl rfl (pc2 := 59) ?_
                have b1311 := GI.b g1309 117 89 kd117 (lo := 0) (hi := 1690) rfl
                refine wp_gi jF_337_59 kd117 (by decide) rfl rfl rfl (pc2 := 62) ?_
                refine wp_ic jF_337_62 rfl (pc2 := 63) ?_
                refine wp_sub jF_337_63 rfl (pc2 := 64) ?_
                refine wp_pi jF_337_64 kd117 (by decide) rfl rfl rfl (pc2 := 67) g1309 (lo := 0) (hi := 1690) rfl (by omega) (by omega) ?_
                intro τ1312 g1313 f1314 e1315
                refine wp_al1 jF_337_67 rfl rfl (pc2 := 68) ?_
                refine wp_dup jF_337_68 rfl rfl (pc2 := 69) ?_
                have b1316 := GI.b g8 117 90 kd117 (lo := (-2147483648)) (hi := 2147483647) rfl
                refine wp_gi jF_337_69 kd117 (by decide) rfl ((FRw.nj f1314 (by decide)).trans ((FR.at f1310 117 90 rfl).trans ((FRw.nj f1293 (by decide)).trans (FR.at f1114 117 90 rfl)))) rfl (pc2 := 72) ?_
                refine wp_ic jF_337_72 rfl (pc2 := 73) ?_
                refine wp_subw jF_337_73 (m_rgb b1316 rfl) (m_rgl rfl) rfl (pc2 := 74) ?_
                intro z1317 h1318
                refine wp_pi jF_337_74 kd117 (by decide) rfl rfl rfl (pc2 := 77) g1313 (lo := (-2147483648)) (hi := 2147483647) rfl (by omega) (by omega) ?_
                intro τ1319 g1320 f1321 e1322
                have q1323 := ws_nn (σ := τ1308)
                have q1324 : (τ1308.1 117 91) = (σ.1 117 91) := ((FR.at f1310 117 91 rfl).trans ((FRw.nj f1293 (by decide)).trans ((FR.at f1114 117 91 rfl).trans (FR.at f9 117 91 rfl))))
                have b1325 := GI.b g8 177 ((τ1308.1 117 89) - 1).toNat kd177 (lo := (-2147483648)) (hi := 2147483647) rfl
                have q1326 : (tq τ1308) = (τ7.1 177 ((τ1308.1 117 89) - 1).toNat) := ((tq_e (σ := τ1308)).trans (congrArg (fun z : Int => τ1308.1 177 (z - 1).toNat) (show (τ1308.1 117 89) = (τ1308.1 117 89) from rfl))).trans ((FR.at f1310 177 ((τ1308.1 117 89) - 1).toNat rfl).trans ((FRw.na f1293 (by decide)).trans (FR.at f1114 177 ((τ1308.1 117 89) - 1).toNat rfl)))
                have q1327 : (tq τ1308) = 24 := by omega
                have q1328 := pop f1314 e1315 (by omega)
                have q1329 := q1328.1 (by omega)
                have q1330 := ws_b (σ := τ1308) (by omega) (by omega)
                have q1331 := q1328.2.2.2.1 (by omega)
                clear q1328
                refine wp_al1 jF_337_77 rfl rfl (pc2 := 78) ?_
                refine wp_gr (b := 177) jF_337_78 kd117 (by decide) (c := 277) rfl rfl rfl (pc2 := 81) ?_
                refine wp_al1 jF_337_81 rfl rfl (pc2 := 82) ?_
                refine wp_gi jF_337_82 kd117 (by decide) rfl ((FRw.nj f1321 (by decide)).trans e1315) rfl (pc2 := 85) ?_
                refine wp_iald (n := 1700) (e := (τ7.1 177 ((τ1308.1 117 89) - 1).toNat)) jF_337_85 kd177 (by decide) rfl rfl (by omega) (by omega) ((FRw.na f1321 (by decide)).trans ((FRw.na f1314 (by decide)).trans ((FR.at f1310 177 ((τ1308.1 117 89) - 1).toNat rfl).trans ((FRw.na f1293 (by decide)).trans (FR.at f1114 177 ((τ1308.1 117 89) - 1).toNat rfl))))) rfl (pc2 := 86) ?_
                refine wp_bi jF_337_86 (by decide) rfl (pc2 := 88) ?_
                refine wp_i_eq jF_337_88 ⟨by omega, by omega⟩ (m_rgl rfl) rfl (pc2 := 91) ?_ ?_
                · intro h1332; exfalso; omega
                · intro h1332
                  refine wp_al1 jF_337_91 rfl rfl (pc2 := 92) ?_
                  refine wp_al1 jF_337_92 rfl rfl (pc2 := 93) ?_
                  refine wp_gr (b := 177) jF_337_93 kd117 (by decide) (c := 277) rfl rfl rfl (pc2 := 96) ?_
                  refine wp_al1 jF_337_96 rfl rfl (pc2 := 97) ?_
                  refine wp_gi jF_337_97 kd117 (by decide) rfl ((FRw.nj f1321 (by decide)).trans e1315) rfl (pc2 := 100) ?_
                  refine wp_iald (n := 1700) (e := (τ7.1 177 ((τ1308.1 117 89) - 1).toNat)) jF_337_100 kd177 (by decide) rfl rfl (by omega) (by omega) ((FRw.na f1321 (by decide)).trans ((FRw.na f1314 (by decide)).trans ((FR.at f1310 177 ((τ1308.1 117 89) - 1).toNat rfl).trans ((FRw.na f1293 (by decide)).trans (FR.at f1114 177 ((τ1308.1 117 89) - 1).toNat rfl))))) rfl (pc2 := 101) ?_
                  refine wp_bi jF_337_101 (by decide) rfl (pc2 := 103) ?_
                  refine wp_i_ne jF_337_103 ⟨by omega, by omega⟩ (m_rgl rfl) rfl (pc2 := 106) ?_ ?_
                  · intro h1333
                    refine wp_bi jF_337_110 (by decide) rfl (pc2 := 112) ?_
                    refine wp_cV (as := [iV 6]) (rest := []) (a := 117) (mx := 2) (ci := 12) jF_337_112 kd117 (by decide) rfl rfl rfl rfl rfl (by omega) (by omega) rfl (pc2 := 115) ?_
                    have q1334 : (dp τ1319) = (dp τ1308) := ((dp_wr f1321 (by decide)).trans (dp_wr f1314 (by decide)))
                    have q1335 : (τ1319.1 117 5) = (τ7.1 117 5) := ((FRw.nj f1321 (by decide)).trans ((FRw.nj f1314 (by decide)).trans ((FR.at f1310 117 5 rfl).trans ((FRw.nj f1293 (by decide)).trans (FR.at f1114 117 5 rfl)))))
                    have b1336 := GI.b g1309 117 87 kd117 (lo := 0) (hi := 1690) rfl
                    have q1337 : (τ1319.1 117 87) = (τ1308.1 117 87) := ((FRw.nj f1321 (by decide)).trans (FRw.nj f1314 (by decide)))
                    refine wp_use (m_329_b τ1319 g1320 6 (by omega) (by omega) (by omega) (by omega) (by omega) _ _ (by omega) (by omega)) ?_
                    rintro _ τ1340 ⟨rfl, g1341, f1342, p1338, p1339⟩
                    replace p1339 := p1339 (by omega)
                    show WP 337 115 [(0, .ref 117)] [] _ _ _ _
                    refine wp_al1 jF_337_115 rfl rfl (pc2 := 116) ?_
                    refine wp_cV (as := []) (rest := []) (a := 117) (mx := 1) (ci := 12) jF_337_116 kd117 (by decide) rfl rfl rfl rfl rfl (by omega) (by omega) rfl (pc2 := 119) ?_
                    have q1343 := ws_nn (σ := τ1312)
                    have q1344 : (ws τ1340) = (ws τ1312) := ((ws_fr f1342 (fun _ => rfl) rfl).trans (ws_wr f1321 (by decide)))
                    have q1345 : (wk τ1340) = (wk τ1312) := ((wk_fr f1342 (fun _ => rfl) rfl rfl).trans (wk_wr f1321 (by decide)))
                    have q1346 : (τ1340.1 117 5) = (τ7.1 117 5) := ((FR.at f1342 117 5 rfl).trans ((FRw.nj f1321 (by decide)).trans ((FRw.nj f1314 (by decide)).trans ((FR.at f1310 117 5 rfl).trans ((FRw.nj f1293 (by decide)).trans (FR.at f1114 117 5 rfl))))))
                    have b1347 := GI.b g1341 117 87 kd117 (lo := 0) (hi := 1690) rfl
                    have q1348 : (τ1340.1 117 89) = ((τ1308.1 117 89) - 1) := ((FR.at f1342 117 89 rfl).trans ((FRw.nj f1321 (by decide)).trans e1315))
                    have q1349 : (τ1340.1 117 91) = (σ.1 117 91) := ((FR.at f1342 117 91 rfl).trans ((FRw.nj f1321 (by decide)).trans ((FRw.nj f1314 (by decide)).trans ((FR.at f1310 117 91 rfl).trans ((FRw.nj f1293 (by decide)).trans ((FR.at f1114 117 91 rfl).trans (FR.at f9 117 91 rfl)))))))
                    refine wp_use (m_335 τ1340 g1341  (by omega) (by omega) (by omega) (by omega) _ _ (by omega) (by omega)) ?_
                    rintro _ τ1354 ⟨rfl, g1355, f1356, p1350, p1351, p1352, p1353⟩
                    show WP 337 119 [(0, .ref 117)] [] _ _ _ _
                    refine wp_go jF_337_119 ?_
                    have q1357 := ws_nn (σ := τ1354)
                    have q1358 : (τ1354.1 117 2) = ((τ1112.1 117 2) + 1) := ((FR.at f1356 117 2 rfl).trans ((FR.at f1342 117 2 rfl).trans ((FRw.nj f1321 (by decide)).trans ((FRw.nj f1314 (by decide)).trans ((FR.at f1310 117 2 rfl).trans e1294)))))
                    have q1359 : (τ1354.1 117 5) = (τ7.1 117 5) := ((FR.at f1356 117 5 rfl).trans ((FR.at f1342 117 5 rfl).trans ((FRw.nj f1321 (by decide)).trans ((FRw.nj f1314 (by decide)).trans ((FR.at f1310 117 5 rfl).trans ((FRw.nj f1293 (by decide)).trans (FR.at f1114 117 5 rfl)))))))
                    have b1360 := GI.b g1355 117 87 kd117 (lo := 0) (hi := 1690) rfl
                    have b1361 := GI.b g1355 117 89 kd117 (lo := 0) (hi := 1690) rfl
                    exact ih16 () τ1354 ⟨g1355, (FR.up (FR.up (FR.w (FR.w (FR.up (FR.w (FR.up f9 f1114 sb_Wat_Wqp) f1293 rfl) f1310 sb_Wqd_Wqp) f1314 rfl) f1321 rfl) f1342 sb_Wqc_Wqp) f1356 sb_Wqe_Wqp), (by omega), (by omega), (by omega), (by omega), (by omega), (by omega)⟩ (by show Int.toNat (1700 - (τ1354.1 117 2)) < Int.toNat (1700 - (τ7.1 117 2)); omega)
                  · intro h1333; exfalso; omega
