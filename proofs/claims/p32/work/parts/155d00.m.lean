set_option maxHeartbeats 4000000 in
set_option maxRecDepth 20000 in
/-- M.stands -/
theorem m_241 (σ : jM) (hg : GI σ)  (pre0 : (σ.1 143 0) ≤ 16) (pre1 : (σ.1 143 1) ≤ 8) (pre2 : (σ.1 143 2) ≤ 10) (pre3 : (kp σ) = 1) (fr lo : Nat) (hfr : 4 ≤ fr) (hlo : 90 ≤ lo) : WP 241 0 (lv_args 0 [.ref 117]) [] fr lo σ (fun v τ => v = none ∧ GI τ ∧ FR Wstd σ τ ∧ ((τ.1 143 3) ≤ 16) ∧ ((τ.1 143 4) ≤ 8) ∧ ((τ.1 143 5) ≤ 10) ∧ ((kp τ) = 1) ∧ ((l0 τ) = 22) ∧ ((l1 τ) = 22)) := by
  show WP 241 0 [(0, .ref 117)] [] _ _ _ _
  refine wp_ic jF_241_0 rfl (pc2 := 1) ?_
  refine wp_is1 (lv2 := [(0, .ref 117), (1, iV 0)]) jF_241_1 rfl rfl rfl (pc2 := 2) ?_
  refine wp_loop (α := Int) (fun a => [(0, .ref 117), (1, iV (a))]) (fun a τ => (0 ≤ a ∧ a ≤ 18) ∧ GI τ ∧ FR Ww138 σ τ) (fun a τ => Int.toNat (18 - (a))) (0) σ ?_ ?_
  · skip
    exact ⟨⟨by omega, by omega⟩, hg, FR.rf⟩
  · rintro x1 τ3 ⟨h2, g4, f5⟩ ih6
    show WP 241 2 [(0, .ref 117), (1, iV x1)] [] _ _ _ _
    show WP 241 2 [(0, .ref 117), (1, iV x1)] [] _ _ _ _
    refine wp_il1 jF_241_2 rfl rfl (pc2 := 3) ?_
    refine wp_bi jF_241_3 (by decide) rfl (pc2 := 5) ?_
    refine wp_i_ge jF_241_5 (m_rgb h2 rfl) (m_rgl rfl) rfl (pc2 := 8) ?_ ?_
    · intro h7
      refine wp_ic jF_241_29 rfl (pc2 := 30) ?_
      refine wp_is1 (lv2 := [(0, .ref 117), (1, iV 0)]) jF_241_30 rfl rfl rfl (pc2 := 31) ?_
      refine wp_loop (α := Int) (fun a => [(0, .ref 117), (1, iV (a))]) (fun a τ => (0 ≤ a ∧ a ≤ 6) ∧ GI τ ∧ FR Ww139 τ3 τ) (fun a τ => Int.toNat (6 - (a))) (0) τ3 ?_ ?_
      · skip
        exact ⟨⟨by omega, by omega⟩, g4, FR.rf⟩
      · rintro x8 τ10 ⟨h9, g11, f12⟩ ih13
        show WP 241 31 [(0, .ref 117), (1, iV x8)] [] _ _ _ _
        show WP 241 31 [(0, .ref 117), (1, iV x8)] [] _ _ _ _
        refine wp_il1 jF_241_31 rfl rfl (pc2 := 32) ?_
        refine wp_bi jF_241_32 (by decide) rfl (pc2 := 34) ?_
        refine wp_i_ge jF_241_34 (m_rgb h9 rfl) (m_rgl rfl) rfl (pc2 := 37) ?_ ?_
        · intro h14
          refine wp_ic jF_241_58 rfl (pc2 := 59) ?_
          refine wp_is1 (lv2 := [(0, .ref 117), (1, iV 0)]) jF_241_59 rfl rfl rfl (pc2 := 60) ?_
          refine wp_loop (α := Int) (fun a => [(0, .ref 117), (1, iV (a))]) (fun a τ => (0 ≤ a ∧ a ≤ 5) ∧ GI τ ∧ FR Wwpv τ10 τ) (fun a τ => Int.toNat (5 - (a))) (0) τ10 ?_ ?_
          · skip
            exact ⟨⟨by omega, by omega⟩, g11, FR.rf⟩
          · rintro x15 τ17 ⟨h16, g18, f19⟩ ih20
            show WP 241 60 [(0, .ref 117), (1, iV x15)] [] _ _ _ _
            show WP 241 60 [(0, .ref 117), (1, iV x15)] [] _ _ _ _
            refine wp_il1 jF_241_60 rfl rfl (pc2 := 61) ?_
            refine wp_ic jF_241_61 rfl (pc2 := 62) ?_
            refine wp_i_ge jF_241_62 (m_rgb h16 rfl) (m_rgl rfl) rfl (pc2 := 65) ?_ ?_
            · intro h21
              refine wp_al1 jF_241_99 rfl rfl (pc2 := 100) ?_
              refine wp_al1 jF_241_100 rfl rfl (pc2 := 101) ?_
              have b22 := GI.b hg 117 33 kd117 (lo := 0) (hi := 5) rfl
              refine wp_gi jF_241_101 kd117 (by decide) rfl ((FR.at f19 117 33 rfl).trans ((FR.at f12 117 33 rfl).trans (FR.at f5 117 33 rfl))) rfl (pc2 := 104) ?_
              refine wp_pi jF_241_104 kd117 (by decide) rfl rfl rfl (pc2 := 107) g18 (lo := 0) (hi := 5) rfl (by omega) (by omega) ?_
              intro τ23 g24 f25 e26
              refine wp_ic jF_241_107 rfl (pc2 := 108) ?_
              refine wp_is1 (lv2 := [(0, .ref 117), (1, iV 0)]) jF_241_108 rfl rfl rfl (pc2 := 109) ?_
              refine wp_loop (α := Int) (fun a => [(0, .ref 117), (1, iV (a))]) (fun a τ => (0 ≤ a ∧ a ≤ 204) ∧ GI τ ∧ FR Ww142 τ23 τ) (fun a τ => Int.toNat (204 - (a))) (0) τ23 ?_ ?_
              · skip
                exact ⟨⟨by omega, by omega⟩, g24, FR.rf⟩
              · rintro x27 τ29 ⟨h28, g30, f31⟩ ih32
                show WP 241 109 [(0, .ref 117), (1, iV x27)] [] _ _ _ _
                show WP 241 109 [(0, .ref 117), (1, iV x27)] [] _ _ _ _
                refine wp_il1 jF_241_109 rfl rfl (pc2 := 110) ?_
                refine wp_si jF_241_110 (by decide) rfl (pc2 := 113) ?_
                refine wp_i_ge jF_241_113 (m_rgb h28 rfl) (m_rgl rfl) rfl (pc2 := 116) ?_ ?_
                · intro h33
                  refine wp_ic jF_241_138 rfl (pc2 := 139) ?_
                  refine wp_is1 (lv2 := [(0, .ref 117), (1, iV 0)]) jF_241_139 rfl rfl rfl (pc2 := 140) ?_
                  refine wp_il1 jF_241_140 rfl rfl (pc2 := 141) ?_
                  refine wp_ic jF_241_141 rfl (pc2 := 142) ?_
                  refine wp_i_ge jF_241_142 (m_rgl rfl) (m_rgl rfl) rfl (pc2 := 145) ?_ ?_
                  · intro h34; exfalso; omega
                  · intro h34
                    refine wp_al1 jF_241_145 rfl rfl (pc2 := 146) ?_
                    refine wp_gr (b := 143) jF_241_146 kd117 (by decide) (c := 243) rfl rfl rfl (pc2 := 149) ?_
                    refine wp_ic jF_241_149 rfl (pc2 := 150) ?_
                    refine wp_il1 jF_241_150 rfl rfl (pc2 := 151) ?_
                    refine wp_addx (c := 3) jF_241_151 rfl rfl (pc2 := 152) ?_
                    refine wp_al1 jF_241_152 rfl rfl (pc2 := 153) ?_
                    refine wp_gr (b := 143) jF_241_153 kd117 (by decide) (c := 243) rfl rfl rfl (pc2 := 156) ?_
                    refine wp_il1 jF_241_156 rfl rfl (pc2 := 157) ?_
                    have b35 := GI.b hg 143 0 kd143 (lo := 0) (hi := 16) rfl
                    refine wp_iald (n := 6) (e := (σ.1 143 0)) jF_241_157 kd143 (by decide) rfl rfl (by omega) (by omega) ((FR.at f31 143 0 rfl).trans ((FRw.na f25 (by decide)).trans ((FR.at f19 143 0 rfl).trans ((FR.at f12 143 0 rfl).trans (FR.at f5 143 0 rfl))))) rfl (pc2 := 158) ?_
                    refine wp_iast (n := 6) jF_241_158 kd143 (by decide) rfl rfl (by omega) (by omega) rfl (pc2 := 159) g30 (lo := 0) (hi := 16) rfl (by omega) (by omega) ?_
                    intro τ36 g37 f38 e39
                    refine wp_inc (lv2 := [(0, .ref 117), (1, iV 1)]) jF_241_159 rfl rfl rfl rfl (pc2 := 162) ?_
                    refine wp_go jF_241_162 ?_
                    refine wp_il1 jF_241_140 rfl rfl (pc2 := 141) ?_
                    refine wp_ic jF_241_141 rfl (pc2 := 142) ?_
                    refine wp_i_ge jF_241_142 (m_rgl rfl) (m_rgl rfl) rfl (pc2 := 145) ?_ ?_
                    · intro h40; exfalso; omega
                    · intro h40
                      refine wp_al1 jF_241_145 rfl rfl (pc2 := 146) ?_
                      refine wp_gr (b := 143) jF_241_146 kd117 (by decide) (c := 243) rfl rfl rfl (pc2 := 149) ?_
                      refine wp_ic jF_241_149 rfl (pc2 := 150) ?_
                      refine wp_il1 jF_241_150 rfl rfl (pc2 := 151) ?_
                      refine wp_addx (c := 4) jF_241_151 rfl rfl (pc2 := 152) ?_
                      refine wp_al1 jF_241_152 rfl rfl (pc2 := 153) ?_
                      refine wp_gr (b := 143) jF_241_153 kd117 (by decide) (c := 243) rfl rfl rfl (pc2 := 156) ?_
                      refine wp_il1 jF_241_156 rfl rfl (pc2 := 157) ?_
                      have b41 := GI.b hg 143 1 kd143 (lo := 0) (hi := 16) rfl
                      refine wp_iald (n := 6) (e := (σ.1 143 1)) jF_241_157 kd143 (by decide) rfl rfl (by omega) (by omega) ((FRw.nj f38 (by decide)).trans ((FR.at f31 143 1 rfl).trans ((FRw.na f25 (by decide)).trans ((FR.at f19 143 1 rfl).trans ((FR.at f12 143 1 rfl).trans (FR.at f5 143 1 rfl)))))) rfl (pc2 := 158) ?_
                      refine wp_iast (n := 6) jF_241_158 kd143 (by decide) rfl rfl (by omega) (by omega) rfl (pc2 := 159) g37 (lo := 0) (hi := 16) rfl (by omega) (by omega) ?_
                      intro τ42 g43 f44 e45
                      refine wp_inc (lv2 := [(0, .ref 117), (1, iV 2)]) jF_241_159 rfl rfl rfl rfl (pc2 := 162) ?_
                      refine wp_go jF_241_162 ?_
                      refine wp_il1 jF_241_140 rfl rfl (pc2 := 141) ?_
                      refine wp_ic jF_241_141 rfl (pc2 := 142) ?_
                      refine wp_i_ge jF_241_142 (m_rgl rfl) (m_rgl rfl) rfl (pc2 := 145) ?_ ?_
                      · intro h46; exfalso; omega
                      · intro h46
                        refine wp_al1 jF_241_145 rfl rfl (pc2 := 146) ?_
                        refine wp_gr (b := 143) jF_241_146 kd117 (by decide) (c := 243) rfl rfl rfl (pc2 := 149) ?_
                        refine wp_ic jF_241_149 rfl (pc2 := 150) ?_
                        refine wp_il1 jF_241_150 rfl rfl (pc2 := 151) ?_
                        refine wp_addx (c := 5) jF_241_151 rfl rfl (pc2 := 152) ?_
                        refine wp_al1 jF_241_152 rfl rfl (pc2 := 153) ?_
                        refine wp_gr (b := 143) jF_241_153 kd117 (by decide) (c := 243) rfl rfl rfl (pc2 := 156) ?_
                        refine wp_il1 jF_241_156 rfl rfl (pc2 := 157) ?_
                        have b47 := GI.b hg 143 2 kd143 (lo := 0) (hi := 16) rfl
                        refine wp_iald (n := 6) (e := (σ.1 143 2)) jF_241_157 kd143 (by decide) rfl rfl (by omega) (by omega) ((FRw.nj f44 (by decide)).trans ((FRw.nj f38 (by decide)).trans ((FR.at f31 143 2 rfl).trans ((FRw.na f25 (by decide)).trans ((FR.at f19 143 2 rfl).trans ((FR.at f12 143 2 rfl).trans (FR.at f5 143 2 rfl))))))) rfl (pc2 := 158) ?_
                        refine wp_iast (n := 6) jF_241_158 kd143 (by decide) rfl rfl (by omega) (by omega) rfl (pc2 := 159) g43 (lo := 0) (hi := 16) rfl (by omega) (by omega) ?_
                        intro τ48 g49 f50 e51
                        refine wp_inc (lv2 := [(0, .ref 117), (1, iV 3)]) jF_241_159 rfl rfl rfl rfl (pc2 := 162) ?_
                        refine wp_go jF_241_162 ?_
                        refine wp_il1 jF_241_140 rfl rfl (pc2 := 141) ?_
                        refine wp_ic jF_241_141 rfl (pc2 := 142) ?_
                        refine wp_i_ge jF_241_142 (m_rgl rfl) (m_rgl rfl) rfl (pc2 := 145) ?_ ?_
                        · intro h52
                          refine wp_al1 jF_241_165 rfl rfl (pc2 := 166) ?_
                          refine wp_al1 jF_241_166 rfl rfl (pc2 := 167) ?_
                          have b53 := GI.b hg 117 37 kd117 (lo := (-2147483648)) (hi := 2147483647) rfl
                          refine wp_gi jF_241_167 kd117 (by decide) rfl ((FRw.na f50 (by decide)).trans ((FRw.na f44 (by decide)).trans ((FRw.na f38 (by decide)).trans ((FR.at f31 117 37 rfl).trans ((FRw.nj f25 (by decide)).trans ((FR.at f19 117 37 rfl).trans ((FR.at f12 117 37 rfl).trans (FR.at f5 117 37 rfl)))))))) rfl (pc2 := 170) ?_
                          refine wp_pi jF_241_170 kd117 (by decide) rfl rfl rfl (pc2 := 173) g49 (lo := (-2147483648)) (hi := 2147483647) rfl (by omega) (by omega) ?_
                          intro τ54 g55 f56 e57
                          refine wp_al1 jF_241_173 rfl rfl (pc2 := 174) ?_
                          refine wp_gr (b := 148) jF_241_174 kd117 (by decide) (c := 248) rfl rfl rfl (pc2 := 177) ?_
                          refine wp_ic jF_241_177 rfl (pc2 := 178) ?_
                          refine wp_ic jF_241_178 rfl (pc2 := 179) ?_
                          refine wp_iast (n := 2) jF_241_179 kd148 (by decide) rfl rfl (by omega) (by omega) rfl (pc2 := 180) g55 (lo := 0) (hi := 60) rfl (by omega) (by omega) ?_
                          intro τ58 g59 f60 e61
                          refine wp_al1 jF_241_180 rfl rfl (pc2 := 181) ?_
                          refine wp_gr (b := 148) jF_241_181 kd117 (by decide) (c := 248) rfl rfl rfl (pc2 := 184) ?_
                          refine wp_ic jF_241_184 rfl (pc2 := 185) ?_
                          refine wp_ic jF_241_185 rfl (pc2 := 186) ?_
                          refine wp_iast (n := 2) jF_241_186 kd148 (by decide) rfl rfl (by omega) (by omega) rfl (pc2 := 187) g59 (lo := 0) (hi := 60) rfl (by omega) (by omega) ?_
                          intro τ62 g63 f64 e65
                          refine wp_al1 jF_241_187 rfl rfl (pc2 := 188) ?_
                          refine wp_ic jF_241_188 rfl (pc2 := 189) ?_
                          refine wp_pi jF_241_189 kd117 (by decide) rfl rfl rfl (pc2 := 192) g63 (lo := 0) (hi := 20) rfl (by omega) (by omega) ?_
                          intro τ66 g67 f68 e69
                          refine wp_al1 jF_241_192 rfl rfl (pc2 := 193) ?_
                          refine wp_cV (as := []) (rest := []) (a := 117) (mx := 3) (ci := 12) jF_241_193 kd117 (by decide) rfl rfl rfl rfl rfl (by omega) (by omega) rfl (pc2 := 196) ?_
                          refine wp_use (m_242 τ66 g67   _ _ (by omega) (by omega)) ?_
                          rintro _ τ70 ⟨rfl, g71, f72⟩
                          show WP 241 196 [(0, .ref 117), (1, iV 3)] [] _ _ _ _
                          refine wp_al1 jF_241_196 rfl rfl (pc2 := 197) ?_
                          refine wp_cV (as := []) (rest := []) (a := 117) (mx := 4) (ci := 12) jF_241_197 kd117 (by decide) rfl rfl rfl rfl rfl (by omega) (by omega) rfl (pc2 := 200) ?_
                          refine wp_use (m_247 τ70 g71   _ _ (by omega) (by omega)) ?_
                          rintro _ τ73 ⟨rfl, g74, f75⟩
                          show WP 241 200 [(0, .ref 117), (1, iV 3)] [] _ _ _ _
                          refine wp_rv jF_241_200 ?_
                          have q76 : (l0 τ73) = (l0 τ58) := ((l0_fr f75 rfl (fun _ => rfl)).trans ((l0_fr f72 rfl (fun _ => rfl)).trans ((l0_wr f68 (by decide)).trans (l0_wr f64 (by decide)))))
                          have q77 : (l1 τ73) = (l1 τ62) := ((l1_fr f75 rfl (fun _ => rfl)).trans ((l1_fr f72 rfl (fun _ => rfl)).trans (l1_wr f68 (by decide))))
                          have q78 : (kp τ73) = (kp σ) := ((kp_fr f75 (fun _ => rfl) (fun _ => rfl)).trans ((kp_fr f72 (fun _ => rfl) (fun _ => rfl)).trans ((kp_wr f68 (by decide)).trans ((kp_wr f64 (by decide)).trans ((kp_wr f60 (by decide)).trans ((kp_wr f56 (by decide)).trans ((kp_wr f50 (by decide)).trans ((kp_wr f44 (by decide)).trans ((kp_wr f38 (by decide)).trans ((kp_fr f31 (fun _ => rfl) (fun _ => rfl)).trans ((kp_wr f25 (by decide)).trans ((kp_fr f19 (fun _ => rfl) (fun _ => rfl)).trans ((kp_fr f12 (fun _ => rfl) (fun _ => rfl)).trans (kp_fr f5 (fun _ => rfl) (fun _ => rfl)))))))))))))))
                          have q79 : (τ73.1 143 3) = (σ.1 143 0) := ((FR.at f75 143 3 rfl).trans ((FR.at f72 143 3 rfl).trans ((FRw.na f68 (by decide)).trans ((FRw.na f64 (by decide)).trans ((FRw.na f60 (by decide)).trans ((FRw.na f56 (by decide)).trans ((FRw.nj f50 (by decide)).trans ((FRw.nj f44 (by decide)).trans e39))))))))
                          have q80 : (τ73.1 143 4) = (σ.1 143 1) := ((FR.at f75 143 4 rfl).trans ((FR.at f72 143 4 rfl).trans ((FRw.na f68 (by decide)).trans ((FRw.na f64 (by decide)).trans ((FRw.na f60 (by decide)).trans ((FRw.na f56 (by decide)).trans ((FRw.nj f50 (by decide)).trans e45)))))))
                          have q81 : (τ73.1 143 5) = (σ.1 143 2) := ((FR.at f75 143 5 rfl).trans ((FR.at f72 143 5 rfl).trans ((FRw.na f68 (by decide)).trans ((FRw.na f64 (by decide)).trans ((FRw.na f60 (by decide)).trans ((FRw.na f56 (by decide)).trans e51))))))
                          exact ⟨rfl, g74, (FR.up (FR.up (FR.w (FR.w (FR.w (FR.w (FR.w (FR.w (FR.w (FR.up (FR.w (FR.up (FR.up (FR.up FR.rf f5 sb_Ww138_Wstd) f12 sb_Ww139_Wstd) f19 sb_Wwpv_Wstd) f25 rfl) f31 sb_Ww142_Wstd) f38 rfl) f44 rfl) f50 rfl) f56 rfl) f60 rfl) f64 rfl) f68 rfl) f72 sb_Wset_Wstd) f75 sb_Wsho_Wstd), (by omega), (by omega), (by omega), (by omega), (l0_0 (((FR.at f75 148 0 rfl).trans ((FR.at f72 148 0 rfl).trans ((FRw.na f68 (by decide)).trans ((FRw.nj f64 (by decide)).trans e61)))))), (l1_0 (((FR.at f75 148 1 rfl).trans ((FR.at f72 148 1 rfl).trans ((FRw.na f68 (by decide)).trans e65)))))⟩
                        · intro h52; exfalso; omega
                · intro h33
                  refine wp_al1 jF_241_116 rfl rfl (pc2 := 117) ?_
                  refine wp_gr (b := 142) jF_241_117 kd117 (by decide) (c := 242) rfl rfl rfl (pc2 := 120) ?_
                  refine wp_si jF_241_120 (by decide) rfl (pc2 := 123) ?_
                  refine wp_il1 jF_241_123 rfl rfl (pc2 := 124) ?_
                  refine wp_add jF_241_124 rfl (pc2 := 125) ?_
                  refine wp_al1 jF_241_125 rfl rfl (pc2 := 126) ?_
                  refine wp_gr (b := 142) jF_241_126 kd117 (by decide) (c := 242) rfl rfl rfl (pc2 := 129) ?_
                  refine wp_il1 jF_241_129 rfl rfl (pc2 := 130) ?_
                  have b82 := GI.b g30 142 x27.toNat kd142 (lo := (-2147483648)) (hi := 2147483647) rfl
                  refine wp_iald (n := 408) (e := (τ29.1 142 x27.toNat)) jF_241_130 kd142 (by decide) rfl rfl (by omega) (by omega) rfl rfl (pc2 := 131) ?_
                  refine wp_iast (n := 408) jF_241_131 kd142 (by decide) rfl rfl (by omega) (by omega) rfl (pc2 := 132) g30 (lo := (-2147483648)) (hi := 2147483647) rfl (by omega) (by omega) ?_
                  intro τ83 g84 f85 e86
                  refine wp_inc (lv2 := [(0, .ref 117), (1, iV (x27 + 1))]) jF_241_132 rfl rfl rfl rfl (pc2 := 135) ?_
                  refine wp_go jF_241_135 ?_
                  exact ih32 ((x27 + 1)) τ83 ⟨⟨by omega, by omega⟩, g84, (FR.w f31 f85 rfl)⟩ (by show Int.toNat (204 - (x27 + 1)) < Int.toNat (204 - x27); omega)
            · intro h21
              refine wp_al1 jF_241_65 rfl rfl (pc2 := 66) ?_
              refine wp_gr (b := 140) jF_241_66 kd117 (by decide) (c := 240) rfl rfl rfl (pc2 := 69) ?_
              refine wp_ic jF_241_69 rfl (pc2 := 70) ?_
              refine wp_il1 jF_241_70 rfl rfl (pc2 := 71) ?_
              refine wp_add jF_241_71 rfl (pc2 := 72) ?_
              refine wp_al1 jF_241_72 rfl rfl (pc2 := 73) ?_
              refine wp_gr (b := 140) jF_241_73 kd117 (by decide) (c := 240) rfl rfl rfl (pc2 := 76) ?_
              refine wp_il1 jF_241_76 rfl rfl (pc2 := 77) ?_
              refine wp_lald (n := 10) jF_241_77 kd140 (by decide) rfl rfl (by omega) (by omega) rfl (pc2 := 78) ?_
              intro y87
              refine wp_last (n := 10) jF_241_78 kd140 (by decide) rfl rfl (by omega) (by omega) rfl (pc2 := 79) g18 ?_
              intro τ88 g89 f90
              refine wp_al1 jF_241_79 rfl rfl (pc2 := 80) ?_
              refine wp_gr (b := 141) jF_241_80 kd117 (by decide) (c := 241) rfl rfl rfl (pc2 := 83) ?_
              refine wp_ic jF_241_83 rfl (pc2 := 84) ?_
              refine wp_il1 jF_241_84 rfl rfl (pc2 := 85) ?_
              refine wp_add jF_241_85 rfl (pc2 := 86) ?_
              refine wp_al1 jF_241_86 rfl rfl (pc2 := 87) ?_
              refine wp_gr (b := 141) jF_241_87 kd117 (by decide) (c := 241) rfl rfl rfl (pc2 := 90) ?_
              refine wp_il1 jF_241_90 rfl rfl (pc2 := 91) ?_
              have b91 := GI.b g18 141 x15.toNat kd141 (lo := (-2147483648)) (hi := 2147483647) rfl
              refine wp_iald (n := 10) (e := (τ17.1 141 x15.toNat)) jF_241_91 kd141 (by decide) rfl rfl (by omega) (by omega) (FRw.na f90 (by decide)) rfl (pc2 := 92) ?_
              refine wp_iast (n := 10) jF_241_92 kd141 (by decide) rfl rfl (by omega) (by omega) rfl (pc2 := 93) g89 (lo := (-2147483648)) (hi := 2147483647) rfl (by omega) (by omega) ?_
              intro τ92 g93 f94 e95
              refine wp_inc (lv2 := [(0, .ref 117), (1, iV (x15 + 1))]) jF_241_93 rfl rfl rfl rfl (pc2 := 96) ?_
              refine wp_go jF_241_96 ?_
              exact ih20 ((x15 + 1)) τ92 ⟨⟨by omega, by omega⟩, g93, (FR.w (FR.w f19 f90 rfl) f94 rfl)⟩ (by show Int.toNat (5 - (x15 + 1)) < Int.toNat (5 - x15); omega)
        · intro h14
          refine wp_al1 jF_241_37 rfl rfl (pc2 := 38) ?_
          refine wp_gr (b := 139) jF_241_38 kd117 (by decide) (c := 239) rfl rfl rfl (pc2 := 41) ?_
          refine wp_bi jF_241_41 (by decide) rfl (pc2 := 43) ?_
          refine wp_il1 jF_241_43 rfl rfl (pc2 := 44) ?_
          refine wp_add jF_241_44 rfl (pc2 := 45) ?_
          refine wp_al1 jF_241_45 rfl rfl (pc2 := 46) ?_
          refine wp_gr (b := 139) jF_241_46 kd117 (by decide) (c := 239) rfl rfl rfl (pc2 := 49) ?_
          refine wp_il1 jF_241_49 rfl rfl (pc2 := 50) ?_
          have b96 := GI.b g11 139 x8.toNat kd139 (lo := 0) (hi := 11) rfl
          refine wp_iald (n := 12) (e := (τ10.1 139 x8.toNat)) jF_241_50 kd139 (by decide) rfl rfl (by omega) (by omega) rfl rfl (pc2 := 51) ?_
          refine wp_iast (n := 12) jF_241_51 kd139 (by decide) rfl rfl (by omega) (by omega) rfl (pc2 := 52) g11 (lo := 0) (hi := 11) rfl (by omega) (by omega) ?_
          intro τ97 g98 f99 e100
          refine wp_inc (lv2 := [(0, .ref 117), (1, iV (x8 + 1))]) jF_241_52 rfl rfl rfl rfl (pc2 := 55) ?_
          refine wp_go jF_241_55 ?_
          exact ih13 ((x8 + 1)) τ97 ⟨⟨by omega, by omega⟩, g98, (FR.w f12 f99 rfl)⟩ (by show Int.toNat (6 - (x8 + 1)) < Int.toNat (6 - x8); omega)
    · intro h7
      refine wp_al1 jF_241_8 rfl rfl (pc2 := 9) ?_
      refine wp_gr (b := 138) jF_241_9 kd117 (by decide) (c := 238) rfl rfl rfl (pc2 := 12) ?_
      refine wp_bi jF_241_12 (by decide) rfl (pc2 := 14) ?_
      refine wp_il1 jF_241_14 rfl rfl (pc2 := 15) ?_
      refine wp_add jF_241_15 rfl (pc2 := 16) ?_
      refine wp_al1 jF_241_16 rfl rfl (pc2 := 17) ?_
      refine wp_gr (b := 138) jF_241_17 kd117 (by decide) (c := 238) rfl rfl rfl (pc2 := 20) ?_
      refine wp_il1 jF_241_20 rfl rfl (pc2 := 21) ?_
      refine wp_lald (n := 36) jF_241_21 kd138 (by decide) rfl rfl (by omega) (by omega) rfl (pc2 := 22) ?_
      intro y101
      refine wp_last (n := 36) jF_241_22 kd138 (by decide) rfl rfl (by omega) (by omega) rfl (pc2 := 23) g4 ?_
      intro τ102 g103 f104
      refine wp_inc (lv2 := [(0, .ref 117), (1, iV (x1 + 1))]) jF_241_23 rfl rfl rfl rfl (pc2 := 26) ?_
      refine wp_go jF_241_26 ?_
      exact ih6 ((x1 + 1)) τ102 ⟨⟨by omega, by omega⟩, g103, (FR.w f5 f104 rfl)⟩ (by show Int.toNat (18 - (x1 + 1)) < Int.toNat (18 - x1); omega)
