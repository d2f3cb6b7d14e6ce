set_option maxHeartbeats 4000000 in
set_option maxRecDepth 20000 in
/-- M.sets -/
theorem m_242 (σ : jM) (hg : GI σ)   (fr lo : Nat) (hfr : 3 ≤ fr) (hlo : 68 ≤ lo) : WP 242 0 (lv_args 0 [.ref 117]) [] fr lo σ (fun v τ => v = none ∧ GI τ ∧ FR Wset σ τ) := by
  show WP 242 0 [(0, .ref 117)] [] _ _ _ _
  refine wp_al1 jF_242_0 rfl rfl (pc2 := 1) ?_
  refine wp_lc jF_242_1 rfl (pc2 := 2) ?_
  refine wp_pl jF_242_2 kd117 (by decide) rfl rfl (pc2 := 5) hg ?_
  intro τ1 g2 f3
  refine wp_ic jF_242_5 rfl (pc2 := 6) ?_
  refine wp_is1 (lv2 := [(0, .ref 117), (1, iV 0)]) jF_242_6 rfl rfl rfl (pc2 := 7) ?_
  refine wp_loop (α := Int) (fun a => [(0, .ref 117), (1, iV (a))]) (fun a τ => (0 ≤ a ∧ a ≤ 18) ∧ GI τ ∧ FR Wset τ1 τ) (fun a τ => Int.toNat (18 - (a))) (0) τ1 ?_ ?_
  · skip
    exact ⟨⟨by omega, by omega⟩, g2, FR.rf⟩
  · rintro x4 τ6 ⟨h5, g7, f8⟩ ih9
    show WP 242 7 [(0, .ref 117), (1, iV x4)] [] _ _ _ _
    show WP 242 7 [(0, .ref 117), (1, iV x4)] [] _ _ _ _
    refine wp_il1 jF_242_7 rfl rfl (pc2 := 8) ?_
    refine wp_bi jF_242_8 (by decide) rfl (pc2 := 10) ?_
    refine wp_i_ge jF_242_10 (m_rgb h5 rfl) (m_rgl rfl) rfl (pc2 := 13) ?_ ?_
    · intro h10
      refine wp_ic jF_242_26 rfl (pc2 := 27) ?_
      refine wp_is1 (lv2 := [(0, .ref 117), (1, iV 0)]) jF_242_27 rfl rfl rfl (pc2 := 28) ?_
      refine wp_loop (α := Int) (fun a => [(0, .ref 117), (1, iV (a))]) (fun a τ => (0 ≤ a ∧ a ≤ 34) ∧ GI τ ∧ FR Wset τ6 τ) (fun a τ => Int.toNat (34 - (a))) (0) τ6 ?_ ?_
      · skip
        exact ⟨⟨by omega, by omega⟩, g7, FR.rf⟩
      · rintro x11 τ13 ⟨h12, g14, f15⟩ ih16
        show WP 242 28 [(0, .ref 117), (1, iV x11)] [] _ _ _ _
        show WP 242 28 [(0, .ref 117), (1, iV x11)] [] _ _ _ _
        refine wp_il1 jF_242_28 rfl rfl (pc2 := 29) ?_
        refine wp_bi jF_242_29 (by decide) rfl (pc2 := 31) ?_
        refine wp_i_ge jF_242_31 (m_rgb h12 rfl) (m_rgl rfl) rfl (pc2 := 34) ?_ ?_
        · intro h17
          refine wp_ic jF_242_47 rfl (pc2 := 48) ?_
          refine wp_is1 (lv2 := [(0, .ref 117), (1, iV 0)]) jF_242_48 rfl rfl rfl (pc2 := 49) ?_
          refine wp_loop (α := Int) (fun a => [(0, .ref 117), (1, iV (a))]) (fun a τ => (0 ≤ a ∧ a ≤ 64) ∧ GI τ ∧ FR Wset τ13 τ) (fun a τ => Int.toNat (64 - (a))) (0) τ13 ?_ ?_
          · skip
            exact ⟨⟨by omega, by omega⟩, g14, FR.rf⟩
          · rintro x18 τ20 ⟨h19, g21, f22⟩ ih23
            show WP 242 49 [(0, .ref 117), (1, iV x18)] [] _ _ _ _
            show WP 242 49 [(0, .ref 117), (1, iV x18)] [] _ _ _ _
            refine wp_il1 jF_242_49 rfl rfl (pc2 := 50) ?_
            refine wp_al1 jF_242_50 rfl rfl (pc2 := 51) ?_
            refine wp_cV (as := []) (rest := [iV x18]) (a := 117) (mx := 1) (ci := 12) jF_242_51 kd117 (by decide) rfl rfl rfl rfl rfl (by omega) (by omega) rfl (pc2 := 54) ?_
            have q24 : (m0 τ20) = (m0 σ) := ((m0_fr f22 (fun _ => rfl)).trans ((m0_fr f15 (fun _ => rfl)).trans ((m0_fr f8 (fun _ => rfl)).trans (m0_wr f3 (by decide)))))
            have q25 : (m1 τ20) = (m1 σ) := ((m1_fr f22 (fun _ => rfl)).trans ((m1_fr f15 (fun _ => rfl)).trans ((m1_fr f8 (fun _ => rfl)).trans (m1_wr f3 (by decide)))))
            have q26 : (m2 τ20) = (m2 σ) := ((m2_fr f22 (fun _ => rfl)).trans ((m2_fr f15 (fun _ => rfl)).trans ((m2_fr f8 (fun _ => rfl)).trans (m2_wr f3 (by decide)))))
            have q27 : (cm τ20) = (cm σ) := ((cm_fr f22 (fun _ => rfl)).trans ((cm_fr f15 (fun _ => rfl)).trans ((cm_fr f8 (fun _ => rfl)).trans (cm_wr f3 (by decide)))))
            refine wp_use (m_243 τ20 g21   _ _ (by omega) (by omega)) ?_
            rintro _ _ ⟨z32, rfl, h33, rfl, p28, p29⟩
            show WP 242 54 [(0, .ref 117), (1, iV x18)] [iV z32, iV x18] _ _ _ _
            refine wp_i_ge jF_242_54 (m_rgb h19 rfl) (m_rgb h33 rfl) rfl (pc2 := 57) ?_ ?_
            · intro h34
              refine wp_bi jF_242_144 (by decide) rfl (pc2 := 146) ?_
              refine wp_is1 (lv2 := [(0, .ref 117), (1, iV 12)]) jF_242_146 rfl rfl rfl (pc2 := 147) ?_
              refine wp_loop (α := Int) (fun a => [(0, .ref 117), (1, iV (a))]) (fun a τ => (12 ≤ a ∧ a ≤ 18) ∧ GI τ ∧ FR Wset τ20 τ) (fun a τ => Int.toNat (18 - (a))) (12) τ20 ?_ ?_
              · skip
                exact ⟨⟨by omega, by omega⟩, g21, FR.rf⟩
              · rintro x35 τ37 ⟨h36, g38, f39⟩ ih40
                show WP 242 147 [(0, .ref 117), (1, iV x35)] [] _ _ _ _
                show WP 242 147 [(0, .ref 117), (1, iV x35)] [] _ _ _ _
                refine wp_il1 jF_242_147 rfl rfl (pc2 := 148) ?_
                refine wp_bi jF_242_148 (by decide) rfl (pc2 := 150) ?_
                refine wp_i_ge jF_242_150 (m_rgb h36 rfl) (m_rgl rfl) rfl (pc2 := 153) ?_ ?_
                · intro h41
                  refine wp_rv jF_242_196 ?_
                  exact ⟨rfl, g38, (FR.up (FR.up (FR.up (FR.up (FR.w FR.rf f3 rfl) f8 sb_Wset_Wset) f15 sb_Wset_Wset) f22 sb_Wset_Wset) f39 sb_Wset_Wset)⟩
                · intro h41
                  refine wp_al1 jF_242_153 rfl rfl (pc2 := 154) ?_
                  refine wp_gr (b := 138) jF_242_154 kd117 (by decide) (c := 238) rfl rfl rfl (pc2 := 157) ?_
                  refine wp_bi jF_242_157 (by decide) rfl (pc2 := 159) ?_
                  refine wp_il1 jF_242_159 rfl rfl (pc2 := 160) ?_
                  refine wp_add jF_242_160 rfl (pc2 := 161) ?_
                  refine wp_lald (n := 36) jF_242_161 kd138 (by decide) rfl rfl (by omega) (by omega) rfl (pc2 := 162) ?_
                  intro y42
                  refine wp_lc jF_242_162 rfl (pc2 := 163) ?_
                  refine wp_anyL (pc2 := 164) jF_242_163 rfl rfl ?_
                  intro z43 h44
                  refine wp_z_eq jF_242_164 (m_rgb h44 rfl) rfl (pc2 := 167) ?_ ?_
                  · intro h45
                    refine wp_inc (lv2 := [(0, .ref 117), (1, iV (x35 + 1))]) jF_242_190 rfl rfl rfl rfl (pc2 := 193) ?_
                    refine wp_go jF_242_193 ?_
                    exact ih40 ((x35 + 1)) τ37 ⟨⟨by omega, by omega⟩, g38, f39⟩ (by show Int.toNat (18 - (x35 + 1)) < Int.toNat (18 - x35); omega)
                  · intro h45
                    refine wp_al1 jF_242_167 rfl rfl (pc2 := 168) ?_
                    refine wp_gr (b := 144) jF_242_168 kd117 (by decide) (c := 244) rfl rfl rfl (pc2 := 171) ?_
                    refine wp_il1 jF_242_171 rfl rfl (pc2 := 172) ?_
                    refine wp_al1 jF_242_172 rfl rfl (pc2 := 173) ?_
                    refine wp_gr (b := 144) jF_242_173 kd117 (by decide) (c := 244) rfl rfl rfl (pc2 := 176) ?_
                    refine wp_al1 jF_242_176 rfl rfl (pc2 := 177) ?_
                    refine wp_gr (b := 139) jF_242_177 kd117 (by decide) (c := 239) rfl rfl rfl (pc2 := 180) ?_
                    refine wp_bi jF_242_180 (by decide) rfl (pc2 := 182) ?_
                    refine wp_il1 jF_242_182 rfl rfl (pc2 := 183) ?_
                    refine wp_add jF_242_183 rfl (pc2 := 184) ?_
                    refine wp_bi jF_242_184 (by decide) rfl (pc2 := 186) ?_
                    refine wp_sub jF_242_186 rfl (pc2 := 187) ?_
                    have b46 := GI.b hg 139 ((6 + x35) - 12).toNat kd139 (lo := 0) (hi := 11) rfl
                    refine wp_iald (n := 12) (e := (σ.1 139 ((6 + x35) - 12).toNat)) jF_242_187 kd139 (by decide) rfl rfl (by omega) (by omega) ((FR.at f39 139 ((6 + x35) - 12).toNat rfl).trans ((FR.at f22 139 ((6 + x35) - 12).toNat rfl).trans ((FR.at f15 139 ((6 + x35) - 12).toNat rfl).trans ((FR.at f8 139 ((6 + x35) - 12).toNat rfl).trans (FRw.na f3 (by decide)))))) rfl (pc2 := 188) ?_
                    refine wp_lald (n := 18) jF_242_188 kd144 (by decide) rfl rfl (by omega) (by omega) rfl (pc2 := 189) ?_
                    intro y47
                    refine wp_last (n := 18) jF_242_189 kd144 (by decide) rfl rfl (by omega) (by omega) rfl (pc2 := 190) g38 ?_
                    intro τ48 g49 f50
                    refine wp_inc (lv2 := [(0, .ref 117), (1, iV (x35 + 1))]) jF_242_190 rfl rfl rfl rfl (pc2 := 193) ?_
                    refine wp_go jF_242_193 ?_
                    exact ih40 ((x35 + 1)) τ48 ⟨⟨by omega, by omega⟩, g49, (FR.w f39 f50 rfl)⟩ (by show Int.toNat (18 - (x35 + 1)) < Int.toNat (18 - x35); omega)
            · intro h34
              refine wp_al1 jF_242_57 rfl rfl (pc2 := 58) ?_
              refine wp_dup jF_242_58 rfl rfl (pc2 := 59) ?_
              refine wp_glA jF_242_59 kd117 (by decide) rfl rfl (pc2 := 62) ?_
              intro y51
              refine wp_lc jF_242_62 rfl (pc2 := 63) ?_
              refine wp_il1 jF_242_63 rfl rfl (pc2 := 64) ?_
              refine wp_lng (pc2 := 65) jF_242_64 rfl rfl ?_
              intro y52
              refine wp_lng (pc2 := 66) jF_242_65 rfl rfl ?_
              intro y53
              refine wp_pl jF_242_66 kd117 (by decide) rfl rfl (pc2 := 69) g21 ?_
              intro τ54 g55 f56
              refine wp_ic jF_242_69 rfl (pc2 := 70) ?_
              refine wp_is1 (lv2 := [(0, .ref 117), (1, iV x18), (2, iV 0)]) jF_242_70 rfl rfl rfl (pc2 := 71) ?_
              refine wp_il1 jF_242_71 rfl rfl (pc2 := 72) ?_
              refine wp_ic jF_242_72 rfl (pc2 := 73) ?_
              refine wp_i_ge jF_242_73 (m_rgl rfl) (m_rgl rfl) rfl (pc2 := 76) ?_ ?_
              · intro h57; exfalso; omega
              · intro h57
                refine wp_al1 jF_242_76 rfl rfl (pc2 := 77) ?_
                refine wp_gr (b := 144) jF_242_77 kd117 (by decide) (c := 244) rfl rfl rfl (pc2 := 80) ?_
                refine wp_ic jF_242_80 rfl (pc2 := 81) ?_
                refine wp_il1 jF_242_81 rfl rfl (pc2 := 82) ?_
                refine wp_mul jF_242_82 rfl (pc2 := 83) ?_
                refine wp_al1 jF_242_83 rfl rfl (pc2 := 84) ?_
                refine wp_il1 jF_242_84 rfl rfl (pc2 := 85) ?_
                refine wp_il1 jF_242_85 rfl rfl (pc2 := 86) ?_
                refine wp_cV (as := [iV x18, iV 0]) (rest := [iV (4 * 0), .ref 144]) (a := 117) (mx := 3) (ci := 12) jF_242_86 kd117 (by decide) rfl rfl rfl rfl rfl (by omega) (by omega) rfl (pc2 := 89) ?_
                have q58 : (m0 τ54) = (m0 σ) := ((m0_wr f56 (by decide)).trans ((m0_fr f22 (fun _ => rfl)).trans ((m0_fr f15 (fun _ => rfl)).trans ((m0_fr f8 (fun _ => rfl)).trans (m0_wr f3 (by decide))))))
                have q59 : (m1 τ54) = (m1 σ) := ((m1_wr f56 (by decide)).trans ((m1_fr f22 (fun _ => rfl)).trans ((m1_fr f15 (fun _ => rfl)).trans ((m1_fr f8 (fun _ => rfl)).trans (m1_wr f3 (by decide))))))
                have q60 : (m2 τ54) = (m2 σ) := ((m2_wr f56 (by decide)).trans ((m2_fr f22 (fun _ => rfl)).trans ((m2_fr f15 (fun _ => rfl)).trans ((m2_fr f8 (fun _ => rfl)).trans (m2_wr f3 (by decide))))))
                refine wp_use (m_245_0 τ54 g55 x18 (by omega) (by omega) (by omega) _ _ (by omega) (by omega)) ?_
                rintro _ _ ⟨z63, rfl, h64, rfl⟩
                show WP 242 89 [(0, .ref 117), (1, iV x18), (2, iV 0)] [iV z63, iV (4 * 0), .ref 144] _ _ _ _
                refine wp_add jF_242_89 rfl (pc2 := 90) ?_
                refine wp_du2 jF_242_90 rfl rfl (pc2 := 91) ?_
                refine wp_lald (n := 18) jF_242_91 kd144 (by decide) rfl rfl (by omega) (by omega) rfl (pc2 := 92) ?_
                intro y65
                refine wp_lc jF_242_92 rfl (pc2 := 93) ?_
                refine wp_il1 jF_242_93 rfl rfl (pc2 := 94) ?_
                refine wp_lng (pc2 := 95) jF_242_94 rfl rfl ?_
                intro y66
                refine wp_lng (pc2 := 96) jF_242_95 rfl rfl ?_
                intro y67
                refine wp_last (n := 18) jF_242_96 kd144 (by decide) rfl rfl (by omega) (by omega) rfl (pc2 := 97) g55 ?_
                intro τ68 g69 f70
                refine wp_inc (lv2 := [(0, .ref 117), (1, iV x18), (2, iV 1)]) jF_242_97 rfl rfl rfl rfl (pc2 := 100) ?_
                refine wp_go jF_242_100 ?_
                refine wp_il1 jF_242_71 rfl rfl (pc2 := 72) ?_
                refine wp_ic jF_242_72 rfl (pc2 := 73) ?_
                refine wp_i_ge jF_242_73 (m_rgl rfl) (m_rgl rfl) rfl (pc2 := 76) ?_ ?_
                · intro h71; exfalso; omega
                · intro h71
                  refine wp_al1 jF_242_76 rfl rfl (pc2 := 77) ?_
                  refine wp_gr (b := 144) jF_242_77 kd117 (by decide) (c := 244) rfl rfl rfl (pc2 := 80) ?_
                  refine wp_ic jF_242_80 rfl (pc2 := 81) ?_
                  refine wp_il1 jF_242_81 rfl rfl (pc2 := 82) ?_
                  refine wp_mul jF_242_82 rfl (pc2 := 83) ?_
                  refine wp_al1 jF_242_83 rfl rfl (pc2 := 84) ?_
                  refine wp_il1 jF_242_84 rfl rfl (pc2 := 85) ?_
                  refine wp_il1 jF_242_85 rfl rfl (pc2 := 86) ?_
                  refine wp_cV (as := [iV x18, iV 1]) (rest := [iV (4 * 1), .ref 144]) (a := 117) (mx := 3) (ci := 12) jF_242_86 kd117 (by decide) rfl rfl rfl rfl rfl (by omega) (by omega) rfl (pc2 := 89) ?_
                  have q72 : (m0 τ68) = (m0 σ) := ((m0_wa f70 (by decide)).trans ((m0_wr f56 (by decide)).trans ((m0_fr f22 (fun _ => rfl)).trans ((m0_fr f15 (fun _ => rfl)).trans ((m0_fr f8 (fun _ => rfl)).trans (m0_wr f3 (by decide)))))))
                  have q73 : (m1 τ68) = (m1 σ) := ((m1_wa f70 (by decide)).trans ((m1_wr f56 (by decide)).trans ((m1_fr f22 (fun _ => rfl)).trans ((m1_fr f15 (fun _ => rfl)).trans ((m1_fr f8 (fun _ => rfl)).trans (m1_wr f3 (by decide)))))))
                  have q74 : (m2 τ68) = (m2 σ) := ((m2_wa f70 (by decide)).trans ((m2_wr f56 (by decide)).trans ((m2_fr f22 (fun _ => rfl)).trans ((m2_fr f15 (fun _ => rfl)).trans ((m2_fr f8 (fun _ => rfl)).trans (m2_wr f3 (by decide)))))))
                  refine wp_use (m_245_1 τ68 g69 x18 (by omega) (by omega) (by omega) _ _ (by omega) (by omega)) ?_
                  rintro _ _ ⟨z77, rfl, h78, rfl⟩
                  show WP 242 89 [(0, .ref 117), (1, iV x18), (2, iV 1)] [iV z77, iV (4 * 1), .ref 144] _ _ _ _
                  refine wp_add jF_242_89 rfl (pc2 := 90) ?_
                  refine wp_du2 jF_242_90 rfl rfl (pc2 := 91) ?_
                  refine wp_lald (n := 18) jF_242_91 kd144 (by decide) rfl rfl (by omega) (by omega) rfl (pc2 := 92) ?_
                  intro y79
                  refine wp_lc jF_242_92 rfl (pc2 := 93) ?_
                  refine wp_il1 jF_242_93 rfl rfl (pc2 := 94) ?_
                  refine wp_lng (pc2 := 95) jF_242_94 rfl rfl ?_
                  intro y80
                  refine wp_lng (pc2 := 96) jF_242_95 rfl rfl ?_
                  intro y81
                  refine wp_last (n := 18) jF_242_96 kd144 (by decide) rfl rfl (by omega) (by omega) rfl (pc2 := 97) g69 ?_
                  intro τ82 g83 f84
                  refine wp_inc (lv2 := [(0, .ref 117), (1, iV x18), (2, iV 2)]) jF_242_97 rfl rfl rfl rfl (pc2 := 100) ?_
                  refine wp_go jF_242_100 ?_
                  refine wp_il1 jF_242_71 rfl rfl (pc2 := 72) ?_
                  refine wp_ic jF_242_72 rfl (pc2 := 73) ?_
                  refine wp_i_ge jF_242_73 (m_rgl rfl) (m_rgl rfl) rfl (pc2 := 76) ?_ ?_
                  · intro h85; exfalso; omega
                  · intro h85
                    refine wp_al1 jF_242_76 rfl rfl (pc2 := 77) ?_
                    refine wp_gr (b := 144) jF_242_77 kd117 (by decide) (c := 244) rfl rfl rfl (pc2 := 80) ?_
                    refine wp_ic jF_242_80 rfl (pc2 := 81) ?_
                    refine wp_il1 jF_242_81 rfl rfl (pc2 := 82) ?_
                    refine wp_mul jF_242_82 rfl (pc2 := 83) ?_
                    refine wp_al1 jF_242_83 rfl rfl (pc2 := 84) ?_
                    refine wp_il1 jF_242_84 rfl rfl (pc2 := 85) ?_
                    refine wp_il1 jF_242_85 rfl rfl (pc2 := 86) ?_
                    refine wp_cV (as := [iV x18, iV 2]) (rest := [iV (4 * 2), .ref 144]) (a := 117) (mx := 3) (ci := 12) jF_242_86 kd117 (by decide) rfl rfl rfl rfl rfl (by omega) (by omega) rfl (pc2 := 89) ?_
                    have q86 : (m0 τ82) = (m0 σ) := ((m0_wa f84 (by decide)).trans ((m0_wa f70 (by decide)).trans ((m0_wr f56 (by decide)).trans ((m0_fr f22 (fun _ => rfl)).trans ((m0_fr f15 (fun _ => rfl)).trans ((m0_fr f8 (fun _ => rfl)).trans (m0_wr f3 (by decide))))))))
                    have q87 : (m1 τ82) = (m1 σ) := ((m1_wa f84 (by decide)).trans ((m1_wa f70 (by decide)).trans ((m1_wr f56 (by decide)).trans ((m1_fr f22 (fun _ => rfl)).trans ((m1_fr f15 (fun _ => rfl)).trans ((m1_fr f8 (fun _ => rfl)).trans (m1_wr f3 (by decide))))))))
                    have q88 : (m2 τ82) = (m2 σ) := ((m2_wa f84 (by decide)).trans ((m2_wa f70 (by decide)).trans ((m2_wr f56 (by decide)).trans ((m2_fr f22 (fun _ => rfl)).trans ((m2_fr f15 (fun _ => rfl)).trans ((m2_fr f8 (fun _ => rfl)).trans (m2_wr f3 (by decide))))))))
                    have q89 : (cm τ82) = (cm σ) := ((cm_wa f84 (by decide)).trans ((cm_wa f70 (by decide)).trans ((cm_wr f56 (by decide)).trans ((cm_fr f22 (fun _ => rfl)).trans ((cm_fr f15 (fun _ => rfl)).trans ((cm_fr f8 (fun _ => rfl)).trans (cm_wr f3 (by decide))))))))
                    refine wp_use (m_245_2 τ82 g83 x18 (by omega) (by omega) (by omega) (by omega) _ _ (by omega) (by omega)) ?_
                    rintro _ _ ⟨z93, rfl, h94, rfl, p90⟩
                    show WP 242 89 [(0, .ref 117), (1, iV x18), (2, iV 2)] [iV z93, iV (4 * 2), .ref 144] _ _ _ _
                    refine wp_add jF_242_89 rfl (pc2 := 90) ?_
                    refine wp_du2 jF_242_90 rfl rfl (pc2 := 91) ?_
                    refine wp_lald (n := 18) jF_242_91 kd144 (by decide) rfl rfl (by omega) (by omega) rfl (pc2 := 92) ?_
                    intro y95
                    refine wp_lc jF_242_92 rfl (pc2 := 93) ?_
                    refine wp_il1 jF_242_93 rfl rfl (pc2 := 94) ?_
                    refine wp_lng (pc2 := 95) jF_242_94 rfl rfl ?_
                    intro y96
                    refine wp_lng (pc2 := 96) jF_242_95 rfl rfl ?_
                    intro y97
                    refine wp_last (n := 18) jF_242_96 kd144 (by decide) rfl rfl (by omega) (by omega) rfl (pc2 := 97) g83 ?_
                    intro τ98 g99 f100
                    refine wp_inc (lv2 := [(0, .ref 117), (1, iV x18), (2, iV 3)]) jF_242_97 rfl rfl rfl rfl (pc2 := 100) ?_
                    refine wp_go jF_242_100 ?_
                    refine wp_il1 jF_242_71 rfl rfl (pc2 := 72) ?_
                    refine wp_ic jF_242_72 rfl (pc2 := 73) ?_
                    refine wp_i_ge jF_242_73 (m_rgl rfl) (m_rgl rfl) rfl (pc2 := 76) ?_ ?_
                    · intro h101
                      refine wp_ic jF_242_103 rfl (pc2 := 104) ?_
                      refine wp_is1 (lv2 := [(0, .ref 117), (1, iV x18), (2, iV 0)]) jF_242_104 rfl rfl rfl (pc2 := 105) ?_
                      refine wp_loop (α := Int) (fun a => [(0, .ref 117), (1, iV x18), (2, iV (a))]) (fun a τ => (0 ≤ a ∧ a ≤ 34) ∧ GI τ ∧ FR Wset τ98 τ) (fun a τ => Int.toNat (34 - (a))) (0) τ98 ?_ ?_
                      · skip
                        exact ⟨⟨by omega, by omega⟩, g99, FR.rf⟩
                      · rintro x102 τ104 ⟨h103, g105, f106⟩ ih107
                        show WP 242 105 [(0, .ref 117), (1, iV x18), (2, iV x102)] [] _ _ _ _
                        show WP 242 105 [(0, .ref 117), (1, iV x18), (2, iV x102)] [] _ _ _ _
                        refine wp_il1 jF_242_105 rfl rfl (pc2 := 106) ?_
                        refine wp_bi jF_242_106 (by decide) rfl (pc2 := 108) ?_
                        refine wp_i_ge jF_242_108 (m_rgb h103 rfl) (m_rgl rfl) rfl (pc2 := 111) ?_ ?_
                        · intro h108
                          refine wp_inc (lv2 := [(0, .ref 117), (1, iV (x18 + 1)), (2, iV x102)]) jF_242_138 rfl rfl rfl rfl (pc2 := 141) ?_
                          refine wp_go jF_242_141 ?_
                          refine wp_less [0, 1] (lv2 := [(0, .ref 117), (1, iV (x18 + 1))]) rfl rfl ?_
                          exact ih23 ((x18 + 1)) τ104 ⟨⟨by omega, by omega⟩, g105, (FR.up (FR.w (FR.w (FR.w (FR.w f22 f56 rfl) f70 rfl) f84 rfl) f100 rfl) f106 sb_Wset_Wset)⟩ (by show Int.toNat (64 - (x18 + 1)) < Int.toNat (64 - x18); omega)
                        · intro h108
                          refine wp_al1 jF_242_111 rfl rfl (pc2 := 112) ?_
                          refine wp_il1 jF_242_112 rfl rfl (pc2 := 113) ?_
                          refine wp_il1 jF_242_113 rfl rfl (pc2 := 114) ?_
                          refine wp_cV (as := [iV x102, iV x18]) (rest := []) (a := 117) (mx := 4) (ci := 12) jF_242_114 kd117 (by decide) rfl rfl rfl rfl rfl (by omega) (by omega) rfl (pc2 := 117) ?_
                          have q109 : (m0 τ104) = (m0 σ) := ((m0_fr f106 (fun _ => rfl)).trans ((m0_wa f100 (by decide)).trans ((m0_wa f84 (by decide)).trans ((m0_wa f70 (by decide)).trans ((m0_wr f56 (by decide)).trans ((m0_fr f22 (fun _ => rfl)).trans ((m0_fr f15 (fun _ => rfl)).trans ((m0_fr f8 (fun _ => rfl)).trans (m0_wr f3 (by decide))))))))))
                          have q110 : (m1 τ104) = (m1 σ) := ((m1_fr f106 (fun _ => rfl)).trans ((m1_wa f100 (by decide)).trans ((m1_wa f84 (by decide)).trans ((m1_wa f70 (by decide)).trans ((m1_wr f56 (by decide)).trans ((m1_fr f22 (fun _ => rfl)).trans ((m1_fr f15 (fun _ => rfl)).trans ((m1_fr f8 (fun _ => rfl)).trans (m1_wr f3 (by decide))))))))))
                          have q111 : (m2 τ104) = (m2 σ) := ((m2_fr f106 (fun _ => rfl)).trans ((m2_wa f100 (by decide)).trans ((m2_wa f84 (by decide)).trans ((m2_wa f70 (by decide)).trans ((m2_wr f56 (by decide)).trans ((m2_fr f22 (fun _ => rfl)).trans ((m2_fr f15 (fun _ => rfl)).trans ((m2_fr f8 (fun _ => rfl)).trans (m2_wr f3 (by decide))))))))))
                          have q112 : (cm τ104) = (cm σ) := ((cm_fr f106 (fun _ => rfl)).trans ((cm_wa f100 (by decide)).trans ((cm_wa f84 (by decide)).trans ((cm_wa f70 (by decide)).trans ((cm_wr f56 (by decide)).trans ((cm_fr f22 (fun _ => rfl)).trans ((cm_fr f15 (fun _ => rfl)).trans ((cm_fr f8 (fun _ => rfl)).trans (cm_wr f3 (by decide))))))))))
                          refine wp_use (m_246 τ104 g105 x102 (by omega) (by omega) x18 (by omega) (by omega) (by omega) (by omega) _ _ (by omega) (by omega)) ?_
                          rintro _ _ ⟨z115, rfl, h116, rfl⟩
                          show WP 242 117 [(0, .ref 117), (1, iV x18), (2, iV x102)] [iV z115] _ _ _ _
                          refine wp_z_eq jF_242_117 (m_rgb h116 rfl) rfl (pc2 := 120) ?_ ?_
                          · intro h117
                            refine wp_inc (lv2 := [(0, .ref 117), (1, iV x18), (2, iV (x102 + 1))]) jF_242_132 rfl rfl rfl rfl (pc2 := 135) ?_
                            refine wp_go jF_242_135 ?_
                            exact ih107 ((x102 + 1)) τ104 ⟨⟨by omega, by omega⟩, g105, f106⟩ (by show Int.toNat (34 - (x102 + 1)) < Int.toNat (34 - x102); omega)
                          · intro h117
                            refine wp_al1 jF_242_120 rfl rfl (pc2 := 121) ?_
                            refine wp_gr (b := 145) jF_242_121 kd117 (by decide) (c := 245) rfl rfl rfl (pc2 := 124) ?_
                            refine wp_il1 jF_242_124 rfl rfl (pc2 := 125) ?_
                            refine wp_du2 jF_242_125 rfl rfl (pc2 := 126) ?_
                            refine wp_lald (n := 34) jF_242_126 kd145 (by decide) rfl rfl (by omega) (by omega) rfl (pc2 := 127) ?_
                            intro y118
                            refine wp_lc jF_242_127 rfl (pc2 := 128) ?_
                            refine wp_il1 jF_242_128 rfl rfl (pc2 := 129) ?_
                            refine wp_lng (pc2 := 130) jF_242_129 rfl rfl ?_
                            intro y119
                            refine wp_lng (pc2 := 131) jF_242_130 rfl rfl ?_
                            intro y120
                            refine wp_last (n := 34) jF_242_131 kd145 (by decide) rfl rfl (by omega) (by omega) rfl (pc2 := 132) g105 ?_
                            intro τ121 g122 f123
                            refine wp_inc (lv2 := [(0, .ref 117), (1, iV x18), (2, iV (x102 + 1))]) jF_242_132 rfl rfl rfl rfl (pc2 := 135) ?_
                            refine wp_go jF_242_135 ?_
                            exact ih107 ((x102 + 1)) τ121 ⟨⟨by omega, by omega⟩, g122, (FR.w f106 f123 rfl)⟩ (by show Int.toNat (34 - (x102 + 1)) < Int.toNat (34 - x102); omega)
                    · intro h101; exfalso; omega
        · intro h17
          refine wp_al1 jF_242_34 rfl rfl (pc2 := 35) ?_
          refine wp_gr (b := 145) jF_242_35 kd117 (by decide) (c := 245) rfl rfl rfl (pc2 := 38) ?_
          refine wp_il1 jF_242_38 rfl rfl (pc2 := 39) ?_
          refine wp_lc jF_242_39 rfl (pc2 := 40) ?_
          refine wp_last (n := 34) jF_242_40 kd145 (by decide) rfl rfl (by omega) (by omega) rfl (pc2 := 41) g14 ?_
          intro τ124 g125 f126
          refine wp_inc (lv2 := [(0, .ref 117), (1, iV (x11 + 1))]) jF_242_41 rfl rfl rfl rfl (pc2 := 44) ?_
          refine wp_go jF_242_44 ?_
          exact ih16 ((x11 + 1)) τ124 ⟨⟨by omega, by omega⟩, g125, (FR.w f15 f126 rfl)⟩ (by show Int.toNat (34 - (x11 + 1)) < Int.toNat (34 - x11); omega)
    · intro h10
      refine wp_al1 jF_242_13 rfl rfl (pc2 := 14) ?_
      refine wp_gr (b := 144) jF_242_14 kd117 (by decide) (c := 244) rfl rfl rfl (pc2 := 17) ?_
      refine wp_il1 jF_242_17 rfl rfl (pc2 := 18) ?_
      refine wp_lc jF_242_18 rfl (pc2 := 19) ?_
      refine wp_last (n := 18) jF_242_19 kd144 (by decide) rfl rfl (by omega) (by omega) rfl (pc2 := 20) g7 ?_
      intro τ127 g128 f129
      refine wp_inc (lv2 := [(0, .ref 117), (1, iV (x4 + 1))]) jF_242_20 rfl rfl rfl rfl (pc2 := 23) ?_
      refine wp_go jF_242_23 ?_
      exact ih9 ((x4 + 1)) τ127 ⟨⟨by omega, by omega⟩, g128, (FR.w f8 f129 rfl)⟩ (by show Int.toNat (18 - (x4 + 1)) < Int.toNat (18 - x4); omega)
set_option maxHeartbeats 4000000 in
set_option maxRecDepth 20000 in
/-- M.octet -/
theorem m_356 (σ : jM) (hg : GI σ) (k : Int) (hl_k : (-2147483648) ≤ k) (hu_k : k ≤ 2147483647)  (fr lo : Nat) (hfr : 0 ≤ fr) (hlo : 0 ≤ lo) : WP 356 0 (lv_args 0 [.ref 117, iV k]) [] fr lo σ (fun v τ => ∃ z : Int, v = some (iV z) ∧ ((-2147483648) ≤ z ∧ z ≤ 2147483647) ∧ σ = τ) := by
  show WP 356 0 [(0, .ref 117), (1, iV k)] [] _ _ _ _
  refine wp_il1 jF_356_0 rfl rfl (pc2 := 1) ?_
  refine wp_z_lt jF_356_1 ⟨by omega, by omega⟩ rfl (pc2 := 4) ?_ ?_
  · intro h1
    refine wp_ic jF_356_21 rfl (pc2 := 22) ?_
    refine wp_ri jF_356_22 rfl ?_
    exact ⟨(-1), rfl, ⟨by omega, by omega⟩, rfl⟩
  · intro h1
    refine wp_il1 jF_356_4 rfl rfl (pc2 := 5) ?_
    refine wp_al1 jF_356_5 rfl rfl (pc2 := 6) ?_
    have b2 := GI.b hg 117 97 kd117 (lo := 0) (hi := 123) rfl
    refine wp_gi jF_356_6 kd117 (by decide) rfl rfl rfl (pc2 := 9) ?_
    refine wp_i_ge jF_356_9 ⟨by omega, by omega⟩ (m_rgb b2 rfl) rfl (pc2 := 12) ?_ ?_
    · intro h3
      refine wp_ic jF_356_21 rfl (pc2 := 22) ?_
      refine wp_ri jF_356_22 rfl ?_
      exact ⟨(-1), rfl, ⟨by omega, by omega⟩, rfl⟩
    · intro h3
      refine wp_al1 jF_356_12 rfl rfl (pc2 := 13) ?_
      refine wp_gr (b := 179) jF_356_13 kd117 (by decide) (c := 279) rfl rfl rfl (pc2 := 16) ?_
      refine wp_il1 jF_356_16 rfl rfl (pc2 := 17) ?_
      have b4 := GI.b hg 179 k.toNat kd179 (lo := (-2147483648)) (hi := 2147483647) rfl
      refine wp_iald (n := 123) (e := (σ.1 179 k.toNat)) jF_356_17 kd179 (by decide) rfl rfl (by omega) (by omega) rfl rfl (pc2 := 18) ?_
      refine wp_go jF_356_18 ?_
      refine wp_ri jF_356_22 rfl ?_
      exact ⟨(σ.1 179 k.toNat), rfl, ⟨by omega, by omega⟩, rfl⟩
