set_option maxHeartbeats 4000000 in
set_option maxRecDepth 20000 in
/-- M.tongue -/
theorem m_214 (σ : jM) (hg : GI σ)  (pre0 : (σ.1 143 3) ≤ 16) (pre1 : (σ.1 143 4) ≤ 8) (pre2 : (σ.1 143 5) ≤ 10) (pre3 : (kp σ) = 1) (pre4 : (l0 σ) = 22) (pre5 : (l1 σ) = 22) (fr lo : Nat) (hfr : 7 ≤ fr) (hlo : 162 ≤ lo) : WP 214 0 (lv_args 0 [.ref 117]) [] fr lo σ (fun v τ => ∃ z : Int, v = some (iV z) ∧ ((-2147483648) ≤ z ∧ z ≤ 2147483647) ∧ GI τ ∧ FR Wton σ τ ∧ ((τ.1 143 3) ≤ 16) ∧ ((τ.1 143 4) ≤ 8) ∧ ((τ.1 143 5) ≤ 10) ∧ ((kp τ) = 1) ∧ ((l0 τ) = 22) ∧ ((l1 τ) = 22)) := by
  show WP 214 0 [(0, .ref 117)] [] _ _ _ _
  refine wp_al1 jF_214_0 rfl rfl (pc2 := 1) ?_
  refine wp_cV (as := []) (rest := []) (a := 117) (mx := 1) (ci := 12) jF_214_1 kd117 (by decide) rfl rfl rfl rfl rfl (by omega) (by omega) rfl (pc2 := 4) ?_
  show WP 215 0 [(0, .ref 117)] [] _ _ _ _
  refine wp_al1 jF_215_0 rfl rfl (pc2 := 1) ?_
  refine wp_al1 jF_215_1 rfl rfl (pc2 := 2) ?_
  have b1 := GI.b hg 117 1 kd117 (lo := 0) (hi := 1600) rfl
  refine wp_gi jF_215_2 kd117 (by decide) rfl rfl rfl (pc2 := 5) ?_
  refine wp_pi jF_215_5 kd117 (by decide) rfl rfl rfl (pc2 := 8) hg (lo := 0) (hi := 1600) rfl (by omega) (by omega) ?_
  intro τ2 g3 f4 e5
  refine wp_al1 jF_215_8 rfl rfl (pc2 := 9) ?_
  refine wp_ic jF_215_9 rfl (pc2 := 10) ?_
  refine wp_pi jF_215_10 kd117 (by decide) rfl rfl rfl (pc2 := 13) g3 (lo := 0) (hi := 1600) rfl (by omega) (by omega) ?_
  intro τ6 g7 f8 e9
  refine wp_al1 jF_215_13 rfl rfl (pc2 := 14) ?_
  refine wp_ic jF_215_14 rfl (pc2 := 15) ?_
  refine wp_pi jF_215_15 kd117 (by decide) rfl rfl rfl (pc2 := 18) g7 (lo := 0) (hi := 1601) rfl (by omega) (by omega) ?_
  intro τ10 g11 f12 e13
  refine wp_al1 jF_215_18 rfl rfl (pc2 := 19) ?_
  refine wp_ic jF_215_19 rfl (pc2 := 20) ?_
  refine wp_pi jF_215_20 kd117 (by decide) rfl rfl rfl (pc2 := 23) g11 (lo := (-2147483648)) (hi := 2147483647) rfl (by omega) (by omega) ?_
  intro τ14 g15 f16 e17
  refine wp_al1 jF_215_23 rfl rfl (pc2 := 24) ?_
  refine wp_ic jF_215_24 rfl (pc2 := 25) ?_
  refine wp_pi jF_215_25 kd117 (by decide) rfl rfl rfl (pc2 := 28) g15 (lo := (-2147483648)) (hi := 2147483647) rfl (by omega) (by omega) ?_
  intro τ18 g19 f20 e21
  refine wp_al1 jF_215_28 rfl rfl (pc2 := 29) ?_
  refine wp_ic jF_215_29 rfl (pc2 := 30) ?_
  refine wp_pi jF_215_30 kd117 (by decide) rfl rfl rfl (pc2 := 33) g19 (lo := (-2147483648)) (hi := 2147483647) rfl (by omega) (by omega) ?_
  intro τ22 g23 f24 e25
  refine wp_rv jF_215_33 ?_
  show WP 214 4 [(0, .ref 117)] [] _ _ _ _
  refine wp_al1 jF_214_4 rfl rfl (pc2 := 5) ?_
  refine wp_ic jF_214_5 rfl (pc2 := 6) ?_
  refine wp_pi jF_214_6 kd117 (by decide) rfl rfl rfl (pc2 := 9) g23 (lo := 0) (hi := 71) rfl (by omega) (by omega) ?_
  intro τ26 g27 f28 e29
  refine wp_al1 jF_214_9 rfl rfl (pc2 := 10) ?_
  refine wp_bi jF_214_10 (by decide) rfl (pc2 := 12) ?_
  refine wp_pi jF_214_12 kd117 (by decide) rfl rfl rfl (pc2 := 15) g27 (lo := (-2147483648)) (hi := 2147483647) rfl (by omega) (by omega) ?_
  intro τ30 g31 f32 e33
  refine wp_al1 jF_214_15 rfl rfl (pc2 := 16) ?_
  refine wp_ic jF_214_16 rfl (pc2 := 17) ?_
  refine wp_pi jF_214_17 kd117 (by decide) rfl rfl rfl (pc2 := 20) g31 (lo := 0) (hi := 5) rfl (by omega) (by omega) ?_
  intro τ34 g35 f36 e37
  refine wp_ic jF_214_20 rfl (pc2 := 21) ?_
  refine wp_is1 (lv2 := [(0, .ref 117), (1, iV 0)]) jF_214_21 rfl rfl rfl (pc2 := 22) ?_
  refine wp_loop (α := Int) (fun a => [(0, .ref 117), (1, iV (a))]) (fun a τ => (0 ≤ a ∧ a ≤ 18) ∧ GI τ ∧ FR Ww138 τ34 τ) (fun a τ => Int.toNat (18 - (a))) (0) τ34 ?_ ?_
  · skip
    exact ⟨⟨by omega, by omega⟩, g35, FR.rf⟩
  · rintro x38 τ40 ⟨h39, g41, f42⟩ ih43
    show WP 214 22 [(0, .ref 117), (1, iV x38)] [] _ _ _ _
    show WP 214 22 [(0, .ref 117), (1, iV x38)] [] _ _ _ _
    refine wp_il1 jF_214_22 rfl rfl (pc2 := 23) ?_
    refine wp_bi jF_214_23 (by decide) rfl (pc2 := 25) ?_
    refine wp_i_ge jF_214_25 (m_rgb h39 rfl) (m_rgl rfl) rfl (pc2 := 28) ?_ ?_
    · intro h44
      refine wp_ic jF_214_41 rfl (pc2 := 42) ?_
      refine wp_is1 (lv2 := [(0, .ref 117), (1, iV 0)]) jF_214_42 rfl rfl rfl (pc2 := 43) ?_
      refine wp_il1 jF_214_43 rfl rfl (pc2 := 44) ?_
      refine wp_ic jF_214_44 rfl (pc2 := 45) ?_
      refine wp_i_ge jF_214_45 (m_rgl rfl) (m_rgl rfl) rfl (pc2 := 48) ?_ ?_
      · intro h45; exfalso; omega
      · intro h45
        refine wp_al1 jF_214_48 rfl rfl (pc2 := 49) ?_
        refine wp_gr (b := 143) jF_214_49 kd117 (by decide) (c := 243) rfl rfl rfl (pc2 := 52) ?_
        refine wp_il1 jF_214_52 rfl rfl (pc2 := 53) ?_
        refine wp_ic jF_214_53 rfl (pc2 := 54) ?_
        refine wp_iast (n := 6) jF_214_54 kd143 (by decide) rfl rfl (by omega) (by omega) rfl (pc2 := 55) g41 (lo := 0) (hi := 16) rfl (by omega) (by omega) ?_
        intro τ46 g47 f48 e49
        refine wp_inc (lv2 := [(0, .ref 117), (1, iV 1)]) jF_214_55 rfl rfl rfl rfl (pc2 := 58) ?_
        refine wp_go jF_214_58 ?_
        refine wp_il1 jF_214_43 rfl rfl (pc2 := 44) ?_
        refine wp_ic jF_214_44 rfl (pc2 := 45) ?_
        refine wp_i_ge jF_214_45 (m_rgl rfl) (m_rgl rfl) rfl (pc2 := 48) ?_ ?_
        · intro h50; exfalso; omega
        · intro h50
          refine wp_al1 jF_214_48 rfl rfl (pc2 := 49) ?_
          refine wp_gr (b := 143) jF_214_49 kd117 (by decide) (c := 243) rfl rfl rfl (pc2 := 52) ?_
          refine wp_il1 jF_214_52 rfl rfl (pc2 := 53) ?_
          refine wp_ic jF_214_53 rfl (pc2 := 54) ?_
          refine wp_iast (n := 6) jF_214_54 kd143 (by decide) rfl rfl (by omega) (by omega) rfl (pc2 := 55) g47 (lo := 0) (hi := 16) rfl (by omega) (by omega) ?_
          intro τ51 g52 f53 e54
          refine wp_inc (lv2 := [(0, .ref 117), (1, iV 2)]) jF_214_55 rfl rfl rfl rfl (pc2 := 58) ?_
          refine wp_go jF_214_58 ?_
          refine wp_il1 jF_214_43 rfl rfl (pc2 := 44) ?_
          refine wp_ic jF_214_44 rfl (pc2 := 45) ?_
          refine wp_i_ge jF_214_45 (m_rgl rfl) (m_rgl rfl) rfl (pc2 := 48) ?_ ?_
          · intro h55; exfalso; omega
          · intro h55
            refine wp_al1 jF_214_48 rfl rfl (pc2 := 49) ?_
            refine wp_gr (b := 143) jF_214_49 kd117 (by decide) (c := 243) rfl rfl rfl (pc2 := 52) ?_
            refine wp_il1 jF_214_52 rfl rfl (pc2 := 53) ?_
            refine wp_ic jF_214_53 rfl (pc2 := 54) ?_
            refine wp_iast (n := 6) jF_214_54 kd143 (by decide) rfl rfl (by omega) (by omega) rfl (pc2 := 55) g52 (lo := 0) (hi := 16) rfl (by omega) (by omega) ?_
            intro τ56 g57 f58 e59
            refine wp_inc (lv2 := [(0, .ref 117), (1, iV 3)]) jF_214_55 rfl rfl rfl rfl (pc2 := 58) ?_
            refine wp_go jF_214_58 ?_
            refine wp_il1 jF_214_43 rfl rfl (pc2 := 44) ?_
            refine wp_ic jF_214_44 rfl (pc2 := 45) ?_
            refine wp_i_ge jF_214_45 (m_rgl rfl) (m_rgl rfl) rfl (pc2 := 48) ?_ ?_
            · intro h60
              refine wp_al1 jF_214_61 rfl rfl (pc2 := 62) ?_
              refine wp_gi jF_214_62 kd117 (by decide) rfl ((FRw.na f58 (by decide)).trans ((FRw.na f53 (by decide)).trans ((FRw.na f48 (by decide)).trans ((FR.at f42 117 5 rfl).trans ((FRw.nj f36 (by decide)).trans ((FRw.nj f32 (by decide)).trans ((FRw.nj f28 (by decide)).trans ((FRw.nj f24 (by decide)).trans e21)))))))) rfl (pc2 := 65) ?_
              refine wp_z_ne jF_214_65 (m_rgl rfl) rfl (pc2 := 68) ?_ ?_
              · intro h61; exfalso; omega
              · intro h61
                have b62 := GI.b hg 143 3 kd143 (lo := 0) (hi := 16) rfl
                have q63 : (τ56.1 143 3) = (σ.1 143 3) := ((FRw.nj f58 (by decide)).trans ((FRw.nj f53 (by decide)).trans ((FRw.nj f48 (by decide)).trans ((FR.at f42 143 3 rfl).trans ((FRw.na f36 (by decide)).trans ((FRw.na f32 (by decide)).trans ((FRw.na f28 (by decide)).trans ((FRw.na f24 (by decide)).trans ((FRw.na f20 (by decide)).trans ((FRw.na f16 (by decide)).trans ((FRw.na f12 (by decide)).trans ((FRw.na f8 (by decide)).trans (FRw.na f4 (by decide))))))))))))))
                have b64 := GI.b hg 143 4 kd143 (lo := 0) (hi := 16) rfl
                have q65 : (τ56.1 143 4) = (σ.1 143 4) := ((FRw.nj f58 (by decide)).trans ((FRw.nj f53 (by decide)).trans ((FRw.nj f48 (by decide)).trans ((FR.at f42 143 4 rfl).trans ((FRw.na f36 (by decide)).trans ((FRw.na f32 (by decide)).trans ((FRw.na f28 (by decide)).trans ((FRw.na f24 (by decide)).trans ((FRw.na f20 (by decide)).trans ((FRw.na f16 (by decide)).trans ((FRw.na f12 (by decide)).trans ((FRw.na f8 (by decide)).trans (FRw.na f4 (by decide))))))))))))))
                have b66 := GI.b hg 143 5 kd143 (lo := 0) (hi := 16) rfl
                have q67 : (τ56.1 143 5) = (σ.1 143 5) := ((FRw.nj f58 (by decide)).trans ((FRw.nj f53 (by decide)).trans ((FRw.nj f48 (by decide)).trans ((FR.at f42 143 5 rfl).trans ((FRw.na f36 (by decide)).trans ((FRw.na f32 (by decide)).trans ((FRw.na f28 (by decide)).trans ((FRw.na f24 (by decide)).trans ((FRw.na f20 (by decide)).trans ((FRw.na f16 (by decide)).trans ((FRw.na f12 (by decide)).trans ((FRw.na f8 (by decide)).trans (FRw.na f4 (by decide))))))))))))))
                refine wp_loop (α := Unit) (fun a => [(0, .ref 117), (1, iV 3)]) (fun a τ => GI τ ∧ FR Wst τ56 τ ∧ ((τ.1 117 5) = 0) ∧ ((τ.1 143 0) ≤ 16) ∧ ((τ.1 143 1) ≤ 8) ∧ ((τ.1 143 2) ≤ 10) ∧ ((τ.1 117 39) ≤ 70) ∧ ((τ.1 143 3) = (τ56.1 143 3)) ∧ ((τ.1 143 4) = (τ56.1 143 4)) ∧ ((τ.1 143 5) = (τ56.1 143 5))) (fun a τ => Int.toNat (1700 - (τ.1 117 2))) () τ56 ?_ ?_
                · skip
                  have q68 : (τ56.1 117 39) = 0 := ((FRw.na f58 (by decide)).trans ((FRw.na f53 (by decide)).trans ((FRw.na f48 (by decide)).trans ((FR.at f42 117 39 rfl).trans ((FRw.nj f36 (by decide)).trans ((FRw.nj f32 (by decide)).trans e29))))))
                  have q69 : (τ56.1 117 5) = 0 := ((FRw.na f58 (by decide)).trans ((FRw.na f53 (by decide)).trans ((FRw.na f48 (by decide)).trans ((FR.at f42 117 5 rfl).trans ((FRw.nj f36 (by decide)).trans ((FRw.nj f32 (by decide)).trans ((FRw.nj f28 (by decide)).trans ((FRw.nj f24 (by decide)).trans e21))))))))
                  have q70 : (τ56.1 143 0) = 0 := ((FRw.nj f58 (by decide)).trans ((FRw.nj f53 (by decide)).trans e49))
                  have q71 : (τ56.1 143 1) = 0 := ((FRw.nj f58 (by decide)).trans e54)
                  have q72 : (τ56.1 143 2) = 0 := e59
                  exact ⟨g57, FR.rf, (by omega), (by omega), (by omega), (by omega), (by omega), (by omega), (by omega), (by omega)⟩
                · rintro ⟨⟩ τ73 ⟨g74, f75, p76, p77, p78, p79, p80, p81, p82, p83⟩ ih84
                  have b85 := GI.b g74 117 39 kd117 (lo := 0) (hi := 71) rfl
                  have b86 := GI.b g74 117 5 kd117 (lo := (-2147483648)) (hi := 2147483647) rfl
                  have b87 := GI.b g74 143 0 kd143 (lo := 0) (hi := 16) rfl
                  have b88 := GI.b g74 143 1 kd143 (lo := 0) (hi := 16) rfl
                  have b89 := GI.b g74 143 2 kd143 (lo := 0) (hi := 16) rfl
                  have b90 := GI.b g74 143 3 kd143 (lo := 0) (hi := 16) rfl
                  have b91 := GI.b g74 143 4 kd143 (lo := 0) (hi := 16) rfl
                  have b92 := GI.b g74 143 5 kd143 (lo := 0) (hi := 16) rfl
                  show WP 214 68 [(0, .ref 117), (1, iV 3)] [] _ _ _ _
                  show WP 214 68 [(0, .ref 117), (1, iV 3)] [] _ _ _ _
                  refine wp_al1 jF_214_68 rfl rfl (pc2 := 69) ?_
                  refine wp_cV (as := []) (rest := []) (a := 117) (mx := 1) (ci := 12) jF_214_69 kd117 (by decide) rfl rfl rfl rfl rfl (by omega) (by omega) rfl (pc2 := 72) ?_
                  have b93 := GI.b g74 117 2 kd117 (lo := 0) (hi := 1601) rfl
                  have q94 : (τ73.1 117 3) = (σ.1 117 1) := ((FR.at f75 117 3 rfl).trans ((FRw.na f58 (by decide)).trans ((FRw.na f53 (by decide)).trans ((FRw.na f48 (by decide)).trans ((FR.at f42 117 3 rfl).trans ((FRw.nj f36 (by decide)).trans ((FRw.nj f32 (by decide)).trans ((FRw.nj f28 (by decide)).trans ((FRw.nj f24 (by decide)).trans ((FRw.nj f20 (by decide)).trans ((FRw.nj f16 (by decide)).trans ((FRw.nj f12 (by decide)).trans ((FRw.nj f8 (by decide)).trans e5)))))))))))))
                  refine wp_use (m_216 τ73 g74   _ _ (by omega) (by omega)) ?_
                  rintro _ τ101 ⟨z104, rfl, h105, g102, f103, p95, p96, p97, p98, p99, p100⟩
                  have b106 := GI.b hg 118 (τ101.1 117 2).toNat kd118 (lo := 0) (hi := 255) rfl
                  have q107 : (τ73.1 118 (τ101.1 117 2).toNat) = (σ.1 118 (τ101.1 117 2).toNat) := ((FR.at f75 118 (τ101.1 117 2).toNat rfl).trans ((FRw.na f58 (by decide)).trans ((FRw.na f53 (by decide)).trans ((FRw.na f48 (by decide)).trans ((FR.at f42 118 (τ101.1 117 2).toNat rfl).trans ((FRw.na f36 (by decide)).trans ((FRw.na f32 (by decide)).trans ((FRw.na f28 (by decide)).trans ((FRw.na f24 (by decide)).trans ((FRw.na f20 (by decide)).trans ((FRw.na f16 (by decide)).trans ((FRw.na f12 (by decide)).trans ((FRw.na f8 (by decide)).trans (FRw.na f4 (by decide)))))))))))))))
                  show WP 214 72 [(0, .ref 117), (1, iV 3)] [iV z104] _ _ _ _
                  refine wp_ic jF_214_72 rfl (pc2 := 73) ?_
                  refine wp_i_eq jF_214_73 (m_rgb h105 rfl) (m_rgl rfl) rfl (pc2 := 76) ?_ ?_
                  · intro h108
                    clear p95
                    clear p100
                    refine wp_al1 jF_214_83 rfl rfl (pc2 := 84) ?_
                    refine wp_cV (as := []) (rest := []) (a := 117) (mx := 1) (ci := 12) jF_214_84 kd117 (by decide) rfl rfl rfl rfl rfl (by omega) (by omega) rfl (pc2 := 87) ?_
                    show WP 240 0 [(0, .ref 117)] [] _ _ _ _
                    refine wp_al1 jF_240_0 rfl rfl (pc2 := 1) ?_
                    refine wp_al1 jF_240_1 rfl rfl (pc2 := 2) ?_
                    refine wp_gi jF_240_2 kd117 (by decide) rfl (FR.at f103 117 5 rfl) rfl (pc2 := 5) ?_
                    refine wp_pi jF_240_5 kd117 (by decide) rfl rfl rfl (pc2 := 8) g102 (lo := (-2147483648)) (hi := 2147483647) rfl (by omega) (by omega) ?_
                    intro τ109 g110 f111 e112
                    refine wp_al1 jF_240_8 rfl rfl (pc2 := 9) ?_
                    refine wp_al1 jF_240_9 rfl rfl (pc2 := 10) ?_
                    have b113 := GI.b g74 117 6 kd117 (lo := (-2147483648)) (hi := 2147483647) rfl
                    refine wp_gi jF_240_10 kd117 (by decide) rfl ((FRw.nj f111 (by decide)).trans (FR.at f103 117 6 rfl)) rfl (pc2 := 13) ?_
                    refine wp_pi jF_240_13 kd117 (by decide) rfl rfl rfl (pc2 := 16) g110 (lo := (-2147483648)) (hi := 2147483647) rfl (by omega) (by omega) ?_
                    intro τ114 g115 f116 e117
                    refine wp_al1 jF_240_16 rfl rfl (pc2 := 17) ?_
                    refine wp_gi jF_240_17 kd117 (by decide) rfl ((FRw.nj f116 (by decide)).trans ((FRw.nj f111 (by decide)).trans (FR.at f103 117 5 rfl))) rfl (pc2 := 20) ?_
                    refine wp_z_eq jF_240_20 (m_rgb b86 rfl) rfl (pc2 := 23) ?_ ?_
                    · intro h118
                      refine wp_al1 jF_240_33 rfl rfl (pc2 := 34) ?_
                      refine wp_gi jF_240_34 kd117 (by decide) rfl ((FRw.nj f116 (by decide)).trans ((FRw.nj f111 (by decide)).trans (FR.at f103 117 5 rfl))) rfl (pc2 := 37) ?_
                      refine wp_z_ne jF_240_37 (m_rgb b86 rfl) rfl (pc2 := 40) ?_ ?_
                      · intro h119
                        refine wp_ic jF_240_44 rfl (pc2 := 45) ?_
                        refine wp_ri jF_240_45 rfl ?_
                        show WP 214 87 [(0, .ref 117), (1, iV 3)] [iV 0] _ _ _ _
                        refine wp_z_ne jF_214_87 (m_rgl rfl) rfl (pc2 := 90) ?_ ?_
                        · intro h120; exfalso; omega
                        · intro h120
                          refine wp_ic jF_214_90 rfl (pc2 := 91) ?_
                          refine wp_ri jF_214_91 rfl ?_
                          have q121 : (l0 τ114) = (l0 σ) := ((l0_wr f116 (by decide)).trans ((l0_wr f111 (by decide)).trans ((l0_fr f103 rfl (fun _ => rfl)).trans ((l0_fr f75 rfl (fun _ => rfl)).trans ((l0_wr f58 (by decide)).trans ((l0_wr f53 (by decide)).trans ((l0_wr f48 (by decide)).trans ((l0_fr f42 rfl (fun _ => rfl)).trans ((l0_wr f36 (by decide)).trans ((l0_wr f32 (by decide)).trans ((l0_wr f28 (by decide)).trans ((l0_wr f24 (by decide)).trans ((l0_wr f20 (by decide)).trans ((l0_wr f16 (by decide)).trans ((l0_wr f12 (by decide)).trans ((l0_wr f8 (by decide)).trans (l0_wr f4 (by decide))))))))))))))))))
                          have q122 : (l1 τ114) = (l1 σ) := ((l1_wr f116 (by decide)).trans ((l1_wr f111 (by decide)).trans ((l1_fr f103 rfl (fun _ => rfl)).trans ((l1_fr f75 rfl (fun _ => rfl)).trans ((l1_wr f58 (by decide)).trans ((l1_wr f53 (by decide)).trans ((l1_wr f48 (by decide)).trans ((l1_fr f42 rfl (fun _ => rfl)).trans ((l1_wr f36 (by decide)).trans ((l1_wr f32 (by decide)).trans ((l1_wr f28 (by decide)).trans ((l1_wr f24 (by decide)).trans ((l1_wr f20 (by decide)).trans ((l1_wr f16 (by decide)).trans ((l1_wr f12 (by decide)).trans ((l1_wr f8 (by decide)).trans (l1_wr f4 (by decide))))))))))))))))))
                          have q123 : (kp τ114) = (kp σ) := ((kp_wr f116 (by decide)).trans ((kp_wr f111 (by decide)).trans ((kp_fr f103 (fun _ => rfl) (fun _ => rfl)).trans ((kp_fr f75 (fun _ => rfl) (fun _ => rfl)).trans ((kp_wr f58 (by decide)).trans ((kp_wr f53 (by decide)).trans ((kp_wr f48 (by decide)).trans ((kp_fr f42 (fun _ => rfl) (fun _ => rfl)).trans ((kp_wr f36 (by decide)).trans ((kp_wr f32 (by decide)).trans ((kp_wr f28 (by decide)).trans ((kp_wr f24 (by decide)).trans ((kp_wr f20 (by decide)).trans ((kp_wr f16 (by decide)).trans ((kp_wr f12 (by decide)).trans ((kp_wr f8 (by decide)).trans (kp_wr f4 (by decide))))))))))))))))))
                          have q124 : (τ114.1 143 3) = (τ73.1 143 3) := ((FRw.na f116 (by decide)).trans ((FRw.na f111 (by decide)).trans (FR.at f103 143 3 rfl)))
                          have q125 : (τ114.1 143 4) = (τ73.1 143 4) := ((FRw.na f116 (by decide)).trans ((FRw.na f111 (by decide)).trans (FR.at f103 143 4 rfl)))
                          have q126 : (τ114.1 143 5) = (τ73.1 143 5) := ((FRw.na f116 (by decide)).trans ((FRw.na f111 (by decide)).trans (FR.at f103 143 5 rfl)))
                          exact ⟨(-1), rfl, ⟨by omega, by omega⟩, g115, (FR.w (FR.w (FR.up (FR.up (FR.w (FR.w (FR.w (FR.up (FR.w (FR.w (FR.w (FR.w (FR.w (FR.w (FR.w (FR.w (FR.w FR.rf f4 rfl) f8 rfl) f12 rfl) f16 rfl) f20 rfl) f24 rfl) f28 rfl) f32 rfl) f36 rfl) f42 sb_Ww138_Wton) f48 rfl) f53 rfl) f58 rfl) f75 sb_Wst_Wton) f103 sb_Wat_Wton) f111 rfl) f116 rfl), (by omega), (by omega), (by omega), (by omega), (by omega), (by omega)⟩
                      · intro h119
                        refine wp_ic jF_240_40 rfl (pc2 := 41) ?_
                        refine wp_go jF_240_41 ?_
                        refine wp_ri jF_240_45 rfl ?_
                        show WP 214 87 [(0, .ref 117), (1, iV 3)] [iV 1] _ _ _ _
                        refine wp_z_ne jF_214_87 (m_rgl rfl) rfl (pc2 := 90) ?_ ?_
                        · intro h127
                          refine wp_al1 jF_214_92 rfl rfl (pc2 := 93) ?_
                          refine wp_cV (as := []) (rest := []) (a := 117) (mx := 2) (ci := 12) jF_214_93 kd117 (by decide) rfl rfl rfl rfl rfl (by omega) (by omega) rfl (pc2 := 96) ?_
                          have q128 : (kp τ114) = (kp σ) := ((kp_wr f116 (by decide)).trans ((kp_wr f111 (by decide)).trans ((kp_fr f103 (fun _ => rfl) (fun _ => rfl)).trans ((kp_fr f75 (fun _ => rfl) (fun _ => rfl)).trans ((kp_wr f58 (by decide)).trans ((kp_wr f53 (by decide)).trans ((kp_wr f48 (by decide)).trans ((kp_fr f42 (fun _ => rfl) (fun _ => rfl)).trans ((kp_wr f36 (by decide)).trans ((kp_wr f32 (by decide)).trans ((kp_wr f28 (by decide)).trans ((kp_wr f24 (by decide)).trans ((kp_wr f20 (by decide)).trans ((kp_wr f16 (by decide)).trans ((kp_wr f12 (by decide)).trans ((kp_wr f8 (by decide)).trans (kp_wr f4 (by decide))))))))))))))))))
                          have q129 : (τ114.1 143 0) = (τ73.1 143 0) := ((FRw.na f116 (by decide)).trans ((FRw.na f111 (by decide)).trans (FR.at f103 143 0 rfl)))
                          have q130 : (τ114.1 143 1) = (τ73.1 143 1) := ((FRw.na f116 (by decide)).trans ((FRw.na f111 (by decide)).trans (FR.at f103 143 1 rfl)))
                          have q131 : (τ114.1 143 2) = (τ73.1 143 2) := ((FRw.na f116 (by decide)).trans ((FRw.na f111 (by decide)).trans (FR.at f103 143 2 rfl)))
                          refine wp_use (m_241 τ114 g115  (by omega) (by omega) (by omega) (by omega) _ _ (by omega) (by omega)) ?_
                          rintro _ τ138 ⟨rfl, g139, f140, p132, p133, p134, p135, p136, p137⟩
                          show WP 214 96 [(0, .ref 117), (1, iV 3)] [] _ _ _ _
                          refine wp_al1 jF_214_96 rfl rfl (pc2 := 97) ?_
                          refine wp_gi jF_214_97 kd117 (by decide) rfl ((FR.at f140 117 39 rfl).trans ((FRw.nj f116 (by decide)).trans ((FRw.nj f111 (by decide)).trans (FR.at f103 117 39 rfl)))) rfl (pc2 := 100) ?_
                          refine wp_ri jF_214_100 rfl ?_
                          have q141 : (kp τ138) = (kp σ) := ((kp_fr f140 (fun _ => rfl) (fun _ => rfl)).trans ((kp_wr f116 (by decide)).trans ((kp_wr f111 (by decide)).trans ((kp_fr f103 (fun _ => rfl) (fun _ => rfl)).trans ((kp_fr f75 (fun _ => rfl) (fun _ => rfl)).trans ((kp_wr f58 (by decide)).trans ((kp_wr f53 (by decide)).trans ((kp_wr f48 (by decide)).trans ((kp_fr f42 (fun _ => rfl) (fun _ => rfl)).trans ((kp_wr f36 (by decide)).trans ((kp_wr f32 (by decide)).trans ((kp_wr f28 (by decide)).trans ((kp_wr f24 (by decide)).trans ((kp_wr f20 (by decide)).trans ((kp_wr f16 (by decide)).trans ((kp_wr f12 (by decide)).trans ((kp_wr f8 (by decide)).trans (kp_wr f4 (by decide)))))))))))))))))))
                          have b142 := GI.b g139 143 3 kd143 (lo := 0) (hi := 16) rfl
                          have b143 := GI.b g139 143 4 kd143 (lo := 0) (hi := 16) rfl
                          have b144 := GI.b g139 143 5 kd143 (lo := 0) (hi := 16) rfl
                          exact ⟨(τ73.1 117 39), rfl, ⟨by omega, by omega⟩, g139, (FR.up (FR.w (FR.w (FR.up (FR.up (FR.w (FR.w (FR.w (FR.up (FR.w (FR.w (FR.w (FR.w (FR.w (FR.w (FR.w (FR.w (FR.w FR.rf f4 rfl) f8 rfl) f12 rfl) f16 rfl) f20 rfl) f24 rfl) f28 rfl) f32 rfl) f36 rfl) f42 sb_Ww138_Wton) f48 rfl) f53 rfl) f58 rfl) f75 sb_Wst_Wton) f103 sb_Wat_Wton) f111 rfl) f116 rfl) f140 sb_Wstd_Wton), (by omega), (by omega), (by omega), (by omega), (by omega), (by omega)⟩
                        · intro h127; exfalso; omega
                    · intro h118
                      refine wp_al1 jF_240_23 rfl rfl (pc2 := 24) ?_
                      refine wp_gr (b := 119) jF_240_24 kd117 (by decide) (c := 219) rfl rfl rfl (pc2 := 27) ?_
                      refine wp_ic jF_240_27 rfl (pc2 := 28) ?_
                      refine wp_du2 jF_240_28 rfl rfl (pc2 := 29) ?_
                      have b145 := GI.b hg 119 1 kd119 (lo := (-2147483648)) (hi := 2147483647) rfl
                      refine wp_iald (n := 6) (e := (σ.1 119 1)) jF_240_29 kd119 (by decide) rfl rfl (by omega) (by omega) ((FRw.na f116 (by decide)).trans ((FRw.na f111 (by decide)).trans ((FR.at f103 119 1 rfl).trans ((FR.at f75 119 1 rfl).trans ((FRw.na f58 (by decide)).trans ((FRw.na f53 (by decide)).trans ((FRw.na f48 (by decide)).trans ((FR.at f42 119 1 rfl).trans ((FRw.na f36 (by decide)).trans ((FRw.na f32 (by decide)).trans ((FRw.na f28 (by decide)).trans ((FRw.na f24 (by decide)).trans ((FRw.na f20 (by decide)).trans ((FRw.na f16 (by decide)).trans ((FRw.na f12 (by decide)).trans ((FRw.na f8 (by decide)).trans (FRw.na f4 (by decide)))))))))))))))))) rfl (pc2 := 30) ?_
                      refine wp_ic jF_240_30 rfl (pc2 := 31) ?_
                      refine wp_any2 (pc2 := 32) jF_240_31 rfl rfl ?_
                      intro z146 h147
                      refine wp_iast (n := 6) jF_240_32 kd119 (by decide) rfl rfl (by omega) (by omega) rfl (pc2 := 33) g115 (lo := (-2147483648)) (hi := 2147483647) rfl (by omega) (by omega) ?_
                      intro τ148 g149 f150 e151
                      refine wp_al1 jF_240_33 rfl rfl (pc2 := 34) ?_
                      refine wp_gi jF_240_34 kd117 (by decide) rfl ((FRw.na f150 (by decide)).trans ((FRw.nj f116 (by decide)).trans ((FRw.nj f111 (by decide)).trans (FR.at f103 117 5 rfl)))) rfl (pc2 := 37) ?_
                      refine wp_z_ne jF_240_37 (m_rgb b86 rfl) rfl (pc2 := 40) ?_ ?_
                      · intro h152
                        refine wp_ic jF_240_44 rfl (pc2 := 45) ?_
                        refine wp_ri jF_240_45 rfl ?_
                        show WP 214 87 [(0, .ref 117), (1, iV 3)] [iV 0] _ _ _ _
                        refine wp_z_ne jF_214_87 (m_rgl rfl) rfl (pc2 := 90) ?_ ?_
                        · intro h153; exfalso; omega
                        · intro h153
                          refine wp_ic jF_214_90 rfl (pc2 := 91) ?_
                          refine wp_ri jF_214_91 rfl ?_
                          have q154 : (l0 τ148) = (l0 σ) := ((l0_wr f150 (by decide)).trans ((l0_wr f116 (by decide)).trans ((l0_wr f111 (by decide)).trans ((l0_fr f103 rfl (fun _ => rfl)).trans ((l0_fr f75 rfl (fun _ => rfl)).trans ((l0_wr f58 (by decide)).trans ((l0_wr f53 (by decide)).trans ((l0_wr f48 (by decide)).trans ((l0_fr f42 rfl (fun _ => rfl)).trans ((l0_wr f36 (by decide)).trans ((l0_wr f32 (by decide)).trans ((l0_wr f28 (by decide)).trans ((l0_wr f24 (by decide)).trans ((l0_wr f20 (by decide)).trans ((l0_wr f16 (by decide)).trans ((l0_wr f12 (by decide)).trans ((l0_wr f8 (by decide)).trans (l0_wr f4 (by decide)))))))))))))))))))
                          have q155 : (l1 τ148) = (l1 σ) := ((l1_wr f150 (by decide)).trans ((l1_wr f116 (by decide)).trans ((l1_wr f111 (by decide)).trans ((l1_fr f103 rfl (fun _ => rfl)).trans ((l1_fr f75 rfl (fun _ => rfl)).trans ((l1_wr f58 (by decide)).trans ((l1_wr f53 (by decide)).trans ((l1_wr f48 (by decide)).trans ((l1_fr f42 rfl (fun _ => rfl)).trans ((l1_wr f36 (by decide)).trans ((l1_wr f32 (by decide)).trans ((l1_wr f28 (by decide)).trans ((l1_wr f24 (by decide)).trans ((l1_wr f20 (by decide)).trans ((l1_wr f16 (by decide)).trans ((l1_wr f12 (by decide)).trans ((l1_wr f8 (by decide)).trans (l1_wr f4 (by decide)))))))))))))))))))
                          have q156 : (kp τ148) = (kp σ) := ((kp_wr f150 (by decide)).trans ((kp_wr f116 (by decide)).trans ((kp_wr f111 (by decide)).trans ((kp_fr f103 (fun _ => rfl) (fun _ => rfl)).trans ((kp_fr f75 (fun _ => rfl) (fun _ => rfl)).trans ((kp_wr f58 (by decide)).trans ((kp_wr f53 (by decide)).trans ((kp_wr f48 (by decide)).trans ((kp_fr f42 (fun _ => rfl) (fun _ => rfl)).trans ((kp_wr f36 (by decide)).trans ((kp_wr f32 (by decide)).trans ((kp_wr f28 (by decide)).trans ((kp_wr f24 (by decide)).trans ((kp_wr f20 (by decide)).trans ((kp_wr f16 (by decide)).trans ((kp_wr f12 (by decide)).trans ((kp_wr f8 (by decide)).trans (kp_wr f4 (by decide)))))))))))))))))))
                          have q157 : (τ148.1 143 3) = (τ73.1 143 3) := ((FRw.na f150 (by decide)).trans ((FRw.na f116 (by decide)).trans ((FRw.na f111 (by decide)).trans (FR.at f103 143 3 rfl))))
                          have q158 : (τ148.1 143 4) = (τ73.1 143 4) := ((FRw.na f150 (by decide)).trans ((FRw.na f116 (by decide)).trans ((FRw.na f111 (by decide)).trans (FR.at f103 143 4 rfl))))
                          have q159 : (τ148.1 143 5) = (τ73.1 143 5) := ((FRw.na f150 (by decide)).trans ((FRw.na f116 (by decide)).trans ((FRw.na f111 (by decide)).trans (FR.at f103 143 5 rfl))))
                          exact ⟨(-1), rfl, ⟨by omega, by omega⟩, g149, (FR.w (FR.w (FR.w (FR.up (FR.up (FR.w (FR.w (FR.w (FR.up (FR.w (FR.w (FR.w (FR.w (FR.w (FR.w (FR.w (FR.w (FR.w FR.rf f4 rfl) f8 rfl) f12 rfl) f16 rfl) f20 rfl) f24 rfl) f28 rfl) f32 rfl) f36 rfl) f42 sb_Ww138_Wton) f48 rfl) f53 rfl) f58 rfl) f75 sb_Wst_Wton) f103 sb_Wat_Wton) f111 rfl) f116 rfl) f150 rfl), (by omega), (by omega), (by omega), (by omega), (by omega), (by omega)⟩
                      · intro h152
                        refine wp_ic jF_240_40 rfl (pc2 := 41) ?_
                        refine wp_go jF_240_41 ?_
                        refine wp_ri jF_240_45 rfl ?_
                        show WP 214 87 [(0, .ref 117), (1, iV 3)] [iV 1] _ _ _ _
                        refine wp_z_ne jF_214_87 (m_rgl rfl) rfl (pc2 := 90) ?_ ?_
                        · intro h160
                          refine wp_al1 jF_214_92 rfl rfl (pc2 := 93) ?_
                          refine wp_cV (as := []) (rest := []) (a := 117) (mx := 2) (ci := 12) jF_214_93 kd117 (by decide) rfl rfl rfl rfl rfl (by omega) (by omega) rfl (pc2 := 96) ?_
                          have q161 : (kp τ148) = (kp σ) := ((kp_wr f150 (by decide)).trans ((kp_wr f116 (by decide)).trans ((kp_wr f111 (by decide)).trans ((kp_fr f103 (fun _ => rfl) (fun _ => rfl)).trans ((kp_fr f75 (fun _ => rfl) (fun _ => rfl)).trans ((kp_wr f58 (by decide)).trans ((kp_wr f53 (by decide)).trans ((kp_wr f48 (by decide)).trans ((kp_fr f42 (fun _ => rfl) (fun _ => rfl)).trans ((kp_wr f36 (by decide)).trans ((kp_wr f32 (by decide)).trans ((kp_wr f28 (by decide)).trans ((kp_wr f24 (by decide)).trans ((kp_wr f20 (by decide)).trans ((kp_wr f16 (by decide)).trans ((kp_wr f12 (by decide)).trans ((kp_wr f8 (by decide)).trans (kp_wr f4 (by decide)))))))))))))))))))
                          have q162 : (τ148.1 143 0) = (τ73.1 143 0) := ((FRw.na f150 (by decide)).trans ((FRw.na f116 (by decide)).trans ((FRw.na f111 (by decide)).trans (FR.at f103 143 0 rfl))))
                          have q163 : (τ148.1 143 1) = (τ73.1 143 1) := ((FRw.na f150 (by decide)).trans ((FRw.na f116 (by decide)).trans ((FRw.na f111 (by decide)).trans (FR.at f103 143 1 rfl))))
                          have q164 : (τ148.1 143 2) = (τ73.1 143 2) := ((FRw.na f150 (by decide)).trans ((FRw.na f116 (by decide)).trans ((FRw.na f111 (by decide)).trans (FR.at f103 143 2 rfl))))
                          refine wp_use (m_241 τ148 g149  (by omega) (by omega) (by omega) (by omega) _ _ (by omega) (by omega)) ?_
                          rintro _ τ171 ⟨rfl, g172, f173, p165, p166, p167, p168, p169, p170⟩
                          show WP 214 96 [(0, .ref 117), (1, iV 3)] [] _ _ _ _
                          refine wp_al1 jF_214_96 rfl rfl (pc2 := 97) ?_
                          refine wp_gi jF_214_97 kd117 (by decide) rfl ((FR.at f173 117 39 rfl).trans ((FRw.na f150 (by decide)).trans ((FRw.nj f116 (by decide)).trans ((FRw.nj f111 (by decide)).trans (FR.at f103 117 39 rfl))))) rfl (pc2 := 100) ?_
                          refine wp_ri jF_214_100 rfl ?_
                          have q174 : (kp τ171) = (kp σ) := ((kp_fr f173 (fun _ => rfl) (fun _ => rfl)).trans ((kp_wr f150 (by decide)).trans ((kp_wr f116 (by decide)).trans ((kp_wr f111 (by decide)).trans ((kp_fr f103 (fun _ => rfl) (fun _ => rfl)).trans ((kp_fr f75 (fun _ => rfl) (fun _ => rfl)).trans ((kp_wr f58 (by decide)).trans ((kp_wr f53 (by decide)).trans ((kp_wr f48 (by decide)).trans ((kp_fr f42 (fun _ => rfl) (fun _ => rfl)).trans ((kp_wr f36 (by decide)).trans ((kp_wr f32 (by decide)).trans ((kp_wr f28 (by decide)).trans ((kp_wr f24 (by decide)).trans ((kp_wr f20 (by decide)).trans ((kp_wr f16 (by decide)).trans ((kp_wr f12 (by decide)).trans ((kp_wr f8 (by decide)).trans (kp_wr f4 (by decide))))))))))))))))))))
                          have b175 := GI.b g172 143 3 kd143 (lo := 0) (hi := 16) rfl
                          have b176 := GI.b g172 143 4 kd143 (lo := 0) (hi := 16) rfl
                          have b177 := GI.b g172 143 5 kd143 (lo := 0) (hi := 16) rfl
                          exact ⟨(τ73.1 117 39), rfl, ⟨by omega, by omega⟩, g172, (FR.up (FR.w (FR.w (FR.w (FR.up (FR.up (FR.w (FR.w (FR.w (FR.up (FR.w (FR.w (FR.w (FR.w (FR.w (FR.w (FR.w (FR.w (FR.w FR.rf f4 rfl) f8 rfl) f12 rfl) f16 rfl) f20 rfl) f24 rfl) f28 rfl) f32 rfl) f36 rfl) f42 sb_Ww138_Wton) f48 rfl) f53 rfl) f58 rfl) f75 sb_Wst_Wton) f103 sb_Wat_Wton) f111 rfl) f116 rfl) f150 rfl) f173 sb_Wstd_Wton), (by omega), (by omega), (by omega), (by omega), (by omega), (by omega)⟩
                        · intro h160; exfalso; omega
                  · intro h108
                    replace p95 := p95 (by omega)
                    replace p100 := p100 (by omega)
                    refine wp_al1 jF_214_76 rfl rfl (pc2 := 77) ?_
                    refine wp_cV (as := []) (rest := []) (a := 117) (mx := 2) (ci := 12) jF_214_77 kd117 (by decide) rfl rfl rfl rfl rfl (by omega) (by omega) rfl (pc2 := 80) ?_
                    have b178 := GI.b g102 117 2 kd117 (lo := 0) (hi := 1601) rfl
                    have q179 : (τ101.1 117 39) = (τ73.1 117 39) := (FR.at f103 117 39 rfl)
                    have q180 : (τ101.1 117 5) = (τ73.1 117 5) := (FR.at f103 117 5 rfl)
                    have q181 : (τ101.1 143 0) = (τ73.1 143 0) := (FR.at f103 143 0 rfl)
                    have q182 : (τ101.1 143 1) = (τ73.1 143 1) := (FR.at f103 143 1 rfl)
                    have q183 : (τ101.1 143 2) = (τ73.1 143 2) := (FR.at f103 143 2 rfl)
                    have q184 : (τ101.1 143 3) = (τ73.1 143 3) := (FR.at f103 143 3 rfl)
                    have q185 : (τ101.1 143 4) = (τ73.1 143 4) := (FR.at f103 143 4 rfl)
                    have q186 : (τ101.1 143 5) = (τ73.1 143 5) := (FR.at f103 143 5 rfl)
                    refine wp_use (m_217 τ101 g102  (by omega) (by omega) (by omega) (by omega) _ _ (by omega) (by omega)) ?_
                    rintro _ τ197 ⟨rfl, g198, f199, p187, p188, p189, p190, p191, p192, p193, p194, p195, p196⟩
                    clear p188
                    show WP 214 80 [(0, .ref 117), (1, iV 3)] [] _ _ _ _
                    refine wp_go jF_214_80 ?_
                    refine wp_al1 jF_214_61 rfl rfl (pc2 := 62) ?_
                    have b200 := GI.b g198 117 5 kd117 (lo := (-2147483648)) (hi := 2147483647) rfl
                    refine wp_gi jF_214_62 kd117 (by decide) rfl rfl rfl (pc2 := 65) ?_
                    refine wp_z_ne jF_214_65 (m_rgb b200 rfl) rfl (pc2 := 68) ?_ ?_
                    · intro h201
                      clear p193
                      refine wp_al1 jF_214_83 rfl rfl (pc2 := 84) ?_
                      refine wp_cV (as := []) (rest := []) (a := 117) (mx := 1) (ci := 12) jF_214_84 kd117 (by decide) rfl rfl rfl rfl rfl (by omega) (by omega) rfl (pc2 := 87) ?_
                      show WP 240 0 [(0, .ref 117)] [] _ _ _ _
                      refine wp_al1 jF_240_0 rfl rfl (pc2 := 1) ?_
                      refine wp_al1 jF_240_1 rfl rfl (pc2 := 2) ?_
                      refine wp_gi jF_240_2 kd117 (by decide) rfl rfl rfl (pc2 := 5) ?_
                      refine wp_pi jF_240_5 kd117 (by decide) rfl rfl rfl (pc2 := 8) g198 (lo := (-2147483648)) (hi := 2147483647) rfl (by omega) (by omega) ?_
                      intro τ202 g203 f204 e205
                      refine wp_al1 jF_240_8 rfl rfl (pc2 := 9) ?_
                      refine wp_al1 jF_240_9 rfl rfl (pc2 := 10) ?_
                      have b206 := GI.b g198 117 6 kd117 (lo := (-2147483648)) (hi := 2147483647) rfl
                      refine wp_gi jF_240_10 kd117 (by decide) rfl (FRw.nj f204 (by decide)) rfl (pc2 := 13) ?_
                      refine wp_pi jF_240_13 kd117 (by decide) rfl rfl rfl (pc2 := 16) g203 (lo := (-2147483648)) (hi := 2147483647) rfl (by omega) (by omega) ?_
                      intro τ207 g208 f209 e210
                      refine wp_al1 jF_240_16 rfl rfl (pc2 := 17) ?_
                      refine wp_gi jF_240_17 kd117 (by decide) rfl ((FRw.nj f209 (by decide)).trans (FRw.nj f204 (by decide))) rfl (pc2 := 20) ?_
                      refine wp_z_eq jF_240_20 (m_rgb b200 rfl) rfl (pc2 := 23) ?_ ?_
                      · intro h211
                        refine wp_al1 jF_240_33 rfl rfl (pc2 := 34) ?_
                        refine wp_gi jF_240_34 kd117 (by decide) rfl ((FRw.nj f209 (by decide)).trans (FRw.nj f204 (by decide))) rfl (pc2 := 37) ?_
                        refine wp_z_ne jF_240_37 (m_rgb b200 rfl) rfl (pc2 := 40) ?_ ?_
                        · intro h212
                          refine wp_ic jF_240_44 rfl (pc2 := 45) ?_
                          refine wp_ri jF_240_45 rfl ?_
                          show WP 214 87 [(0, .ref 117), (1, iV 3)] [iV 0] _ _ _ _
                          refine wp_z_ne jF_214_87 (m_rgl rfl) rfl (pc2 := 90) ?_ ?_
                          · intro h213; exfalso; omega
                          · intro h213
                            refine wp_ic jF_214_90 rfl (pc2 := 91) ?_
                            refine wp_ri jF_214_91 rfl ?_
                            have q214 : (l0 τ207) = (l0 σ) := ((l0_wr f209 (by decide)).trans ((l0_wr f204 (by decide)).trans ((l0_fr f199 rfl (fun _ => rfl)).trans ((l0_fr f103 rfl (fun _ => rfl)).trans ((l0_fr f75 rfl (fun _ => rfl)).trans ((l0_wr f58 (by decide)).trans ((l0_wr f53 (by decide)).trans ((l0_wr f48 (by decide)).trans ((l0_fr f42 rfl (fun _ => rfl)).trans ((l0_wr f36 (by decide)).trans ((l0_wr f32 (by decide)).trans ((l0_wr f28 (by decide)).trans ((l0_wr f24 (by decide)).trans ((l0_wr f20 (by decide)).trans ((l0_wr f16 (by decide)).trans ((l0_wr f12 (by decide)).trans ((l0_wr f8 (by decide)).trans (l0_wr f4 (by decide)))))))))))))))))))
                            have q215 : (l1 τ207) = (l1 σ) := ((l1_wr f209 (by decide)).trans ((l1_wr f204 (by decide)).trans ((l1_fr f199 rfl (fun _ => rfl)).trans ((l1_fr f103 rfl (fun _ => rfl)).trans ((l1_fr f75 rfl (fun _ => rfl)).trans ((l1_wr f58 (by decide)).trans ((l1_wr f53 (by decide)).trans ((l1_wr f48 (by decide)).trans ((l1_fr f42 rfl (fun _ => rfl)).trans ((l1_wr f36 (by decide)).trans ((l1_wr f32 (by decide)).trans ((l1_wr f28 (by decide)).trans ((l1_wr f24 (by decide)).trans ((l1_wr f20 (by decide)).trans ((l1_wr f16 (by decide)).trans ((l1_wr f12 (by decide)).trans ((l1_wr f8 (by decide)).trans (l1_wr f4 (by decide)))))))))))))))))))
                            have q216 : (kp τ207) = (kp σ) := ((kp_wr f209 (by decide)).trans ((kp_wr f204 (by decide)).trans ((kp_fr f199 (fun _ => rfl) (fun _ => rfl)).trans ((kp_fr f103 (fun _ => rfl) (fun _ => rfl)).trans ((kp_fr f75 (fun _ => rfl) (fun _ => rfl)).trans ((kp_wr f58 (by decide)).trans ((kp_wr f53 (by decide)).trans ((kp_wr f48 (by decide)).trans ((kp_fr f42 (fun _ => rfl) (fun _ => rfl)).trans ((kp_wr f36 (by decide)).trans ((kp_wr f32 (by decide)).trans ((kp_wr f28 (by decide)).trans ((kp_wr f24 (by decide)).trans ((kp_wr f20 (by decide)).trans ((kp_wr f16 (by decide)).trans ((kp_wr f12 (by decide)).trans ((kp_wr f8 (by decide)).trans (kp_wr f4 (by decide)))))))))))))))))))
                            have b217 := GI.b g198 143 3 kd143 (lo := 0) (hi := 16) rfl
                            have q218 : (τ207.1 143 3) = (τ197.1 143 3) := ((FRw.na f209 (by decide)).trans (FRw.na f204 (by decide)))
                            have b219 := GI.b g198 143 4 kd143 (lo := 0) (hi := 16) rfl
                            have q220 : (τ207.1 143 4) = (τ197.1 143 4) := ((FRw.na f209 (by decide)).trans (FRw.na f204 (by decide)))
                            have b221 := GI.b g198 143 5 kd143 (lo := 0) (hi := 16) rfl
                            have q222 : (τ207.1 143 5) = (τ197.1 143 5) := ((FRw.na f209 (by decide)).trans (FRw.na f204 (by decide)))
                            exact ⟨(-1), rfl, ⟨by omega, by omega⟩, g208, (FR.w (FR.w (FR.up (FR.up (FR.up (FR.w (FR.w (FR.w (FR.up (FR.w (FR.w (FR.w (FR.w (FR.w (FR.w (FR.w (FR.w (FR.w FR.rf f4 rfl) f8 rfl) f12 rfl) f16 rfl) f20 rfl) f24 rfl) f28 rfl) f32 rfl) f36 rfl) f42 sb_Ww138_Wton) f48 rfl) f53 rfl) f58 rfl) f75 sb_Wst_Wton) f103 sb_Wat_Wton) f199 sb_Wst_Wton) f204 rfl) f209 rfl), (by omega), (by omega), (by omega), (by omega), (by omega), (by omega)⟩
                        · intro h212
                          refine wp_ic jF_240_40 rfl (pc2 := 41) ?_
                          refine wp_go jF_240_41 ?_
                          refine wp_ri jF_240_45 rfl ?_
                          show WP 214 87 [(0, .ref 117), (1, iV 3)] [iV 1] _ _ _ _
                          refine wp_z_ne jF_214_87 (m_rgl rfl) rfl (pc2 := 90) ?_ ?_
                          · intro h223
                            refine wp_al1 jF_214_92 rfl rfl (pc2 := 93) ?_
                            refine wp_cV (as := []) (rest := []) (a := 117) (mx := 2) (ci := 12) jF_214_93 kd117 (by decide) rfl rfl rfl rfl rfl (by omega) (by omega) rfl (pc2 := 96) ?_
                            have q224 : (kp τ207) = (kp σ) := ((kp_wr f209 (by decide)).trans ((kp_wr f204 (by decide)).trans ((kp_fr f199 (fun _ => rfl) (fun _ => rfl)).trans ((kp_fr f103 (fun _ => rfl) (fun _ => rfl)).trans ((kp_fr f75 (fun _ => rfl) (fun _ => rfl)).trans ((kp_wr f58 (by decide)).trans ((kp_wr f53 (by decide)).trans ((kp_wr f48 (by decide)).trans ((kp_fr f42 (fun _ => rfl) (fun _ => rfl)).trans ((kp_wr f36 (by decide)).trans ((kp_wr f32 (by decide)).trans ((kp_wr f28 (by decide)).trans ((kp_wr f24 (by decide)).trans ((kp_wr f20 (by decide)).trans ((kp_wr f16 (by decide)).trans ((kp_wr f12 (by decide)).trans ((kp_wr f8 (by decide)).trans (kp_wr f4 (by decide)))))))))))))))))))
                            have b225 := GI.b g198 143 0 kd143 (lo := 0) (hi := 16) rfl
                            have q226 : (τ207.1 143 0) = (τ197.1 143 0) := ((FRw.na f209 (by decide)).trans (FRw.na f204 (by decide)))
                            have b227 := GI.b g198 143 1 kd143 (lo := 0) (hi := 16) rfl
                            have q228 : (τ207.1 143 1) = (τ197.1 143 1) := ((FRw.na f209 (by decide)).trans (FRw.na f204 (by decide)))
                            have b229 := GI.b g198 143 2 kd143 (lo := 0) (hi := 16) rfl
                            have q230 : (τ207.1 143 2) = (τ197.1 143 2) := ((FRw.na f209 (by decide)).trans (FRw.na f204 (by decide)))
                            refine wp_use (m_241 τ207 g208  (by omega) (by omega) (by omega) (by omega) _ _ (by omega) (by omega)) ?_
                            rintro _ τ237 ⟨rfl, g238, f239, p231, p232, p233, p234, p235, p236⟩
                            show WP 214 96 [(0, .ref 117), (1, iV 3)] [] _ _ _ _
                            refine wp_al1 jF_214_96 rfl rfl (pc2 := 97) ?_
                            have b240 := GI.b g198 117 39 kd117 (lo := 0) (hi := 71) rfl
                            refine wp_gi jF_214_97 kd117 (by decide) rfl ((FR.at f239 117 39 rfl).trans ((FRw.nj f209 (by decide)).trans (FRw.nj f204 (by decide)))) rfl (pc2 := 100) ?_
                            refine wp_ri jF_214_100 rfl ?_
                            have q241 : (kp τ237) = (kp σ) := ((kp_fr f239 (fun _ => rfl) (fun _ => rfl)).trans ((kp_wr f209 (by decide)).trans ((kp_wr f204 (by decide)).trans ((kp_fr f199 (fun _ => rfl) (fun _ => rfl)).trans ((kp_fr f103 (fun _ => rfl) (fun _ => rfl)).trans ((kp_fr f75 (fun _ => rfl) (fun _ => rfl)).trans ((kp_wr f58 (by decide)).trans ((kp_wr f53 (by decide)).trans ((kp_wr f48 (by decide)).trans ((kp_fr f42 (fun _ => rfl) (fun _ => rfl)).trans ((kp_wr f36 (by decide)).trans ((kp_wr f32 (by decide)).trans ((kp_wr f28 (by decide)).trans ((kp_wr f24 (by decide)).trans ((kp_wr f20 (by decide)).trans ((kp_wr f16 (by decide)).trans ((kp_wr f12 (by decide)).trans ((kp_wr f8 (by decide)).trans (kp_wr f4 (by decide))))))))))))))))))))
                            have b242 := GI.b g238 143 3 kd143 (lo := 0) (hi := 16) rfl
                            have b243 := GI.b g238 143 4 kd143 (lo := 0) (hi := 16) rfl
                            have b244 := GI.b g238 143 5 kd143 (lo := 0) (hi := 16) rfl
                            exact ⟨(τ197.1 117 39), rfl, ⟨by omega, by omega⟩, g238, (FR.up (FR.w (FR.w (FR.up (FR.up (FR.up (FR.w (FR.w (FR.w (FR.up (FR.w (FR.w (FR.w (FR.w (FR.w (FR.w (FR.w (FR.w (FR.w FR.rf f4 rfl) f8 rfl) f12 rfl) f16 rfl) f20 rfl) f24 rfl) f28 rfl) f32 rfl) f36 rfl) f42 sb_Ww138_Wton) f48 rfl) f53 rfl) f58 rfl) f75 sb_Wst_Wton) f103 sb_Wat_Wton) f199 sb_Wst_Wton) f204 rfl) f209 rfl) f239 sb_Wstd_Wton), (by omega), (by omega), (by omega), (by omega), (by omega), (by omega)⟩
                          · intro h223; exfalso; omega
                      · intro h211
                        refine wp_al1 jF_240_23 rfl rfl (pc2 := 24) ?_
                        refine wp_gr (b := 119) jF_240_24 kd117 (by decide) (c := 219) rfl rfl rfl (pc2 := 27) ?_
                        refine wp_ic jF_240_27 rfl (pc2 := 28) ?_
                        refine wp_du2 jF_240_28 rfl rfl (pc2 := 29) ?_
                        have b245 := GI.b hg 119 1 kd119 (lo := (-2147483648)) (hi := 2147483647) rfl
                        refine wp_iald (n := 6) (e := (σ.1 119 1)) jF_240_29 kd119 (by decide) rfl rfl (by omega) (by omega) ((FRw.na f209 (by decide)).trans ((FRw.na f204 (by decide)).trans ((FR.at f199 119 1 rfl).trans ((FR.at f103 119 1 rfl).trans ((FR.at f75 119 1 rfl).trans ((FRw.na f58 (by decide)).trans ((FRw.na f53 (by decide)).trans ((FRw.na f48 (by decide)).trans ((FR.at f42 119 1 rfl).trans ((FRw.na f36 (by decide)).trans ((FRw.na f32 (by decide)).trans ((FRw.na f28 (by decide)).trans ((FRw.na f24 (by decide)).trans ((FRw.na f20 (by decide)).trans ((FRw.na f16 (by decide)).trans ((FRw.na f12 (by decide)).trans ((FRw.na f8 (by decide)).trans (FRw.na f4 (by decide))))))))))))))))))) rfl (pc2 := 30) ?_
                        refine wp_ic jF_240_30 rfl (pc2 := 31) ?_
                        refine wp_any2 (pc2 := 32) jF_240_31 rfl rfl ?_
                        intro z246 h247
                        refine wp_iast (n := 6) jF_240_32 kd119 (by decide) rfl rfl (by omega) (by omega) rfl (pc2 := 33) g208 (lo := (-2147483648)) (hi := 2147483647) rfl (by omega) (by omega) ?_
                        intro τ248 g249 f250 e251
                        refine wp_al1 jF_240_33 rfl rfl (pc2 := 34) ?_
                        refine wp_gi jF_240_34 kd117 (by decide) rfl ((FRw.na f250 (by decide)).trans ((FRw.nj f209 (by decide)).trans (FRw.nj f204 (by decide)))) rfl (pc2 := 37) ?_
                        refine wp_z_ne jF_240_37 (m_rgb b200 rfl) rfl (pc2 := 40) ?_ ?_
                        · intro h252
                          refine wp_ic jF_240_44 rfl (pc2 := 45) ?_
                          refine wp_ri jF_240_45 rfl ?_
                          show WP 214 87 [(0, .ref 117), (1, iV 3)] [iV 0] _ _ _ _
                          refine wp_z_ne jF_214_87 (m_rgl rfl) rfl (pc2 := 90) ?_ ?_
                          · intro h253; exfalso; omega
                          · intro h253
                            refine wp_ic jF_214_90 rfl (pc2 := 91) ?_
                            refine wp_ri jF_214_91 rfl ?_
                            have q254 : (l0 τ248) = (l0 σ) := ((l0_wr f250 (by decide)).trans ((l0_wr f209 (by decide)).trans ((l0_wr f204 (by decide)).trans ((l0_fr f199 rfl (fun _ => rfl)).trans ((l0_fr f103 rfl (fun _ => rfl)).trans ((l0_fr f75 rfl (fun _ => rfl)).trans ((l0_wr f58 (by decide)).trans ((l0_wr f53 (by decide)).trans ((l0_wr f48 (by decide)).trans ((l0_fr f42 rfl (fun _ => rfl)).trans ((l0_wr f36 (by decide)).trans ((l0_wr f32 (by decide)).trans ((l0_wr f28 (by decide)).trans ((l0_wr f24 (by decide)).trans ((l0_wr f20 (by decide)).trans ((l0_wr f16 (by decide)).trans ((l0_wr f12 (by decide)).trans ((l0_wr f8 (by decide)).trans (l0_wr f4 (by decide))))))))))))))))))))
                            have q255 : (l1 τ248) = (l1 σ) := ((l1_wr f250 (by decide)).trans ((l1_wr f209 (by decide)).trans ((l1_wr f204 (by decide)).trans ((l1_fr f199 rfl (fun _ => rfl)).trans ((l1_fr f103 rfl (fun _ => rfl)).trans ((l1_fr f75 rfl (fun _ => rfl)).trans ((l1_wr f58 (by decide)).trans ((l1_wr f53 (by decide)).trans ((l1_wr f48 (by decide)).trans ((l1_fr f42 rfl (fun _ => rfl)).trans ((l1_wr f36 (by decide)).trans ((l1_wr f32 (by decide)).trans ((l1_wr f28 (by decide)).trans ((l1_wr f24 (by decide)).trans ((l1_wr f20 (by decide)).trans ((l1_wr f16 (by decide)).trans ((l1_wr f12 (by decide)).trans ((l1_wr f8 (by decide)).trans (l1_wr f4 (by decide))))))))))))))))))))
                            have q256 : (kp τ248) = (kp σ) := ((kp_wr f250 (by decide)).trans ((kp_wr f209 (by decide)).trans ((kp_wr f204 (by decide)).trans ((kp_fr f199 (fun _ => rfl) (fun _ => rfl)).trans ((kp_fr f103 (fun _ => rfl) (fun _ => rfl)).trans ((kp_fr f75 (fun _ => rfl) (fun _ => rfl)).trans ((kp_wr f58 (by decide)).trans ((kp_wr f53 (by decide)).trans ((kp_wr f48 (by decide)).trans ((kp_fr f42 (fun _ => rfl) (fun _ => rfl)).trans ((kp_wr f36 (by decide)).trans ((kp_wr f32 (by decide)).trans ((kp_wr f28 (by decide)).trans ((kp_wr f24 (by decide)).trans ((kp_wr f20 (by decide)).trans ((kp_wr f16 (by decide)).trans ((kp_wr f12 (by decide)).trans ((kp_wr f8 (by decide)).trans (kp_wr f4 (by decide))))))))))))))))))))
                            have b257 := GI.b g198 143 3 kd143 (lo := 0) (hi := 16) rfl
                            have q258 : (τ248.1 143 3) = (τ197.1 143 3) := ((FRw.na f250 (by decide)).trans ((FRw.na f209 (by decide)).trans (FRw.na f204 (by decide))))
                            have b259 := GI.b g198 143 4 kd143 (lo := 0) (hi := 16) rfl
                            have q260 : (τ248.1 143 4) = (τ197.1 143 4) := ((FRw.na f250 (by decide)).trans ((FRw.na f209 (by decide)).trans (FRw.na f204 (by decide))))
                            have b261 := GI.b g198 143 5 kd143 (lo := 0) (hi := 16) rfl
                            have q262 : (τ248.1 143 5) = (τ197.1 143 5) := ((FRw.na f250 (by decide)).trans ((FRw.na f209 (by decide)).trans (FRw.na f204 (by decide))))
                            exact ⟨(-1), rfl, ⟨by omega, by omega⟩, g249, (FR.w (FR.w (FR.w (FR.up (FR.up (FR.up (FR.w (FR.w (FR.w (FR.up (FR.w (FR.w (FR.w (FR.w (FR.w (FR.w (FR.w (FR.w (FR.w FR.rf f4 rfl) f8 rfl) f12 rfl) f16 rfl) f20 rfl) f24 rfl) f28 rfl) f32 rfl) f36 rfl) f42 sb_Ww138_Wton) f48 rfl) f53 rfl) f58 rfl) f75 sb_Wst_Wton) f103 sb_Wat_Wton) f199 sb_Wst_Wton) f204 rfl) f209 rfl) f250 rfl), (by omega), (by omega), (by omega), (by omega), (by omega), (by omega)⟩
                        · intro h252
                          refine wp_ic jF_240_40 rfl (pc2 := 41) ?_
                          refine wp_go jF_240_41 ?_
                          refine wp_ri jF_240_45 rfl ?_
                          show WP 214 87 [(0, .ref 117), (1, iV 3)] [iV 1] _ _ _ _
                          refine wp_z_ne jF_214_87 (m_rgl rfl) rfl (pc2 := 90) ?_ ?_
                          · intro h263
                            refine wp_al1 jF_214_92 rfl rfl (pc2 := 93) ?_
                            refine wp_cV (as := []) (rest := []) (a := 117) (mx := 2) (ci := 12) jF_214_93 kd117 (by decide) rfl rfl rfl rfl rfl (by omega) (by omega) rfl (pc2 := 96) ?_
                            have q264 : (kp τ248) = (kp σ) := ((kp_wr f250 (by decide)).trans ((kp_wr f209 (by decide)).trans ((kp_wr f204 (by decide)).trans ((kp_fr f199 (fun _ => rfl) (fun _ => rfl)).trans ((kp_fr f103 (fun _ => rfl) (fun _ => rfl)).trans ((kp_fr f75 (fun _ => rfl) (fun _ => rfl)).trans ((kp_wr f58 (by decide)).trans ((kp_wr f53 (by decide)).trans ((kp_wr f48 (by decide)).trans ((kp_fr f42 (fun _ => rfl) (fun _ => rfl)).trans ((kp_wr f36 (by decide)).trans ((kp_wr f32 (by decide)).trans ((kp_wr f28 (by decide)).trans ((kp_wr f24 (by decide)).trans ((kp_wr f20 (by decide)).trans ((kp_wr f16 (by decide)).trans ((kp_wr f12 (by decide)).trans ((kp_wr f8 (by decide)).trans (kp_wr f4 (by decide))))))))))))))))))))
                            have b265 := GI.b g198 143 0 kd143 (lo := 0) (hi := 16) rfl
                            have q266 : (τ248.1 143 0) = (τ197.1 143 0) := ((FRw.na f250 (by decide)).trans ((FRw.na f209 (by decide)).trans (FRw.na f204 (by decide))))
                            have b267 := GI.b g198 143 1 kd143 (lo := 0) (hi := 16) rfl
                            have q268 : (τ248.1 143 1) = (τ197.1 143 1) := ((FRw.na f250 (by decide)).trans ((FRw.na f209 (by decide)).trans (FRw.na f204 (by decide))))
                            have b269 := GI.b g198 143 2 kd143 (lo := 0) (hi := 16) rfl
                            have q270 : (τ248.1 143 2) = (τ197.1 143 2) := ((FRw.na f250 (by decide)).trans ((FRw.na f209 (by decide)).trans (FRw.na f204 (by decide))))
                            refine wp_use (m_241 τ248 g249  (by omega) (by omega) (by omega) (by omega) _ _ (by omega) (by omega)) ?_
                            rintro _ τ277 ⟨rfl, g278, f279, p271, p272, p273, p274, p275, p276⟩
                            show WP 214 96 [(0, .ref 117), (1, iV 3)] [] _ _ _ _
                            refine wp_al1 jF_214_96 rfl rfl (pc2 := 97) ?_
                            have b280 := GI.b g198 117 39 kd117 (lo := 0) (hi := 71) rfl
                            refine wp_gi jF_214_97 kd117 (by decide) rfl ((FR.at f279 117 39 rfl).trans ((FRw.na f250 (by decide)).trans ((FRw.nj f209 (by decide)).trans (FRw.nj f204 (by decide))))) rfl (pc2 := 100) ?_
                            refine wp_ri jF_214_100 rfl ?_
                            have q281 : (kp τ277) = (kp σ) := ((kp_fr f279 (fun _ => rfl) (fun _ => rfl)).trans ((kp_wr f250 (by decide)).trans ((kp_wr f209 (by decide)).trans ((kp_wr f204 (by decide)).trans ((kp_fr f199 (fun _ => rfl) (fun _ => rfl)).trans ((kp_fr f103 (fun _ => rfl) (fun _ => rfl)).trans ((kp_fr f75 (fun _ => rfl) (fun _ => rfl)).trans ((kp_wr f58 (by decide)).trans ((kp_wr f53 (by decide)).trans ((kp_wr f48 (by decide)).trans ((kp_fr f42 (fun _ => rfl) (fun _ => rfl)).trans ((kp_wr f36 (by decide)).trans ((kp_wr f32 (by decide)).trans ((kp_wr f28 (by decide)).trans ((kp_wr f24 (by decide)).trans ((kp_wr f20 (by decide)).trans ((kp_wr f16 (by decide)).trans ((kp_wr f12 (by decide)).trans ((kp_wr f8 (by decide)).trans (kp_wr f4 (by decide)))))))))))))))))))))
                            have b282 := GI.b g278 143 3 kd143 (lo := 0) (hi := 16) rfl
                            have b283 := GI.b g278 143 4 kd143 (lo := 0) (hi := 16) rfl
                            have b284 := GI.b g278 143 5 kd143 (lo := 0) (hi := 16) rfl
                            exact ⟨(τ197.1 117 39), rfl, ⟨by omega, by omega⟩, g278, (FR.up (FR.w (FR.w (FR.w (FR.up (FR.up (FR.up (FR.w (FR.w (FR.w (FR.up (FR.w (FR.w (FR.w (FR.w (FR.w (FR.w (FR.w (FR.w (FR.w FR.rf f4 rfl) f8 rfl) f12 rfl) f16 rfl) f20 rfl) f24 rfl) f28 rfl) f32 rfl) f36 rfl) f42 sb_Ww138_Wton) f48 rfl) f53 rfl) f58 rfl) f75 sb_Wst_Wton) f103 sb_Wat_Wton) f199 sb_Wst_Wton) f204 rfl) f209 rfl) f250 rfl) f279 sb_Wstd_Wton), (by omega), (by omega), (by omega), (by omega), (by omega), (by omega)⟩
                          · intro h263; exfalso; omega
                    · intro h201
                      replace p193 := p193 (by omega)
                      have b285 := GI.b g198 117 2 kd117 (lo := 0) (hi := 1601) rfl
                      have b286 := GI.b g198 117 39 kd117 (lo := 0) (hi := 71) rfl
                      have b287 := GI.b g198 143 0 kd143 (lo := 0) (hi := 16) rfl
                      have b288 := GI.b g198 143 1 kd143 (lo := 0) (hi := 16) rfl
                      have b289 := GI.b g198 143 2 kd143 (lo := 0) (hi := 16) rfl
                      have b290 := GI.b g198 143 3 kd143 (lo := 0) (hi := 16) rfl
                      have b291 := GI.b g198 143 4 kd143 (lo := 0) (hi := 16) rfl
                      have b292 := GI.b g198 143 5 kd143 (lo := 0) (hi := 16) rfl
                      exact ih84 () τ197 ⟨g198, (FR.up (FR.up f75 f103 sb_Wat_Wst) f199 sb_Wst_Wst), (by omega), (by omega), (by omega), (by omega), (by omega), (by omega), (by omega), (by omega)⟩ (by show Int.toNat (1700 - (τ197.1 117 2)) < Int.toNat (1700 - (τ73.1 117 2)); omega)
            · intro h60; exfalso; omega
    · intro h44
      refine wp_al1 jF_214_28 rfl rfl (pc2 := 29) ?_
      refine wp_gr (b := 138) jF_214_29 kd117 (by decide) (c := 238) rfl rfl rfl (pc2 := 32) ?_
      refine wp_il1 jF_214_32 rfl rfl (pc2 := 33) ?_
      refine wp_lc jF_214_33 rfl (pc2 := 34) ?_
      refine wp_last (n := 36) jF_214_34 kd138 (by decide) rfl rfl (by omega) (by omega) rfl (pc2 := 35) g41 ?_
      intro τ293 g294 f295
      refine wp_inc (lv2 := [(0, .ref 117), (1, iV (x38 + 1))]) jF_214_35 rfl rfl rfl rfl (pc2 := 38) ?_
      refine wp_go jF_214_38 ?_
      exact ih43 ((x38 + 1)) τ293 ⟨⟨by omega, by omega⟩, g294, (FR.w f42 f295 rfl)⟩ (by show Int.toNat (18 - (x38 + 1)) < Int.toNat (18 - x38); omega)
