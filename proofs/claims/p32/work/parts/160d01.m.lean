set_option maxHeartbeats 4000000 in
set_option maxRecDepth 20000 in
/-- M.qTakes -/
theorem m_353 (σ : jM) (hg : GI σ) (kind : Int) (hl_kind : 0 ≤ kind) (hu_kind : kind ≤ 5) (v : Int64) (k : Int) (hl_k : 0 ≤ k) (hu_k : k ≤ 64)  (fr lo : Nat) (hfr : 0 ≤ fr) (hlo : 0 ≤ lo) : WP 353 0 (lv_args 0 [.ref 117, iV kind, .long v, iV k]) [] fr lo σ (fun v τ => v = none ∧ GI τ ∧ FR Wqt σ τ) := by
  show WP 353 0 [(0, .ref 117), (1, iV kind), (2, .long v), (4, iV k)] [] _ _ _ _
  refine wp_il1 jF_353_0 rfl rfl (pc2 := 1) ?_
  refine wp_ic jF_353_1 rfl (pc2 := 2) ?_
  refine wp_i_ge jF_353_2 ⟨by omega, by omega⟩ (m_rgl rfl) rfl (pc2 := 5) ?_ ?_
  · intro h1
    refine wp_ic jF_353_15 rfl (pc2 := 16) ?_
    refine wp_is2 (lv2 := [(0, .ref 117), (1, iV kind), (2, .long v), (4, iV k), (5, iV 0)]) jF_353_16 rfl rfl rfl (pc2 := 18) ?_
    refine wp_il1 jF_353_18 rfl rfl (pc2 := 19) ?_
    refine wp_z_ne jF_353_19 ⟨by omega, by omega⟩ rfl (pc2 := 22) ?_ ?_
    · intro h2
      refine wp_il1 jF_353_38 rfl rfl (pc2 := 39) ?_
      refine wp_ic jF_353_39 rfl (pc2 := 40) ?_
      refine wp_i_ne jF_353_40 ⟨by omega, by omega⟩ (m_rgl rfl) rfl (pc2 := 43) ?_ ?_
      · intro h3
        refine wp_il1 jF_353_55 rfl rfl (pc2 := 56) ?_
        refine wp_ic jF_353_56 rfl (pc2 := 57) ?_
        refine wp_i_ne jF_353_57 ⟨by omega, by omega⟩ (m_rgl rfl) rfl (pc2 := 60) ?_ ?_
        · intro h4
          refine wp_il1 jF_353_75 rfl rfl (pc2 := 76) ?_
          refine wp_ic jF_353_76 rfl (pc2 := 77) ?_
          refine wp_i_ne jF_353_77 ⟨by omega, by omega⟩ (m_rgl rfl) rfl (pc2 := 80) ?_ ?_
          · intro h5
            refine wp_il1 jF_353_90 rfl rfl (pc2 := 91) ?_
            refine wp_ic jF_353_91 rfl (pc2 := 92) ?_
            refine wp_i_le jF_353_92 ⟨by omega, by omega⟩ (m_rgl rfl) rfl (pc2 := 95) ?_ ?_
            · intro h6; exfalso; omega
            · intro h6
              refine wp_al1 jF_353_95 rfl rfl (pc2 := 96) ?_
              have b7 := GI.b hg 117 95 kd117 (lo := 0) (hi := 1) rfl
              refine wp_gi jF_353_96 kd117 (by decide) rfl rfl rfl (pc2 := 99) ?_
              refine wp_z_ne jF_353_99 (m_rgb b7 rfl) rfl (pc2 := 102) ?_ ?_
              · intro h8
                refine wp_al1 jF_353_128 rfl rfl (pc2 := 129) ?_
                refine wp_ll1 jF_353_129 rfl rfl (pc2 := 130) ?_
                refine wp_pl jF_353_130 kd117 (by decide) rfl rfl (pc2 := 133) hg ?_
                intro τ9 g10 f11
                refine wp_al1 jF_353_133 rfl rfl (pc2 := 134) ?_
                refine wp_ic jF_353_134 rfl (pc2 := 135) ?_
                refine wp_pi jF_353_135 kd117 (by decide) rfl rfl rfl (pc2 := 138) g10 (lo := 0) (hi := 1) rfl (by omega) (by omega) ?_
                intro τ12 g13 f14 e15
                refine wp_rv jF_353_138 ?_
                exact ⟨rfl, g13, (FR.w (FR.w FR.rf f11 rfl) f14 rfl)⟩
              · intro h8
                refine wp_il1 jF_353_102 rfl rfl (pc2 := 103) ?_
                refine wp_ic jF_353_103 rfl (pc2 := 104) ?_
                refine wp_i_ne jF_353_104 ⟨by omega, by omega⟩ (m_rgl rfl) rfl (pc2 := 107) ?_ ?_
                · intro h16
                  refine wp_ll1 jF_353_119 rfl rfl (pc2 := 120) ?_
                  refine wp_al1 jF_353_120 rfl rfl (pc2 := 121) ?_
                  refine wp_glA jF_353_121 kd117 (by decide) rfl rfl (pc2 := 124) ?_
                  intro y17
                  refine wp_anyL (pc2 := 125) jF_353_124 rfl rfl ?_
                  intro z18 h19
                  refine wp_z_ge jF_353_125 (m_rgb h19 rfl) rfl (pc2 := 128) ?_ ?_
                  · intro h20
                    refine wp_al1 jF_353_133 rfl rfl (pc2 := 134) ?_
                    refine wp_ic jF_353_134 rfl (pc2 := 135) ?_
                    refine wp_pi jF_353_135 kd117 (by decide) rfl rfl rfl (pc2 := 138) hg (lo := 0) (hi := 1) rfl (by omega) (by omega) ?_
                    intro τ21 g22 f23 e24
                    refine wp_rv jF_353_138 ?_
                    exact ⟨rfl, g22, (FR.w FR.rf f23 rfl)⟩
                  · intro h20
                    refine wp_al1 jF_353_128 rfl rfl (pc2 := 129) ?_
                    refine wp_ll1 jF_353_129 rfl rfl (pc2 := 130) ?_
                    refine wp_pl jF_353_130 kd117 (by decide) rfl rfl (pc2 := 133) hg ?_
                    intro τ25 g26 f27
                    refine wp_al1 jF_353_133 rfl rfl (pc2 := 134) ?_
                    refine wp_ic jF_353_134 rfl (pc2 := 135) ?_
                    refine wp_pi jF_353_135 kd117 (by decide) rfl rfl rfl (pc2 := 138) g26 (lo := 0) (hi := 1) rfl (by omega) (by omega) ?_
                    intro τ28 g29 f30 e31
                    refine wp_rv jF_353_138 ?_
                    exact ⟨rfl, g29, (FR.w (FR.w FR.rf f27 rfl) f30 rfl)⟩
                · intro h16
                  refine wp_ll1 jF_353_107 rfl rfl (pc2 := 108) ?_
                  refine wp_al1 jF_353_108 rfl rfl (pc2 := 109) ?_
                  refine wp_glA jF_353_109 kd117 (by decide) rfl rfl (pc2 := 112) ?_
                  intro y32
                  refine wp_anyL (pc2 := 113) jF_353_112 rfl rfl ?_
                  intro z33 h34
                  refine wp_z_le jF_353_113 (m_rgb h34 rfl) rfl (pc2 := 116) ?_ ?_
                  · intro h35
                    refine wp_al1 jF_353_133 rfl rfl (pc2 := 134) ?_
                    refine wp_ic jF_353_134 rfl (pc2 := 135) ?_
                    refine wp_pi jF_353_135 kd117 (by decide) rfl rfl rfl (pc2 := 138) hg (lo := 0) (hi := 1) rfl (by omega) (by omega) ?_
                    intro τ36 g37 f38 e39
                    refine wp_rv jF_353_138 ?_
                    exact ⟨rfl, g37, (FR.w FR.rf f38 rfl)⟩
                  · intro h35
                    refine wp_go jF_353_116 ?_
                    refine wp_al1 jF_353_128 rfl rfl (pc2 := 129) ?_
                    refine wp_ll1 jF_353_129 rfl rfl (pc2 := 130) ?_
                    refine wp_pl jF_353_130 kd117 (by decide) rfl rfl (pc2 := 133) hg ?_
                    intro τ40 g41 f42
                    refine wp_al1 jF_353_133 rfl rfl (pc2 := 134) ?_
                    refine wp_ic jF_353_134 rfl (pc2 := 135) ?_
                    refine wp_pi jF_353_135 kd117 (by decide) rfl rfl rfl (pc2 := 138) g41 (lo := 0) (hi := 1) rfl (by omega) (by omega) ?_
                    intro τ43 g44 f45 e46
                    refine wp_rv jF_353_138 ?_
                    exact ⟨rfl, g44, (FR.w (FR.w FR.rf f42 rfl) f45 rfl)⟩
          · intro h5
            refine wp_al1 jF_353_80 rfl rfl (pc2 := 81) ?_
            refine wp_dup jF_353_81 rfl rfl (pc2 := 82) ?_
            refine wp_glA jF_353_82 kd117 (by decide) rfl rfl (pc2 := 85) ?_
            intro y47
            refine wp_ll1 jF_353_85 rfl rfl (pc2 := 86) ?_
            refine wp_lng (pc2 := 87) jF_353_86 rfl rfl ?_
            intro y48
            refine wp_pl jF_353_87 kd117 (by decide) rfl rfl (pc2 := 90) hg ?_
            intro τ49 g50 f51
            refine wp_il1 jF_353_90 rfl rfl (pc2 := 91) ?_
            refine wp_ic jF_353_91 rfl (pc2 := 92) ?_
            refine wp_i_le jF_353_92 ⟨by omega, by omega⟩ (m_rgl rfl) rfl (pc2 := 95) ?_ ?_
            · intro h52
              refine wp_al1 jF_353_133 rfl rfl (pc2 := 134) ?_
              refine wp_ic jF_353_134 rfl (pc2 := 135) ?_
              refine wp_pi jF_353_135 kd117 (by decide) rfl rfl rfl (pc2 := 138) g50 (lo := 0) (hi := 1) rfl (by omega) (by omega) ?_
              intro τ53 g54 f55 e56
              refine wp_rv jF_353_138 ?_
              exact ⟨rfl, g54, (FR.w (FR.w FR.rf f51 rfl) f55 rfl)⟩
            · intro h52; exfalso; omega
        · intro h4; exfalso; omega
      · intro h3; exfalso; omega
    · intro h2; exfalso; omega
  · intro h1
    refine wp_ll1 jF_353_5 rfl rfl (pc2 := 6) ?_
    refine wp_lc jF_353_6 rfl (pc2 := 7) ?_
    refine wp_anyL (pc2 := 8) jF_353_7 rfl rfl ?_
    intro z57 h58
    refine wp_z_ne jF_353_8 (m_rgb h58 rfl) rfl (pc2 := 11) ?_ ?_
    · intro h59
      refine wp_ic jF_353_15 rfl (pc2 := 16) ?_
      refine wp_is2 (lv2 := [(0, .ref 117), (1, iV kind), (2, .long v), (4, iV k), (5, iV 0)]) jF_353_16 rfl rfl rfl (pc2 := 18) ?_
      refine wp_il1 jF_353_18 rfl rfl (pc2 := 19) ?_
      refine wp_z_ne jF_353_19 ⟨by omega, by omega⟩ rfl (pc2 := 22) ?_ ?_
      · intro h60
        refine wp_il1 jF_353_38 rfl rfl (pc2 := 39) ?_
        refine wp_ic jF_353_39 rfl (pc2 := 40) ?_
        refine wp_i_ne jF_353_40 ⟨by omega, by omega⟩ (m_rgl rfl) rfl (pc2 := 43) ?_ ?_
        · intro h61
          refine wp_il1 jF_353_55 rfl rfl (pc2 := 56) ?_
          refine wp_ic jF_353_56 rfl (pc2 := 57) ?_
          refine wp_i_ne jF_353_57 ⟨by omega, by omega⟩ (m_rgl rfl) rfl (pc2 := 60) ?_ ?_
          · intro h62; exfalso; omega
          · intro h62
            refine wp_il2 jF_353_60 rfl rfl (pc2 := 62) ?_
            refine wp_z_eq jF_353_62 (m_rgl rfl) rfl (pc2 := 65) ?_ ?_
            · intro h63
              refine wp_il1 jF_353_75 rfl rfl (pc2 := 76) ?_
              refine wp_ic jF_353_76 rfl (pc2 := 77) ?_
              refine wp_i_ne jF_353_77 ⟨by omega, by omega⟩ (m_rgl rfl) rfl (pc2 := 80) ?_ ?_
              · intro h64
                refine wp_il1 jF_353_90 rfl rfl (pc2 := 91) ?_
                refine wp_ic jF_353_91 rfl (pc2 := 92) ?_
                refine wp_i_le jF_353_92 ⟨by omega, by omega⟩ (m_rgl rfl) rfl (pc2 := 95) ?_ ?_
                · intro h65
                  refine wp_al1 jF_353_133 rfl rfl (pc2 := 134) ?_
                  refine wp_ic jF_353_134 rfl (pc2 := 135) ?_
                  refine wp_pi jF_353_135 kd117 (by decide) rfl rfl rfl (pc2 := 138) hg (lo := 0) (hi := 1) rfl (by omega) (by omega) ?_
                  intro τ66 g67 f68 e69
                  refine wp_rv jF_353_138 ?_
                  exact ⟨rfl, g67, (FR.w FR.rf f68 rfl)⟩
                · intro h65; exfalso; omega
              · intro h64; exfalso; omega
            · intro h63; exfalso; omega
        · intro h61
          refine wp_il2 jF_353_43 rfl rfl (pc2 := 45) ?_
          refine wp_z_eq jF_353_45 (m_rgl rfl) rfl (pc2 := 48) ?_ ?_
          · intro h70
            refine wp_il1 jF_353_55 rfl rfl (pc2 := 56) ?_
            refine wp_ic jF_353_56 rfl (pc2 := 57) ?_
            refine wp_i_ne jF_353_57 ⟨by omega, by omega⟩ (m_rgl rfl) rfl (pc2 := 60) ?_ ?_
            · intro h71
              refine wp_il1 jF_353_75 rfl rfl (pc2 := 76) ?_
              refine wp_ic jF_353_76 rfl (pc2 := 77) ?_
              refine wp_i_ne jF_353_77 ⟨by omega, by omega⟩ (m_rgl rfl) rfl (pc2 := 80) ?_ ?_
              · intro h72
                refine wp_il1 jF_353_90 rfl rfl (pc2 := 91) ?_
                refine wp_ic jF_353_91 rfl (pc2 := 92) ?_
                refine wp_i_le jF_353_92 ⟨by omega, by omega⟩ (m_rgl rfl) rfl (pc2 := 95) ?_ ?_
                · intro h73
                  refine wp_al1 jF_353_133 rfl rfl (pc2 := 134) ?_
                  refine wp_ic jF_353_134 rfl (pc2 := 135) ?_
                  refine wp_pi jF_353_135 kd117 (by decide) rfl rfl rfl (pc2 := 138) hg (lo := 0) (hi := 1) rfl (by omega) (by omega) ?_
                  intro τ74 g75 f76 e77
                  refine wp_rv jF_353_138 ?_
                  exact ⟨rfl, g75, (FR.w FR.rf f76 rfl)⟩
                · intro h73; exfalso; omega
              · intro h72; exfalso; omega
            · intro h71; exfalso; omega
          · intro h70; exfalso; omega
      · intro h60
        refine wp_il2 jF_353_22 rfl rfl (pc2 := 24) ?_
        refine wp_z_eq jF_353_24 (m_rgl rfl) rfl (pc2 := 27) ?_ ?_
        · intro h78
          refine wp_il1 jF_353_38 rfl rfl (pc2 := 39) ?_
          refine wp_ic jF_353_39 rfl (pc2 := 40) ?_
          refine wp_i_ne jF_353_40 ⟨by omega, by omega⟩ (m_rgl rfl) rfl (pc2 := 43) ?_ ?_
          · intro h79
            refine wp_il1 jF_353_55 rfl rfl (pc2 := 56) ?_
            refine wp_ic jF_353_56 rfl (pc2 := 57) ?_
            refine wp_i_ne jF_353_57 ⟨by omega, by omega⟩ (m_rgl rfl) rfl (pc2 := 60) ?_ ?_
            · intro h80
              refine wp_il1 jF_353_75 rfl rfl (pc2 := 76) ?_
              refine wp_ic jF_353_76 rfl (pc2 := 77) ?_
              refine wp_i_ne jF_353_77 ⟨by omega, by omega⟩ (m_rgl rfl) rfl (pc2 := 80) ?_ ?_
              · intro h81
                refine wp_il1 jF_353_90 rfl rfl (pc2 := 91) ?_
                refine wp_ic jF_353_91 rfl (pc2 := 92) ?_
                refine wp_i_le jF_353_92 ⟨by omega, by omega⟩ (m_rgl rfl) rfl (pc2 := 95) ?_ ?_
                · intro h82
                  refine wp_al1 jF_353_133 rfl rfl (pc2 := 134) ?_
                  refine wp_ic jF_353_134 rfl (pc2 := 135) ?_
                  refine wp_pi jF_353_135 kd117 (by decide) rfl rfl rfl (pc2 := 138) hg (lo := 0) (hi := 1) rfl (by omega) (by omega) ?_
                  intro τ83 g84 f85 e86
                  refine wp_rv jF_353_138 ?_
                  exact ⟨rfl, g84, (FR.w FR.rf f85 rfl)⟩
                · intro h82; exfalso; omega
              · intro h81; exfalso; omega
            · intro h80; exfalso; omega
          · intro h79; exfalso; omega
        · intro h78; exfalso; omega
    · intro h59
      refine wp_ic jF_353_11 rfl (pc2 := 12) ?_
      refine wp_go jF_353_12 ?_
      refine wp_is2 (lv2 := [(0, .ref 117), (1, iV kind), (2, .long v), (4, iV k), (5, iV 1)]) jF_353_16 rfl rfl rfl (pc2 := 18) ?_
      refine wp_il1 jF_353_18 rfl rfl (pc2 := 19) ?_
      refine wp_z_ne jF_353_19 ⟨by omega, by omega⟩ rfl (pc2 := 22) ?_ ?_
      · intro h87
        refine wp_il1 jF_353_38 rfl rfl (pc2 := 39) ?_
        refine wp_ic jF_353_39 rfl (pc2 := 40) ?_
        refine wp_i_ne jF_353_40 ⟨by omega, by omega⟩ (m_rgl rfl) rfl (pc2 := 43) ?_ ?_
        · intro h88
          refine wp_il1 jF_353_55 rfl rfl (pc2 := 56) ?_
          refine wp_ic jF_353_56 rfl (pc2 := 57) ?_
          refine wp_i_ne jF_353_57 ⟨by omega, by omega⟩ (m_rgl rfl) rfl (pc2 := 60) ?_ ?_
          · intro h89; exfalso; omega
          · intro h89
            refine wp_il2 jF_353_60 rfl rfl (pc2 := 62) ?_
            refine wp_z_eq jF_353_62 (m_rgl rfl) rfl (pc2 := 65) ?_ ?_
            · intro h90; exfalso; omega
            · intro h90
              refine wp_al1 jF_353_65 rfl rfl (pc2 := 66) ?_
              refine wp_dup jF_353_66 rfl rfl (pc2 := 67) ?_
              refine wp_glA jF_353_67 kd117 (by decide) rfl rfl (pc2 := 70) ?_
              intro y91
              refine wp_lc jF_353_70 rfl (pc2 := 71) ?_
              refine wp_lng (pc2 := 72) jF_353_71 rfl rfl ?_
              intro y92
              refine wp_pl jF_353_72 kd117 (by decide) rfl rfl (pc2 := 75) hg ?_
              intro τ93 g94 f95
              refine wp_il1 jF_353_75 rfl rfl (pc2 := 76) ?_
              refine wp_ic jF_353_76 rfl (pc2 := 77) ?_
              refine wp_i_ne jF_353_77 ⟨by omega, by omega⟩ (m_rgl rfl) rfl (pc2 := 80) ?_ ?_
              · intro h96
                refine wp_il1 jF_353_90 rfl rfl (pc2 := 91) ?_
                refine wp_ic jF_353_91 rfl (pc2 := 92) ?_
                refine wp_i_le jF_353_92 ⟨by omega, by omega⟩ (m_rgl rfl) rfl (pc2 := 95) ?_ ?_
                · intro h97
                  refine wp_al1 jF_353_133 rfl rfl (pc2 := 134) ?_
                  refine wp_ic jF_353_134 rfl (pc2 := 135) ?_
                  refine wp_pi jF_353_135 kd117 (by decide) rfl rfl rfl (pc2 := 138) g94 (lo := 0) (hi := 1) rfl (by omega) (by omega) ?_
                  intro τ98 g99 f100 e101
                  refine wp_rv jF_353_138 ?_
                  exact ⟨rfl, g99, (FR.w (FR.w FR.rf f95 rfl) f100 rfl)⟩
                · intro h97; exfalso; omega
              · intro h96; exfalso; omega
        · intro h88
          refine wp_il2 jF_353_43 rfl rfl (pc2 := 45) ?_
          refine wp_z_eq jF_353_45 (m_rgl rfl) rfl (pc2 := 48) ?_ ?_
          · intro h102; exfalso; omega
          · intro h102
            refine wp_al1 jF_353_48 rfl rfl (pc2 := 49) ?_
            refine wp_il2 jF_353_49 rfl rfl (pc2 := 51) ?_
            refine wp_i2l jF_353_51 rfl (pc2 := 52) ?_
            refine wp_pl jF_353_52 kd117 (by decide) rfl rfl (pc2 := 55) hg ?_
            intro τ103 g104 f105
            refine wp_il1 jF_353_55 rfl rfl (pc2 := 56) ?_
            refine wp_ic jF_353_56 rfl (pc2 := 57) ?_
            refine wp_i_ne jF_353_57 ⟨by omega, by omega⟩ (m_rgl rfl) rfl (pc2 := 60) ?_ ?_
            · intro h106
              refine wp_il1 jF_353_75 rfl rfl (pc2 := 76) ?_
              refine wp_ic jF_353_76 rfl (pc2 := 77) ?_
              refine wp_i_ne jF_353_77 ⟨by omega, by omega⟩ (m_rgl rfl) rfl (pc2 := 80) ?_ ?_
              · intro h107
                refine wp_il1 jF_353_90 rfl rfl (pc2 := 91) ?_
                refine wp_ic jF_353_91 rfl (pc2 := 92) ?_
                refine wp_i_le jF_353_92 ⟨by omega, by omega⟩ (m_rgl rfl) rfl (pc2 := 95) ?_ ?_
                · intro h108
                  refine wp_al1 jF_353_133 rfl rfl (pc2 := 134) ?_
                  refine wp_ic jF_353_134 rfl (pc2 := 135) ?_
                  refine wp_pi jF_353_135 kd117 (by decide) rfl rfl rfl (pc2 := 138) g104 (lo := 0) (hi := 1) rfl (by omega) (by omega) ?_
                  intro τ109 g110 f111 e112
                  refine wp_rv jF_353_138 ?_
                  exact ⟨rfl, g110, (FR.w (FR.w FR.rf f105 rfl) f111 rfl)⟩
                · intro h108; exfalso; omega
              · intro h107; exfalso; omega
            · intro h106; exfalso; omega
      · intro h87
        refine wp_il2 jF_353_22 rfl rfl (pc2 := 24) ?_
        refine wp_z_eq jF_353_24 (m_rgl rfl) rfl (pc2 := 27) ?_ ?_
        · intro h113; exfalso; omega
        · intro h113
          refine wp_al1 jF_353_27 rfl rfl (pc2 := 28) ?_
          refine wp_glA jF_353_28 kd117 (by decide) rfl rfl (pc2 := 31) ?_
          intro y114
          refine wp_ld jF_353_31 rfl (pc2 := 34) ?_
          refine wp_anyL (pc2 := 35) jF_353_34 rfl rfl ?_
          intro z115 h116
          refine wp_z_eq jF_353_35 (m_rgb h116 rfl) rfl (pc2 := 38) ?_ ?_
          · intro h117
            refine wp_al1 jF_353_48 rfl rfl (pc2 := 49) ?_
            refine wp_il2 jF_353_49 rfl rfl (pc2 := 51) ?_
            refine wp_i2l jF_353_51 rfl (pc2 := 52) ?_
            refine wp_pl jF_353_52 kd117 (by decide) rfl rfl (pc2 := 55) hg ?_
            intro τ118 g119 f120
            refine wp_il1 jF_353_55 rfl rfl (pc2 := 56) ?_
            refine wp_ic jF_353_56 rfl (pc2 := 57) ?_
            refine wp_i_ne jF_353_57 ⟨by omega, by omega⟩ (m_rgl rfl) rfl (pc2 := 60) ?_ ?_
            · intro h121
              refine wp_il1 jF_353_75 rfl rfl (pc2 := 76) ?_
              refine wp_ic jF_353_76 rfl (pc2 := 77) ?_
              refine wp_i_ne jF_353_77 ⟨by omega, by omega⟩ (m_rgl rfl) rfl (pc2 := 80) ?_ ?_
              · intro h122
                refine wp_il1 jF_353_90 rfl rfl (pc2 := 91) ?_
                refine wp_ic jF_353_91 rfl (pc2 := 92) ?_
                refine wp_i_le jF_353_92 ⟨by omega, by omega⟩ (m_rgl rfl) rfl (pc2 := 95) ?_ ?_
                · intro h123
                  refine wp_al1 jF_353_133 rfl rfl (pc2 := 134) ?_
                  refine wp_ic jF_353_134 rfl (pc2 := 135) ?_
                  refine wp_pi jF_353_135 kd117 (by decide) rfl rfl rfl (pc2 := 138) g119 (lo := 0) (hi := 1) rfl (by omega) (by omega) ?_
                  intro τ124 g125 f126 e127
                  refine wp_rv jF_353_138 ?_
                  exact ⟨rfl, g125, (FR.w (FR.w FR.rf f120 rfl) f126 rfl)⟩
                · intro h123; exfalso; omega
              · intro h122; exfalso; omega
            · intro h121; exfalso; omega
          · intro h117
            refine wp_il1 jF_353_38 rfl rfl (pc2 := 39) ?_
            refine wp_ic jF_353_39 rfl (pc2 := 40) ?_
            refine wp_i_ne jF_353_40 ⟨by omega, by omega⟩ (m_rgl rfl) rfl (pc2 := 43) ?_ ?_
            · intro h128
              refine wp_il1 jF_353_55 rfl rfl (pc2 := 56) ?_
              refine wp_ic jF_353_56 rfl (pc2 := 57) ?_
              refine wp_i_ne jF_353_57 ⟨by omega, by omega⟩ (m_rgl rfl) rfl (pc2 := 60) ?_ ?_
              · intro h129
                refine wp_il1 jF_353_75 rfl rfl (pc2 := 76) ?_
                refine wp_ic jF_353_76 rfl (pc2 := 77) ?_
                refine wp_i_ne jF_353_77 ⟨by omega, by omega⟩ (m_rgl rfl) rfl (pc2 := 80) ?_ ?_
                · intro h130
                  refine wp_il1 jF_353_90 rfl rfl (pc2 := 91) ?_
                  refine wp_ic jF_353_91 rfl (pc2 := 92) ?_
                  refine wp_i_le jF_353_92 ⟨by omega, by omega⟩ (m_rgl rfl) rfl (pc2 := 95) ?_ ?_
                  · intro h131
                    refine wp_al1 jF_353_133 rfl rfl (pc2 := 134) ?_
                    refine wp_ic jF_353_134 rfl (pc2 := 135) ?_
                    refine wp_pi jF_353_135 kd117 (by decide) rfl rfl rfl (pc2 := 138) hg (lo := 0) (hi := 1) rfl (by omega) (by omega) ?_
                    intro τ132 g133 f134 e135
                    refine wp_rv jF_353_138 ?_
                    exact ⟨rfl, g133, (FR.w FR.rf f134 rfl)⟩
                  · intro h131; exfalso; omega
                · intro h130; exfalso; omega
              · intro h129; exfalso; omega
            · intro h128; exfalso; omega
set_option maxHeartbeats 4000000 in
set_option maxRecDepth 20000 in
/-- M.qTold -/
theorem m_345 (σ : jM) (hg : GI σ) (k : Int) (hl_k : 0 ≤ k) (hu_k : k ≤ 63) (pre0 : 0 ≤ (dp σ)) (pre1 : ((m0 σ) ≠ 0 ∧ (m1 σ) ≠ 0 ∧ (m2 σ) ≠ 0)) (pre2 : k < (cm σ)) (pre3 : (l0 σ) = 22) (pre4 : (l1 σ) = 22) (fr lo : Nat) (hfr : 4 ≤ fr) (hlo : 98 ≤ lo) : WP 345 0 (lv_args 0 [.ref 117, iV k]) [] fr lo σ (fun v τ => ∃ z : Int64, v = some (.long z) ∧ GI τ ∧ FR Wqr σ τ) := by
  show WP 345 0 [(0, .ref 117), (1, iV k)] [] _ _ _ _
  refine wp_al1 jF_345_0 rfl rfl (pc2 := 1) ?_
  refine wp_ic jF_345_1 rfl (pc2 := 2) ?_
  refine wp_pi jF_345_2 kd117 (by decide) rfl rfl rfl (pc2 := 5) hg (lo := 0) (hi := 1700) rfl (by omega) (by omega) ?_
  intro τ1 g2 f3 e4
  have n5 := dpa_0 (σ := σ)
  refine wp_ic jF_345_5 rfl (pc2 := 6) ?_
  refine wp_is1 (lv2 := [(0, .ref 117), (1, iV k), (2, iV 0)]) jF_345_6 rfl rfl rfl (pc2 := 7) ?_
  have b6 := GI.b hg 117 87 kd117 (lo := 0) (hi := 1690) rfl
  have q7 : (τ1.1 117 87) = (σ.1 117 87) := (FRw.nj f3 (by decide))
  refine wp_loop (α := Int) (fun a => [(0, .ref 117), (1, iV k), (2, iV (a))]) (fun a τ => (0 ≤ a ∧ a ≤ 1690) ∧ GI τ ∧ FR Wqr τ1 τ ∧ ((τ.1 117 93) = (DPA σ (a))) ∧ ((a) ≤ (τ1.1 117 87))) (fun a τ => Int.toNat (1690 - (a))) (0) τ1 ?_ ?_
  · skip
    have q8 : (τ1.1 117 93) = 0 := e4
    exact ⟨⟨by omega, by omega⟩, g2, FR.rf, (by omega), (by omega)⟩
  · rintro x9 τ11 ⟨h10, g12, f13, p14, p15⟩ ih16
    have b17 := GI.b g12 117 93 kd117 (lo := 0) (hi := 1700) rfl
    show WP 345 7 [(0, .ref 117), (1, iV k), (2, iV x9)] [] _ _ _ _
    show WP 345 7 [(0, .ref 117), (1, iV k), (2, iV x9)] [] _ _ _ _
    refine wp_il1 jF_345_7 rfl rfl (pc2 := 8) ?_
    refine wp_al1 jF_345_8 rfl rfl (pc2 := 9) ?_
    refine wp_gi jF_345_9 kd117 (by decide) rfl ((FR.at f13 117 87 rfl).trans (FRw.nj f3 (by decide))) rfl (pc2 := 12) ?_
    refine wp_i_ge jF_345_12 (m_rgb h10 rfl) (m_rgb b6 rfl) rfl (pc2 := 15) ?_ ?_
    · intro h18
      refine wp_al1 jF_345_168 rfl rfl (pc2 := 169) ?_
      refine wp_gr (b := 178) jF_345_169 kd117 (by decide) (c := 278) rfl rfl rfl (pc2 := 172) ?_
      refine wp_ic jF_345_172 rfl (pc2 := 173) ?_
      refine wp_lald (n := 1700) jF_345_173 kd178 (by decide) rfl rfl (by omega) (by omega) rfl (pc2 := 174) ?_
      intro y19
      refine wp_rl jF_345_174 ?_
      exact ⟨y19, rfl, g12, (FR.up (FR.w FR.rf f3 rfl) f13 sb_Wqr_Wqr)⟩
    · intro h18
      have n20 := dpa_s (σ := σ) pre0 (x := x9) (by omega) (by omega)
      refine wp_al1 jF_345_15 rfl rfl (pc2 := 16) ?_
      refine wp_gr (b := 176) jF_345_16 kd117 (by decide) (c := 276) rfl rfl rfl (pc2 := 19) ?_
      refine wp_il1 jF_345_19 rfl rfl (pc2 := 20) ?_
      have b21 := GI.b hg 176 x9.toNat kd176 (lo := (-2147483648)) (hi := 2147483647) rfl
      refine wp_iald (n := 1700) (e := (σ.1 176 x9.toNat)) jF_345_20 kd176 (by decide) rfl rfl (by omega) (by omega) ((FR.at f13 176 x9.toNat rfl).trans (FRw.na f3 (by decide))) rfl (pc2 := 21) ?_
      refine wp_is1 (lv2 := [(0, .ref 117), (1, iV k), (2, iV x9), (3, iV (σ.1 176 x9.toNat))]) jF_345_21 rfl rfl rfl (pc2 := 22) ?_
      refine wp_il1 jF_345_22 rfl rfl (pc2 := 23) ?_
      refine wp_si jF_345_23 (by decide) rfl (pc2 := 26) ?_
      refine wp_i_lt jF_345_26 (m_rgb b21 rfl) (m_rgl rfl) rfl (pc2 := 29) ?_ ?_
      · intro h22
        refine wp_il1 jF_345_42 rfl rfl (pc2 := 43) ?_
        refine wp_bi jF_345_43 (by decide) rfl (pc2 := 45) ?_
        refine wp_i_lt jF_345_45 ⟨by omega, by omega⟩ (m_rgl rfl) rfl (pc2 := 48) ?_ ?_
        · intro h23
          refine wp_il1 jF_345_85 rfl rfl (pc2 := 86) ?_
          refine wp_bi jF_345_86 (by decide) rfl (pc2 := 88) ?_
          refine wp_i_lt jF_345_88 ⟨by omega, by omega⟩ (m_rgl rfl) rfl (pc2 := 91) ?_ ?_
          · intro h24
            refine wp_il1 jF_345_110 rfl rfl (pc2 := 111) ?_
            refine wp_bi jF_345_111 (by decide) rfl (pc2 := 113) ?_
            refine wp_i_ne jF_345_113 ⟨by omega, by omega⟩ (m_rgl rfl) rfl (pc2 := 116) ?_ ?_
            · intro h25
              refine wp_il1 jF_345_124 rfl rfl (pc2 := 125) ?_
              refine wp_bi jF_345_125 (by decide) rfl (pc2 := 127) ?_
              refine wp_i_ne jF_345_127 ⟨by omega, by omega⟩ (m_rgl rfl) rfl (pc2 := 130) ?_ ?_
              · intro h26
                refine wp_al1 jF_345_157 rfl rfl (pc2 := 158) ?_
                refine wp_il1 jF_345_158 rfl rfl (pc2 := 159) ?_
                refine wp_cV (as := [iV (σ.1 176 x9.toNat)]) (rest := []) (a := 117) (mx := 6) (ci := 12) jF_345_159 kd117 (by decide) rfl rfl rfl rfl rfl (by omega) (by omega) rfl (pc2 := 162) ?_
                refine wp_use (m_351 τ11 g12 (σ.1 176 x9.toNat) (by omega) (by omega) (by omega) _ _ (by omega) (by omega)) ?_
                rintro _ τ28 ⟨rfl, g29, f30, p27⟩
                show WP 345 162 [(0, .ref 117), (1, iV k), (2, iV x9), (3, iV (σ.1 176 x9.toNat))] [] _ _ _ _
                refine wp_inc (lv2 := [(0, .ref 117), (1, iV k), (2, iV (x9 + 1)), (3, iV (σ.1 176 x9.toNat))]) jF_345_162 rfl rfl rfl rfl (pc2 := 165) ?_
                refine wp_go jF_345_165 ?_
                have b31 := GI.b g29 117 93 kd117 (lo := 0) (hi := 1700) rfl
                refine wp_less [0, 1, 2] (lv2 := [(0, .ref 117), (1, iV k), (2, iV (x9 + 1))]) rfl rfl ?_
                exact ih16 ((x9 + 1)) τ28 ⟨⟨by omega, by omega⟩, g29, (FR.up f13 f30 sb_Wqu_Wqr), (by omega), (by omega)⟩ (by show Int.toNat (1690 - (x9 + 1)) < Int.toNat (1690 - x9); omega)
              · intro h26
                refine wp_al1 jF_345_130 rfl rfl (pc2 := 131) ?_
                refine wp_gr (b := 178) jF_345_131 kd117 (by decide) (c := 278) rfl rfl rfl (pc2 := 134) ?_
                refine wp_al1 jF_345_134 rfl rfl (pc2 := 135) ?_
                refine wp_gi jF_345_135 kd117 (by decide) rfl rfl rfl (pc2 := 138) ?_
                refine wp_ic jF_345_138 rfl (pc2 := 139) ?_
                refine wp_sub jF_345_139 rfl (pc2 := 140) ?_
                refine wp_lc jF_345_140 rfl (pc2 := 141) ?_
                refine wp_al1 jF_345_141 rfl rfl (pc2 := 142) ?_
                refine wp_gr (b := 178) jF_345_142 kd117 (by decide) (c := 278) rfl rfl rfl (pc2 := 145) ?_
                refine wp_al1 jF_345_145 rfl rfl (pc2 := 146) ?_
                refine wp_gi jF_345_146 kd117 (by decide) rfl rfl rfl (pc2 := 149) ?_
                refine wp_ic jF_345_149 rfl (pc2 := 150) ?_
                refine wp_sub jF_345_150 rfl (pc2 := 151) ?_
                refine wp_lald (n := 1700) jF_345_151 kd178 (by decide) rfl rfl (by omega) (by omega) rfl (pc2 := 152) ?_
                intro y32
                refine wp_lng (pc2 := 153) jF_345_152 rfl rfl ?_
                intro y33
                refine wp_last (n := 1700) jF_345_153 kd178 (by decide) rfl rfl (by omega) (by omega) rfl (pc2 := 154) g12 ?_
                intro τ34 g35 f36
                refine wp_go jF_345_154 ?_
                refine wp_inc (lv2 := [(0, .ref 117), (1, iV k), (2, iV (x9 + 1)), (3, iV (σ.1 176 x9.toNat))]) jF_345_162 rfl rfl rfl rfl (pc2 := 165) ?_
                refine wp_go jF_345_165 ?_
                have q37 : (τ34.1 117 93) = (τ11.1 117 93) := (FRw.na f36 (by decide))
                refine wp_less [0, 1, 2] (lv2 := [(0, .ref 117), (1, iV k), (2, iV (x9 + 1))]) rfl rfl ?_
                exact ih16 ((x9 + 1)) τ34 ⟨⟨by omega, by omega⟩, g35, (FR.w f13 f36 rfl), (by omega), (by omega)⟩ (by show Int.toNat (1690 - (x9 + 1)) < Int.toNat (1690 - x9); omega)
            · intro h25
              refine wp_al1 jF_345_116 rfl rfl (pc2 := 117) ?_
              refine wp_lc jF_345_117 rfl (pc2 := 118) ?_
              refine wp_cV (as := [.long (Int64.ofNat 1)]) (rest := []) (a := 117) (mx := 3) (ci := 12) jF_345_118 kd117 (by decide) rfl rfl rfl rfl rfl (by omega) (by omega) rfl (pc2 := 121) ?_
              refine wp_use (m_346 τ11 g12 (Int64.ofNat 1) (by omega) _ _ (by omega) (by omega)) ?_
              rintro _ τ39 ⟨rfl, g40, f41, p38⟩
              show WP 345 121 [(0, .ref 117), (1, iV k), (2, iV x9), (3, iV (σ.1 176 x9.toNat))] [] _ _ _ _
              refine wp_go jF_345_121 ?_
              refine wp_inc (lv2 := [(0, .ref 117), (1, iV k), (2, iV (x9 + 1)), (3, iV (σ.1 176 x9.toNat))]) jF_345_162 rfl rfl rfl rfl (pc2 := 165) ?_
              refine wp_go jF_345_165 ?_
              have b42 := GI.b g40 117 93 kd117 (lo := 0) (hi := 1700) rfl
              refine wp_less [0, 1, 2] (lv2 := [(0, .ref 117), (1, iV k), (2, iV (x9 + 1))]) rfl rfl ?_
              exact ih16 ((x9 + 1)) τ39 ⟨⟨by omega, by omega⟩, g40, (FR.up f13 f41 sb_Wqu_Wqr), (by omega), (by omega)⟩ (by show Int.toNat (1690 - (x9 + 1)) < Int.toNat (1690 - x9); omega)
          · intro h24
            refine wp_al1 jF_345_91 rfl rfl (pc2 := 92) ?_
            refine wp_al1 jF_345_92 rfl rfl (pc2 := 93) ?_
            refine wp_il1 jF_345_93 rfl rfl (pc2 := 94) ?_
            refine wp_bi jF_345_94 (by decide) rfl (pc2 := 96) ?_
            refine wp_sub jF_345_96 rfl (pc2 := 97) ?_
            refine wp_il1 jF_345_97 rfl rfl (pc2 := 98) ?_
            refine wp_cV (as := [iV ((σ.1 176 x9.toNat) - 40), iV k]) (rest := [.ref 117]) (a := 117) (mx := 3) (ci := 12) jF_345_98 kd117 (by decide) rfl rfl rfl rfl rfl (by omega) (by omega) rfl (pc2 := 101) ?_
            have q43 : (l0 τ11) = (l0 σ) := ((l0_fr f13 rfl (fun _ => rfl)).trans (l0_wr f3 (by decide)))
            have q44 : (l1 τ11) = (l1 σ) := ((l1_fr f13 rfl (fun _ => rfl)).trans (l1_wr f3 (by decide)))
            have q45 : (m0 τ11) = (m0 σ) := ((m0_fr f13 (fun _ => rfl)).trans (m0_wr f3 (by decide)))
            have q46 : (m1 τ11) = (m1 σ) := ((m1_fr f13 (fun _ => rfl)).trans (m1_wr f3 (by decide)))
            have q47 : (m2 τ11) = (m2 σ) := ((m2_fr f13 (fun _ => rfl)).trans (m2_wr f3 (by decide)))
            have q48 : (cm τ11) = (cm σ) := ((cm_fr f13 (fun _ => rfl)).trans (cm_wr f3 (by decide)))
            refine wp_use (m_350 τ11 g12 ((σ.1 176 x9.toNat) - 40) (by omega) (by omega) k (by omega) (by omega) (by omega) (by omega) (by omega) (by omega) _ _ (by omega) (by omega)) ?_
            rintro _ τ49 ⟨y52, rfl, g50, f51⟩
            show WP 345 101 [(0, .ref 117), (1, iV k), (2, iV x9), (3, iV (σ.1 176 x9.toNat))] [.long y52, .ref 117] _ _ _ _
            refine wp_cS (as := [.long y52]) (rest := [.ref 117]) (mx := 2) jF_345_101 rfl rfl rfl rfl (by omega) (by omega) rfl (pc2 := 104) ?_
            refine wp_use (m_349 τ49 g50 y52  _ _ (by omega) (by omega)) ?_
            rintro _ _ ⟨y55, rfl, rfl⟩
            show WP 345 104 [(0, .ref 117), (1, iV k), (2, iV x9), (3, iV (σ.1 176 x9.toNat))] [.long y55, .ref 117] _ _ _ _
            refine wp_cV (as := [.long y55]) (rest := []) (a := 117) (mx := 3) (ci := 12) jF_345_104 kd117 (by decide) rfl rfl rfl rfl rfl (by omega) (by omega) rfl (pc2 := 107) ?_
            have q56 : (τ49.1 117 93) = (τ11.1 117 93) := (FR.at f51 117 93 rfl)
            refine wp_use (m_346 τ49 g50 y55 (by omega) _ _ (by omega) (by omega)) ?_
            rintro _ τ58 ⟨rfl, g59, f60, p57⟩
            show WP 345 107 [(0, .ref 117), (1, iV k), (2, iV x9), (3, iV (σ.1 176 x9.toNat))] [] _ _ _ _
            refine wp_go jF_345_107 ?_
            refine wp_inc (lv2 := [(0, .ref 117), (1, iV k), (2, iV (x9 + 1)), (3, iV (σ.1 176 x9.toNat))]) jF_345_162 rfl rfl rfl rfl (pc2 := 165) ?_
            refine wp_go jF_345_165 ?_
            have b61 := GI.b g59 117 93 kd117 (lo := 0) (hi := 1700) rfl
            refine wp_less [0, 1, 2] (lv2 := [(0, .ref 117), (1, iV k), (2, iV (x9 + 1))]) rfl rfl ?_
            exact ih16 ((x9 + 1)) τ58 ⟨⟨by omega, by omega⟩, g59, (FR.up (FR.up f13 f51 sb_Wtr_Wqr) f60 sb_Wqu_Wqr), (by omega), (by omega)⟩ (by show Int.toNat (1690 - (x9 + 1)) < Int.toNat (1690 - x9); omega)
        · intro h23
          refine wp_al1 jF_345_48 rfl rfl (pc2 := 49) ?_
          refine wp_gr (b := 178) jF_345_49 kd117 (by decide) (c := 278) rfl rfl rfl (pc2 := 52) ?_
          refine wp_al1 jF_345_52 rfl rfl (pc2 := 53) ?_
          refine wp_gi jF_345_53 kd117 (by decide) rfl rfl rfl (pc2 := 56) ?_
          refine wp_ic jF_345_56 rfl (pc2 := 57) ?_
          refine wp_sub jF_345_57 rfl (pc2 := 58) ?_
          refine wp_al1 jF_345_58 rfl rfl (pc2 := 59) ?_
          refine wp_il1 jF_345_59 rfl rfl (pc2 := 60) ?_
          refine wp_bi jF_345_60 (by decide) rfl (pc2 := 62) ?_
          refine wp_sub jF_345_62 rfl (pc2 := 63) ?_
          refine wp_al1 jF_345_63 rfl rfl (pc2 := 64) ?_
          refine wp_gr (b := 178) jF_345_64 kd117 (by decide) (c := 278) rfl rfl rfl (pc2 := 67) ?_
          refine wp_al1 jF_345_67 rfl rfl (pc2 := 68) ?_
          refine wp_gi jF_345_68 kd117 (by decide) rfl rfl rfl (pc2 := 71) ?_
          refine wp_ic jF_345_71 rfl (pc2 := 72) ?_
          refine wp_sub jF_345_72 rfl (pc2 := 73) ?_
          refine wp_lald (n := 1700) jF_345_73 kd178 (by decide) rfl rfl (by omega) (by omega) rfl (pc2 := 74) ?_
          intro y62
          refine wp_il1 jF_345_74 rfl rfl (pc2 := 75) ?_
          refine wp_cV (as := [iV ((σ.1 176 x9.toNat) - 60), .long y62, iV k]) (rest := [iV ((τ11.1 117 93) - 1), .ref 178]) (a := 117) (mx := 5) (ci := 12) jF_345_75 kd117 (by decide) rfl rfl rfl rfl rfl (by omega) (by omega) rfl (pc2 := 78) ?_
          have q63 : (l0 τ11) = (l0 σ) := ((l0_fr f13 rfl (fun _ => rfl)).trans (l0_wr f3 (by decide)))
          refine wp_use (m_347 τ11 g12 ((σ.1 176 x9.toNat) - 60) (by omega) (by omega) y62 k (by omega) (by omega) (by omega) _ _ (by omega) (by omega)) ?_
          rintro _ τ64 ⟨y67, rfl, g65, f66⟩
          show WP 345 78 [(0, .ref 117), (1, iV k), (2, iV x9), (3, iV (σ.1 176 x9.toNat))] [.long y67, iV ((τ11.1 117 93) - 1), .ref 178] _ _ _ _
          refine wp_cS (as := [.long y67]) (rest := [iV ((τ11.1 117 93) - 1), .ref 178]) (mx := 2) jF_345_78 rfl rfl rfl rfl (by omega) (by omega) rfl (pc2 := 81) ?_
          refine wp_use (m_349 τ64 g65 y67  _ _ (by omega) (by omega)) ?_
          rintro _ _ ⟨y70, rfl, rfl⟩
          show WP 345 81 [(0, .ref 117), (1, iV k), (2, iV x9), (3, iV (σ.1 176 x9.toNat))] [.long y70, iV ((τ11.1 117 93) - 1), .ref 178] _ _ _ _
          refine wp_last (n := 1700) jF_345_81 kd178 (by decide) rfl rfl (by omega) (by omega) rfl (pc2 := 82) g65 ?_
          intro τ71 g72 f73
          refine wp_go jF_345_82 ?_
          refine wp_inc (lv2 := [(0, .ref 117), (1, iV k), (2, iV (x9 + 1)), (3, iV (σ.1 176 x9.toNat))]) jF_345_162 rfl rfl rfl rfl (pc2 := 165) ?_
          refine wp_go jF_345_165 ?_
          have q74 : (τ71.1 117 93) = (τ11.1 117 93) := ((FRw.na f73 (by decide)).trans (FR.at f66 117 93 rfl))
          refine wp_less [0, 1, 2] (lv2 := [(0, .ref 117), (1, iV k), (2, iV (x9 + 1))]) rfl rfl ?_
          exact ih16 ((x9 + 1)) τ71 ⟨⟨by omega, by omega⟩, g72, (FR.w (FR.up f13 f66 sb_Wtr_Wqr) f73 rfl), (by omega), (by omega)⟩ (by show Int.toNat (1690 - (x9 + 1)) < Int.toNat (1690 - x9); omega)
      · intro h22
        refine wp_al1 jF_345_29 rfl rfl (pc2 := 30) ?_
        refine wp_il1 jF_345_30 rfl rfl (pc2 := 31) ?_
        refine wp_si jF_345_31 (by decide) rfl (pc2 := 34) ?_
        refine wp_sub jF_345_34 rfl (pc2 := 35) ?_
        refine wp_i2l jF_345_35 rfl (pc2 := 36) ?_
        refine wp_cV (as := [.long (Int32.toInt64 (Int32.ofInt ((σ.1 176 x9.toNat) - 1000)))]) (rest := []) (a := 117) (mx := 3) (ci := 12) jF_345_36 kd117 (by decide) rfl rfl rfl rfl rfl (by omega) (by omega) rfl (pc2 := 39) ?_
        refine wp_use (m_346 τ11 g12 (Int32.toInt64 (Int32.ofInt ((σ.1 176 x9.toNat) - 1000))) (by omega) _ _ (by omega) (by omega)) ?_
        rintro _ τ76 ⟨rfl, g77, f78, p75⟩
        show WP 345 39 [(0, .ref 117), (1, iV k), (2, iV x9), (3, iV (σ.1 176 x9.toNat))] [] _ _ _ _
        refine wp_go jF_345_39 ?_
        refine wp_inc (lv2 := [(0, .ref 117), (1, iV k), (2, iV (x9 + 1)), (3, iV (σ.1 176 x9.toNat))]) jF_345_162 rfl rfl rfl rfl (pc2 := 165) ?_
        refine wp_go jF_345_165 ?_
        have b79 := GI.b g77 117 93 kd117 (lo := 0) (hi := 1700) rfl
        refine wp_less [0, 1, 2] (lv2 := [(0, .ref 117), (1, iV k), (2, iV (x9 + 1))]) rfl rfl ?_
        exact ih16 ((x9 + 1)) τ76 ⟨⟨by omega, by omega⟩, g77, (FR.up f13 f78 sb_Wqu_Wqr), (by omega), (by omega)⟩ (by show Int.toNat (1690 - (x9 + 1)) < Int.toNat (1690 - x9); omega)
