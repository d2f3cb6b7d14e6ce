set_option maxHeartbeats 4000000 in
set_option maxRecDepth 20000 in
/-- Shorts.weighPair -/
theorem m_137_r93 (σ : jM) (hg : GI σ) (one : Int) (hl_one : 0 ≤ one) (hu_one : one ≤ 1751) (an : Int) (hl_an : 0 ≤ an) (hu_an : an ≤ 1751) (bs : Int) (hl_bs : 0 ≤ bs) (hu_bs : bs ≤ 4)  (fr lo : Nat) (hfr : 1 ≤ fr) (hlo : 25 ≤ lo) : WP 137 0 (lv_args 0 [.ref 93, iV one, iV an, iV bs]) [] fr lo σ (fun v τ => v = none ∧ GI τ ∧ FR WS σ τ) := by
  show WP 137 0 [(0, .ref 93), (1, iV one), (2, iV an), (3, iV bs)] [] _ _ _ _
  refine wp_al1 jF_137_0 rfl rfl (pc2 := 1) ?_
  refine wp_il1 jF_137_1 rfl rfl (pc2 := 2) ?_
  refine wp_cV (as := [iV one]) (rest := []) (a := 93) (mx := 3) (ci := 5) jF_137_2 kd93 (by decide) rfl rfl rfl rfl rfl (by omega) (by omega) rfl (pc2 := 5) ?_
  refine wp_use (m_131_r93 σ hg one (by omega) (by omega)  _ _ (by omega) (by omega)) ?_
  rintro _ _ ⟨z3, rfl, h4, rfl⟩
  show WP 137 5 [(0, .ref 93), (1, iV one), (2, iV an), (3, iV bs)] [iV z3] _ _ _ _
  refine wp_al1 jF_137_5 rfl rfl (pc2 := 6) ?_
  refine wp_il1 jF_137_6 rfl rfl (pc2 := 7) ?_
  refine wp_cV (as := [iV an]) (rest := [iV z3]) (a := 93) (mx := 3) (ci := 5) jF_137_7 kd93 (by decide) rfl rfl rfl rfl rfl (by omega) (by omega) rfl (pc2 := 10) ?_
  refine wp_use (m_131_r93 σ hg an (by omega) (by omega)  _ _ (by omega) (by omega)) ?_
  rintro _ _ ⟨z7, rfl, h8, rfl⟩
  show WP 137 10 [(0, .ref 93), (1, iV one), (2, iV an), (3, iV bs)] [iV z7, iV z3] _ _ _ _
  refine wp_add jF_137_10 rfl (pc2 := 11) ?_
  refine wp_is2 (lv2 := [(0, .ref 93), (1, iV one), (2, iV an), (3, iV bs), (4, iV (z3 + z7))]) jF_137_11 rfl rfl rfl (pc2 := 13) ?_
  refine wp_il1 jF_137_13 rfl rfl (pc2 := 14) ?_
  refine wp_il1 jF_137_14 rfl rfl (pc2 := 15) ?_
  refine wp_cS (as := [iV one, iV an]) (rest := []) (mx := 2) jF_137_15 rfl rfl rfl rfl (by omega) (by omega) rfl (pc2 := 18) ?_
  refine wp_use (m_138_r σ hg one (by omega) (by omega) an (by omega) (by omega)  _ _ (by omega) (by omega)) ?_
  rintro _ _ ⟨z14, rfl, h15, rfl, p9, p10, p11⟩
  show WP 137 18 [(0, .ref 93), (1, iV one), (2, iV an), (3, iV bs), (4, iV (z3 + z7))] [iV z14] _ _ _ _
  refine wp_is2 (lv2 := [(0, .ref 93), (1, iV one), (2, iV an), (3, iV bs), (4, iV (z3 + z7)), (5, iV z14)]) jF_137_18 rfl rfl rfl (pc2 := 20) ?_
  refine wp_il1 jF_137_20 rfl rfl (pc2 := 21) ?_
  refine wp_il1 jF_137_21 rfl rfl (pc2 := 22) ?_
  refine wp_cS (as := [iV one, iV an]) (rest := []) (mx := 2) jF_137_22 rfl rfl rfl rfl (by omega) (by omega) rfl (pc2 := 25) ?_
  refine wp_use (m_139_r σ hg one (by omega) (by omega) an (by omega) (by omega)  _ _ (by omega) (by omega)) ?_
  rintro _ _ ⟨z21, rfl, h22, rfl, p16, p17, p18⟩
  show WP 137 25 [(0, .ref 93), (1, iV one), (2, iV an), (3, iV bs), (4, iV (z3 + z7)), (5, iV z14)] [iV z21] _ _ _ _
  refine wp_is2 (lv2 := [(0, .ref 93), (1, iV one), (2, iV an), (3, iV bs), (4, iV (z3 + z7)), (5, iV z14), (6, iV z21)]) jF_137_25 rfl rfl rfl (pc2 := 27) ?_
  refine wp_al1 jF_137_27 rfl rfl (pc2 := 28) ?_
  refine wp_gr (b := 101) jF_137_28 kd93 (by decide) (c := 201) rfl rfl rfl (pc2 := 31) ?_
  refine wp_il1 jF_137_31 rfl rfl (pc2 := 32) ?_
  have b23 := GI.b hg 101 bs.toNat kd101 (lo := (-2147483648)) (hi := 2147483647) rfl
  refine wp_iald (n := 8) (e := (σ.1 101 bs.toNat)) jF_137_32 kd101 (by decide) rfl rfl (by omega) (by omega) rfl rfl (pc2 := 33) ?_
  refine wp_ic jF_137_33 rfl (pc2 := 34) ?_
  refine wp_i_eq jF_137_34 (m_rgb b23 rfl) (m_rgl rfl) rfl (pc2 := 37) ?_ ?_
  · intro h24
    refine wp_ic jF_137_48 rfl (pc2 := 49) ?_
    refine wp_go jF_137_49 ?_
    refine wp_is2 (lv2 := [(0, .ref 93), (1, iV one), (2, iV an), (3, iV bs), (4, iV (z3 + z7)), (5, iV z14), (6, iV z21), (7, iV 1)]) jF_137_53 rfl rfl rfl (pc2 := 55) ?_
    refine wp_il2 jF_137_55 rfl rfl (pc2 := 57) ?_
    refine wp_al1 jF_137_57 rfl rfl (pc2 := 58) ?_
    refine wp_gr (b := 101) jF_137_58 kd93 (by decide) (c := 201) rfl rfl rfl (pc2 := 61) ?_
    refine wp_il1 jF_137_61 rfl rfl (pc2 := 62) ?_
    refine wp_iald (n := 8) (e := (σ.1 101 bs.toNat)) jF_137_62 kd101 (by decide) rfl rfl (by omega) (by omega) rfl rfl (pc2 := 63) ?_
    refine wp_i_ne jF_137_63 ⟨by omega, by omega⟩ (m_rgb b23 rfl) rfl (pc2 := 66) ?_ ?_
    · intro h25
      refine wp_il2 jF_137_124 rfl rfl (pc2 := 126) ?_
      refine wp_z_eq jF_137_126 (m_rgl rfl) rfl (pc2 := 129) ?_ ?_
      · intro h26; exfalso; omega
      · intro h26
        refine wp_al1 jF_137_129 rfl rfl (pc2 := 130) ?_
        refine wp_il1 jF_137_130 rfl rfl (pc2 := 131) ?_
        refine wp_il2 jF_137_131 rfl rfl (pc2 := 133) ?_
        refine wp_ic jF_137_133 rfl (pc2 := 134) ?_
        refine wp_il2 jF_137_134 rfl rfl (pc2 := 136) ?_
        refine wp_il2 jF_137_136 rfl rfl (pc2 := 138) ?_
        refine wp_cV (as := [iV bs, iV (z3 + z7), iV 2, iV z14, iV z21]) (rest := []) (a := 93) (mx := 6) (ci := 5) jF_137_138 kd93 (by decide) rfl rfl rfl rfl rfl (by omega) (by omega) rfl (pc2 := 141) ?_
        refine wp_use (m_134_r93 σ hg bs (by omega) (by omega) (z3 + z7) (by omega) (by omega) 2 (by omega) (by omega) z14 (by omega) (by omega) z21 (by omega) (by omega)  _ _ (by omega) (by omega)) ?_
        rintro _ τ27 ⟨rfl, g28, f29⟩
        show WP 137 141 [(0, .ref 93), (1, iV one), (2, iV an), (3, iV bs), (4, iV (z3 + z7)), (5, iV z14), (6, iV z21), (7, iV 1)] [] _ _ _ _
        refine wp_rv jF_137_141 ?_
        exact ⟨rfl, g28, f29⟩
    · intro h25
      refine wp_al1 jF_137_66 rfl rfl (pc2 := 67) ?_
      refine wp_gr (b := 101) jF_137_67 kd93 (by decide) (c := 201) rfl rfl rfl (pc2 := 70) ?_
      refine wp_il1 jF_137_70 rfl rfl (pc2 := 71) ?_
      refine wp_ic jF_137_71 rfl (pc2 := 72) ?_
      refine wp_add jF_137_72 rfl (pc2 := 73) ?_
      have b30 := GI.b hg 101 (bs + 1).toNat kd101 (lo := (-2147483648)) (hi := 2147483647) rfl
      refine wp_iald (n := 8) (e := (σ.1 101 (bs + 1).toNat)) jF_137_73 kd101 (by decide) rfl rfl (by omega) (by omega) rfl rfl (pc2 := 74) ?_
      refine wp_ic jF_137_74 rfl (pc2 := 75) ?_
      refine wp_i_ne jF_137_75 (m_rgb b30 rfl) (m_rgl rfl) rfl (pc2 := 78) ?_ ?_
      · intro h31
        refine wp_il2 jF_137_124 rfl rfl (pc2 := 126) ?_
        refine wp_z_eq jF_137_126 (m_rgl rfl) rfl (pc2 := 129) ?_ ?_
        · intro h32; exfalso; omega
        · intro h32
          refine wp_al1 jF_137_129 rfl rfl (pc2 := 130) ?_
          refine wp_il1 jF_137_130 rfl rfl (pc2 := 131) ?_
          refine wp_il2 jF_137_131 rfl rfl (pc2 := 133) ?_
          refine wp_ic jF_137_133 rfl (pc2 := 134) ?_
          refine wp_il2 jF_137_134 rfl rfl (pc2 := 136) ?_
          refine wp_il2 jF_137_136 rfl rfl (pc2 := 138) ?_
          refine wp_cV (as := [iV bs, iV (z3 + z7), iV 2, iV z14, iV z21]) (rest := []) (a := 93) (mx := 6) (ci := 5) jF_137_138 kd93 (by decide) rfl rfl rfl rfl rfl (by omega) (by omega) rfl (pc2 := 141) ?_
          refine wp_use (m_134_r93 σ hg bs (by omega) (by omega) (z3 + z7) (by omega) (by omega) 2 (by omega) (by omega) z14 (by omega) (by omega) z21 (by omega) (by omega)  _ _ (by omega) (by omega)) ?_
          rintro _ τ33 ⟨rfl, g34, f35⟩
          show WP 137 141 [(0, .ref 93), (1, iV one), (2, iV an), (3, iV bs), (4, iV (z3 + z7)), (5, iV z14), (6, iV z21), (7, iV 1)] [] _ _ _ _
          refine wp_rv jF_137_141 ?_
          exact ⟨rfl, g34, f35⟩
      · intro h31
        refine wp_il2 jF_137_78 rfl rfl (pc2 := 80) ?_
        refine wp_al1 jF_137_80 rfl rfl (pc2 := 81) ?_
        refine wp_gr (b := 101) jF_137_81 kd93 (by decide) (c := 201) rfl rfl rfl (pc2 := 84) ?_
        refine wp_il1 jF_137_84 rfl rfl (pc2 := 85) ?_
        refine wp_ic jF_137_85 rfl (pc2 := 86) ?_
        refine wp_add jF_137_86 rfl (pc2 := 87) ?_
        have b36 := GI.b hg 101 (bs + 2).toNat kd101 (lo := (-2147483648)) (hi := 2147483647) rfl
        refine wp_iald (n := 8) (e := (σ.1 101 (bs + 2).toNat)) jF_137_87 kd101 (by decide) rfl rfl (by omega) (by omega) rfl rfl (pc2 := 88) ?_
        refine wp_i_lt jF_137_88 (m_rgb h15 rfl) (m_rgb b36 rfl) rfl (pc2 := 91) ?_ ?_
        · intro h37
          refine wp_ic jF_137_117 rfl (pc2 := 118) ?_
          refine wp_go jF_137_118 ?_
          refine wp_is2 (lv2 := [(0, .ref 93), (1, iV one), (2, iV an), (3, iV bs), (4, iV (z3 + z7)), (5, iV z14), (6, iV z21), (7, iV 1)]) jF_137_122 rfl rfl rfl (pc2 := 124) ?_
          refine wp_il2 jF_137_124 rfl rfl (pc2 := 126) ?_
          refine wp_z_eq jF_137_126 (m_rgl rfl) rfl (pc2 := 129) ?_ ?_
          · intro h38; exfalso; omega
          · intro h38
            refine wp_al1 jF_137_129 rfl rfl (pc2 := 130) ?_
            refine wp_il1 jF_137_130 rfl rfl (pc2 := 131) ?_
            refine wp_il2 jF_137_131 rfl rfl (pc2 := 133) ?_
            refine wp_ic jF_137_133 rfl (pc2 := 134) ?_
            refine wp_il2 jF_137_134 rfl rfl (pc2 := 136) ?_
            refine wp_il2 jF_137_136 rfl rfl (pc2 := 138) ?_
            refine wp_cV (as := [iV bs, iV (z3 + z7), iV 2, iV z14, iV z21]) (rest := []) (a := 93) (mx := 6) (ci := 5) jF_137_138 kd93 (by decide) rfl rfl rfl rfl rfl (by omega) (by omega) rfl (pc2 := 141) ?_
            refine wp_use (m_134_r93 σ hg bs (by omega) (by omega) (z3 + z7) (by omega) (by omega) 2 (by omega) (by omega) z14 (by omega) (by omega) z21 (by omega) (by omega)  _ _ (by omega) (by omega)) ?_
            rintro _ τ39 ⟨rfl, g40, f41⟩
            show WP 137 141 [(0, .ref 93), (1, iV one), (2, iV an), (3, iV bs), (4, iV (z3 + z7)), (5, iV z14), (6, iV z21), (7, iV 1)] [] _ _ _ _
            refine wp_rv jF_137_141 ?_
            exact ⟨rfl, g40, f41⟩
        · intro h37
          refine wp_il2 jF_137_91 rfl rfl (pc2 := 93) ?_
          refine wp_al1 jF_137_93 rfl rfl (pc2 := 94) ?_
          refine wp_gr (b := 101) jF_137_94 kd93 (by decide) (c := 201) rfl rfl rfl (pc2 := 97) ?_
          refine wp_il1 jF_137_97 rfl rfl (pc2 := 98) ?_
          refine wp_ic jF_137_98 rfl (pc2 := 99) ?_
          refine wp_add jF_137_99 rfl (pc2 := 100) ?_
          refine wp_iald (n := 8) (e := (σ.1 101 (bs + 2).toNat)) jF_137_100 kd101 (by decide) rfl rfl (by omega) (by omega) rfl rfl (pc2 := 101) ?_
          refine wp_i_ne jF_137_101 (m_rgb h15 rfl) (m_rgb b36 rfl) rfl (pc2 := 104) ?_ ?_
          · intro h42
            refine wp_ic jF_137_121 rfl (pc2 := 122) ?_
            refine wp_is2 (lv2 := [(0, .ref 93), (1, iV one), (2, iV an), (3, iV bs), (4, iV (z3 + z7)), (5, iV z14), (6, iV z21), (7, iV 0)]) jF_137_122 rfl rfl rfl (pc2 := 124) ?_
            refine wp_il2 jF_137_124 rfl rfl (pc2 := 126) ?_
            refine wp_z_eq jF_137_126 (m_rgl rfl) rfl (pc2 := 129) ?_ ?_
            · intro h43
              refine wp_rv jF_137_141 ?_
              exact ⟨rfl, hg, FR.rf⟩
            · intro h43; exfalso; omega
          · intro h42
            refine wp_il2 jF_137_104 rfl rfl (pc2 := 106) ?_
            refine wp_al1 jF_137_106 rfl rfl (pc2 := 107) ?_
            refine wp_gr (b := 101) jF_137_107 kd93 (by decide) (c := 201) rfl rfl rfl (pc2 := 110) ?_
            refine wp_il1 jF_137_110 rfl rfl (pc2 := 111) ?_
            refine wp_ic jF_137_111 rfl (pc2 := 112) ?_
            refine wp_add jF_137_112 rfl (pc2 := 113) ?_
            have b44 := GI.b hg 101 (bs + 3).toNat kd101 (lo := (-2147483648)) (hi := 2147483647) rfl
            refine wp_iald (n := 8) (e := (σ.1 101 (bs + 3).toNat)) jF_137_113 kd101 (by decide) rfl rfl (by omega) (by omega) rfl rfl (pc2 := 114) ?_
            refine wp_i_ge jF_137_114 (m_rgb h22 rfl) (m_rgb b44 rfl) rfl (pc2 := 117) ?_ ?_
            · intro h45
              refine wp_ic jF_137_121 rfl (pc2 := 122) ?_
              refine wp_is2 (lv2 := [(0, .ref 93), (1, iV one), (2, iV an), (3, iV bs), (4, iV (z3 + z7)), (5, iV z14), (6, iV z21), (7, iV 0)]) jF_137_122 rfl rfl rfl (pc2 := 124) ?_
              refine wp_il2 jF_137_124 rfl rfl (pc2 := 126) ?_
              refine wp_z_eq jF_137_126 (m_rgl rfl) rfl (pc2 := 129) ?_ ?_
              · intro h46
                refine wp_rv jF_137_141 ?_
                exact ⟨rfl, hg, FR.rf⟩
              · intro h46; exfalso; omega
            · intro h45
              refine wp_ic jF_137_117 rfl (pc2 := 118) ?_
              refine wp_go jF_137_118 ?_
              refine wp_is2 (lv2 := [(0, .ref 93), (1, iV one), (2, iV an), (3, iV bs), (4, iV (z3 + z7)), (5, iV z14), (6, iV z21), (7, iV 1)]) jF_137_122 rfl rfl rfl (pc2 := 124) ?_
              refine wp_il2 jF_137_124 rfl rfl (pc2 := 126) ?_
              refine wp_z_eq jF_137_126 (m_rgl rfl) rfl (pc2 := 129) ?_ ?_
              · intro h47; exfalso; omega
              · intro h47
                refine wp_al1 jF_137_129 rfl rfl (pc2 := 130) ?_
                refine wp_il1 jF_137_130 rfl rfl (pc2 := 131) ?_
                refine wp_il2 jF_137_131 rfl rfl (pc2 := 133) ?_
                refine wp_ic jF_137_133 rfl (pc2 := 134) ?_
                refine wp_il2 jF_137_134 rfl rfl (pc2 := 136) ?_
                refine wp_il2 jF_137_136 rfl rfl (pc2 := 138) ?_
                refine wp_cV (as := [iV bs, iV (z3 + z7), iV 2, iV z14, iV z21]) (rest := []) (a := 93) (mx := 6) (ci := 5) jF_137_138 kd93 (by decide) rfl rfl rfl rfl rfl (by omega) (by omega) rfl (pc2 := 141) ?_
                refine wp_use (m_134_r93 σ hg bs (by omega) (by omega) (z3 + z7) (by omega) (by omega) 2 (by omega) (by omega) z14 (by omega) (by omega) z21 (by omega) (by omega)  _ _ (by omega) (by omega)) ?_
                rintro _ τ48 ⟨rfl, g49, f50⟩
                show WP 137 141 [(0, .ref 93), (1, iV one), (2, iV an), (3, iV bs), (4, iV (z3 + z7)), (5, iV z14), (6, iV z21), (7, iV 1)] [] _ _ _ _
                refine wp_rv jF_137_141 ?_
                exact ⟨rfl, g49, f50⟩
  · intro h24
    refine wp_il2 jF_137_37 rfl rfl (pc2 := 39) ?_
    refine wp_al1 jF_137_39 rfl rfl (pc2 := 40) ?_
    refine wp_gr (b := 101) jF_137_40 kd93 (by decide) (c := 201) rfl rfl rfl (pc2 := 43) ?_
    refine wp_il1 jF_137_43 rfl rfl (pc2 := 44) ?_
    refine wp_iald (n := 8) (e := (σ.1 101 bs.toNat)) jF_137_44 kd101 (by decide) rfl rfl (by omega) (by omega) rfl rfl (pc2 := 45) ?_
    refine wp_i_ge jF_137_45 ⟨by omega, by omega⟩ (m_rgb b23 rfl) rfl (pc2 := 48) ?_ ?_
    · intro h51
      refine wp_ic jF_137_52 rfl (pc2 := 53) ?_
      refine wp_is2 (lv2 := [(0, .ref 93), (1, iV one), (2, iV an), (3, iV bs), (4, iV (z3 + z7)), (5, iV z14), (6, iV z21), (7, iV 0)]) jF_137_53 rfl rfl rfl (pc2 := 55) ?_
      refine wp_il2 jF_137_55 rfl rfl (pc2 := 57) ?_
      refine wp_al1 jF_137_57 rfl rfl (pc2 := 58) ?_
      refine wp_gr (b := 101) jF_137_58 kd93 (by decide) (c := 201) rfl rfl rfl (pc2 := 61) ?_
      refine wp_il1 jF_137_61 rfl rfl (pc2 := 62) ?_
      refine wp_iald (n := 8) (e := (σ.1 101 bs.toNat)) jF_137_62 kd101 (by decide) rfl rfl (by omega) (by omega) rfl rfl (pc2 := 63) ?_
      refine wp_i_ne jF_137_63 ⟨by omega, by omega⟩ (m_rgb b23 rfl) rfl (pc2 := 66) ?_ ?_
      · intro h52
        refine wp_il2 jF_137_124 rfl rfl (pc2 := 126) ?_
        refine wp_z_eq jF_137_126 (m_rgl rfl) rfl (pc2 := 129) ?_ ?_
        · intro h53
          refine wp_rv jF_137_141 ?_
          exact ⟨rfl, hg, FR.rf⟩
        · intro h53; exfalso; omega
      · intro h52
        refine wp_al1 jF_137_66 rfl rfl (pc2 := 67) ?_
        refine wp_gr (b := 101) jF_137_67 kd93 (by decide) (c := 201) rfl rfl rfl (pc2 := 70) ?_
        refine wp_il1 jF_137_70 rfl rfl (pc2 := 71) ?_
        refine wp_ic jF_137_71 rfl (pc2 := 72) ?_
        refine wp_add jF_137_72 rfl (pc2 := 73) ?_
        have b54 := GI.b hg 101 (bs + 1).toNat kd101 (lo := (-2147483648)) (hi := 2147483647) rfl
        refine wp_iald (n := 8) (e := (σ.1 101 (bs + 1).toNat)) jF_137_73 kd101 (by decide) rfl rfl (by omega) (by omega) rfl rfl (pc2 := 74) ?_
        refine wp_ic jF_137_74 rfl (pc2 := 75) ?_
        refine wp_i_ne jF_137_75 (m_rgb b54 rfl) (m_rgl rfl) rfl (pc2 := 78) ?_ ?_
        · intro h55
          refine wp_il2 jF_137_124 rfl rfl (pc2 := 126) ?_
          refine wp_z_eq jF_137_126 (m_rgl rfl) rfl (pc2 := 129) ?_ ?_
          · intro h56
            refine wp_rv jF_137_141 ?_
            exact ⟨rfl, hg, FR.rf⟩
          · intro h56; exfalso; omega
        · intro h55
          refine wp_il2 jF_137_78 rfl rfl (pc2 := 80) ?_
          refine wp_al1 jF_137_80 rfl rfl (pc2 := 81) ?_
          refine wp_gr (b := 101) jF_137_81 kd93 (by decide) (c := 201) rfl rfl rfl (pc2 := 84) ?_
          refine wp_il1 jF_137_84 rfl rfl (pc2 := 85) ?_
          refine wp_ic jF_137_85 rfl (pc2 := 86) ?_
          refine wp_add jF_137_86 rfl (pc2 := 87) ?_
          have b57 := GI.b hg 101 (bs + 2).toNat kd101 (lo := (-2147483648)) (hi := 2147483647) rfl
          refine wp_iald (n := 8) (e := (σ.1 101 (bs + 2).toNat)) jF_137_87 kd101 (by decide) rfl rfl (by omega) (by omega) rfl rfl (pc2 := 88) ?_
          refine wp_i_lt jF_137_88 (m_rgb h15 rfl) (m_rgb b57 rfl) rfl (pc2 := 91) ?_ ?_
          · intro h58
            refine wp_ic jF_137_117 rfl (pc2 := 118) ?_
            refine wp_go jF_137_118 ?_
            refine wp_is2 (lv2 := [(0, .ref 93), (1, iV one), (2, iV an), (3, iV bs), (4, iV (z3 + z7)), (5, iV z14), (6, iV z21), (7, iV 1)]) jF_137_122 rfl rfl rfl (pc2 := 124) ?_
            refine wp_il2 jF_137_124 rfl rfl (pc2 := 126) ?_
            refine wp_z_eq jF_137_126 (m_rgl rfl) rfl (pc2 := 129) ?_ ?_
            · intro h59; exfalso; omega
            · intro h59
              refine wp_al1 jF_137_129 rfl rfl (pc2 := 130) ?_
              refine wp_il1 jF_137_130 rfl rfl (pc2 := 131) ?_
              refine wp_il2 jF_137_131 rfl rfl (pc2 := 133) ?_
              refine wp_ic jF_137_133 rfl (pc2 := 134) ?_
              refine wp_il2 jF_137_134 rfl rfl (pc2 := 136) ?_
              refine wp_il2 jF_137_136 rfl rfl (pc2 := 138) ?_
              refine wp_cV (as := [iV bs, iV (z3 + z7), iV 2, iV z14, iV z21]) (rest := []) (a := 93) (mx := 6) (ci := 5) jF_137_138 kd93 (by decide) rfl rfl rfl rfl rfl (by omega) (by omega) rfl (pc2 := 141) ?_
              refine wp_use (m_134_r93 σ hg bs (by omega) (by omega) (z3 + z7) (by omega) (by omega) 2 (by omega) (by omega) z14 (by omega) (by omega) z21 (by omega) (by omega)  _ _ (by omega) (by omega)) ?_
              rintro _ τ60 ⟨rfl, g61, f62⟩
              show WP 137 141 [(0, .ref 93), (1, iV one), (2, iV an), (3, iV bs), (4, iV (z3 + z7)), (5, iV z14), (6, iV z21), (7, iV 1)] [] _ _ _ _
              refine wp_rv jF_137_141 ?_
              exact ⟨rfl, g61, f62⟩
          · intro h58
            refine wp_il2 jF_137_91 rfl rfl (pc2 := 93) ?_
            refine wp_al1 jF_137_93 rfl rfl (pc2 := 94) ?_
            refine wp_gr (b := 101) jF_137_94 kd93 (by decide) (c := 201) rfl rfl rfl (pc2 := 97) ?_
            refine wp_il1 jF_137_97 rfl rfl (pc2 := 98) ?_
            refine wp_ic jF_137_98 rfl (pc2 := 99) ?_
            refine wp_add jF_137_99 rfl (pc2 := 100) ?_
            refine wp_iald (n := 8) (e := (σ.1 101 (bs + 2).toNat)) jF_137_100 kd101 (by decide) rfl rfl (by omega) (by omega) rfl rfl (pc2 := 101) ?_
            refine wp_i_ne jF_137_101 (m_rgb h15 rfl) (m_rgb b57 rfl) rfl (pc2 := 104) ?_ ?_
            · intro h63
              refine wp_ic jF_137_121 rfl (pc2 := 122) ?_
              refine wp_is2 (lv2 := [(0, .ref 93), (1, iV one), (2, iV an), (3, iV bs), (4, iV (z3 + z7)), (5, iV z14), (6, iV z21), (7, iV 0)]) jF_137_122 rfl rfl rfl (pc2 := 124) ?_
              refine wp_il2 jF_137_124 rfl rfl (pc2 := 126) ?_
              refine wp_z_eq jF_137_126 (m_rgl rfl) rfl (pc2 := 129) ?_ ?_
              · intro h64
                refine wp_rv jF_137_141 ?_
                exact ⟨rfl, hg, FR.rf⟩
              · intro h64; exfalso; omega
            · intro h63
              refine wp_il2 jF_137_104 rfl rfl (pc2 := 106) ?_
              refine wp_al1 jF_137_106 rfl rfl (pc2 := 107) ?_
              refine wp_gr (b := 101) jF_137_107 kd93 (by decide) (c := 201) rfl rfl rfl (pc2 := 110) ?_
              refine wp_il1 jF_137_110 rfl rfl (pc2 := 111) ?_
              refine wp_ic jF_137_111 rfl (pc2 := 112) ?_
              refine wp_add jF_137_112 rfl (pc2 := 113) ?_
              have b65 := GI.b hg 101 (bs + 3).toNat kd101 (lo := (-2147483648)) (hi := 2147483647) rfl
              refine wp_iald (n := 8) (e := (σ.1 101 (bs + 3).toNat)) jF_137_113 kd101 (by decide) rfl rfl (by omega) (by omega) rfl rfl (pc2 := 114) ?_
              refine wp_i_ge jF_137_114 (m_rgb h22 rfl) (m_rgb b65 rfl) rfl (pc2 := 117) ?_ ?_
              · intro h66
                refine wp_ic jF_137_121 rfl (pc2 := 122) ?_
                refine wp_is2 (lv2 := [(0, .ref 93), (1, iV one), (2, iV an), (3, iV bs), (4, iV (z3 + z7)), (5, iV z14), (6, iV z21), (7, iV 0)]) jF_137_122 rfl rfl rfl (pc2 := 124) ?_
                refine wp_il2 jF_137_124 rfl rfl (pc2 := 126) ?_
                refine wp_z_eq jF_137_126 (m_rgl rfl) rfl (pc2 := 129) ?_ ?_
                · intro h67
                  refine wp_rv jF_137_141 ?_
                  exact ⟨rfl, hg, FR.rf⟩
                · intro h67; exfalso; omega
              · intro h66
                refine wp_ic jF_137_117 rfl (pc2 := 118) ?_
                refine wp_go jF_137_118 ?_
                refine wp_is2 (lv2 := [(0, .ref 93), (1, iV one), (2, iV an), (3, iV bs), (4, iV (z3 + z7)), (5, iV z14), (6, iV z21), (7, iV 1)]) jF_137_122 rfl rfl rfl (pc2 := 124) ?_
                refine wp_il2 jF_137_124 rfl rfl (pc2 := 126) ?_
                refine wp_z_eq jF_137_126 (m_rgl rfl) rfl (pc2 := 129) ?_ ?_
                · intro h68; exfalso; omega
                · intro h68
                  refine wp_al1 jF_137_129 rfl rfl (pc2 := 130) ?_
                  refine wp_il1 jF_137_130 rfl rfl (pc2 := 131) ?_
                  refine wp_il2 jF_137_131 rfl rfl (pc2 := 133) ?_
                  refine wp_ic jF_137_133 rfl (pc2 := 134) ?_
                  refine wp_il2 jF_137_134 rfl rfl (pc2 := 136) ?_
                  refine wp_il2 jF_137_136 rfl rfl (pc2 := 138) ?_
                  refine wp_cV (as := [iV bs, iV (z3 + z7), iV 2, iV z14, iV z21]) (rest := []) (a := 93) (mx := 6) (ci := 5) jF_137_138 kd93 (by decide) rfl rfl rfl rfl rfl (by omega) (by omega) rfl (pc2 := 141) ?_
                  refine wp_use (m_134_r93 σ hg bs (by omega) (by omega) (z3 + z7) (by omega) (by omega) 2 (by omega) (by omega) z14 (by omega) (by omega) z21 (by omega) (by omega)  _ _ (by omega) (by omega)) ?_
                  rintro _ τ69 ⟨rfl, g70, f71⟩
                  show WP 137 141 [(0, .ref 93), (1, iV one), (2, iV an), (3, iV bs), (4, iV (z3 + z7)), (5, iV z14), (6, iV z21), (7, iV 1)] [] _ _ _ _
                  refine wp_rv jF_137_141 ?_
                  exact ⟨rfl, g70, f71⟩
    · intro h51
      refine wp_ic jF_137_48 rfl (pc2 := 49) ?_
      refine wp_go jF_137_49 ?_
      refine wp_is2 (lv2 := [(0, .ref 93), (1, iV one), (2, iV an), (3, iV bs), (4, iV (z3 + z7)), (5, iV z14), (6, iV z21), (7, iV 1)]) jF_137_53 rfl rfl rfl (pc2 := 55) ?_
      refine wp_il2 jF_137_55 rfl rfl (pc2 := 57) ?_
      refine wp_al1 jF_137_57 rfl rfl (pc2 := 58) ?_
      refine wp_gr (b := 101) jF_137_58 kd93 (by decide) (c := 201) rfl rfl rfl (pc2 := 61) ?_
      refine wp_il1 jF_137_61 rfl rfl (pc2 := 62) ?_
      refine wp_iald (n := 8) (e := (σ.1 101 bs.toNat)) jF_137_62 kd101 (by decide) rfl rfl (by omega) (by omega) rfl rfl (pc2 := 63) ?_
      refine wp_i_ne jF_137_63 ⟨by omega, by omega⟩ (m_rgb b23 rfl) rfl (pc2 := 66) ?_ ?_
      · intro h72
        refine wp_il2 jF_137_124 rfl rfl (pc2 := 126) ?_
        refine wp_z_eq jF_137_126 (m_rgl rfl) rfl (pc2 := 129) ?_ ?_
        · intro h73; exfalso; omega
        · intro h73
          refine wp_al1 jF_137_129 rfl rfl (pc2 := 130) ?_
          refine wp_il1 jF_137_130 rfl rfl (pc2 := 131) ?_
          refine wp_il2 jF_137_131 rfl rfl (pc2 := 133) ?_
          refine wp_ic jF_137_133 rfl (pc2 := 134) ?_
          refine wp_il2 jF_137_134 rfl rfl (pc2 := 136) ?_
          refine wp_il2 jF_137_136 rfl rfl (pc2 := 138) ?_
          refine wp_cV (as := [iV bs, iV (z3 + z7), iV 2, iV z14, iV z21]) (rest := []) (a := 93) (mx := 6) (ci := 5) jF_137_138 kd93 (by decide) rfl rfl rfl rfl rfl (by omega) (by omega) rfl (pc2 := 141) ?_
          refine wp_use (m_134_r93 σ hg bs (by omega) (by omega) (z3 + z7) (by omega) (by omega) 2 (by omega) (by omega) z14 (by omega) (by omega) z21 (by omega) (by omega)  _ _ (by omega) (by omega)) ?_
          rintro _ τ74 ⟨rfl, g75, f76⟩
          show WP 137 141 [(0, .ref 93), (1, iV one), (2, iV an), (3, iV bs), (4, iV (z3 + z7)), (5, iV z14), (6, iV z21), (7, iV 1)] [] _ _ _ _
          refine wp_rv jF_137_141 ?_
          exact ⟨rfl, g75, f76⟩
      · intro h72
        refine wp_al1 jF_137_66 rfl rfl (pc2 := 67) ?_
        refine wp_gr (b := 101) jF_137_67 kd93 (by decide) (c := 201) rfl rfl rfl (pc2 := 70) ?_
        refine wp_il1 jF_137_70 rfl rfl (pc2 := 71) ?_
        refine wp_ic jF_137_71 rfl (pc2 := 72) ?_
        refine wp_add jF_137_72 rfl (pc2 := 73) ?_
        have b77 := GI.b hg 101 (bs + 1).toNat kd101 (lo := (-2147483648)) (hi := 2147483647) rfl
        refine wp_iald (n := 8) (e := (σ.1 101 (bs + 1).toNat)) jF_137_73 kd101 (by decide) rfl rfl (by omega) (by omega) rfl rfl (pc2 := 74) ?_
        refine wp_ic jF_137_74 rfl (pc2 := 75) ?_
        refine wp_i_ne jF_137_75 (m_rgb b77 rfl) (m_rgl rfl) rfl (pc2 := 78) ?_ ?_
        · intro h78
          refine wp_il2 jF_137_124 rfl rfl (pc2 := 126) ?_
          refine wp_z_eq jF_137_126 (m_rgl rfl) rfl (pc2 := 129) ?_ ?_
          · intro h79; exfalso; omega
          · intro h79
            refine wp_al1 jF_137_129 rfl rfl (pc2 := 130) ?_
            refine wp_il1 jF_137_130 rfl rfl (pc2 := 131) ?_
            refine wp_il2 jF_137_131 rfl rfl (pc2 := 133) ?_
            refine wp_ic jF_137_133 rfl (pc2 := 134) ?_
            refine wp_il2 jF_137_134 rfl rfl (pc2 := 136) ?_
            refine wp_il2 jF_137_136 rfl rfl (pc2 := 138) ?_
            refine wp_cV (as := [iV bs, iV (z3 + z7), iV 2, iV z14, iV z21]) (rest := []) (a := 93) (mx := 6) (ci := 5) jF_137_138 kd93 (by decide) rfl rfl rfl rfl rfl (by omega) (by omega) rfl (pc2 := 141) ?_
            refine wp_use (m_134_r93 σ hg bs (by omega) (by omega) (z3 + z7) (by omega) (by omega) 2 (by omega) (by omega) z14 (by omega) (by omega) z21 (by omega) (by omega)  _ _ (by omega) (by omega)) ?_
            rintro _ τ80 ⟨rfl, g81, f82⟩
            show WP 137 141 [(0, .ref 93), (1, iV one), (2, iV an), (3, iV bs), (4, iV (z3 + z7)), (5, iV z14), (6, iV z21), (7, iV 1)] [] _ _ _ _
            refine wp_rv jF_137_141 ?_
            exact ⟨rfl, g81, f82⟩
        · intro h78
          refine wp_il2 jF_137_78 rfl rfl (pc2 := 80) ?_
          refine wp_al1 jF_137_80 rfl rfl (pc2 := 81) ?_
          refine wp_gr (b := 101) jF_137_81 kd93 (by decide) (c := 201) rfl rfl rfl (pc2 := 84) ?_
          refine wp_il1 jF_137_84 rfl rfl (pc2 := 85) ?_
          refine wp_ic jF_137_85 rfl (pc2 := 86) ?_
          refine wp_add jF_137_86 rfl (pc2 := 87) ?_
          have b83 := GI.b hg 101 (bs + 2).toNat kd101 (lo := (-2147483648)) (hi := 2147483647) rfl
          refine wp_iald (n := 8) (e := (σ.1 101 (bs + 2).toNat)) jF_137_87 kd101 (by decide) rfl rfl (by omega) (by omega) rfl rfl (pc2 := 88) ?_
          refine wp_i_lt jF_137_88 (m_rgb h15 rfl) (m_rgb b83 rfl) rfl (pc2 := 91) ?_ ?_
          · intro h84
            refine wp_ic jF_137_117 rfl (pc2 := 118) ?_
            refine wp_go jF_137_118 ?_
            refine wp_is2 (lv2 := [(0, .ref 93), (1, iV one), (2, iV an), (3, iV bs), (4, iV (z3 + z7)), (5, iV z14), (6, iV z21), (7, iV 1)]) jF_137_122 rfl rfl rfl (pc2 := 124) ?_
            refine wp_il2 jF_137_124 rfl rfl (pc2 := 126) ?_
            refine wp_z_eq jF_137_126 (m_rgl rfl) rfl (pc2 := 129) ?_ ?_
            · intro h85; exfalso; omega
            · intro h85
              refine wp_al1 jF_137_129 rfl rfl (pc2 := 130) ?_
              refine wp_il1 jF_137_130 rfl rfl (pc2 := 131) ?_
              refine wp_il2 jF_137_131 rfl rfl (pc2 := 133) ?_
              refine wp_ic jF_137_133 rfl (pc2 := 134) ?_
              refine wp_il2 jF_137_134 rfl rfl (pc2 := 136) ?_
              refine wp_il2 jF_137_136 rfl rfl (pc2 := 138) ?_
              refine wp_cV (as := [iV bs, iV (z3 + z7), iV 2, iV z14, iV z21]) (rest := []) (a := 93) (mx := 6) (ci := 5) jF_137_138 kd93 (by decide) rfl rfl rfl rfl rfl (by omega) (by omega) rfl (pc2 := 141) ?_
              refine wp_use (m_134_r93 σ hg bs (by omega) (by omega) (z3 + z7) (by omega) (by omega) 2 (by omega) (by omega) z14 (by omega) (by omega) z21 (by omega) (by omega)  _ _ (by omega) (by omega)) ?_
              rintro _ τ86 ⟨rfl, g87, f88⟩
              show WP 137 141 [(0, .ref 93), (1, iV one), (2, iV an), (3, iV bs), (4, iV (z3 + z7)), (5, iV z14), (6, iV z21), (7, iV 1)] [] _ _ _ _
              refine wp_rv jF_137_141 ?_
              exact ⟨rfl, g87, f88⟩
          · intro h84
            refine wp_il2 jF_137_91 rfl rfl (pc2 := 93) ?_
            refine wp_al1 jF_137_93 rfl rfl (pc2 := 94) ?_
            refine wp_gr (b := 101) jF_137_94 kd93 (by decide) (c := 201) rfl rfl rfl (pc2 := 97) ?_
            refine wp_il1 jF_137_97 rfl rfl (pc2 := 98) ?_
            refine wp_ic jF_137_98 rfl (pc2 := 99) ?_
            refine wp_add jF_137_99 rfl (pc2 := 100) ?_
            refine wp_iald (n := 8) (e := (σ.1 101 (bs + 2).toNat)) jF_137_100 kd101 (by decide) rfl rfl (by omega) (by omega) rfl rfl (pc2 := 101) ?_
            refine wp_i_ne jF_137_101 (m_rgb h15 rfl) (m_rgb b83 rfl) rfl (pc2 := 104) ?_ ?_
            · intro h89
              refine wp_ic jF_137_121 rfl (pc2 := 122) ?_
              refine wp_is2 (lv2 := [(0, .ref 93), (1, iV one), (2, iV an), (3, iV bs), (4, iV (z3 + z7)), (5, iV z14), (6, iV z21), (7, iV 0)]) jF_137_122 rfl rfl rfl (pc2 := 124) ?_
              refine wp_il2 jF_137_124 rfl rfl (pc2 := 126) ?_
              refine wp_z_eq jF_137_126 (m_rgl rfl) rfl (pc2 := 129) ?_ ?_
              · intro h90
                refine wp_rv jF_137_141 ?_
                exact ⟨rfl, hg, FR.rf⟩
              · intro h90; exfalso; omega
            · intro h89
              refine wp_il2 jF_137_104 rfl rfl (pc2 := 106) ?_
              refine wp_al1 jF_137_106 rfl rfl (pc2 := 107) ?_
              refine wp_gr (b := 101) jF_137_107 kd93 (by decide) (c := 201) rfl rfl rfl (pc2 := 110) ?_
              refine wp_il1 jF_137_110 rfl rfl (pc2 := 111) ?_
              refine wp_ic jF_137_111 rfl (pc2 := 112) ?_
              refine wp_add jF_137_112 rfl (pc2 := 113) ?_
              have b91 := GI.b hg 101 (bs + 3).toNat kd101 (lo := (-2147483648)) (hi := 2147483647) rfl
              refine wp_iald (n := 8) (e := (σ.1 101 (bs + 3).toNat)) jF_137_113 kd101 (by decide) rfl rfl (by omega) (by omega) rfl rfl (pc2 := 114) ?_
              refine wp_i_ge jF_137_114 (m_rgb h22 rfl) (m_rgb b91 rfl) rfl (pc2 := 117) ?_ ?_
              · intro h92
                refine wp_ic jF_137_121 rfl (pc2 := 122) ?_
                refine wp_is2 (lv2 := [(0, .ref 93), (1, iV one), (2, iV an), (3, iV bs), (4, iV (z3 + z7)), (5, iV z14), (6, iV z21), (7, iV 0)]) jF_137_122 rfl rfl rfl (pc2 := 124) ?_
                refine wp_il2 jF_137_124 rfl rfl (pc2 := 126) ?_
                refine wp_z_eq jF_137_126 (m_rgl rfl) rfl (pc2 := 129) ?_ ?_
                · intro h93
                  refine wp_rv jF_137_141 ?_
                  exact ⟨rfl, hg, FR.rf⟩
                · intro h93; exfalso; omega
              · intro h92
                refine wp_ic jF_137_117 rfl (pc2 := 118) ?_
                refine wp_go jF_137_118 ?_
                refine wp_is2 (lv2 := [(0, .ref 93), (1, iV one), (2, iV an), (3, iV bs), (4, iV (z3 + z7)), (5, iV z14), (6, iV z21), (7, iV 1)]) jF_137_122 rfl rfl rfl (pc2 := 124) ?_
                refine wp_il2 jF_137_124 rfl rfl (pc2 := 126) ?_
                refine wp_z_eq jF_137_126 (m_rgl rfl) rfl (pc2 := 129) ?_ ?_
                · intro h94; exfalso; omega
                · intro h94
                  refine wp_al1 jF_137_129 rfl rfl (pc2 := 130) ?_
                  refine wp_il1 jF_137_130 rfl rfl (pc2 := 131) ?_
                  refine wp_il2 jF_137_131 rfl rfl (pc2 := 133) ?_
                  refine wp_ic jF_137_133 rfl (pc2 := 134) ?_
                  refine wp_il2 jF_137_134 rfl rfl (pc2 := 136) ?_
                  refine wp_il2 jF_137_136 rfl rfl (pc2 := 138) ?_
                  refine wp_cV (as := [iV bs, iV (z3 + z7), iV 2, iV z14, iV z21]) (rest := []) (a := 93) (mx := 6) (ci := 5) jF_137_138 kd93 (by decide) rfl rfl rfl rfl rfl (by omega) (by omega) rfl (pc2 := 141) ?_
                  refine wp_use (m_134_r93 σ hg bs (by omega) (by omega) (z3 + z7) (by omega) (by omega) 2 (by omega) (by omega) z14 (by omega) (by omega) z21 (by omega) (by omega)  _ _ (by omega) (by omega)) ?_
                  rintro _ τ95 ⟨rfl, g96, f97⟩
                  show WP 137 141 [(0, .ref 93), (1, iV one), (2, iV an), (3, iV bs), (4, iV (z3 + z7)), (5, iV z14), (6, iV z21), (7, iV 1)] [] _ _ _ _
                  refine wp_rv jF_137_141 ?_
                  exact ⟨rfl, g96, f97⟩
set_option maxHeartbeats 4000000 in
set_option maxRecDepth 20000 in
/-- Shorts.gatherWithin -/
theorem m_136_r93 (σ : jM) (hg : GI σ) (goal : Int64)  (fr lo : Nat) (hfr : 0 ≤ fr) (hlo : 0 ≤ lo) : WP 136 0 (lv_args 0 [.ref 93, .long goal]) [] fr lo σ (fun v τ => ∃ z : Int, v = some (iV z) ∧ (0 ≤ z ∧ z ≤ 1752) ∧ GI τ ∧ FR WS σ τ) := by
  show WP 136 0 [(0, .ref 93), (1, .long goal)] [] _ _ _ _
  refine wp_ic jF_136_0 rfl (pc2 := 1) ?_
  refine wp_is1 (lv2 := [(0, .ref 93), (1, .long goal), (3, iV 0)]) jF_136_1 rfl rfl rfl (pc2 := 2) ?_
  refine wp_ic jF_136_2 rfl (pc2 := 3) ?_
  refine wp_is2 (lv2 := [(0, .ref 93), (1, .long goal), (3, iV 0), (4, iV 0)]) jF_136_3 rfl rfl rfl (pc2 := 5) ?_
  refine wp_loop (α := Int × Int) (fun a => [(0, .ref 93), (1, .long goal), (3, iV (a.1)), (4, iV (a.2))]) (fun a τ => (0 ≤ a.1 ∧ a.1 ≤ 1752) ∧ (0 ≤ a.2 ∧ a.2 ≤ 1752) ∧ GI τ ∧ FR WS σ τ ∧ ((a.1) ≤ (a.2))) (fun a τ => Int.toNat (1752 - (a.2))) (0, 0) σ ?_ ?_
  · skip
    exact ⟨⟨by (try dsimp only); omega, by (try dsimp only); omega⟩, ⟨by (try dsimp only); omega, by (try dsimp only); omega⟩, hg, FR.rf, (by (try dsimp only); omega)⟩
  · rintro ⟨x1, x2⟩ τ5 ⟨h3, h4, g6, f7, p8⟩ ih9
    try dsimp only at h3 h4 g6 f7 p8
    show WP 136 5 [(0, .ref 93), (1, .long goal), (3, iV x1), (4, iV x2)] [] _ _ _ _
    show WP 136 5 [(0, .ref 93), (1, .long goal), (3, iV x1), (4, iV x2)] [] _ _ _ _
    refine wp_il2 jF_136_5 rfl rfl (pc2 := 7) ?_
    refine wp_al1 jF_136_7 rfl rfl (pc2 := 8) ?_
    have b10 := GI.b g6 93 10 kd93 (lo := 0) (hi := 1752) rfl
    refine wp_gi jF_136_8 kd93 (by decide) rfl rfl rfl (pc2 := 11) ?_
    refine wp_i_ge jF_136_11 (m_rgb h4 rfl) (m_rgb b10 rfl) rfl (pc2 := 14) ?_ ?_
    · intro h11
      refine wp_il1 jF_136_77 rfl rfl (pc2 := 78) ?_
      refine wp_ri jF_136_78 rfl ?_
      exact ⟨x1, rfl, ⟨by omega, by omega⟩, g6, f7⟩
    · intro h11
      refine wp_al1 jF_136_14 rfl rfl (pc2 := 15) ?_
      refine wp_gr (b := 95) jF_136_15 kd93 (by decide) (c := 195) rfl rfl rfl (pc2 := 18) ?_
      refine wp_al1 jF_136_18 rfl rfl (pc2 := 19) ?_
      refine wp_gr (b := 96) jF_136_19 kd93 (by decide) (c := 196) rfl rfl rfl (pc2 := 22) ?_
      refine wp_il2 jF_136_22 rfl rfl (pc2 := 24) ?_
      have b12 := GI.b g6 96 x2.toNat kd96 (lo := 0) (hi := 1751) rfl
      refine wp_iald (n := 1752) (e := (τ5.1 96 x2.toNat)) jF_136_24 kd96 (by decide) rfl rfl (by omega) (by omega) rfl rfl (pc2 := 25) ?_
      refine wp_lald (n := 1752) jF_136_25 kd95 (by decide) rfl rfl (by omega) (by omega) rfl (pc2 := 26) ?_
      intro y13
      refine wp_ls2 (lv2 := [(0, .ref 93), (1, .long goal), (3, iV x1), (4, iV x2), (5, .long y13)]) jF_136_26 rfl rfl rfl (pc2 := 28) ?_
      refine wp_ll2 jF_136_28 rfl rfl (pc2 := 30) ?_
      refine wp_lc jF_136_30 rfl (pc2 := 31) ?_
      refine wp_anyL (pc2 := 32) jF_136_31 rfl rfl ?_
      intro z14 h15
      refine wp_z_eq jF_136_32 (m_rgb h15 rfl) rfl (pc2 := 35) ?_ ?_
      · intro h16
        refine wp_inc (lv2 := [(0, .ref 93), (1, .long goal), (3, iV x1), (4, iV (x2 + 1)), (5, .long y13)]) jF_136_71 rfl rfl rfl rfl (pc2 := 74) ?_
        refine wp_go jF_136_74 ?_
        refine wp_less [0, 1, 3, 4] (lv2 := [(0, .ref 93), (1, .long goal), (3, iV x1), (4, iV (x2 + 1))]) rfl rfl ?_
        exact ih9 (x1, (x2 + 1)) τ5 ⟨⟨by (try dsimp only); omega, by (try dsimp only); omega⟩, ⟨by (try dsimp only); omega, by (try dsimp only); omega⟩, g6, f7, (by (try dsimp only); omega)⟩ (by show Int.toNat (1752 - (x2 + 1)) < Int.toNat (1752 - x2); omega)
      · intro h16
        refine wp_ll2 jF_136_35 rfl rfl (pc2 := 37) ?_
        refine wp_ll1 jF_136_37 rfl rfl (pc2 := 38) ?_
        refine wp_anyL (pc2 := 39) jF_136_38 rfl rfl ?_
        intro z17 h18
        refine wp_z_eq jF_136_39 (m_rgb h18 rfl) rfl (pc2 := 42) ?_ ?_
        · intro h19
          refine wp_inc (lv2 := [(0, .ref 93), (1, .long goal), (3, iV x1), (4, iV (x2 + 1)), (5, .long y13)]) jF_136_71 rfl rfl rfl rfl (pc2 := 74) ?_
          refine wp_go jF_136_74 ?_
          refine wp_less [0, 1, 3, 4] (lv2 := [(0, .ref 93), (1, .long goal), (3, iV x1), (4, iV (x2 + 1))]) rfl rfl ?_
          exact ih9 (x1, (x2 + 1)) τ5 ⟨⟨by (try dsimp only); omega, by (try dsimp only); omega⟩, ⟨by (try dsimp only); omega, by (try dsimp only); omega⟩, g6, f7, (by (try dsimp only); omega)⟩ (by show Int.toNat (1752 - (x2 + 1)) < Int.toNat (1752 - x2); omega)
        · intro h19
          refine wp_ll2 jF_136_42 rfl rfl (pc2 := 44) ?_
          refine wp_ll1 jF_136_44 rfl rfl (pc2 := 45) ?_
          refine wp_ld jF_136_45 rfl (pc2 := 48) ?_
          refine wp_lng (pc2 := 49) jF_136_48 rfl rfl ?_
          intro y20
          refine wp_lng (pc2 := 50) jF_136_49 rfl rfl ?_
          intro y21
          refine wp_lc jF_136_50 rfl (pc2 := 51) ?_
          refine wp_anyL (pc2 := 52) jF_136_51 rfl rfl ?_
          intro z22 h23
          refine wp_z_ne jF_136_52 (m_rgb h23 rfl) rfl (pc2 := 55) ?_ ?_
          · intro h24
            refine wp_inc (lv2 := [(0, .ref 93), (1, .long goal), (3, iV x1), (4, iV (x2 + 1)), (5, .long y13)]) jF_136_71 rfl rfl rfl rfl (pc2 := 74) ?_
            refine wp_go jF_136_74 ?_
            refine wp_less [0, 1, 3, 4] (lv2 := [(0, .ref 93), (1, .long goal), (3, iV x1), (4, iV (x2 + 1))]) rfl rfl ?_
            exact ih9 (x1, (x2 + 1)) τ5 ⟨⟨by (try dsimp only); omega, by (try dsimp only); omega⟩, ⟨by (try dsimp only); omega, by (try dsimp only); omega⟩, g6, f7, (by (try dsimp only); omega)⟩ (by show Int.toNat (1752 - (x2 + 1)) < Int.toNat (1752 - x2); omega)
          · intro h24
            refine wp_al1 jF_136_55 rfl rfl (pc2 := 56) ?_
            refine wp_gr (b := 98) jF_136_56 kd93 (by decide) (c := 198) rfl rfl rfl (pc2 := 59) ?_
            refine wp_il1 jF_136_59 rfl rfl (pc2 := 60) ?_
            refine wp_al1 jF_136_60 rfl rfl (pc2 := 61) ?_
            refine wp_gr (b := 96) jF_136_61 kd93 (by decide) (c := 196) rfl rfl rfl (pc2 := 64) ?_
            refine wp_il2 jF_136_64 rfl rfl (pc2 := 66) ?_
            refine wp_iald (n := 1752) (e := (τ5.1 96 x2.toNat)) jF_136_66 kd96 (by decide) rfl rfl (by omega) (by omega) rfl rfl (pc2 := 67) ?_
            refine wp_iast (n := 1752) jF_136_67 kd98 (by decide) rfl rfl (by omega) (by omega) rfl (pc2 := 68) g6 (lo := 0) (hi := 1751) rfl (by omega) (by omega) ?_
            intro τ25 g26 f27 e28
            refine wp_inc (lv2 := [(0, .ref 93), (1, .long goal), (3, iV (x1 + 1)), (4, iV x2), (5, .long y13)]) jF_136_68 rfl rfl rfl rfl (pc2 := 71) ?_
            refine wp_inc (lv2 := [(0, .ref 93), (1, .long goal), (3, iV (x1 + 1)), (4, iV (x2 + 1)), (5, .long y13)]) jF_136_71 rfl rfl rfl rfl (pc2 := 74) ?_
            refine wp_go jF_136_74 ?_
            refine wp_less [0, 1, 3, 4] (lv2 := [(0, .ref 93), (1, .long goal), (3, iV (x1 + 1)), (4, iV (x2 + 1))]) rfl rfl ?_
            exact ih9 ((x1 + 1), (x2 + 1)) τ25 ⟨⟨by (try dsimp only); omega, by (try dsimp only); omega⟩, ⟨by (try dsimp only); omega, by (try dsimp only); omega⟩, g26, (FR.w f7 f27 rfl), (by (try dsimp only); omega)⟩ (by show Int.toNat (1752 - (x2 + 1)) < Int.toNat (1752 - x2); omega)
set_option maxHeartbeats 4000000 in
set_option maxRecDepth 20000 in
/-- Shorts.seekPairs -/
theorem m_135_r93 (σ : jM) (hg : GI σ) (goal : Int64) (bs : Int) (hl_bs : 0 ≤ bs) (hu_bs : bs ≤ 4)  (fr lo : Nat) (hfr : 2 ≤ fr) (hlo : 52 ≤ lo) : WP 135 0 (lv_args 0 [.ref 93, .long goal, iV bs]) [] fr lo σ (fun v τ => v = none ∧ GI τ ∧ FR WS σ τ) := by
  show WP 135 0 [(0, .ref 93), (1, .long goal), (3, iV bs)] [] _ _ _ _
  refine wp_al1 jF_135_0 rfl rfl (pc2 := 1) ?_
  refine wp_ll1 jF_135_1 rfl rfl (pc2 := 2) ?_
  refine wp_cV (as := [.long goal]) (rest := []) (a := 93) (mx := 7) (ci := 5) jF_135_2 kd93 (by decide) rfl rfl rfl rfl rfl (by omega) (by omega) rfl (pc2 := 5) ?_
  refine wp_use (m_136_r93 σ hg goal  _ _ (by omega) (by omega)) ?_
  rintro _ τ1 ⟨z4, rfl, h5, g2, f3⟩
  show WP 135 5 [(0, .ref 93), (1, .long goal), (3, iV bs)] [iV z4] _ _ _ _
  refine wp_is2 (lv2 := [(0, .ref 93), (1, .long goal), (3, iV bs), (4, iV z4)]) jF_135_5 rfl rfl rfl (pc2 := 7) ?_
  refine wp_ll1 jF_135_7 rfl rfl (pc2 := 8) ?_
  refine wp_ll1 jF_135_8 rfl rfl (pc2 := 9) ?_
  refine wp_lng (pc2 := 10) jF_135_9 rfl rfl ?_
  intro y6
  refine wp_lng (pc2 := 11) jF_135_10 rfl rfl ?_
  intro y7
  refine wp_ls2 (lv2 := [(0, .ref 93), (1, .long goal), (3, iV bs), (4, iV z4), (5, .long y7)]) jF_135_11 rfl rfl rfl (pc2 := 13) ?_
  refine wp_ic jF_135_13 rfl (pc2 := 14) ?_
  refine wp_is2 (lv2 := [(0, .ref 93), (1, .long goal), (3, iV bs), (4, iV z4), (5, .long y7), (7, iV 0)]) jF_135_14 rfl rfl rfl (pc2 := 16) ?_
  refine wp_loop (α := Int) (fun a => [(0, .ref 93), (1, .long goal), (3, iV bs), (4, iV z4), (5, .long y7), (7, iV (a))]) (fun a τ => (0 ≤ a ∧ a ≤ 1752) ∧ GI τ ∧ FR WS τ1 τ) (fun a τ => Int.toNat (1752 - (a))) (0) τ1 ?_ ?_
  · skip
    exact ⟨⟨by omega, by omega⟩, g2, FR.rf⟩
  · rintro x8 τ10 ⟨h9, g11, f12⟩ ih13
    show WP 135 16 [(0, .ref 93), (1, .long goal), (3, iV bs), (4, iV z4), (5, .long y7), (7, iV x8)] [] _ _ _ _
    show WP 135 16 [(0, .ref 93), (1, .long goal), (3, iV bs), (4, iV z4), (5, .long y7), (7, iV x8)] [] _ _ _ _
    refine wp_il2 jF_135_16 rfl rfl (pc2 := 18) ?_
    refine wp_il2 jF_135_18 rfl rfl (pc2 := 20) ?_
    refine wp_i_ge jF_135_20 (m_rgb h9 rfl) (m_rgb h5 rfl) rfl (pc2 := 23) ?_ ?_
    · intro h14
      refine wp_rv jF_135_121 ?_
      exact ⟨rfl, g11, (FR.up f3 f12 sb_WS_WS)⟩
    · intro h14
      refine wp_ll1 jF_135_23 rfl rfl (pc2 := 24) ?_
      refine wp_al1 jF_135_24 rfl rfl (pc2 := 25) ?_
      refine wp_gr (b := 95) jF_135_25 kd93 (by decide) (c := 195) rfl rfl rfl (pc2 := 28) ?_
      refine wp_al1 jF_135_28 rfl rfl (pc2 := 29) ?_
      refine wp_gr (b := 98) jF_135_29 kd93 (by decide) (c := 198) rfl rfl rfl (pc2 := 32) ?_
      refine wp_il2 jF_135_32 rfl rfl (pc2 := 34) ?_
      have b15 := GI.b g11 98 x8.toNat kd98 (lo := 0) (hi := 1751) rfl
      refine wp_iald (n := 1752) (e := (τ10.1 98 x8.toNat)) jF_135_34 kd98 (by decide) rfl rfl (by omega) (by omega) rfl rfl (pc2 := 35) ?_
      refine wp_lald (n := 1752) jF_135_35 kd95 (by decide) rfl rfl (by omega) (by omega) rfl (pc2 := 36) ?_
      intro y16
      refine wp_ld jF_135_36 rfl (pc2 := 39) ?_
      refine wp_lng (pc2 := 40) jF_135_39 rfl rfl ?_
      intro y17
      refine wp_lng (pc2 := 41) jF_135_40 rfl rfl ?_
      intro y18
      refine wp_ls2 (lv2 := [(0, .ref 93), (1, .long goal), (3, iV bs), (4, iV z4), (5, .long y7), (7, iV x8), (8, .long y18)]) jF_135_41 rfl rfl rfl (pc2 := 43) ?_
      refine wp_ll2 jF_135_43 rfl rfl (pc2 := 45) ?_
      refine wp_ll2 jF_135_45 rfl rfl (pc2 := 47) ?_
      refine wp_lng (pc2 := 48) jF_135_47 rfl rfl ?_
      intro y19
      refine wp_lc jF_135_48 rfl (pc2 := 49) ?_
      refine wp_anyL (pc2 := 50) jF_135_49 rfl rfl ?_
      intro z20 h21
      refine wp_z_eq jF_135_50 (m_rgb h21 rfl) rfl (pc2 := 53) ?_ ?_
      · intro h22
        refine wp_ic jF_135_56 rfl (pc2 := 57) ?_
        refine wp_is2 (lv2 := [(0, .ref 93), (1, .long goal), (3, iV bs), (4, iV z4), (5, .long y7), (7, iV x8), (8, .long y18), (10, iV 0)]) jF_135_57 rfl rfl rfl (pc2 := 59) ?_
        refine wp_loop (α := Int) (fun a => [(0, .ref 93), (1, .long goal), (3, iV bs), (4, iV z4), (5, .long y7), (7, iV x8), (8, .long y18), (10, iV (a))]) (fun a τ => (0 ≤ a ∧ a ≤ 1752) ∧ GI τ ∧ FR WS τ10 τ) (fun a τ => Int.toNat (1752 - (a))) (0) τ10 ?_ ?_
        · skip
          exact ⟨⟨by omega, by omega⟩, g11, FR.rf⟩
        · rintro x23 τ25 ⟨h24, g26, f27⟩ ih28
          show WP 135 59 [(0, .ref 93), (1, .long goal), (3, iV bs), (4, iV z4), (5, .long y7), (7, iV x8), (8, .long y18), (10, iV x23)] [] _ _ _ _
          show WP 135 59 [(0, .ref 93), (1, .long goal), (3, iV bs), (4, iV z4), (5, .long y7), (7, iV x8), (8, .long y18), (10, iV x23)] [] _ _ _ _
          refine wp_il2 jF_135_59 rfl rfl (pc2 := 61) ?_
          refine wp_il2 jF_135_61 rfl rfl (pc2 := 63) ?_
          refine wp_i_ge jF_135_63 (m_rgb h24 rfl) ⟨by omega, by omega⟩ rfl (pc2 := 66) ?_ ?_
          · intro h29
            refine wp_inc (lv2 := [(0, .ref 93), (1, .long goal), (3, iV bs), (4, iV z4), (5, .long y7), (7, iV (x8 + 1)), (8, .long y18), (10, iV x23)]) jF_135_115 rfl rfl rfl rfl (pc2 := 118) ?_
            refine wp_go jF_135_118 ?_
            refine wp_less [0, 1, 3, 4, 5, 7] (lv2 := [(0, .ref 93), (1, .long goal), (3, iV bs), (4, iV z4), (5, .long y7), (7, iV (x8 + 1))]) rfl rfl ?_
            exact ih13 ((x8 + 1)) τ25 ⟨⟨by omega, by omega⟩, g26, (FR.up f12 f27 sb_WS_WS)⟩ (by show Int.toNat (1752 - (x8 + 1)) < Int.toNat (1752 - x8); omega)
          · intro h29
            refine wp_ll2 jF_135_66 rfl rfl (pc2 := 68) ?_
            refine wp_al1 jF_135_68 rfl rfl (pc2 := 69) ?_
            refine wp_gr (b := 95) jF_135_69 kd93 (by decide) (c := 195) rfl rfl rfl (pc2 := 72) ?_
            refine wp_al1 jF_135_72 rfl rfl (pc2 := 73) ?_
            refine wp_gr (b := 98) jF_135_73 kd93 (by decide) (c := 198) rfl rfl rfl (pc2 := 76) ?_
            refine wp_il2 jF_135_76 rfl rfl (pc2 := 78) ?_
            have b30 := GI.b g26 98 x23.toNat kd98 (lo := 0) (hi := 1751) rfl
            refine wp_iald (n := 1752) (e := (τ25.1 98 x23.toNat)) jF_135_78 kd98 (by decide) rfl rfl (by omega) (by omega) rfl rfl (pc2 := 79) ?_
            refine wp_lald (n := 1752) jF_135_79 kd95 (by decide) rfl rfl (by omega) (by omega) rfl (pc2 := 80) ?_
            intro y31
            refine wp_ld jF_135_80 rfl (pc2 := 83) ?_
            refine wp_lng (pc2 := 84) jF_135_83 rfl rfl ?_
            intro y32
            refine wp_lng (pc2 := 85) jF_135_84 rfl rfl ?_
            intro y33
            refine wp_lc jF_135_85 rfl (pc2 := 86) ?_
            refine wp_anyL (pc2 := 87) jF_135_86 rfl rfl ?_
            intro z34 h35
            refine wp_z_ne jF_135_87 (m_rgb h35 rfl) rfl (pc2 := 90) ?_ ?_
            · intro h36
              refine wp_inc (lv2 := [(0, .ref 93), (1, .long goal), (3, iV bs), (4, iV z4), (5, .long y7), (7, iV x8), (8, .long y18), (10, iV (x23 + 1))]) jF_135_109 rfl rfl rfl rfl (pc2 := 112) ?_
              refine wp_go jF_135_112 ?_
              exact ih28 ((x23 + 1)) τ25 ⟨⟨by omega, by omega⟩, g26, f27⟩ (by show Int.toNat (1752 - (x23 + 1)) < Int.toNat (1752 - x23); omega)
            · intro h36
              refine wp_al1 jF_135_90 rfl rfl (pc2 := 91) ?_
              refine wp_al1 jF_135_91 rfl rfl (pc2 := 92) ?_
              refine wp_gr (b := 98) jF_135_92 kd93 (by decide) (c := 198) rfl rfl rfl (pc2 := 95) ?_
              refine wp_il2 jF_135_95 rfl rfl (pc2 := 97) ?_
              have b37 := GI.b g26 98 x8.toNat kd98 (lo := 0) (hi := 1751) rfl
              refine wp_iald (n := 1752) (e := (τ25.1 98 x8.toNat)) jF_135_97 kd98 (by decide) rfl rfl (by omega) (by omega) rfl rfl (pc2 := 98) ?_
              refine wp_al1 jF_135_98 rfl rfl (pc2 := 99) ?_
              refine wp_gr (b := 98) jF_135_99 kd93 (by decide) (c := 198) rfl rfl rfl (pc2 := 102) ?_
              refine wp_il2 jF_135_102 rfl rfl (pc2 := 104) ?_
              refine wp_iald (n := 1752) (e := (τ25.1 98 x23.toNat)) jF_135_104 kd98 (by decide) rfl rfl (by omega) (by omega) rfl rfl (pc2 := 105) ?_
              refine wp_il1 jF_135_105 rfl rfl (pc2 := 106) ?_
              refine wp_cV (as := [iV (τ25.1 98 x8.toNat), iV (τ25.1 98 x23.toNat), iV bs]) (rest := []) (a := 93) (mx := 8) (ci := 5) jF_135_106 kd93 (by decide) rfl rfl rfl rfl rfl (by omega) (by omega) rfl (pc2 := 109) ?_
              refine wp_use (m_137_r93 τ25 g26 (τ25.1 98 x8.toNat) (by omega) (by omega) (τ25.1 98 x23.toNat) (by omega) (by omega) bs (by omega) (by omega)  _ _ (by omega) (by omega)) ?_
              rintro _ τ38 ⟨rfl, g39, f40⟩
              show WP 135 109 [(0, .ref 93), (1, .long goal), (3, iV bs), (4, iV z4), (5, .long y7), (7, iV x8), (8, .long y18), (10, iV x23)] [] _ _ _ _
              refine wp_inc (lv2 := [(0, .ref 93), (1, .long goal), (3, iV bs), (4, iV z4), (5, .long y7), (7, iV x8), (8, .long y18), (10, iV (x23 + 1))]) jF_135_109 rfl rfl rfl rfl (pc2 := 112) ?_
              refine wp_go jF_135_112 ?_
              exact ih28 ((x23 + 1)) τ38 ⟨⟨by omega, by omega⟩, g39, (FR.up f27 f40 sb_WS_WS)⟩ (by show Int.toNat (1752 - (x23 + 1)) < Int.toNat (1752 - x23); omega)
      · intro h22
        refine wp_go jF_135_53 ?_
        refine wp_inc (lv2 := [(0, .ref 93), (1, .long goal), (3, iV bs), (4, iV z4), (5, .long y7), (7, iV (x8 + 1)), (8, .long y18)]) jF_135_115 rfl rfl rfl rfl (pc2 := 118) ?_
        refine wp_go jF_135_118 ?_
        refine wp_less [0, 1, 3, 4, 5, 7] (lv2 := [(0, .ref 93), (1, .long goal), (3, iV bs), (4, iV z4), (5, .long y7), (7, iV (x8 + 1))]) rfl rfl ?_
        exact ih13 ((x8 + 1)) τ10 ⟨⟨by omega, by omega⟩, g11, f12⟩ (by show Int.toNat (1752 - (x8 + 1)) < Int.toNat (1752 - x8); omega)
set_option maxHeartbeats 4000000 in
set_option maxRecDepth 20000 in
/-- Shorts.seek -/
theorem m_133_r93 (σ : jM) (hg : GI σ) (goal : Int64) (bs : Int) (hl_bs : 0 ≤ bs) (hu_bs : bs ≤ 4)  (fr lo : Nat) (hfr : 3 ≤ fr) (hlo : 82 ≤ lo) : WP 133 0 (lv_args 0 [.ref 93, .long goal, iV bs]) [] fr lo σ (fun v τ => v = none ∧ GI τ ∧ FR WS σ τ) := by
  show WP 133 0 [(0, .ref 93), (1, .long goal), (3, iV bs)] [] _ _ _ _
  refine wp_ll1 jF_133_0 rfl rfl (pc2 := 1) ?_
  refine wp_lc jF_133_1 rfl (pc2 := 2) ?_
  refine wp_anyL (pc2 := 3) jF_133_2 rfl rfl ?_
  intro z1 h2
  refine wp_z_ne jF_133_3 (m_rgb h2 rfl) rfl (pc2 := 6) ?_ ?_
  · intro h3
    refine wp_al1 jF_133_16 rfl rfl (pc2 := 17) ?_
    refine wp_gr (b := 97) jF_133_17 kd93 (by decide) (c := 197) rfl rfl rfl (pc2 := 20) ?_
    refine wp_al1 jF_133_20 rfl rfl (pc2 := 21) ?_
    refine wp_ll1 jF_133_21 rfl rfl (pc2 := 22) ?_
    refine wp_cV (as := [.long goal]) (rest := [.ref 97]) (a := 93) (mx := 6) (ci := 5) jF_133_22 kd93 (by decide) rfl rfl rfl rfl rfl (by omega) (by omega) rfl (pc2 := 25) ?_
    refine wp_use (m_130_r93 σ hg goal  _ _ (by omega) (by omega)) ?_
    rintro _ _ ⟨z6, rfl, h7, rfl⟩
    show WP 133 25 [(0, .ref 93), (1, .long goal), (3, iV bs)] [iV z6, .ref 97] _ _ _ _
    have b8 := GI.b hg 97 z6.toNat kd97 (lo := 0) (hi := 1752) rfl
    refine wp_iald (n := 4096) (e := (σ.1 97 z6.toNat)) jF_133_25 kd97 (by decide) rfl rfl (by omega) (by omega) rfl rfl (pc2 := 26) ?_
    refine wp_ic jF_133_26 rfl (pc2 := 27) ?_
    refine wp_sub jF_133_27 rfl (pc2 := 28) ?_
    refine wp_is2 (lv2 := [(0, .ref 93), (1, .long goal), (3, iV bs), (4, iV ((σ.1 97 z6.toNat) - 1))]) jF_133_28 rfl rfl rfl (pc2 := 30) ?_
    refine wp_il2 jF_133_30 rfl rfl (pc2 := 32) ?_
    refine wp_z_ge jF_133_32 ⟨by omega, by omega⟩ rfl (pc2 := 35) ?_ ?_
    · intro h9
      refine wp_al1 jF_133_47 rfl rfl (pc2 := 48) ?_
      refine wp_il1 jF_133_48 rfl rfl (pc2 := 49) ?_
      refine wp_al1 jF_133_49 rfl rfl (pc2 := 50) ?_
      refine wp_al1 jF_133_50 rfl rfl (pc2 := 51) ?_
      refine wp_gr (b := 96) jF_133_51 kd93 (by decide) (c := 196) rfl rfl rfl (pc2 := 54) ?_
      refine wp_il2 jF_133_54 rfl rfl (pc2 := 56) ?_
      have b10 := GI.b hg 96 ((σ.1 97 z6.toNat) - 1).toNat kd96 (lo := 0) (hi := 1751) rfl
      refine wp_iald (n := 1752) (e := (σ.1 96 ((σ.1 97 z6.toNat) - 1).toNat)) jF_133_56 kd96 (by decide) rfl rfl (by omega) (by omega) rfl rfl (pc2 := 57) ?_
      refine wp_cV (as := [iV (σ.1 96 ((σ.1 97 z6.toNat) - 1).toNat)]) (rest := [iV bs, .ref 93]) (a := 93) (mx := 3) (ci := 5) jF_133_57 kd93 (by decide) rfl rfl rfl rfl rfl (by omega) (by omega) rfl (pc2 := 60) ?_
      refine wp_use (m_131_r93 σ hg (σ.1 96 ((σ.1 97 z6.toNat) - 1).toNat) (by omega) (by omega)  _ _ (by omega) (by omega)) ?_
      rintro _ _ ⟨z13, rfl, h14, rfl⟩
      show WP 133 60 [(0, .ref 93), (1, .long goal), (3, iV bs), (4, iV ((σ.1 97 z6.toNat) - 1))] [iV z13, iV bs, .ref 93] _ _ _ _
      refine wp_ic jF_133_60 rfl (pc2 := 61) ?_
      refine wp_al1 jF_133_61 rfl rfl (pc2 := 62) ?_
      refine wp_gr (b := 96) jF_133_62 kd93 (by decide) (c := 196) rfl rfl rfl (pc2 := 65) ?_
      refine wp_il2 jF_133_65 rfl rfl (pc2 := 67) ?_
      refine wp_iald (n := 1752) (e := (σ.1 96 ((σ.1 97 z6.toNat) - 1).toNat)) jF_133_67 kd96 (by decide) rfl rfl (by omega) (by omega) rfl rfl (pc2 := 68) ?_
      refine wp_ic jF_133_68 rfl (pc2 := 69) ?_
      refine wp_cV (as := [iV bs, iV z13, iV 1, iV (σ.1 96 ((σ.1 97 z6.toNat) - 1).toNat), iV (-1)]) (rest := []) (a := 93) (mx := 6) (ci := 5) jF_133_69 kd93 (by decide) rfl rfl rfl rfl rfl (by omega) (by omega) rfl (pc2 := 72) ?_
      refine wp_use (m_134_r93 σ hg bs (by omega) (by omega) z13 (by omega) (by omega) 1 (by omega) (by omega) (σ.1 96 ((σ.1 97 z6.toNat) - 1).toNat) (by omega) (by omega) (-1) (by omega) (by omega)  _ _ (by omega) (by omega)) ?_
      rintro _ τ15 ⟨rfl, g16, f17⟩
      show WP 133 72 [(0, .ref 93), (1, .long goal), (3, iV bs), (4, iV ((σ.1 97 z6.toNat) - 1))] [] _ _ _ _
      refine wp_al1 jF_133_72 rfl rfl (pc2 := 73) ?_
      refine wp_ll1 jF_133_73 rfl rfl (pc2 := 74) ?_
      refine wp_il1 jF_133_74 rfl rfl (pc2 := 75) ?_
      refine wp_cV (as := [.long goal, iV bs]) (rest := []) (a := 93) (mx := 11) (ci := 5) jF_133_75 kd93 (by decide) rfl rfl rfl rfl rfl (by omega) (by omega) rfl (pc2 := 78) ?_
      refine wp_use (m_135_r93 τ15 g16 goal bs (by omega) (by omega)  _ _ (by omega) (by omega)) ?_
      rintro _ τ18 ⟨rfl, g19, f20⟩
      show WP 133 78 [(0, .ref 93), (1, .long goal), (3, iV bs), (4, iV ((σ.1 97 z6.toNat) - 1))] [] _ _ _ _
      refine wp_rv jF_133_78 ?_
      exact ⟨rfl, g19, (FR.up f17 f20 sb_WS_WS)⟩
    · intro h9
      refine wp_al1 jF_133_35 rfl rfl (pc2 := 36) ?_
      refine wp_il1 jF_133_36 rfl rfl (pc2 := 37) ?_
      refine wp_ic jF_133_37 rfl (pc2 := 38) ?_
      refine wp_ic jF_133_38 rfl (pc2 := 39) ?_
      refine wp_ic jF_133_39 rfl (pc2 := 40) ?_
      refine wp_ic jF_133_40 rfl (pc2 := 41) ?_
      refine wp_cV (as := [iV bs, iV (-1), iV (-1), iV (-1), iV (-1)]) (rest := []) (a := 93) (mx := 6) (ci := 5) jF_133_41 kd93 (by decide) rfl rfl rfl rfl rfl (by omega) (by omega) rfl (pc2 := 44) ?_
      refine wp_use (m_134_r93 σ hg bs (by omega) (by omega) (-1) (by omega) (by omega) (-1) (by omega) (by omega) (-1) (by omega) (by omega) (-1) (by omega) (by omega)  _ _ (by omega) (by omega)) ?_
      rintro _ τ21 ⟨rfl, g22, f23⟩
      show WP 133 44 [(0, .ref 93), (1, .long goal), (3, iV bs), (4, iV ((σ.1 97 z6.toNat) - 1))] [] _ _ _ _
      refine wp_go jF_133_44 ?_
      refine wp_al1 jF_133_72 rfl rfl (pc2 := 73) ?_
      refine wp_ll1 jF_133_73 rfl rfl (pc2 := 74) ?_
      refine wp_il1 jF_133_74 rfl rfl (pc2 := 75) ?_
      refine wp_cV (as := [.long goal, iV bs]) (rest := []) (a := 93) (mx := 11) (ci := 5) jF_133_75 kd93 (by decide) rfl rfl rfl rfl rfl (by omega) (by omega) rfl (pc2 := 78) ?_
      refine wp_use (m_135_r93 τ21 g22 goal bs (by omega) (by omega)  _ _ (by omega) (by omega)) ?_
      rintro _ τ24 ⟨rfl, g25, f26⟩
      show WP 133 78 [(0, .ref 93), (1, .long goal), (3, iV bs), (4, iV ((σ.1 97 z6.toNat) - 1))] [] _ _ _ _
      refine wp_rv jF_133_78 ?_
      exact ⟨rfl, g25, (FR.up f23 f26 sb_WS_WS)⟩
  · intro h3
    refine wp_al1 jF_133_6 rfl rfl (pc2 := 7) ?_
    refine wp_il1 jF_133_7 rfl rfl (pc2 := 8) ?_
    refine wp_ic jF_133_8 rfl (pc2 := 9) ?_
    refine wp_ic jF_133_9 rfl (pc2 := 10) ?_
    refine wp_ic jF_133_10 rfl (pc2 := 11) ?_
    refine wp_ic jF_133_11 rfl (pc2 := 12) ?_
    refine wp_cV (as := [iV bs, iV 0, iV 0, iV (-1), iV (-1)]) (rest := []) (a := 93) (mx := 6) (ci := 5) jF_133_12 kd93 (by decide) rfl rfl rfl rfl rfl (by omega) (by omega) rfl (pc2 := 15) ?_
    refine wp_use (m_134_r93 σ hg bs (by omega) (by omega) 0 (by omega) (by omega) 0 (by omega) (by omega) (-1) (by omega) (by omega) (-1) (by omega) (by omega)  _ _ (by omega) (by omega)) ?_
    rintro _ τ27 ⟨rfl, g28, f29⟩
    show WP 133 15 [(0, .ref 93), (1, .long goal), (3, iV bs)] [] _ _ _ _
    refine wp_rv jF_133_15 ?_
    exact ⟨rfl, g28, f29⟩
